theorem qw_920bbe1ee1 : (Cond.methodLink R_TypeBook 134 yTrees_kindOf) ∈ bs_W0 := bs_in (in_tables_1_4 (List.mem_of_getElem? (i := 221) rfl)) rfl
theorem qw_75eb836d1a : (Cond.methodLink R_TypeBook 156 yTrees_countOf) ∈ bs_W0 := bs_in (in_tables_1_5 (List.mem_of_getElem? (i := 21) rfl)) rfl
theorem qw_cf09947176 : (Cond.methodLink R_TypeBook 244 yTrees_firstOf) ∈ bs_W0 := bs_in (in_tables_1_5 (List.mem_of_getElem? (i := 22) rfl)) rfl
theorem qw_a088f6ef48 : (Cond.fieldLink R_TypeBook 19 R_TypeBook "names" "LTypeBook$Names;") ∈ bs_W0 := bs_in (in_tables_1_2 (List.mem_of_getElem? (i := 53) rfl)) rfl
theorem qw_5bf4c88d20 : (Cond.methodLink R_TypeBook 177 yNames_isTaken) ∈ bs_W0 := bs_in (in_tables_1_5 (List.mem_of_getElem? (i := 28) rfl)) rfl
theorem qw_15066d379c : (Cond.methodLink R_TypeBook 247 yTypeBook_isNameOfOneBefore) ∈ bs_W0 := bs_in (in_tables_1_5 (List.mem_of_getElem? (i := 33) rfl)) rfl
theorem qw_4a6bff5ab0 : (Cond.constantLong R_Rows 27 15) ∈ bs_W0 := bs_in (in_tables_1_3 (List.mem_of_getElem? (i := 179) rfl)) rfl
theorem qw_14d339857e : (Cond.constantLong R_Rows 29 (-1)) ∈ bs_W0 := bs_in (in_tables_1_3 (List.mem_of_getElem? (i := 180) rfl)) rfl
theorem qw_b8cf967c79 : (Cond.methodLink R_Rows 52 yRows_set) ∈ bs_W0 := bs_in (in_tables_1_4 (List.mem_of_getElem? (i := 87) rfl)) rfl
set_option maxHeartbeats 4000000 in
set_option maxRecDepth 100000 in
theorem k_TypeBook_malformedEnumNode (l : Launch) (γ : gE) (A : Nat → Prop) (κ : Nat → Nat) (x1 : Int32)  : PU l yTypeBook_malformedEnumNode bTypeBook_malformedEnumNode 6 (some .int) 2 42 [.ref (γ.2.2.2 0), .int x1] γ (INV γ A κ) (vp_Si (fun v : Int32 => True)) := by
  refine pu_openI (by decide) (Nat.le_of_ble_eq_true rfl) ?_
  intro p e s m args below meth c ls Q S hC hI hE hl
  obtain ⟨hx, hb, hml, hown, hW⟩ := id S
  have hl : lv_has ls 6 [(0, .ref (γ.2.2.2 0)), (1, .int x1)] := hl
  have J49 : ∀ (N49 : Nat) (ls : Array Slot)  (i1 : Int32) (i2 : Int32) (i3 : Int32) (i4 : Int32) (i5 : Int32), (2147483647 - i5.toInt).toNat = N49 → lv_has ls 6 [(0, .ref (γ.2.2.2 0)), (1, .int i1), (2, .int i2), (3, .int i3), (4, .int i4), (5, .int i5)] → W p l e (bs_rm 2 0 0 42) s m args below meth c s.heap [] 0 0 Q (F0 m 49 ls []) := by
    intro N49
    induction N49 using Nat.strongRecOn with
    | ind N49 ih49 =>
      intro ls  i1 i2 i3 i4 i5  hm49 hl
      have J83 : ∀ (ls : Array Slot)  (i1 : Int32) (i2 : Int32) (i3 : Int32) (i4 : Int32) (i5 : Int32), (i5.toInt < 2147483647 ∧ (2147483647 - i5.toInt).toNat = N49) → lv_has ls 6 [(0, .ref (γ.2.2.2 0)), (1, .int i1), (2, .int i2), (3, .int i3), (4, .int i4), (5, .int i5)] → W p l e (bs_rm 2 0 0 42) s m args below meth c s.heap [] 0 0 Q (F0 m 83 ls []) := by
        intro ls  i1 i2 i3 i4 i5 ⟨hf49a, hf49b⟩ hl
        refine lv_aload_n hx hb dTypeBook_malformedEnumNode_83 rfl (lv_at hl 0 rfl) ?_
        refine of_get S hC (of_0_0 hI) in_TypeBook rfl (by decide) qw_6151ee7924 dTypeBook_malformedEnumNode_84 ?_
        refine lv_iload hx hb dTypeBook_malformedEnumNode_87 (lv_at hl 4 rfl) ?_
        refine pu_Vi (rest := []) S hC (k1_Trees_firstOf l γ A κ i4) meTrees_firstOf qw_cf09947176 ⟨Nat.le_of_ble_eq_true rfl, Nat.le_of_ble_eq_true rfl⟩ (rv_1 hC hI) hI rfl hl.1 rfl (Nat.le_of_ble_eq_true rfl) dTypeBook_malformedEnumNode_89 ⟨Nat.zero_le _, Nat.zero_le _⟩ (fun r15 hr15 => ?_)
        refine lv_iconst (v := 1) hx hb dTypeBook_malformedEnumNode_92 (by decide) ?_
        refine lv_isub hx hb dTypeBook_malformedEnumNode_93 ?_
        refine lv_topi (fun v16 ev16 => ?_)
        refine lv_istore (lv' := [(4, .int v16), (0, .ref (γ.2.2.2 0)), (1, .int i1), (2, .int i2), (3, .int i3), (5, .int i5)]) hx hb dTypeBook_malformedEnumNode_94 hl (by decide) rfl (fun ls hl => ?_)
        obtain ⟨v17, ev17⟩ : ∃ y : Int32, y = i5 + 1 := ⟨_, rfl⟩
        refine lv_iinc (v := v17) (lv' := [(5, .int v17), (4, .int v16), (0, .ref (γ.2.2.2 0)), (1, .int i1), (2, .int i2), (3, .int i3)]) hx hb dTypeBook_malformedEnumNode_96 hl (k := 5) rfl (by rw [ev17]; rfl) (by decide) rfl (fun ls hl => ?_)
        refine lv_goto (tgt := 49) hx hb dTypeBook_malformedEnumNode_99 (by decide) ?_
        exact ih49 _ (by have q1 : i5.toInt < 2147483647 := (by first | exact (mu_up (k := i5) (by assumption)).2 | assumption); have q2 := mu_lt q1; rw [← ev17] at q2; omega) ls i1 i2 i3 v16 v17 rfl (lv_sub hl [2, 3, 4, 5, 1, 0] rfl)
      have J80 : ∀ (ls : Array Slot)  (i1 : Int32) (i2 : Int32) (i3 : Int32) (i4 : Int32) (i5 : Int32), (i5.toInt < 2147483647 ∧ (2147483647 - i5.toInt).toNat = N49) → lv_has ls 6 [(0, .ref (γ.2.2.2 0)), (1, .int i1), (2, .int i2), (3, .int i3), (4, .int i4), (5, .int i5)] → W p l e (bs_rm 2 0 0 42) s m args below meth c s.heap [] 0 0 Q (F0 m 80 ls []) := by
        intro ls  i1 i2 i3 i4 i5 ⟨hf49a, hf49b⟩ hl
        refine lv_iload hx hb dTypeBook_malformedEnumNode_80 (lv_at hl 4 rfl) ?_
        refine lv_istore_n (lv' := [(3, .int i4), (0, .ref (γ.2.2.2 0)), (1, .int i1), (2, .int i2), (4, .int i4), (5, .int i5)]) hx hb dTypeBook_malformedEnumNode_82 rfl hl (by decide) rfl (fun ls hl => ?_)
        exact J83 ls i1 i2 i4 i4 i5 (by first | exact ⟨(mu_up (k := i5) (by assumption)).2, by assumption⟩ | exact ⟨by assumption, by assumption⟩) (lv_sub hl [1, 2, 3, 0, 4, 5] rfl)
      refine lv_iload hx hb dTypeBook_malformedEnumNode_49 (lv_at hl 5 rfl) ?_
      refine lv_iload_n hx hb dTypeBook_malformedEnumNode_51 rfl (lv_at hl 2 rfl) ?_
      refine lv_icmp_ge (tgt := 102) hx hb dTypeBook_malformedEnumNode_52 (by decide) (fun c18 => ?_) (fun c18 => ?_)
      · refine lv_iload_n hx hb dTypeBook_malformedEnumNode_102 rfl (lv_at hl 3 rfl) ?_
        exact hE _ _ _ trivial dTypeBook_malformedEnumNode_103
      · refine lv_aload_n hx hb dTypeBook_malformedEnumNode_55 rfl (lv_at hl 0 rfl) ?_
        refine of_get S hC (of_0_0 hI) in_TypeBook rfl (by decide) qw_6151ee7924 dTypeBook_malformedEnumNode_56 ?_
        refine lv_iload hx hb dTypeBook_malformedEnumNode_59 (lv_at hl 4 rfl) ?_
        refine pu_Vi (rest := []) S hC (k1_Trees_kindOf l γ A κ i4) meTrees_kindOf qw_920bbe1ee1 ⟨Nat.le_of_ble_eq_true rfl, Nat.le_of_ble_eq_true rfl⟩ (rv_1 hC hI) hI rfl hl.1 rfl (Nat.le_of_ble_eq_true rfl) dTypeBook_malformedEnumNode_61 ⟨Nat.zero_le _, Nat.zero_le _⟩ (fun r19 hr19 => ?_)
        refine lv_iconst (v := 1) hx hb dTypeBook_malformedEnumNode_64 (by decide) ?_
        refine lv_icmp_ne (tgt := 80) hx hb dTypeBook_malformedEnumNode_65 (by decide) (fun c20 => ?_) (fun c20 => ?_)
        · exact J80 ls i1 i2 i3 i4 i5 (by first | exact ⟨(mu_up (k := i5) (by assumption)).2, by assumption⟩ | exact ⟨by assumption, by assumption⟩) (lv_sub hl [0, 1, 2, 3, 4, 5] rfl)
        · refine lv_aload_n hx hb dTypeBook_malformedEnumNode_68 rfl (lv_at hl 0 rfl) ?_
          refine of_get S hC (of_0_0 hI) in_TypeBook rfl (by decide) qw_6151ee7924 dTypeBook_malformedEnumNode_69 ?_
          refine lv_iload hx hb dTypeBook_malformedEnumNode_72 (lv_at hl 4 rfl) ?_
          refine pu_Vi (rest := []) S hC (k1_Trees_countOf l γ A κ i4) meTrees_countOf qw_75eb836d1a ⟨Nat.le_of_ble_eq_true rfl, Nat.le_of_ble_eq_true rfl⟩ (rv_1 hC hI) hI rfl hl.1 rfl (Nat.le_of_ble_eq_true rfl) dTypeBook_malformedEnumNode_74 ⟨Nat.zero_le _, Nat.zero_le _⟩ (fun r21 hr21 => ?_)
          refine lv_if_eq (tgt := 83) hx hb dTypeBook_malformedEnumNode_77 (by decide) (fun c22 => ?_) (fun c22 => ?_)
          · exact J83 ls i1 i2 i3 i4 i5 (by first | exact ⟨(mu_up (k := i5) (by assumption)).2, by assumption⟩ | exact ⟨by assumption, by assumption⟩) (lv_sub hl [0, 1, 2, 3, 4, 5] rfl)
          · exact J80 ls i1 i2 i3 i4 i5 (by first | exact ⟨(mu_up (k := i5) (by assumption)).2, by assumption⟩ | exact ⟨by assumption, by assumption⟩) (lv_sub hl [0, 1, 2, 3, 4, 5] rfl)
  have J40 : ∀ (ls : Array Slot)  (i1 : Int32) (i2 : Int32) (t0 : Int32), lv_has ls 6 [(0, .ref (γ.2.2.2 0)), (1, .int i1), (2, .int i2)] → W p l e (bs_rm 2 0 0 42) s m args below meth c s.heap [] 0 0 Q (F0 m 40 ls [.int t0]) := by
    intro ls  i1 i2 t0  hl
    refine lv_istore_n (lv' := [(3, .int t0), (0, .ref (γ.2.2.2 0)), (1, .int i1), (2, .int i2)]) hx hb dTypeBook_malformedEnumNode_40 rfl hl (by decide) rfl (fun ls hl => ?_)
    refine lv_iload_n hx hb dTypeBook_malformedEnumNode_41 rfl (lv_at hl 2 rfl) ?_
    refine lv_iconst (v := 1) hx hb dTypeBook_malformedEnumNode_42 (by decide) ?_
    refine lv_isub hx hb dTypeBook_malformedEnumNode_43 ?_
    refine lv_topi (fun v23 ev23 => ?_)
    refine lv_istore (lv' := [(4, .int v23), (3, .int t0), (0, .ref (γ.2.2.2 0)), (1, .int i1), (2, .int i2)]) hx hb dTypeBook_malformedEnumNode_44 hl (by decide) rfl (fun ls hl => ?_)
    refine lv_iconst (v := 0) hx hb dTypeBook_malformedEnumNode_46 (by decide) ?_
    refine lv_istore (lv' := [(5, .int 0), (4, .int v23), (3, .int t0), (0, .ref (γ.2.2.2 0)), (1, .int i1), (2, .int i2)]) hx hb dTypeBook_malformedEnumNode_47 hl (by decide) rfl (fun ls hl => ?_)
    exact J49 _ ls i1 i2 t0 v23 0 rfl (lv_sub hl [3, 4, 5, 2, 1, 0] rfl)
  have J35 : ∀ (ls : Array Slot)  (i1 : Int32) (i2 : Int32), lv_has ls 6 [(0, .ref (γ.2.2.2 0)), (1, .int i1), (2, .int i2)] → W p l e (bs_rm 2 0 0 42) s m args below meth c s.heap [] 0 0 Q (F0 m 35 ls []) := by
    intro ls  i1 i2  hl
    refine lv_iload_n hx hb dTypeBook_malformedEnumNode_35 rfl (lv_at hl 1 rfl) ?_
    refine lv_goto (tgt := 40) hx hb dTypeBook_malformedEnumNode_36 (by decide) ?_
    exact J40 ls i1 i2 i1 (lv_sub hl [0, 1, 2] rfl)
  refine lv_aload_n hx hb dTypeBook_malformedEnumNode_0 rfl (lv_at hl 0 rfl) ?_
  refine of_get S hC (of_0_0 hI) in_TypeBook rfl (by decide) qw_6151ee7924 dTypeBook_malformedEnumNode_1 ?_
  refine lv_iload_n hx hb dTypeBook_malformedEnumNode_4 rfl (lv_at hl 1 rfl) ?_
  refine pu_Vi (rest := []) S hC (k1_Trees_kindOf l γ A κ x1) meTrees_kindOf qw_920bbe1ee1 ⟨Nat.le_of_ble_eq_true rfl, Nat.le_of_ble_eq_true rfl⟩ (rv_1 hC hI) hI rfl hl.1 rfl (Nat.le_of_ble_eq_true rfl) dTypeBook_malformedEnumNode_5 ⟨Nat.zero_le _, Nat.zero_le _⟩ (fun r24 hr24 => ?_)
  refine lv_bipush (v := 53) hx hb dTypeBook_malformedEnumNode_8 (by decide) ?_
  refine lv_icmp_eq (tgt := 15) hx hb dTypeBook_malformedEnumNode_10 (by decide) (fun c25 => ?_) (fun c25 => ?_)
  · refine lv_aload_n hx hb dTypeBook_malformedEnumNode_15 rfl (lv_at hl 0 rfl) ?_
    refine of_get S hC (of_0_0 hI) in_TypeBook rfl (by decide) qw_6151ee7924 dTypeBook_malformedEnumNode_16 ?_
    refine lv_iload_n hx hb dTypeBook_malformedEnumNode_19 rfl (lv_at hl 1 rfl) ?_
    refine pu_Vi (rest := []) S hC (k1_Trees_countOf l γ A κ x1) meTrees_countOf qw_75eb836d1a ⟨Nat.le_of_ble_eq_true rfl, Nat.le_of_ble_eq_true rfl⟩ (rv_1 hC hI) hI rfl hl.1 rfl (Nat.le_of_ble_eq_true rfl) dTypeBook_malformedEnumNode_20 ⟨Nat.zero_le _, Nat.zero_le _⟩ (fun r26 hr26 => ?_)
    refine lv_istore_n (lv' := [(2, .int r26), (0, .ref (γ.2.2.2 0)), (1, .int x1)]) hx hb dTypeBook_malformedEnumNode_23 rfl hl (by decide) rfl (fun ls hl => ?_)
    refine lv_iload_n hx hb dTypeBook_malformedEnumNode_24 rfl (lv_at hl 0 rfl) ?_
    refine lv_iconst (v := 1) hx hb dTypeBook_malformedEnumNode_25 (by decide) ?_
    refine lv_icmp_lt (tgt := 35) hx hb dTypeBook_malformedEnumNode_26 (by decide) (fun c27 => ?_) (fun c27 => ?_)
    · exact J35 ls x1 r26 (lv_sub hl [1, 2, 0] rfl)
    · refine lv_iload_n hx hb dTypeBook_malformedEnumNode_29 rfl (lv_at hl 0 rfl) ?_
      refine lv_bipush (v := 64) hx hb dTypeBook_malformedEnumNode_30 (by decide) ?_
      refine lv_icmp_le (tgt := 39) hx hb dTypeBook_malformedEnumNode_32 (by decide) (fun c28 => ?_) (fun c28 => ?_)
      · refine lv_iconst (v := (-1)) hx hb dTypeBook_malformedEnumNode_39 (by decide) ?_
        exact J40 ls x1 r26 (-1) (lv_sub hl [1, 2, 0] rfl)
      · exact J35 ls x1 r26 (lv_sub hl [1, 2, 0] rfl)
  · refine lv_iload_n hx hb dTypeBook_malformedEnumNode_13 rfl (lv_at hl 1 rfl) ?_
    exact hE _ _ _ trivial dTypeBook_malformedEnumNode_14

set_option maxHeartbeats 4000000 in
set_option maxRecDepth 100000 in
theorem k_TypeBook_takenEnumNode (l : Launch) (γ : gE) (A : Nat → Prop) (κ : Nat → Nat) (x1 : Int32)  : PU l yTypeBook_takenEnumNode bTypeBook_takenEnumNode 6 (some .int) 3 65 [.ref (γ.2.2.2 0), .int x1] γ (INV γ A κ) (vp_Si (fun v : Int32 => True)) := by
  refine pu_openI (by decide) (Nat.le_of_ble_eq_true rfl) ?_
  intro p e s m args below meth c ls Q S hC hI hE hl
  obtain ⟨hx, hb, hml, hown, hW⟩ := id S
  have hl : lv_has ls 6 [(0, .ref (γ.2.2.2 0)), (1, .int x1)] := hl
  have J34 : ∀ (N34 : Nat) (ls : Array Slot)  (i1 : Int32) (i2 : Int32) (i3 : Int32) (i4 : Int32), (2147483647 - i4.toInt).toNat = N34 → lv_has ls 6 [(0, .ref (γ.2.2.2 0)), (1, .int i1), (2, .int i2), (3, .int i3), (4, .int i4)] → W p l e (bs_rm 3 0 0 65) s m args below meth c s.heap [] 0 0 Q (F0 m 34 ls []) := by
    intro N34
    induction N34 using Nat.strongRecOn with
    | ind N34 ih34 =>
      intro ls  i1 i2 i3 i4  hm34 hl
      refine lv_iload hx hb dTypeBook_takenEnumNode_34 (lv_at hl 4 rfl) ?_
      refine lv_iload_n hx hb dTypeBook_takenEnumNode_36 rfl (lv_at hl 1 rfl) ?_
      refine lv_icmp_ge (tgt := 88) hx hb dTypeBook_takenEnumNode_37 (by decide) (fun c13 => ?_) (fun c13 => ?_)
      · refine lv_iconst (v := (-1)) hx hb dTypeBook_takenEnumNode_88 (by decide) ?_
        exact hE _ _ _ trivial dTypeBook_takenEnumNode_89
      · refine lv_aload_n hx hb dTypeBook_takenEnumNode_40 rfl (lv_at hl 0 rfl) ?_
        refine of_get S hC (of_0_0 hI) in_TypeBook rfl (by decide) qw_6151ee7924 dTypeBook_takenEnumNode_41 ?_
        refine lv_iload hx hb dTypeBook_takenEnumNode_44 (lv_at hl 4 rfl) ?_
        refine pu_Vi (rest := []) S hC (k1_Trees_valueOf l γ A κ i4) meTrees_valueOf qw_1062a20d6a ⟨Nat.le_of_ble_eq_true rfl, Nat.le_of_ble_eq_true rfl⟩ (rv_1 hC hI) hI rfl hl.1 rfl (Nat.le_of_ble_eq_true rfl) dTypeBook_takenEnumNode_46 ⟨Nat.zero_le _, Nat.zero_le _⟩ (fun r14 hr14 => ?_)
        refine lv_istore (lv' := [(5, .int r14), (0, .ref (γ.2.2.2 0)), (1, .int i1), (2, .int i2), (3, .int i3), (4, .int i4)]) hx hb dTypeBook_takenEnumNode_49 hl (by decide) rfl (fun ls hl => ?_)
        refine lv_iload hx hb dTypeBook_takenEnumNode_51 (lv_at hl 0 rfl) ?_
        refine lv_iload_n hx hb dTypeBook_takenEnumNode_53 rfl (lv_at hl 3 rfl) ?_
        refine lv_icmp_eq (tgt := 79) hx hb dTypeBook_takenEnumNode_54 (by decide) (fun c15 => ?_) (fun c15 => ?_)
        · refine lv_iload hx hb dTypeBook_takenEnumNode_79 (lv_at hl 5 rfl) ?_
          exact hE _ _ _ trivial dTypeBook_takenEnumNode_81
        · refine lv_aload_n hx hb dTypeBook_takenEnumNode_57 rfl (lv_at hl 1 rfl) ?_
          refine of_get S hC (of_0_1 hI) in_TypeBook rfl (by decide) qw_a088f6ef48 dTypeBook_takenEnumNode_58 ?_
          refine lv_iload hx hb dTypeBook_takenEnumNode_61 (lv_at hl 0 rfl) ?_
          refine pu_Vi (rest := []) S hC (k2_Names_isTaken l γ A κ r14) meNames_isTaken qw_5bf4c88d20 ⟨Nat.le_of_ble_eq_true rfl, Nat.le_of_ble_eq_true rfl⟩ (rv_2 hC hI) hI rfl hl.1 rfl (Nat.le_of_ble_eq_true rfl) dTypeBook_takenEnumNode_63 ⟨Nat.zero_le _, Nat.zero_le _⟩ (fun r16 hr16 => ?_)
          refine lv_if_ne (tgt := 79) hx hb dTypeBook_takenEnumNode_66 (by decide) (fun c17 => ?_) (fun c17 => ?_)
          · refine lv_iload hx hb dTypeBook_takenEnumNode_79 (lv_at hl 5 rfl) ?_
            exact hE _ _ _ trivial dTypeBook_takenEnumNode_81
          · refine lv_aload_n hx hb dTypeBook_takenEnumNode_69 rfl (lv_at hl 1 rfl) ?_
            refine lv_iload_n hx hb dTypeBook_takenEnumNode_70 rfl (lv_at hl 4 rfl) ?_
            refine lv_iload hx hb dTypeBook_takenEnumNode_71 (lv_at hl 5 rfl) ?_
            refine pu_Vi (rest := []) S hC (k_TypeBook_isNameOfOneBefore l γ A κ i3 i4) meTypeBook_isNameOfOneBefore qw_15066d379c ⟨Nat.le_of_ble_eq_true rfl, Nat.le_of_ble_eq_true rfl⟩ (rv_0 hC hI) hI rfl hl.1 rfl (Nat.le_of_ble_eq_true rfl) dTypeBook_takenEnumNode_73 ⟨Nat.zero_le _, Nat.zero_le _⟩ (fun r18 hr18 => ?_)
            refine lv_if_eq (tgt := 82) hx hb dTypeBook_takenEnumNode_76 (by decide) (fun c19 => ?_) (fun c19 => ?_)
            · obtain ⟨v20, ev20⟩ : ∃ y : Int32, y = i4 + 1 := ⟨_, rfl⟩
              refine lv_iinc (v := v20) (lv' := [(4, .int v20), (5, .int r14), (0, .ref (γ.2.2.2 0)), (1, .int i1), (2, .int i2), (3, .int i3)]) hx hb dTypeBook_takenEnumNode_82 hl (k := 5) rfl (by rw [ev20]; rfl) (by decide) rfl (fun ls hl => ?_)
              refine lv_goto (tgt := 34) hx hb dTypeBook_takenEnumNode_85 (by decide) ?_
              exact ih34 _ (by have q1 : i4.toInt < 2147483647 := (by first | exact (mu_up (k := i4) (by assumption)).2 | assumption); have q2 := mu_lt q1; rw [← ev20] at q2; omega) ls i1 i2 i3 v20 rfl (lv_sub hl [2, 3, 4, 5, 0] rfl)
            · refine lv_iload hx hb dTypeBook_takenEnumNode_79 (lv_at hl 5 rfl) ?_
              exact hE _ _ _ trivial dTypeBook_takenEnumNode_81
  refine lv_aload_n hx hb dTypeBook_takenEnumNode_0 rfl (lv_at hl 0 rfl) ?_
  refine of_get S hC (of_0_0 hI) in_TypeBook rfl (by decide) qw_6151ee7924 dTypeBook_takenEnumNode_1 ?_
  refine lv_iload_n hx hb dTypeBook_takenEnumNode_4 rfl (lv_at hl 1 rfl) ?_
  refine pu_Vi (rest := []) S hC (k1_Trees_valueOf l γ A κ x1) meTrees_valueOf qw_1062a20d6a ⟨Nat.le_of_ble_eq_true rfl, Nat.le_of_ble_eq_true rfl⟩ (rv_1 hC hI) hI rfl hl.1 rfl (Nat.le_of_ble_eq_true rfl) dTypeBook_takenEnumNode_5 ⟨Nat.zero_le _, Nat.zero_le _⟩ (fun r21 hr21 => ?_)
  refine lv_istore_n (lv' := [(2, .int r21), (0, .ref (γ.2.2.2 0)), (1, .int x1)]) hx hb dTypeBook_takenEnumNode_8 rfl hl (by decide) rfl (fun ls hl => ?_)
  refine lv_aload_n hx hb dTypeBook_takenEnumNode_9 rfl (lv_at hl 1 rfl) ?_
  refine of_get S hC (of_0_1 hI) in_TypeBook rfl (by decide) qw_a088f6ef48 dTypeBook_takenEnumNode_10 ?_
  refine lv_iload_n hx hb dTypeBook_takenEnumNode_13 rfl (lv_at hl 0 rfl) ?_
  refine pu_Vi (rest := []) S hC (k2_Names_isTaken l γ A κ r21) meNames_isTaken qw_5bf4c88d20 ⟨Nat.le_of_ble_eq_true rfl, Nat.le_of_ble_eq_true rfl⟩ (rv_2 hC hI) hI rfl hl.1 rfl (Nat.le_of_ble_eq_true rfl) dTypeBook_takenEnumNode_14 ⟨Nat.zero_le _, Nat.zero_le _⟩ (fun r22 hr22 => ?_)
  refine lv_if_eq (tgt := 22) hx hb dTypeBook_takenEnumNode_17 (by decide) (fun c23 => ?_) (fun c23 => ?_)
  · refine lv_aload_n hx hb dTypeBook_takenEnumNode_22 rfl (lv_at hl 1 rfl) ?_
    refine of_get S hC (of_0_0 hI) in_TypeBook rfl (by decide) qw_6151ee7924 dTypeBook_takenEnumNode_23 ?_
    refine lv_iload_n hx hb dTypeBook_takenEnumNode_26 rfl (lv_at hl 2 rfl) ?_
    refine pu_Vi (rest := []) S hC (k1_Trees_firstOf l γ A κ x1) meTrees_firstOf qw_cf09947176 ⟨Nat.le_of_ble_eq_true rfl, Nat.le_of_ble_eq_true rfl⟩ (rv_1 hC hI) hI rfl hl.1 rfl (Nat.le_of_ble_eq_true rfl) dTypeBook_takenEnumNode_27 ⟨Nat.zero_le _, Nat.zero_le _⟩ (fun r24 hr24 => ?_)
    refine lv_istore_n (lv' := [(3, .int r24), (2, .int r21), (0, .ref (γ.2.2.2 0)), (1, .int x1)]) hx hb dTypeBook_takenEnumNode_30 rfl hl (by decide) rfl (fun ls hl => ?_)
    refine lv_iload_n hx hb dTypeBook_takenEnumNode_31 rfl (lv_at hl 0 rfl) ?_
    refine lv_istore (lv' := [(4, .int r24), (3, .int r24), (2, .int r21), (0, .ref (γ.2.2.2 0)), (1, .int x1)]) hx hb dTypeBook_takenEnumNode_32 hl (by decide) rfl (fun ls hl => ?_)
    exact J34 _ ls x1 r21 r24 r24 rfl (lv_sub hl [3, 4, 2, 1, 0] rfl)
  · refine lv_iload_n hx hb dTypeBook_takenEnumNode_20 rfl (lv_at hl 2 rfl) ?_
    exact hE _ _ _ trivial dTypeBook_takenEnumNode_21

set_option maxHeartbeats 4000000 in
set_option maxRecDepth 100000 in
theorem c_Looks_setMeaning (l : Launch) (γ : gE) (Z : Nat → Prop) (a rw L : Nat) (x1 : Int32) (x2 : Int32)  : MU l yLooks_setMeaning bLooks_setMeaning 3 (none) 1 21 0 0 [.ref a, .int x1, .int x2] γ Z (cmp γ (fLooks γ a rw L) Z) (mQv (fun H => cmp γ (fLooks γ a rw L) Z H) Z) := by
  refine mu_openV (by decide) (Nat.le_of_ble_eq_true rfl) ?_
  intro p e s m args below meth c ls Q S hnm hC hA hI hE hl
  obtain ⟨hx, hb, hml, hown, hW⟩ := id S
  have hS : va_S Z s.heap s.heap [] := va_S.rf
  have hl : lv_has ls 3 [(0, .ref a), (1, .int x1), (2, .int x2)] := hl
  refine lv_aload_n hx hb dLooks_setMeaning_0 rfl (lv_at hl 0 rfl) ?_
  refine lv_iload_n hx hb dLooks_setMeaning_1 rfl (lv_at hl 1 rfl) ?_
  obtain ⟨ws_2, ⟨b0_2, b1_2, b2_2, b3_2, b4_2, f0_2, f1_2, f2_2, f3_2, f4_2, rfl, h1_2, h2_2⟩, hP, hD⟩ := id hI
  have hP : va_P γ.1 vwCl [(a, .inr (6, [.ref b0_2, .ref b1_2, .ref b2_2, .ref b3_2, .ref b4_2, .ref rw])), (b0_2, .inl (γ.2.1, L, .inl f0_2)), (b1_2, .inl (γ.2.1, L, .inl f1_2)), (b2_2, .inl (γ.2.1, L, .inl f2_2)), (b3_2, .inl (γ.2.1, L, .inl f3_2)), (b4_2, .inl (γ.2.1, L, .inl f4_2))] _ := hP
  have hD : va_D Z [(a, .inr (6, [.ref b0_2, .ref b1_2, .ref b2_2, .ref b3_2, .ref b4_2, .ref rw])), (b0_2, .inl (γ.2.1, L, .inl f0_2)), (b1_2, .inl (γ.2.1, L, .inl f1_2)), (b2_2, .inl (γ.2.1, L, .inl f2_2)), (b3_2, .inl (γ.2.1, L, .inl f3_2)), (b4_2, .inl (γ.2.1, L, .inl f4_2))] := hD
  refine pu_Vi (rest := []) S hC (c_Looks_has l γ Z a rw L x1) meLooks_has qw_4e5fd4a1cd ⟨Nat.le_of_ble_eq_true rfl, Nat.le_of_ble_eq_true rfl⟩ (va_recv hC.1 hP (ci := 6) (q0 := 0) rfl rfl) hI rfl hl.1 rfl (Nat.le_of_ble_eq_true rfl) dLooks_setMeaning_2 ⟨Nat.zero_le _, Nat.zero_le _⟩ (fun r4 hr4 => ?_)
  refine lv_if_eq (tgt := 15) hx hb dLooks_setMeaning_5 (by decide) (fun c5 => ?_) (fun c5 => ?_)
  · exact hE _ _ 15 ls hS hI dLooks_setMeaning_15
  · refine lv_aload_n hx hb dLooks_setMeaning_8 rfl (lv_at hl 0 rfl) ?_
    refine va_get (D := γ.1) (ci := 6) (v := .ref b2_2) (C := R_Looks) (T := T_Looks) (N := 6) (Ts := bs_W0) hx hb hW in_Looks hown hC.1 hP 0 rfl rfl 2 (by decide) (hW _ qw_427e012605) (fun _ h9 => h9) rfl dLooks_setMeaning_9 ?_
    refine lv_iload_n hx hb dLooks_setMeaning_12 rfl (lv_at hl 1 rfl) ?_
    refine lv_iload_n hx hb dLooks_setMeaning_13 rfl (lv_at hl 2 rfl) ?_
    refine va_iast hx hb hC.1 hP hD hS 3 0 rfl rfl (in_has (by assumption) (by assumption) (by omega) (by omega)) dLooks_setMeaning_14 (fun H locs hP hD hS => ?_)
    obtain ⟨u6, eu6⟩ : ∃ z : Nat → Int32, z = upd f2_2 (x1).toNatClampNeg x2 := ⟨_, rfl⟩
    rw [← eu6] at hP hD
    have hP : va_P γ.1 vwCl [(a, .inr (6, [.ref b0_2, .ref b1_2, .ref b2_2, .ref b3_2, .ref b4_2, .ref rw])), (b0_2, .inl (γ.2.1, L, .inl f0_2)), (b1_2, .inl (γ.2.1, L, .inl f1_2)), (b2_2, .inl (γ.2.1, L, .inl u6)), (b3_2, .inl (γ.2.1, L, .inl f3_2)), (b4_2, .inl (γ.2.1, L, .inl f4_2))] _ := hP
    have hD : va_D Z [(a, .inr (6, [.ref b0_2, .ref b1_2, .ref b2_2, .ref b3_2, .ref b4_2, .ref rw])), (b0_2, .inl (γ.2.1, L, .inl f0_2)), (b1_2, .inl (γ.2.1, L, .inl f1_2)), (b2_2, .inl (γ.2.1, L, .inl u6)), (b3_2, .inl (γ.2.1, L, .inl f3_2)), (b4_2, .inl (γ.2.1, L, .inl f4_2))] := hD
    have hI : cmp γ (fLooks γ a rw L) Z _ := ⟨_, ⟨b0_2, b1_2, b2_2, b3_2, b4_2, f0_2, f1_2, u6, f3_2, f4_2, rfl, (by omega), (by omega)⟩, hP, hD⟩
    exact hE _ _ 15 ls hS hI dLooks_setMeaning_15
theorem k6_Looks_setMeaning (l : Launch) (γ : gE) (A : Nat → Prop) (κ : Nat → Nat) (x1 : Int32) (x2 : Int32)  : MU l yLooks_setMeaning bLooks_setMeaning 3 (none) 1 21 0 0 [.ref (γ.2.2.2 6), .int x1, .int x2] γ A (INV γ A κ) (mQv (fun H => INV γ A κ H) A) :=
  mu_upv (κ := κ) (κ' := κ) 7 (by decide) (by decide) (fun _ _ _ _ => rfl) (fun Z => c_Looks_setMeaning l γ Z (γ.2.2.2 6) (γ.2.2.2 7) (κ 6) x1 x2)
theorem k9_Looks_setMeaning (l : Launch) (γ : gE) (A : Nat → Prop) (κ : Nat → Nat) (x1 : Int32) (x2 : Int32)  : MU l yLooks_setMeaning bLooks_setMeaning 3 (none) 1 21 0 0 [.ref (γ.2.2.2 9), .int x1, .int x2] γ A (INV γ A κ) (mQv (fun H => INV γ A κ H) A) :=
  mu_upv (κ := κ) (κ' := κ) 9 (by decide) (by decide) (fun _ _ _ _ => rfl) (fun Z => c_Looks_setMeaning l γ Z (γ.2.2.2 9) (γ.2.2.2 10) (κ 7) x1 x2)

set_option maxHeartbeats 4000000 in
set_option maxRecDepth 100000 in
theorem c_Looks_setNumber (l : Launch) (γ : gE) (Z : Nat → Prop) (a rw L : Nat) (x1 : Int32) (x2 : Int32)  : MU l yLooks_setNumber bLooks_setNumber 3 (none) 1 21 0 0 [.ref a, .int x1, .int x2] γ Z (cmp γ (fLooks γ a rw L) Z) (mQv (fun H => cmp γ (fLooks γ a rw L) Z H) Z) := by
  refine mu_openV (by decide) (Nat.le_of_ble_eq_true rfl) ?_
  intro p e s m args below meth c ls Q S hnm hC hA hI hE hl
  obtain ⟨hx, hb, hml, hown, hW⟩ := id S
  have hS : va_S Z s.heap s.heap [] := va_S.rf
  have hl : lv_has ls 3 [(0, .ref a), (1, .int x1), (2, .int x2)] := hl
  refine lv_aload_n hx hb dLooks_setNumber_0 rfl (lv_at hl 0 rfl) ?_
  refine lv_iload_n hx hb dLooks_setNumber_1 rfl (lv_at hl 1 rfl) ?_
  obtain ⟨ws_2, ⟨b0_2, b1_2, b2_2, b3_2, b4_2, f0_2, f1_2, f2_2, f3_2, f4_2, rfl, h1_2, h2_2⟩, hP, hD⟩ := id hI
  have hP : va_P γ.1 vwCl [(a, .inr (6, [.ref b0_2, .ref b1_2, .ref b2_2, .ref b3_2, .ref b4_2, .ref rw])), (b0_2, .inl (γ.2.1, L, .inl f0_2)), (b1_2, .inl (γ.2.1, L, .inl f1_2)), (b2_2, .inl (γ.2.1, L, .inl f2_2)), (b3_2, .inl (γ.2.1, L, .inl f3_2)), (b4_2, .inl (γ.2.1, L, .inl f4_2))] _ := hP
  have hD : va_D Z [(a, .inr (6, [.ref b0_2, .ref b1_2, .ref b2_2, .ref b3_2, .ref b4_2, .ref rw])), (b0_2, .inl (γ.2.1, L, .inl f0_2)), (b1_2, .inl (γ.2.1, L, .inl f1_2)), (b2_2, .inl (γ.2.1, L, .inl f2_2)), (b3_2, .inl (γ.2.1, L, .inl f3_2)), (b4_2, .inl (γ.2.1, L, .inl f4_2))] := hD
  refine pu_Vi (rest := []) S hC (c_Looks_has l γ Z a rw L x1) meLooks_has qw_4e5fd4a1cd ⟨Nat.le_of_ble_eq_true rfl, Nat.le_of_ble_eq_true rfl⟩ (va_recv hC.1 hP (ci := 6) (q0 := 0) rfl rfl) hI rfl hl.1 rfl (Nat.le_of_ble_eq_true rfl) dLooks_setNumber_2 ⟨Nat.zero_le _, Nat.zero_le _⟩ (fun r4 hr4 => ?_)
  refine lv_if_eq (tgt := 15) hx hb dLooks_setNumber_5 (by decide) (fun c5 => ?_) (fun c5 => ?_)
  · exact hE _ _ 15 ls hS hI dLooks_setNumber_15
  · refine lv_aload_n hx hb dLooks_setNumber_8 rfl (lv_at hl 0 rfl) ?_
    refine va_get (D := γ.1) (ci := 6) (v := .ref b3_2) (C := R_Looks) (T := T_Looks) (N := 6) (Ts := bs_W0) hx hb hW in_Looks hown hC.1 hP 0 rfl rfl 3 (by decide) (hW _ qw_5344cf30a3) (fun _ h9 => h9) rfl dLooks_setNumber_9 ?_
    refine lv_iload_n hx hb dLooks_setNumber_12 rfl (lv_at hl 1 rfl) ?_
    refine lv_iload_n hx hb dLooks_setNumber_13 rfl (lv_at hl 2 rfl) ?_
    refine va_iast hx hb hC.1 hP hD hS 4 0 rfl rfl (in_has (by assumption) (by assumption) (by omega) (by omega)) dLooks_setNumber_14 (fun H locs hP hD hS => ?_)
    obtain ⟨u6, eu6⟩ : ∃ z : Nat → Int32, z = upd f3_2 (x1).toNatClampNeg x2 := ⟨_, rfl⟩
    rw [← eu6] at hP hD
    have hP : va_P γ.1 vwCl [(a, .inr (6, [.ref b0_2, .ref b1_2, .ref b2_2, .ref b3_2, .ref b4_2, .ref rw])), (b0_2, .inl (γ.2.1, L, .inl f0_2)), (b1_2, .inl (γ.2.1, L, .inl f1_2)), (b2_2, .inl (γ.2.1, L, .inl f2_2)), (b3_2, .inl (γ.2.1, L, .inl u6)), (b4_2, .inl (γ.2.1, L, .inl f4_2))] _ := hP
    have hD : va_D Z [(a, .inr (6, [.ref b0_2, .ref b1_2, .ref b2_2, .ref b3_2, .ref b4_2, .ref rw])), (b0_2, .inl (γ.2.1, L, .inl f0_2)), (b1_2, .inl (γ.2.1, L, .inl f1_2)), (b2_2, .inl (γ.2.1, L, .inl f2_2)), (b3_2, .inl (γ.2.1, L, .inl u6)), (b4_2, .inl (γ.2.1, L, .inl f4_2))] := hD
    have hI : cmp γ (fLooks γ a rw L) Z _ := ⟨_, ⟨b0_2, b1_2, b2_2, b3_2, b4_2, f0_2, f1_2, f2_2, u6, f4_2, rfl, (by omega), (by omega)⟩, hP, hD⟩
    exact hE _ _ 15 ls hS hI dLooks_setNumber_15
theorem k6_Looks_setNumber (l : Launch) (γ : gE) (A : Nat → Prop) (κ : Nat → Nat) (x1 : Int32) (x2 : Int32)  : MU l yLooks_setNumber bLooks_setNumber 3 (none) 1 21 0 0 [.ref (γ.2.2.2 6), .int x1, .int x2] γ A (INV γ A κ) (mQv (fun H => INV γ A κ H) A) :=
  mu_upv (κ := κ) (κ' := κ) 7 (by decide) (by decide) (fun _ _ _ _ => rfl) (fun Z => c_Looks_setNumber l γ Z (γ.2.2.2 6) (γ.2.2.2 7) (κ 6) x1 x2)
theorem k9_Looks_setNumber (l : Launch) (γ : gE) (A : Nat → Prop) (κ : Nat → Nat) (x1 : Int32) (x2 : Int32)  : MU l yLooks_setNumber bLooks_setNumber 3 (none) 1 21 0 0 [.ref (γ.2.2.2 9), .int x1, .int x2] γ A (INV γ A κ) (mQv (fun H => INV γ A κ H) A) :=
  mu_upv (κ := κ) (κ' := κ) 9 (by decide) (by decide) (fun _ _ _ _ => rfl) (fun Z => c_Looks_setNumber l γ Z (γ.2.2.2 9) (γ.2.2.2 10) (κ 7) x1 x2)

set_option maxHeartbeats 4000000 in
set_option maxRecDepth 100000 in
theorem c_Looks_note (l : Launch) (γ : gE) (Z : Nat → Prop) (a rw L : Nat) (x1 : Int32) (x2 : Int32) (x3 : Int32) (x4 : Int32)  : MU l yLooks_note bLooks_note 5 (none) 1 21 0 0 [.ref a, .int x1, .int x2, .int x3, .int x4] γ Z (cmp γ (fLooks γ a rw L) Z) (mQv (fun H => cmp γ (fLooks γ a rw L) Z H) Z) := by
  refine mu_openV (by decide) (Nat.le_of_ble_eq_true rfl) ?_
  intro p e s m args below meth c ls Q S hnm hC hA hI hE hl
  obtain ⟨hx, hb, hml, hown, hW⟩ := id S
  have hS : va_S Z s.heap s.heap [] := va_S.rf
  have hl : lv_has ls 5 [(0, .ref a), (1, .int x1), (2, .int x2), (3, .int x3), (4, .int x4)] := hl
  refine lv_aload_n hx hb dLooks_note_0 rfl (lv_at hl 0 rfl) ?_
  refine lv_iload_n hx hb dLooks_note_1 rfl (lv_at hl 1 rfl) ?_
  obtain ⟨ws_2, ⟨b0_2, b1_2, b2_2, b3_2, b4_2, f0_2, f1_2, f2_2, f3_2, f4_2, rfl, h1_2, h2_2⟩, hP, hD⟩ := id hI
  have hP : va_P γ.1 vwCl [(a, .inr (6, [.ref b0_2, .ref b1_2, .ref b2_2, .ref b3_2, .ref b4_2, .ref rw])), (b0_2, .inl (γ.2.1, L, .inl f0_2)), (b1_2, .inl (γ.2.1, L, .inl f1_2)), (b2_2, .inl (γ.2.1, L, .inl f2_2)), (b3_2, .inl (γ.2.1, L, .inl f3_2)), (b4_2, .inl (γ.2.1, L, .inl f4_2))] _ := hP
  have hD : va_D Z [(a, .inr (6, [.ref b0_2, .ref b1_2, .ref b2_2, .ref b3_2, .ref b4_2, .ref rw])), (b0_2, .inl (γ.2.1, L, .inl f0_2)), (b1_2, .inl (γ.2.1, L, .inl f1_2)), (b2_2, .inl (γ.2.1, L, .inl f2_2)), (b3_2, .inl (γ.2.1, L, .inl f3_2)), (b4_2, .inl (γ.2.1, L, .inl f4_2))] := hD
  refine pu_Vi (rest := []) S hC (c_Looks_has l γ Z a rw L x1) meLooks_has qw_4e5fd4a1cd ⟨Nat.le_of_ble_eq_true rfl, Nat.le_of_ble_eq_true rfl⟩ (va_recv hC.1 hP (ci := 6) (q0 := 0) rfl rfl) hI rfl hl.1 rfl (Nat.le_of_ble_eq_true rfl) dLooks_note_2 ⟨Nat.zero_le _, Nat.zero_le _⟩ (fun r8 hr8 => ?_)
  refine lv_if_eq (tgt := 38) hx hb dLooks_note_5 (by decide) (fun c9 => ?_) (fun c9 => ?_)
  · exact hE _ _ 38 ls hS hI dLooks_note_38
  · refine lv_aload_n hx hb dLooks_note_8 rfl (lv_at hl 0 rfl) ?_
    refine va_get (D := γ.1) (ci := 6) (v := .ref b0_2) (C := R_Looks) (T := T_Looks) (N := 6) (Ts := bs_W0) hx hb hW in_Looks hown hC.1 hP 0 rfl rfl 0 (by decide) (hW _ qw_ac7df03aa7) (fun _ h9 => h9) rfl dLooks_note_9 ?_
    refine lv_iload_n hx hb dLooks_note_12 rfl (lv_at hl 1 rfl) ?_
    refine lv_iload_n hx hb dLooks_note_13 rfl (lv_at hl 2 rfl) ?_
    refine va_iast hx hb hC.1 hP hD hS 1 0 rfl rfl (in_has (by assumption) (by assumption) (by omega) (by omega)) dLooks_note_14 (fun H locs hP hD hS => ?_)
    obtain ⟨u10, eu10⟩ : ∃ z : Nat → Int32, z = upd f0_2 (x1).toNatClampNeg x2 := ⟨_, rfl⟩
    rw [← eu10] at hP hD
    have hP : va_P γ.1 vwCl [(a, .inr (6, [.ref b0_2, .ref b1_2, .ref b2_2, .ref b3_2, .ref b4_2, .ref rw])), (b0_2, .inl (γ.2.1, L, .inl u10)), (b1_2, .inl (γ.2.1, L, .inl f1_2)), (b2_2, .inl (γ.2.1, L, .inl f2_2)), (b3_2, .inl (γ.2.1, L, .inl f3_2)), (b4_2, .inl (γ.2.1, L, .inl f4_2))] _ := hP
    have hD : va_D Z [(a, .inr (6, [.ref b0_2, .ref b1_2, .ref b2_2, .ref b3_2, .ref b4_2, .ref rw])), (b0_2, .inl (γ.2.1, L, .inl u10)), (b1_2, .inl (γ.2.1, L, .inl f1_2)), (b2_2, .inl (γ.2.1, L, .inl f2_2)), (b3_2, .inl (γ.2.1, L, .inl f3_2)), (b4_2, .inl (γ.2.1, L, .inl f4_2))] := hD
    refine lv_aload_n hx hb dLooks_note_15 rfl (lv_at hl 0 rfl) ?_
    refine va_get (D := γ.1) (ci := 6) (v := .ref b1_2) (C := R_Looks) (T := T_Looks) (N := 6) (Ts := bs_W0) hx hb hW in_Looks hown hC.1 hP 0 rfl rfl 1 (by decide) (hW _ qw_7dd30c70bd) (fun _ h9 => h9) rfl dLooks_note_16 ?_
    refine lv_iload_n hx hb dLooks_note_19 rfl (lv_at hl 1 rfl) ?_
    refine lv_iload_n hx hb dLooks_note_20 rfl (lv_at hl 3 rfl) ?_
    refine va_iast hx hb hC.1 hP hD hS 2 0 rfl rfl (in_has (by assumption) (by assumption) (by omega) (by omega)) dLooks_note_21 (fun H locs hP hD hS => ?_)
    obtain ⟨u11, eu11⟩ : ∃ z : Nat → Int32, z = upd f1_2 (x1).toNatClampNeg x3 := ⟨_, rfl⟩
    rw [← eu11] at hP hD
    have hP : va_P γ.1 vwCl [(a, .inr (6, [.ref b0_2, .ref b1_2, .ref b2_2, .ref b3_2, .ref b4_2, .ref rw])), (b0_2, .inl (γ.2.1, L, .inl u10)), (b1_2, .inl (γ.2.1, L, .inl u11)), (b2_2, .inl (γ.2.1, L, .inl f2_2)), (b3_2, .inl (γ.2.1, L, .inl f3_2)), (b4_2, .inl (γ.2.1, L, .inl f4_2))] _ := hP
    have hD : va_D Z [(a, .inr (6, [.ref b0_2, .ref b1_2, .ref b2_2, .ref b3_2, .ref b4_2, .ref rw])), (b0_2, .inl (γ.2.1, L, .inl u10)), (b1_2, .inl (γ.2.1, L, .inl u11)), (b2_2, .inl (γ.2.1, L, .inl f2_2)), (b3_2, .inl (γ.2.1, L, .inl f3_2)), (b4_2, .inl (γ.2.1, L, .inl f4_2))] := hD
    refine lv_aload_n hx hb dLooks_note_22 rfl (lv_at hl 0 rfl) ?_
    refine va_get (D := γ.1) (ci := 6) (v := .ref b4_2) (C := R_Looks) (T := T_Looks) (N := 6) (Ts := bs_W0) hx hb hW in_Looks hown hC.1 hP 0 rfl rfl 4 (by decide) (hW _ qw_d08a1abfac) (fun _ h9 => h9) rfl dLooks_note_23 ?_
    refine lv_iload_n hx hb dLooks_note_26 rfl (lv_at hl 1 rfl) ?_
    refine lv_iload hx hb dLooks_note_27 (lv_at hl 4 rfl) ?_
    refine lv_if_eq (tgt := 36) hx hb dLooks_note_29 (by decide) (fun c12 => ?_) (fun c12 => ?_)
    · refine lv_iconst (v := 0) hx hb dLooks_note_36 (by decide) ?_
      refine va_iast hx hb hC.1 hP hD hS 5 0 rfl rfl (in_has (by assumption) (by assumption) (by omega) (by omega)) dLooks_note_37 (fun H locs hP hD hS => ?_)
      obtain ⟨u13, eu13⟩ : ∃ z : Nat → Int32, z = upd f4_2 (x1).toNatClampNeg 0 := ⟨_, rfl⟩
      rw [← eu13] at hP hD
      have hP : va_P γ.1 vwCl [(a, .inr (6, [.ref b0_2, .ref b1_2, .ref b2_2, .ref b3_2, .ref b4_2, .ref rw])), (b0_2, .inl (γ.2.1, L, .inl u10)), (b1_2, .inl (γ.2.1, L, .inl u11)), (b2_2, .inl (γ.2.1, L, .inl f2_2)), (b3_2, .inl (γ.2.1, L, .inl f3_2)), (b4_2, .inl (γ.2.1, L, .inl u13))] _ := hP
      have hD : va_D Z [(a, .inr (6, [.ref b0_2, .ref b1_2, .ref b2_2, .ref b3_2, .ref b4_2, .ref rw])), (b0_2, .inl (γ.2.1, L, .inl u10)), (b1_2, .inl (γ.2.1, L, .inl u11)), (b2_2, .inl (γ.2.1, L, .inl f2_2)), (b3_2, .inl (γ.2.1, L, .inl f3_2)), (b4_2, .inl (γ.2.1, L, .inl u13))] := hD
      have hI : cmp γ (fLooks γ a rw L) Z _ := ⟨_, ⟨b0_2, b1_2, b2_2, b3_2, b4_2, u10, u11, f2_2, f3_2, u13, rfl, (by omega), (by omega)⟩, hP, hD⟩
      exact hE _ _ 38 ls hS hI dLooks_note_38
    · refine lv_iconst (v := 1) hx hb dLooks_note_32 (by decide) ?_
      refine lv_goto (tgt := 37) hx hb dLooks_note_33 (by decide) ?_
      refine va_iast hx hb hC.1 hP hD hS 5 0 rfl rfl (in_has (by assumption) (by assumption) (by omega) (by omega)) dLooks_note_37 (fun H locs hP hD hS => ?_)
      obtain ⟨u14, eu14⟩ : ∃ z : Nat → Int32, z = upd f4_2 (x1).toNatClampNeg 1 := ⟨_, rfl⟩
      rw [← eu14] at hP hD
      have hP : va_P γ.1 vwCl [(a, .inr (6, [.ref b0_2, .ref b1_2, .ref b2_2, .ref b3_2, .ref b4_2, .ref rw])), (b0_2, .inl (γ.2.1, L, .inl u10)), (b1_2, .inl (γ.2.1, L, .inl u11)), (b2_2, .inl (γ.2.1, L, .inl f2_2)), (b3_2, .inl (γ.2.1, L, .inl f3_2)), (b4_2, .inl (γ.2.1, L, .inl u14))] _ := hP
      have hD : va_D Z [(a, .inr (6, [.ref b0_2, .ref b1_2, .ref b2_2, .ref b3_2, .ref b4_2, .ref rw])), (b0_2, .inl (γ.2.1, L, .inl u10)), (b1_2, .inl (γ.2.1, L, .inl u11)), (b2_2, .inl (γ.2.1, L, .inl f2_2)), (b3_2, .inl (γ.2.1, L, .inl f3_2)), (b4_2, .inl (γ.2.1, L, .inl u14))] := hD
      have hI : cmp γ (fLooks γ a rw L) Z _ := ⟨_, ⟨b0_2, b1_2, b2_2, b3_2, b4_2, u10, u11, f2_2, f3_2, u14, rfl, (by omega), (by omega)⟩, hP, hD⟩
      exact hE _ _ 38 ls hS hI dLooks_note_38
theorem k6_Looks_note (l : Launch) (γ : gE) (A : Nat → Prop) (κ : Nat → Nat) (x1 : Int32) (x2 : Int32) (x3 : Int32) (x4 : Int32)  : MU l yLooks_note bLooks_note 5 (none) 1 21 0 0 [.ref (γ.2.2.2 6), .int x1, .int x2, .int x3, .int x4] γ A (INV γ A κ) (mQv (fun H => INV γ A κ H) A) :=
  mu_upv (κ := κ) (κ' := κ) 7 (by decide) (by decide) (fun _ _ _ _ => rfl) (fun Z => c_Looks_note l γ Z (γ.2.2.2 6) (γ.2.2.2 7) (κ 6) x1 x2 x3 x4)
theorem k9_Looks_note (l : Launch) (γ : gE) (A : Nat → Prop) (κ : Nat → Nat) (x1 : Int32) (x2 : Int32) (x3 : Int32) (x4 : Int32)  : MU l yLooks_note bLooks_note 5 (none) 1 21 0 0 [.ref (γ.2.2.2 9), .int x1, .int x2, .int x3, .int x4] γ A (INV γ A κ) (mQv (fun H => INV γ A κ H) A) :=
  mu_upv (κ := κ) (κ' := κ) 9 (by decide) (by decide) (fun _ _ _ _ => rfl) (fun Z => c_Looks_note l γ Z (γ.2.2.2 9) (γ.2.2.2 10) (κ 7) x1 x2 x3 x4)

set_option maxHeartbeats 4000000 in
set_option maxRecDepth 100000 in
theorem c_Looks_forget (l : Launch) (γ : gE) (Z : Nat → Prop) (a rw L : Nat) (x1 : Int32)  : MU l yLooks_forget bLooks_forget 2 (none) 1 21 0 0 [.ref a, .int x1] γ Z (cmp γ (fLooks γ a rw L) Z) (mQv (fun H => cmp γ (fLooks γ a rw L) Z H) Z) := by
  refine mu_openV (by decide) (Nat.le_of_ble_eq_true rfl) ?_
  intro p e s m args below meth c ls Q S hnm hC hA hI hE hl
  obtain ⟨hx, hb, hml, hown, hW⟩ := id S
  have hS : va_S Z s.heap s.heap [] := va_S.rf
  have hl : lv_has ls 2 [(0, .ref a), (1, .int x1)] := hl
  refine lv_aload_n hx hb dLooks_forget_0 rfl (lv_at hl 0 rfl) ?_
  refine lv_iload_n hx hb dLooks_forget_1 rfl (lv_at hl 1 rfl) ?_
  obtain ⟨ws_2, ⟨b0_2, b1_2, b2_2, b3_2, b4_2, f0_2, f1_2, f2_2, f3_2, f4_2, rfl, h1_2, h2_2⟩, hP, hD⟩ := id hI
  have hP : va_P γ.1 vwCl [(a, .inr (6, [.ref b0_2, .ref b1_2, .ref b2_2, .ref b3_2, .ref b4_2, .ref rw])), (b0_2, .inl (γ.2.1, L, .inl f0_2)), (b1_2, .inl (γ.2.1, L, .inl f1_2)), (b2_2, .inl (γ.2.1, L, .inl f2_2)), (b3_2, .inl (γ.2.1, L, .inl f3_2)), (b4_2, .inl (γ.2.1, L, .inl f4_2))] _ := hP
  have hD : va_D Z [(a, .inr (6, [.ref b0_2, .ref b1_2, .ref b2_2, .ref b3_2, .ref b4_2, .ref rw])), (b0_2, .inl (γ.2.1, L, .inl f0_2)), (b1_2, .inl (γ.2.1, L, .inl f1_2)), (b2_2, .inl (γ.2.1, L, .inl f2_2)), (b3_2, .inl (γ.2.1, L, .inl f3_2)), (b4_2, .inl (γ.2.1, L, .inl f4_2))] := hD
  refine pu_Vi (rest := []) S hC (c_Looks_has l γ Z a rw L x1) meLooks_has qw_4e5fd4a1cd ⟨Nat.le_of_ble_eq_true rfl, Nat.le_of_ble_eq_true rfl⟩ (va_recv hC.1 hP (ci := 6) (q0 := 0) rfl rfl) hI rfl hl.1 rfl (Nat.le_of_ble_eq_true rfl) dLooks_forget_2 ⟨Nat.zero_le _, Nat.zero_le _⟩ (fun r8 hr8 => ?_)
  refine lv_if_eq (tgt := 43) hx hb dLooks_forget_5 (by decide) (fun c9 => ?_) (fun c9 => ?_)
  · exact hE _ _ 43 ls hS hI dLooks_forget_43
  · refine lv_aload_n hx hb dLooks_forget_8 rfl (lv_at hl 0 rfl) ?_
    refine va_get (D := γ.1) (ci := 6) (v := .ref b0_2) (C := R_Looks) (T := T_Looks) (N := 6) (Ts := bs_W0) hx hb hW in_Looks hown hC.1 hP 0 rfl rfl 0 (by decide) (hW _ qw_ac7df03aa7) (fun _ h9 => h9) rfl dLooks_forget_9 ?_
    refine lv_iload_n hx hb dLooks_forget_12 rfl (lv_at hl 1 rfl) ?_
    refine lv_iconst (v := (-1)) hx hb dLooks_forget_13 (by decide) ?_
    refine va_iast hx hb hC.1 hP hD hS 1 0 rfl rfl (in_has (by assumption) (by assumption) (by omega) (by omega)) dLooks_forget_14 (fun H locs hP hD hS => ?_)
    obtain ⟨u10, eu10⟩ : ∃ z : Nat → Int32, z = upd f0_2 (x1).toNatClampNeg (-1) := ⟨_, rfl⟩
    rw [← eu10] at hP hD
    have hP : va_P γ.1 vwCl [(a, .inr (6, [.ref b0_2, .ref b1_2, .ref b2_2, .ref b3_2, .ref b4_2, .ref rw])), (b0_2, .inl (γ.2.1, L, .inl u10)), (b1_2, .inl (γ.2.1, L, .inl f1_2)), (b2_2, .inl (γ.2.1, L, .inl f2_2)), (b3_2, .inl (γ.2.1, L, .inl f3_2)), (b4_2, .inl (γ.2.1, L, .inl f4_2))] _ := hP
    have hD : va_D Z [(a, .inr (6, [.ref b0_2, .ref b1_2, .ref b2_2, .ref b3_2, .ref b4_2, .ref rw])), (b0_2, .inl (γ.2.1, L, .inl u10)), (b1_2, .inl (γ.2.1, L, .inl f1_2)), (b2_2, .inl (γ.2.1, L, .inl f2_2)), (b3_2, .inl (γ.2.1, L, .inl f3_2)), (b4_2, .inl (γ.2.1, L, .inl f4_2))] := hD
    refine lv_aload_n hx hb dLooks_forget_15 rfl (lv_at hl 0 rfl) ?_
    refine va_get (D := γ.1) (ci := 6) (v := .ref b1_2) (C := R_Looks) (T := T_Looks) (N := 6) (Ts := bs_W0) hx hb hW in_Looks hown hC.1 hP 0 rfl rfl 1 (by decide) (hW _ qw_7dd30c70bd) (fun _ h9 => h9) rfl dLooks_forget_16 ?_
    refine lv_iload_n hx hb dLooks_forget_19 rfl (lv_at hl 1 rfl) ?_
    refine lv_iconst (v := 0) hx hb dLooks_forget_20 (by decide) ?_
    refine va_iast hx hb hC.1 hP hD hS 2 0 rfl rfl (in_has (by assumption) (by assumption) (by omega) (by omega)) dLooks_forget_21 (fun H locs hP hD hS => ?_)
    obtain ⟨u11, eu11⟩ : ∃ z : Nat → Int32, z = upd f1_2 (x1).toNatClampNeg 0 := ⟨_, rfl⟩
    rw [← eu11] at hP hD
    have hP : va_P γ.1 vwCl [(a, .inr (6, [.ref b0_2, .ref b1_2, .ref b2_2, .ref b3_2, .ref b4_2, .ref rw])), (b0_2, .inl (γ.2.1, L, .inl u10)), (b1_2, .inl (γ.2.1, L, .inl u11)), (b2_2, .inl (γ.2.1, L, .inl f2_2)), (b3_2, .inl (γ.2.1, L, .inl f3_2)), (b4_2, .inl (γ.2.1, L, .inl f4_2))] _ := hP
    have hD : va_D Z [(a, .inr (6, [.ref b0_2, .ref b1_2, .ref b2_2, .ref b3_2, .ref b4_2, .ref rw])), (b0_2, .inl (γ.2.1, L, .inl u10)), (b1_2, .inl (γ.2.1, L, .inl u11)), (b2_2, .inl (γ.2.1, L, .inl f2_2)), (b3_2, .inl (γ.2.1, L, .inl f3_2)), (b4_2, .inl (γ.2.1, L, .inl f4_2))] := hD
    refine lv_aload_n hx hb dLooks_forget_22 rfl (lv_at hl 0 rfl) ?_
    refine va_get (D := γ.1) (ci := 6) (v := .ref b2_2) (C := R_Looks) (T := T_Looks) (N := 6) (Ts := bs_W0) hx hb hW in_Looks hown hC.1 hP 0 rfl rfl 2 (by decide) (hW _ qw_427e012605) (fun _ h9 => h9) rfl dLooks_forget_23 ?_
    refine lv_iload_n hx hb dLooks_forget_26 rfl (lv_at hl 1 rfl) ?_
    refine lv_iconst (v := (-1)) hx hb dLooks_forget_27 (by decide) ?_
    refine va_iast hx hb hC.1 hP hD hS 3 0 rfl rfl (in_has (by assumption) (by assumption) (by omega) (by omega)) dLooks_forget_28 (fun H locs hP hD hS => ?_)
    obtain ⟨u12, eu12⟩ : ∃ z : Nat → Int32, z = upd f2_2 (x1).toNatClampNeg (-1) := ⟨_, rfl⟩
    rw [← eu12] at hP hD
    have hP : va_P γ.1 vwCl [(a, .inr (6, [.ref b0_2, .ref b1_2, .ref b2_2, .ref b3_2, .ref b4_2, .ref rw])), (b0_2, .inl (γ.2.1, L, .inl u10)), (b1_2, .inl (γ.2.1, L, .inl u11)), (b2_2, .inl (γ.2.1, L, .inl u12)), (b3_2, .inl (γ.2.1, L, .inl f3_2)), (b4_2, .inl (γ.2.1, L, .inl f4_2))] _ := hP
    have hD : va_D Z [(a, .inr (6, [.ref b0_2, .ref b1_2, .ref b2_2, .ref b3_2, .ref b4_2, .ref rw])), (b0_2, .inl (γ.2.1, L, .inl u10)), (b1_2, .inl (γ.2.1, L, .inl u11)), (b2_2, .inl (γ.2.1, L, .inl u12)), (b3_2, .inl (γ.2.1, L, .inl f3_2)), (b4_2, .inl (γ.2.1, L, .inl f4_2))] := hD
    refine lv_aload_n hx hb dLooks_forget_29 rfl (lv_at hl 0 rfl) ?_
    refine va_get (D := γ.1) (ci := 6) (v := .ref b3_2) (C := R_Looks) (T := T_Looks) (N := 6) (Ts := bs_W0) hx hb hW in_Looks hown hC.1 hP 0 rfl rfl 3 (by decide) (hW _ qw_5344cf30a3) (fun _ h9 => h9) rfl dLooks_forget_30 ?_
    refine lv_iload_n hx hb dLooks_forget_33 rfl (lv_at hl 1 rfl) ?_
    refine lv_iconst (v := 0) hx hb dLooks_forget_34 (by decide) ?_
    refine va_iast hx hb hC.1 hP hD hS 4 0 rfl rfl (in_has (by assumption) (by assumption) (by omega) (by omega)) dLooks_forget_35 (fun H locs hP hD hS => ?_)
    obtain ⟨u13, eu13⟩ : ∃ z : Nat → Int32, z = upd f3_2 (x1).toNatClampNeg 0 := ⟨_, rfl⟩
    rw [← eu13] at hP hD
    have hP : va_P γ.1 vwCl [(a, .inr (6, [.ref b0_2, .ref b1_2, .ref b2_2, .ref b3_2, .ref b4_2, .ref rw])), (b0_2, .inl (γ.2.1, L, .inl u10)), (b1_2, .inl (γ.2.1, L, .inl u11)), (b2_2, .inl (γ.2.1, L, .inl u12)), (b3_2, .inl (γ.2.1, L, .inl u13)), (b4_2, .inl (γ.2.1, L, .inl f4_2))] _ := hP
    have hD : va_D Z [(a, .inr (6, [.ref b0_2, .ref b1_2, .ref b2_2, .ref b3_2, .ref b4_2, .ref rw])), (b0_2, .inl (γ.2.1, L, .inl u10)), (b1_2, .inl (γ.2.1, L, .inl u11)), (b2_2, .inl (γ.2.1, L, .inl u12)), (b3_2, .inl (γ.2.1, L, .inl u13)), (b4_2, .inl (γ.2.1, L, .inl f4_2))] := hD
    refine lv_aload_n hx hb dLooks_forget_36 rfl (lv_at hl 0 rfl) ?_
    refine va_get (D := γ.1) (ci := 6) (v := .ref b4_2) (C := R_Looks) (T := T_Looks) (N := 6) (Ts := bs_W0) hx hb hW in_Looks hown hC.1 hP 0 rfl rfl 4 (by decide) (hW _ qw_d08a1abfac) (fun _ h9 => h9) rfl dLooks_forget_37 ?_
    refine lv_iload_n hx hb dLooks_forget_40 rfl (lv_at hl 1 rfl) ?_
    refine lv_iconst (v := 0) hx hb dLooks_forget_41 (by decide) ?_
    refine va_iast hx hb hC.1 hP hD hS 5 0 rfl rfl (in_has (by assumption) (by assumption) (by omega) (by omega)) dLooks_forget_42 (fun H locs hP hD hS => ?_)
    obtain ⟨u14, eu14⟩ : ∃ z : Nat → Int32, z = upd f4_2 (x1).toNatClampNeg 0 := ⟨_, rfl⟩
    rw [← eu14] at hP hD
    have hP : va_P γ.1 vwCl [(a, .inr (6, [.ref b0_2, .ref b1_2, .ref b2_2, .ref b3_2, .ref b4_2, .ref rw])), (b0_2, .inl (γ.2.1, L, .inl u10)), (b1_2, .inl (γ.2.1, L, .inl u11)), (b2_2, .inl (γ.2.1, L, .inl u12)), (b3_2, .inl (γ.2.1, L, .inl u13)), (b4_2, .inl (γ.2.1, L, .inl u14))] _ := hP
    have hD : va_D Z [(a, .inr (6, [.ref b0_2, .ref b1_2, .ref b2_2, .ref b3_2, .ref b4_2, .ref rw])), (b0_2, .inl (γ.2.1, L, .inl u10)), (b1_2, .inl (γ.2.1, L, .inl u11)), (b2_2, .inl (γ.2.1, L, .inl u12)), (b3_2, .inl (γ.2.1, L, .inl u13)), (b4_2, .inl (γ.2.1, L, .inl u14))] := hD
    have hI : cmp γ (fLooks γ a rw L) Z _ := ⟨_, ⟨b0_2, b1_2, b2_2, b3_2, b4_2, u10, u11, u12, u13, u14, rfl, (by omega), (by omega)⟩, hP, hD⟩
    exact hE _ _ 43 ls hS hI dLooks_forget_43
theorem k6_Looks_forget (l : Launch) (γ : gE) (A : Nat → Prop) (κ : Nat → Nat) (x1 : Int32)  : MU l yLooks_forget bLooks_forget 2 (none) 1 21 0 0 [.ref (γ.2.2.2 6), .int x1] γ A (INV γ A κ) (mQv (fun H => INV γ A κ H) A) :=
  mu_upv (κ := κ) (κ' := κ) 7 (by decide) (by decide) (fun _ _ _ _ => rfl) (fun Z => c_Looks_forget l γ Z (γ.2.2.2 6) (γ.2.2.2 7) (κ 6) x1)
theorem k9_Looks_forget (l : Launch) (γ : gE) (A : Nat → Prop) (κ : Nat → Nat) (x1 : Int32)  : MU l yLooks_forget bLooks_forget 2 (none) 1 21 0 0 [.ref (γ.2.2.2 9), .int x1] γ A (INV γ A κ) (mQv (fun H => INV γ A κ H) A) :=
  mu_upv (κ := κ) (κ' := κ) 9 (by decide) (by decide) (fun _ _ _ _ => rfl) (fun Z => c_Looks_forget l γ Z (γ.2.2.2 9) (γ.2.2.2 10) (κ 7) x1)

set_option maxHeartbeats 4000000 in
set_option maxRecDepth 100000 in
theorem c_Rows_set (l : Launch) (γ : gE) (Z : Nat → Prop) (a M : Nat) (x1 : Int32) (x2 : Int32) (x3 : Int32)  : MU l yRows_set bRows_set 6 (none) 0 0 0 0 [.ref a, .int x1, .int x2, .int x3] γ Z (cmp γ (fRows γ a M) Z) (mQv (fun H => cmp γ (fRows γ a M) Z H) Z) := by
  refine mu_openV (by decide) (Nat.le_of_ble_eq_true rfl) ?_
  intro p e s m args below meth c ls Q S hnm hC hA hI hE hl
  obtain ⟨hx, hb, hml, hown, hW⟩ := id S
  have hS : va_S Z s.heap s.heap [] := va_S.rf
  have hl : lv_has ls 6 [(0, .ref a), (1, .int x1), (2, .int x2), (3, .int x3)] := hl
  refine lv_iload_n hx hb dRows_set_0 rfl (lv_at hl 1 rfl) ?_
  refine lv_if_lt (tgt := 74) hx hb dRows_set_1 (by decide) (fun c20 => ?_) (fun c20 => ?_)
  · exact hE _ _ 74 ls hS hI dRows_set_74
  · refine lv_iload_n hx hb dRows_set_4 rfl (lv_at hl 1 rfl) ?_
    refine lv_aload_n hx hb dRows_set_5 rfl (lv_at hl 0 rfl) ?_
    obtain ⟨ws_2, ⟨b0_2, g0_2, rfl, h1_2, h2_2⟩, hP, hD⟩ := id hI
    have hP : va_P γ.1 vwCl [(a, .inr (5, [.ref b0_2])), (b0_2, .inl (γ.2.2.1, 4 * M, .inr (.inl g0_2)))] _ := hP
    have hD : va_D Z [(a, .inr (5, [.ref b0_2])), (b0_2, .inl (γ.2.2.1, 4 * M, .inr (.inl g0_2)))] := hD
    refine va_get (D := γ.1) (ci := 5) (v := .ref b0_2) (C := R_Rows) (T := T_Rows) (N := 1) (Ts := bs_W0) hx hb hW in_Rows hown hC.1 hP 0 rfl rfl 0 (by decide) (hW _ qw_05e9c8a29d) (fun _ h9 => h9) rfl dRows_set_6 ?_
    refine va_alen hx hb hC.1 hP 1 1 rfl rfl rfl dRows_set_9 ?_
    refine lv_topi (fun v21 ev21 => ?_)
    have ev21 : v21 = nI (4 * M) := ev21
    refine lv_iconst (v := 4) hx hb dRows_set_10 (by decide) ?_
    refine lv_idiv hx hb dRows_set_11 (by decide) ?_
    refine lv_topi (fun v22 ev22 => ?_)
    refine lv_icmp_ge (tgt := 74) hx hb dRows_set_12 (by decide) (fun c23 => ?_) (fun c23 => ?_)
    · exact hE _ _ 74 ls hS hI dRows_set_74
    · refine lv_iload_n hx hb dRows_set_15 rfl (lv_at hl 2 rfl) ?_
      refine lv_if_lt (tgt := 74) hx hb dRows_set_16 (by decide) (fun c24 => ?_) (fun c24 => ?_)
      · exact hE _ _ 74 ls hS hI dRows_set_74
      · refine lv_iload_n hx hb dRows_set_19 rfl (lv_at hl 2 rfl) ?_
        refine lv_bipush (v := 64) hx hb dRows_set_20 (by decide) ?_
        refine lv_icmp_ge (tgt := 74) hx hb dRows_set_22 (by decide) (fun c25 => ?_) (fun c25 => ?_)
        · exact hE _ _ 74 ls hS hI dRows_set_74
        · refine lv_iload_n hx hb dRows_set_25 rfl (lv_at hl 1 rfl) ?_
          refine lv_iconst (v := 4) hx hb dRows_set_26 (by decide) ?_
          refine lv_imul hx hb dRows_set_27 ?_
          refine lv_topi (fun v26 ev26 => ?_)
          refine lv_iload_n hx hb dRows_set_28 rfl (lv_at hl 2 rfl) ?_
          refine lv_bipush (v := 16) hx hb dRows_set_29 (by decide) ?_
          refine lv_idiv hx hb dRows_set_31 (by decide) ?_
          refine lv_topi (fun v27 ev27 => ?_)
          refine lv_iadd hx hb dRows_set_32 ?_
          refine lv_topi (fun v28 ev28 => ?_)
          refine lv_istore (lv' := [(4, .int v28), (0, .ref a), (1, .int x1), (2, .int x2), (3, .int x3)]) hx hb dRows_set_33 hl (by decide) rfl (fun ls hl => ?_)
          refine lv_iload_n hx hb dRows_set_35 rfl (lv_at hl 3 rfl) ?_
          refine lv_bipush (v := 16) hx hb dRows_set_36 (by decide) ?_
          refine lv_irem hx hb dRows_set_38 (by decide) ?_
          refine lv_topi (fun v29 ev29 => ?_)
          refine lv_iconst (v := 4) hx hb dRows_set_39 (by decide) ?_
          refine lv_imul hx hb dRows_set_40 ?_
          refine lv_topi (fun v30 ev30 => ?_)
          refine lv_istore (lv' := [(5, .int v30), (4, .int v28), (0, .ref a), (1, .int x1), (2, .int x2), (3, .int x3)]) hx hb dRows_set_41 hl (by decide) rfl (fun ls hl => ?_)
          refine lv_aload_n hx hb dRows_set_43 rfl (lv_at hl 2 rfl) ?_
          refine va_get (D := γ.1) (ci := 5) (v := .ref b0_2) (C := R_Rows) (T := T_Rows) (N := 1) (Ts := bs_W0) hx hb hW in_Rows hown hC.1 hP 0 rfl rfl 0 (by decide) (hW _ qw_05e9c8a29d) (fun _ h9 => h9) rfl dRows_set_44 ?_
          refine lv_iload hx hb dRows_set_47 (lv_at hl 1 rfl) ?_
          refine lv_aload_n hx hb dRows_set_49 rfl (lv_at hl 2 rfl) ?_
          refine va_get (D := γ.1) (ci := 5) (v := .ref b0_2) (C := R_Rows) (T := T_Rows) (N := 1) (Ts := bs_W0) hx hb hW in_Rows hown hC.1 hP 0 rfl rfl 0 (by decide) (hW _ qw_05e9c8a29d) (fun _ h9 => h9) rfl dRows_set_50 ?_
          refine lv_iload hx hb dRows_set_53 (lv_at hl 1 rfl) ?_
          refine va_lald hx hb hC.1 hP 1 1 rfl rfl (by subst_vars; exact rows_ix (by assumption) (by assumption) (by assumption) (by first | assumption | exact lt_nge (by assumption)) (by omega)) dRows_set_55 ?_
          refine lv_topl (fun v31 ev31 => ?_)
          refine lv_ldc2 (v := 15) hx hb hown (hW _ qw_4a6bff5ab0) dRows_set_56 ?_
          refine lv_iload hx hb dRows_set_59 (lv_at hl 0 rfl) ?_
          refine lv_lshl hx hb dRows_set_61 rfl ?_
          refine lv_topl (fun v32 ev32 => ?_)
          refine lv_ldc2 (v := (-1)) hx hb hown (hW _ qw_14d339857e) dRows_set_62 ?_
          refine lv_lxor hx hb dRows_set_65 ?_
          refine lv_topl (fun v33 ev33 => ?_)
          refine lv_land hx hb dRows_set_66 ?_
          refine lv_topl (fun v34 ev34 => ?_)
          refine lv_iload_n hx hb dRows_set_67 rfl (lv_at hl 5 rfl) ?_
          refine lv_i2l hx hb dRows_set_68 rfl ?_
          refine lv_topl (fun v35 ev35 => ?_)
          refine lv_iload hx hb dRows_set_69 (lv_at hl 0 rfl) ?_
          refine lv_lshl hx hb dRows_set_71 rfl ?_
          refine lv_topl (fun v36 ev36 => ?_)
          refine lv_lor hx hb dRows_set_72 ?_
          refine lv_topl (fun v37 ev37 => ?_)
          refine va_last hx hb hC.1 hP hD hS 1 1 rfl rfl (by subst_vars; exact rows_ix (by assumption) (by assumption) (by assumption) (by first | assumption | exact lt_nge (by assumption)) (by omega)) dRows_set_73 (fun H locs hP hD hS => ?_)
          obtain ⟨u38, eu38⟩ : ∃ z : Nat → Int64, z = vp_updL g0_2 (v28).toNatClampNeg v37 := ⟨_, rfl⟩
          rw [← eu38] at hP hD
          have hP : va_P γ.1 vwCl [(a, .inr (5, [.ref b0_2])), (b0_2, .inl (γ.2.2.1, 4 * M, .inr (.inl u38)))] _ := hP
          have hD : va_D Z [(a, .inr (5, [.ref b0_2])), (b0_2, .inl (γ.2.2.1, 4 * M, .inr (.inl u38)))] := hD
          have hI : cmp γ (fRows γ a M) Z _ := ⟨_, ⟨b0_2, u38, rfl, (by omega), (by omega)⟩, hP, hD⟩
          exact hE _ _ 74 ls hS hI dRows_set_74
theorem k5_Rows_set (l : Launch) (γ : gE) (A : Nat → Prop) (κ : Nat → Nat) (x1 : Int32) (x2 : Int32) (x3 : Int32)  : MU l yRows_set bRows_set 6 (none) 0 0 0 0 [.ref (γ.2.2.2 5), .int x1, .int x2, .int x3] γ A (INV γ A κ) (mQv (fun H => INV γ A κ H) A) :=
  mu_upv (κ := κ) (κ' := κ) 6 (by decide) (by decide) (fun _ _ _ _ => rfl) (fun Z => c_Rows_set l γ Z (γ.2.2.2 5) (κ 8) x1 x2 x3)
theorem k7_Rows_set (l : Launch) (γ : gE) (A : Nat → Prop) (κ : Nat → Nat) (x1 : Int32) (x2 : Int32) (x3 : Int32)  : MU l yRows_set bRows_set 6 (none) 0 0 0 0 [.ref (γ.2.2.2 7), .int x1, .int x2, .int x3] γ A (INV γ A κ) (mQv (fun H => INV γ A κ H) A) :=
  mu_upv (κ := κ) (κ' := κ) 8 (by decide) (by decide) (fun _ _ _ _ => rfl) (fun Z => c_Rows_set l γ Z (γ.2.2.2 7) (κ 9) x1 x2 x3)
theorem k10_Rows_set (l : Launch) (γ : gE) (A : Nat → Prop) (κ : Nat → Nat) (x1 : Int32) (x2 : Int32) (x3 : Int32)  : MU l yRows_set bRows_set 6 (none) 0 0 0 0 [.ref (γ.2.2.2 10), .int x1, .int x2, .int x3] γ A (INV γ A κ) (mQv (fun H => INV γ A κ H) A) :=
  mu_upv (κ := κ) (κ' := κ) 10 (by decide) (by decide) (fun _ _ _ _ => rfl) (fun Z => c_Rows_set l γ Z (γ.2.2.2 10) (κ 10) x1 x2 x3)

set_option maxHeartbeats 4000000 in
set_option maxRecDepth 100000 in
theorem c_Rows_setBits (l : Launch) (γ : gE) (Z : Nat → Prop) (a M : Nat) (x1 : Int32) (x2 : Int32) (x3 : Int64)  : MU l yRows_setBits bRows_setBits 6 (none) 1 25 0 0 [.ref a, .int x1, .int x2, .long x3] γ Z (cmp γ (fRows γ a M) Z) (mQv (fun H => cmp γ (fRows γ a M) Z H) Z) := by
  refine mu_openV (by decide) (Nat.le_of_ble_eq_true rfl) ?_
  intro p e s m args below meth c ls Q S hnm hC hA hI hE hl
  obtain ⟨hx, hb, hml, hown, hW⟩ := id S
  have hS : va_S Z s.heap s.heap [] := va_S.rf
  have hl : lv_has ls 6 [(0, .ref a), (1, .int x1), (2, .int x2), (3, .long x3)] := hl
  have J3 : ∀ (N3 : Nat) (ls : Array Slot) (H : Heap) (locs : List Loc) (i1 : Int32) (i2 : Int32) (j3 : Int64) (i5 : Int32), cmp γ (fRows γ a M) Z H → va_S Z s.heap H locs → (2147483647 - i5.toInt).toNat = N3 → lv_has ls 6 [(0, .ref a), (1, .int i1), (2, .int i2), (3, .long j3), (5, .int i5)] → W p l e (bs_rm 1 0 0 25) s m args below meth c H locs 0 0 Q (F0 m 3 ls []) := by
    intro N3
    induction N3 using Nat.strongRecOn with
    | ind N3 ih3 =>
      intro ls H locs i1 i2 j3 i5 hI hS hm3 hl
      have J36 : ∀ (ls : Array Slot) (H : Heap) (locs : List Loc) (i1 : Int32) (i2 : Int32) (j3 : Int64) (i5 : Int32) (t0 : Int32) (t1 : Int32) (t2 : Int32), cmp γ (fRows γ a M) Z H → va_S Z s.heap H locs → (i5.toInt < 2147483647 ∧ (2147483647 - i5.toInt).toNat = N3) → lv_has ls 6 [(0, .ref a), (1, .int i1), (2, .int i2), (3, .long j3), (5, .int i5)] → W p l e (bs_rm 1 0 0 25) s m args below meth c H locs 0 0 Q (F0 m 36 ls [.int t0, .int t1, .int t2, .ref a]) := by
        intro ls H locs i1 i2 j3 i5 t0 t1 t2 hI hS ⟨hf3a, hf3b⟩ hl
        obtain ⟨ws_2, ⟨b0_2, g0_2, rfl, h1_2, h2_2⟩, hP, hD⟩ := id hI
        have hP : va_P γ.1 vwCl [(a, .inr (5, [.ref b0_2])), (b0_2, .inl (γ.2.2.1, 4 * M, .inr (.inl g0_2)))] _ := hP
        have hD : va_D Z [(a, .inr (5, [.ref b0_2])), (b0_2, .inl (γ.2.2.1, 4 * M, .inr (.inl g0_2)))] := hD
        refine mu_Vv (rest := []) S hC (fun q h => hA q (Nat.le_trans hS.1 h)) (fun q h => h) hS (c_Rows_set l γ Z a M t2 t1 t0) meRows_set qw_b8cf967c79 ⟨Nat.le_of_ble_eq_true rfl, Nat.le_of_ble_eq_true rfl⟩ (va_recv hC.1 hP (ci := 5) (q0 := 0) rfl rfl) hI rfl hl.1 rfl (Nat.le_of_ble_eq_true rfl) dRows_setBits_36 ⟨Nat.le_refl _, Nat.le_refl _⟩ (fun H locs hI hS _ _ => ?_)
        obtain ⟨v8, ev8⟩ : ∃ y : Int32, y = i5 + 1 := ⟨_, rfl⟩
        refine lv_iinc (v := v8) (lv' := [(5, .int v8), (0, .ref a), (1, .int i1), (2, .int i2), (3, .long j3)]) hx hb dRows_setBits_39 hl (k := 4) rfl (by rw [ev8]; rfl) (by decide) rfl (fun ls hl => ?_)
        refine lv_goto (tgt := 3) hx hb dRows_setBits_42 (by decide) ?_
        exact ih3 _ (by have q1 : i5.toInt < 2147483647 := (by first | exact (mu_up (k := i5) (by assumption)).2 | assumption); have q2 := mu_lt q1; rw [← ev8] at q2; omega) ls _ _ i1 i2 j3 v8 hI hS rfl (lv_sub hl [1, 2, 3, 4, 0] rfl)
      refine lv_iload hx hb dRows_setBits_3 (lv_at hl 4 rfl) ?_
      refine lv_iload_n hx hb dRows_setBits_5 rfl (lv_at hl 2 rfl) ?_
      refine lv_icmp_ge (tgt := 45) hx hb dRows_setBits_6 (by decide) (fun c9 => ?_) (fun c9 => ?_)
      · exact hE _ _ 45 ls hS hI dRows_setBits_45
      · refine lv_iload hx hb dRows_setBits_9 (lv_at hl 4 rfl) ?_
        refine lv_bipush (v := 64) hx hb dRows_setBits_11 (by decide) ?_
        refine lv_icmp_ge (tgt := 45) hx hb dRows_setBits_13 (by decide) (fun c10 => ?_) (fun c10 => ?_)
        · exact hE _ _ 45 ls hS hI dRows_setBits_45
        · refine lv_aload_n hx hb dRows_setBits_16 rfl (lv_at hl 0 rfl) ?_
          refine lv_iload_n hx hb dRows_setBits_17 rfl (lv_at hl 1 rfl) ?_
          refine lv_iload hx hb dRows_setBits_18 (lv_at hl 4 rfl) ?_
          refine lv_lload_n hx hb dRows_setBits_20 rfl (lv_at hl 3 rfl) ?_
          refine lv_iload hx hb dRows_setBits_21 (lv_at hl 4 rfl) ?_
          refine lv_lushr hx hb dRows_setBits_23 rfl ?_
          refine lv_topl (fun v11 ev11 => ?_)
          refine lv_lconst (v := 1) hx hb dRows_setBits_24 (by decide) ?_
          refine lv_land hx hb dRows_setBits_25 ?_
          refine lv_topl (fun v12 ev12 => ?_)
          refine lv_lconst (v := 1) hx hb dRows_setBits_26 (by decide) ?_
          refine W.lcmp hx hb dRows_setBits_27 ?_
          refine lv_topi (fun v13 ev13 => ?_)
          refine lv_if_ne (tgt := 35) hx hb dRows_setBits_28 (by decide) (fun c14 => ?_) (fun c14 => ?_)
          · refine lv_iconst (v := 2) hx hb dRows_setBits_35 (by decide) ?_
            exact J36 ls _ _ i1 i2 j3 i5 2 i5 i1 hI hS (by first | exact ⟨(mu_up (k := i5) (by assumption)).2, by assumption⟩ | exact ⟨by assumption, by assumption⟩) (lv_sub hl [0, 1, 2, 3, 4] rfl)
          · refine lv_iconst (v := 3) hx hb dRows_setBits_31 (by decide) ?_
            refine lv_goto (tgt := 36) hx hb dRows_setBits_32 (by decide) ?_
            exact J36 ls _ _ i1 i2 j3 i5 3 i5 i1 hI hS (by first | exact ⟨(mu_up (k := i5) (by assumption)).2, by assumption⟩ | exact ⟨by assumption, by assumption⟩) (lv_sub hl [0, 1, 2, 3, 4] rfl)
  refine lv_iconst (v := 0) hx hb dRows_setBits_0 (by decide) ?_
  refine lv_istore (lv' := [(5, .int 0), (0, .ref a), (1, .int x1), (2, .int x2), (3, .long x3)]) hx hb dRows_setBits_1 hl (by decide) rfl (fun ls hl => ?_)
  exact J3 _ ls _ _ x1 x2 x3 0 hI hS rfl (lv_sub hl [1, 2, 3, 4, 0] rfl)
theorem k5_Rows_setBits (l : Launch) (γ : gE) (A : Nat → Prop) (κ : Nat → Nat) (x1 : Int32) (x2 : Int32) (x3 : Int64)  : MU l yRows_setBits bRows_setBits 6 (none) 1 25 0 0 [.ref (γ.2.2.2 5), .int x1, .int x2, .long x3] γ A (INV γ A κ) (mQv (fun H => INV γ A κ H) A) :=
  mu_upv (κ := κ) (κ' := κ) 6 (by decide) (by decide) (fun _ _ _ _ => rfl) (fun Z => c_Rows_setBits l γ Z (γ.2.2.2 5) (κ 8) x1 x2 x3)
theorem k7_Rows_setBits (l : Launch) (γ : gE) (A : Nat → Prop) (κ : Nat → Nat) (x1 : Int32) (x2 : Int32) (x3 : Int64)  : MU l yRows_setBits bRows_setBits 6 (none) 1 25 0 0 [.ref (γ.2.2.2 7), .int x1, .int x2, .long x3] γ A (INV γ A κ) (mQv (fun H => INV γ A κ H) A) :=
  mu_upv (κ := κ) (κ' := κ) 8 (by decide) (by decide) (fun _ _ _ _ => rfl) (fun Z => c_Rows_setBits l γ Z (γ.2.2.2 7) (κ 9) x1 x2 x3)
theorem k10_Rows_setBits (l : Launch) (γ : gE) (A : Nat → Prop) (κ : Nat → Nat) (x1 : Int32) (x2 : Int32) (x3 : Int64)  : MU l yRows_setBits bRows_setBits 6 (none) 1 25 0 0 [.ref (γ.2.2.2 10), .int x1, .int x2, .long x3] γ A (INV γ A κ) (mQv (fun H => INV γ A κ H) A) :=
  mu_upv (κ := κ) (κ' := κ) 10 (by decide) (by decide) (fun _ _ _ _ => rfl) (fun Z => c_Rows_setBits l γ Z (γ.2.2.2 10) (κ 10) x1 x2 x3)
