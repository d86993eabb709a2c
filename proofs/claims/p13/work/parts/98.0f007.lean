def P_Meanings_objectAt (κ : Nat → Nat) (φ : gF) (ψ : gG) (x1 : Int32) : Int32 := (if (P_Names_sortOf (κ 2) (κ 3) (κ 12) (φ 3) (P_Names_find (κ 2) (κ 3) (κ 12) (φ 3) (P_Trees_valueOf (κ 0) (κ 1) (κ 11) (φ 2) x1))) = 2 then (P_Names_numberOf (κ 2) (κ 3) (κ 12) (φ 3) (P_Names_find (κ 2) (κ 3) (κ 12) (φ 3) (P_Trees_valueOf (κ 0) (κ 1) (κ 11) (φ 2) x1))) else (-1))
set_option maxHeartbeats 4000000 in
set_option maxRecDepth 100000 in
theorem f_Meanings_objectAt (l : Launch) (γ : gE) (A : Nat → Prop) (κ : Nat → Nat) (φ : gF) (ψ : gG) (x1 : Int32)  : PU l yMeanings_objectAt bMeanings_objectAt 3 (some .int) 2 44 [.ref (γ.2.2.2 12), .int x1] γ (INVF γ A κ φ ψ) (vp_Si (fun v : Int32 => (True) ∧ v = P_Meanings_objectAt κ φ ψ x1)) := by
  refine pu_openI (by decide) (Nat.le_of_ble_eq_true rfl) ?_
  intro p e s m args below meth c ls Q S hC hI hE hl
  obtain ⟨hx, hb, hml, hown, hW⟩ := id S
  have hG := hI
  have hI := inv_of hG
  have hl : lv_has ls 3 [(0, .ref (γ.2.2.2 12)), (1, .int x1)] := hl
  obtain ⟨OUT, hQ, hO⟩ : ∃ z, (z = P_Meanings_objectAt κ φ ψ x1) ∧ Oq z (P_Meanings_objectAt κ φ ψ x1) := ⟨_, rfl, rfl⟩
  rw [← hQ] at hE
  clear hQ
  refine lv_aload_n hx hb dMeanings_objectAt_0 rfl (lv_at hl 0 rfl) ?_
  refine of_get S hC (of_12_1 hI) in_Meanings rfl (by decide) qw_2a07109efc dMeanings_objectAt_1 ?_
  refine lv_aload_n hx hb dMeanings_objectAt_4 rfl (lv_at hl 0 rfl) ?_
  refine of_get S hC (of_12_0 hI) in_Meanings rfl (by decide) qw_c54cffb97e dMeanings_objectAt_5 ?_
  refine lv_iload_n hx hb dMeanings_objectAt_8 rfl (lv_at hl 1 rfl) ?_
  refine pu_Vi (rest := [.ref (γ.2.2.2 2)]) S hC (f1_Trees_valueOf l γ A κ φ ψ x1) meTrees_valueOf qw_b5139988c8 ⟨Nat.le_of_ble_eq_true rfl, Nat.le_of_ble_eq_true rfl⟩ (rv_1 hC hI) hG rfl hl.1 rfl (Nat.le_of_ble_eq_true rfl) dMeanings_objectAt_9 ⟨Nat.zero_le _, Nat.zero_le _⟩ (fun r6 hr6 => ?_)
  obtain ⟨hr6, er6⟩ := hr6
  refine pu_Vi (rest := []) S hC (f2_Names_find l γ A κ φ ψ r6) meNames_find qw_941b68ccbe ⟨Nat.le_of_ble_eq_true rfl, Nat.le_of_ble_eq_true rfl⟩ (rv_2 hC hI) hG rfl hl.1 rfl (Nat.le_of_ble_eq_true rfl) dMeanings_objectAt_12 ⟨Nat.zero_le _, Nat.zero_le _⟩ (fun r7 hr7 => ?_)
  obtain ⟨hr7, er7⟩ := hr7
  refine lv_istore_n (lv' := [(2, .int r7), (0, .ref (γ.2.2.2 12)), (1, .int x1)]) hx hb dMeanings_objectAt_15 rfl hl (by decide) rfl (fun ls hl => ?_)
  refine lv_aload_n hx hb dMeanings_objectAt_16 rfl (lv_at hl 1 rfl) ?_
  refine of_get S hC (of_12_1 hI) in_Meanings rfl (by decide) qw_2a07109efc dMeanings_objectAt_17 ?_
  refine lv_iload_n hx hb dMeanings_objectAt_20 rfl (lv_at hl 0 rfl) ?_
  refine pu_Vi (rest := []) S hC (f2_Names_sortOf l γ A κ φ ψ r7) meNames_sortOf qw_79c9b178a8 ⟨Nat.le_of_ble_eq_true rfl, Nat.le_of_ble_eq_true rfl⟩ (rv_2 hC hI) hG rfl hl.1 rfl (Nat.le_of_ble_eq_true rfl) dMeanings_objectAt_21 ⟨Nat.zero_le _, Nat.zero_le _⟩ (fun r8 hr8 => ?_)
  obtain ⟨hr8, er8⟩ := hr8
  refine lv_iconst (v := 2) hx hb dMeanings_objectAt_24 (by decide) ?_
  refine lv_icmp_ne (tgt := 39) hx hb dMeanings_objectAt_25 (by decide) (fun c9 => ?_) (fun c9 => ?_)
  · refine lv_iconst (v := (-1)) hx hb dMeanings_objectAt_39 (by decide) ?_
    exact hE _ _ _ ⟨trivial, (by subst er8 er7 er6; exact (hO.tr (if_neg c9)).symm)⟩ dMeanings_objectAt_40
  · refine lv_aload_n hx hb dMeanings_objectAt_28 rfl (lv_at hl 1 rfl) ?_
    refine of_get S hC (of_12_1 hI) in_Meanings rfl (by decide) qw_2a07109efc dMeanings_objectAt_29 ?_
    refine lv_iload_n hx hb dMeanings_objectAt_32 rfl (lv_at hl 0 rfl) ?_
    refine pu_Vi (rest := []) S hC (f2_Names_numberOf l γ A κ φ ψ r7) meNames_numberOf qw_f03e5d487b ⟨Nat.le_of_ble_eq_true rfl, Nat.le_of_ble_eq_true rfl⟩ (rv_2 hC hI) hG rfl hl.1 rfl (Nat.le_of_ble_eq_true rfl) dMeanings_objectAt_33 ⟨Nat.zero_le _, Nat.zero_le _⟩ (fun r10 hr10 => ?_)
    obtain ⟨hr10, er10⟩ := hr10
    refine lv_goto (tgt := 40) hx hb dMeanings_objectAt_36 (by decide) ?_
    exact hE _ _ _ ⟨trivial, (by subst er10 er8 er7 er6; exact (hO.tr (if_pos c9)).symm)⟩ dMeanings_objectAt_40

def P_Meanings_isUnknown (κ : Nat → Nat) (φ : gF) (ψ : gG) (x1 : Int32) : Int32 := (if (P_Names_find (κ 2) (κ 3) (κ 12) (φ 3) (P_Trees_valueOf (κ 0) (κ 1) (κ 11) (φ 2) x1)) = (-1) then 1 else 0)
set_option maxHeartbeats 4000000 in
set_option maxRecDepth 100000 in
theorem f_Meanings_isUnknown (l : Launch) (γ : gE) (A : Nat → Prop) (κ : Nat → Nat) (φ : gF) (ψ : gG) (x1 : Int32)  : PU l yMeanings_isUnknown bMeanings_isUnknown 2 (some .boolean) 2 44 [.ref (γ.2.2.2 12), .int x1] γ (INVF γ A κ φ ψ) (vp_Si (fun v : Int32 => (True) ∧ v = P_Meanings_isUnknown κ φ ψ x1)) := by
  refine pu_openZ (by decide) (Nat.le_of_ble_eq_true rfl) ?_
  intro p e s m args below meth c ls Q S hC hI hE hl
  obtain ⟨hx, hb, hml, hown, hW⟩ := id S
  have hG := hI
  have hI := inv_of hG
  have hl : lv_has ls 2 [(0, .ref (γ.2.2.2 12)), (1, .int x1)] := hl
  obtain ⟨OUT, hQ, hO⟩ : ∃ z, (z = P_Meanings_isUnknown κ φ ψ x1) ∧ Oq z (P_Meanings_isUnknown κ φ ψ x1) := ⟨_, rfl, rfl⟩
  rw [← hQ] at hE
  clear hQ
  refine lv_aload_n hx hb dMeanings_isUnknown_0 rfl (lv_at hl 0 rfl) ?_
  refine of_get S hC (of_12_1 hI) in_Meanings rfl (by decide) qw_2a07109efc dMeanings_isUnknown_1 ?_
  refine lv_aload_n hx hb dMeanings_isUnknown_4 rfl (lv_at hl 0 rfl) ?_
  refine of_get S hC (of_12_0 hI) in_Meanings rfl (by decide) qw_c54cffb97e dMeanings_isUnknown_5 ?_
  refine lv_iload_n hx hb dMeanings_isUnknown_8 rfl (lv_at hl 1 rfl) ?_
  refine pu_Vi (rest := [.ref (γ.2.2.2 2)]) S hC (f1_Trees_valueOf l γ A κ φ ψ x1) meTrees_valueOf qw_b5139988c8 ⟨Nat.le_of_ble_eq_true rfl, Nat.le_of_ble_eq_true rfl⟩ (rv_1 hC hI) hG rfl hl.1 rfl (Nat.le_of_ble_eq_true rfl) dMeanings_isUnknown_9 ⟨Nat.zero_le _, Nat.zero_le _⟩ (fun r4 hr4 => ?_)
  obtain ⟨hr4, er4⟩ := hr4
  refine pu_Vi (rest := []) S hC (f2_Names_find l γ A κ φ ψ r4) meNames_find qw_941b68ccbe ⟨Nat.le_of_ble_eq_true rfl, Nat.le_of_ble_eq_true rfl⟩ (rv_2 hC hI) hG rfl hl.1 rfl (Nat.le_of_ble_eq_true rfl) dMeanings_isUnknown_12 ⟨Nat.zero_le _, Nat.zero_le _⟩ (fun r5 hr5 => ?_)
  obtain ⟨hr5, er5⟩ := hr5
  refine lv_iconst (v := (-1)) hx hb dMeanings_isUnknown_15 (by decide) ?_
  refine lv_icmp_ne (tgt := 23) hx hb dMeanings_isUnknown_16 (by decide) (fun c6 => ?_) (fun c6 => ?_)
  · refine lv_iconst (v := 0) hx hb dMeanings_isUnknown_23 (by decide) ?_
    exact hE _ _ _ rfl ⟨trivial, (by subst er5 er4; exact (hO.tr (if_neg c6)).symm)⟩ dMeanings_isUnknown_24
  · refine lv_iconst (v := 1) hx hb dMeanings_isUnknown_19 (by decide) ?_
    refine lv_goto (tgt := 24) hx hb dMeanings_isUnknown_20 (by decide) ?_
    exact hE _ _ _ rfl ⟨trivial, (by subst er5 er4; exact (hO.tr (if_pos c6)).symm)⟩ dMeanings_isUnknown_24

def P_Meanings_boundOf (κ : Nat → Nat) (φ : gF) (ψ : gG) (x1 : Int32) (x2 : Int32) : Int32 := (if x1 = 19 then (P_Types_leftOf (κ 4) (κ 13) (φ 4) x2) else (if x1 = 20 then (P_Types_rightOf (κ 4) (κ 13) (φ 4) x2) else (if x1 = 21 then (if (P_Types_leftOf (κ 4) (κ 13) (φ 4) x2) < (P_Types_rightOf (κ 4) (κ 13) (φ 4) x2) then (P_Types_rightOf (κ 4) (κ 13) (φ 4) x2) else (P_Types_leftOf (κ 4) (κ 13) (φ 4) x2)) else (if x1 = 22 then (if (P_Types_rightOf (κ 4) (κ 13) (φ 4) x2) < (P_Types_leftOf (κ 4) (κ 13) (φ 4) x2) then (P_Types_rightOf (κ 4) (κ 13) (φ 4) x2) else (P_Types_leftOf (κ 4) (κ 13) (φ 4) x2)) else (P_Types_countOf (κ 4) (κ 13) (φ 4) x2)))))
set_option maxHeartbeats 4000000 in
set_option maxRecDepth 100000 in
theorem f_Meanings_boundOf (l : Launch) (γ : gE) (A : Nat → Prop) (κ : Nat → Nat) (φ : gF) (ψ : gG) (x1 : Int32) (x2 : Int32)  : PU l yMeanings_boundOf bMeanings_boundOf 5 (some .int) 2 42 [.ref (γ.2.2.2 12), .int x1, .int x2] γ (INVF γ A κ φ ψ) (vp_Si (fun v : Int32 => (True) ∧ v = P_Meanings_boundOf κ φ ψ x1 x2)) := by
  refine pu_openI (by decide) (Nat.le_of_ble_eq_true rfl) ?_
  intro p e s m args below meth c ls Q S hC hI hE hl
  obtain ⟨hx, hb, hml, hown, hW⟩ := id S
  have hG := hI
  have hI := inv_of hG
  have hl : lv_has ls 5 [(0, .ref (γ.2.2.2 12)), (1, .int x1), (2, .int x2)] := hl
  obtain ⟨OUT, hQ, hO⟩ : ∃ z, (z = P_Meanings_boundOf κ φ ψ x1 x2) ∧ Oq z (P_Meanings_boundOf κ φ ψ x1 x2) := ⟨_, rfl, rfl⟩
  rw [← hQ] at hE
  clear hQ
  refine lv_aload_n hx hb dMeanings_boundOf_0 rfl (lv_at hl 0 rfl) ?_
  refine of_get S hC (of_12_2 hI) in_Meanings rfl (by decide) qw_e2a2dba4a9 dMeanings_boundOf_1 ?_
  refine lv_iload_n hx hb dMeanings_boundOf_4 rfl (lv_at hl 2 rfl) ?_
  refine pu_Vi (rest := []) S hC (f3_Types_leftOf l γ A κ φ ψ x2) meTypes_leftOf qw_33e16e4dc6 ⟨Nat.le_of_ble_eq_true rfl, Nat.le_of_ble_eq_true rfl⟩ (rv_3 hC hI) hG rfl hl.1 rfl (Nat.le_of_ble_eq_true rfl) dMeanings_boundOf_5 ⟨Nat.zero_le _, Nat.zero_le _⟩ (fun r10 hr10 => ?_)
  obtain ⟨hr10, er10⟩ := hr10
  refine lv_istore_n (lv' := [(3, .int r10), (0, .ref (γ.2.2.2 12)), (1, .int x1), (2, .int x2)]) hx hb dMeanings_boundOf_8 rfl hl (by decide) rfl (fun ls hl => ?_)
  refine lv_aload_n hx hb dMeanings_boundOf_9 rfl (lv_at hl 1 rfl) ?_
  refine of_get S hC (of_12_2 hI) in_Meanings rfl (by decide) qw_e2a2dba4a9 dMeanings_boundOf_10 ?_
  refine lv_iload_n hx hb dMeanings_boundOf_13 rfl (lv_at hl 3 rfl) ?_
  refine pu_Vi (rest := []) S hC (f3_Types_rightOf l γ A κ φ ψ x2) meTypes_rightOf qw_8bca252105 ⟨Nat.le_of_ble_eq_true rfl, Nat.le_of_ble_eq_true rfl⟩ (rv_3 hC hI) hG rfl hl.1 rfl (Nat.le_of_ble_eq_true rfl) dMeanings_boundOf_14 ⟨Nat.zero_le _, Nat.zero_le _⟩ (fun r11 hr11 => ?_)
  obtain ⟨hr11, er11⟩ := hr11
  refine lv_istore (lv' := [(4, .int r11), (3, .int r10), (0, .ref (γ.2.2.2 12)), (1, .int x1), (2, .int x2)]) hx hb dMeanings_boundOf_17 hl (by decide) rfl (fun ls hl => ?_)
  refine lv_iload_n hx hb dMeanings_boundOf_19 rfl (lv_at hl 3 rfl) ?_
  by_cases k12 : x1 = 19
  · rw [k12]
    refine lv_tableIn (tgt := 52) hx hb dMeanings_boundOf_20 (by decide) (by decide) rfl (by decide) ?_
    refine lv_iload_n hx hb dMeanings_boundOf_52 rfl (lv_at hl 1 rfl) ?_
    exact hE _ _ _ ⟨trivial, (by subst er11 er10; exact (hO.tr (if_pos k12)).symm)⟩ dMeanings_boundOf_53
  by_cases k13 : x1 = 20
  · rw [k13]
    refine lv_tableIn (tgt := 54) hx hb dMeanings_boundOf_20 (by decide) (by decide) rfl (by decide) ?_
    refine lv_iload hx hb dMeanings_boundOf_54 (lv_at hl 0 rfl) ?_
    exact hE _ _ _ ⟨trivial, (by subst er11 er10; exact (hO.tr ((if_neg k12).trans (if_pos k13))).symm)⟩ dMeanings_boundOf_56
  by_cases k14 : x1 = 21
  · rw [k14]
    refine lv_tableIn (tgt := 57) hx hb dMeanings_boundOf_20 (by decide) (by decide) rfl (by decide) ?_
    refine lv_iload_n hx hb dMeanings_boundOf_57 rfl (lv_at hl 1 rfl) ?_
    refine lv_iload hx hb dMeanings_boundOf_58 (lv_at hl 0 rfl) ?_
    refine va_mmax (rest := []) hx hb (hml.trans hl.1.symm) hown (hW _ qw_432ed99f40) (hW _ qw_7cc87a9f9b) (hW _ qw_0001fcaade) (hW _ qw_6b973c1ba4) (Nat.le_of_ble_eq_true rfl) (Nat.le_of_ble_eq_true rfl) (Nat.zero_le _) (Nat.zero_le _) dMeanings_boundOf_60 ?_
    refine lv_topi (fun v15 ev15 => ?_)
    exact hE _ _ _ ⟨trivial, (by subst ev15 er11 er10; exact (hO.tr ((if_neg k12).trans ((if_neg k13).trans (if_pos k14)))).symm)⟩ dMeanings_boundOf_63
  by_cases k16 : x1 = 22
  · rw [k16]
    refine lv_tableIn (tgt := 64) hx hb dMeanings_boundOf_20 (by decide) (by decide) rfl (by decide) ?_
    refine lv_iload_n hx hb dMeanings_boundOf_64 rfl (lv_at hl 1 rfl) ?_
    refine lv_iload hx hb dMeanings_boundOf_65 (lv_at hl 0 rfl) ?_
    refine va_mmin (rest := []) hx hb (hml.trans hl.1.symm) hown (hW _ qw_883a959cdb) (hW _ qw_1a05fe5770) (hW _ qw_0001fcaade) (hW _ qw_5e99ca5e66) (Nat.le_of_ble_eq_true rfl) (Nat.le_of_ble_eq_true rfl) (Nat.zero_le _) (Nat.zero_le _) dMeanings_boundOf_67 ?_
    refine lv_topi (fun v17 ev17 => ?_)
    exact hE _ _ _ ⟨trivial, (by subst ev17 er11 er10; exact (hO.tr ((if_neg k12).trans ((if_neg k13).trans ((if_neg k14).trans (if_pos k16))))).symm)⟩ dMeanings_boundOf_70
  refine lv_tableOut (tgt := 71) hx hb dMeanings_boundOf_20 (by have qk12 := lv_neT (a := 19) k12 (by decide); have qk13 := lv_neT (a := 20) k13 (by decide); have qk14 := lv_neT (a := 21) k14 (by decide); have qk16 := lv_neT (a := 22) k16 (by decide); omega) (by decide) ?_
  refine lv_aload_n hx hb dMeanings_boundOf_71 rfl (lv_at hl 2 rfl) ?_
  refine of_get S hC (of_12_2 hI) in_Meanings rfl (by decide) qw_e2a2dba4a9 dMeanings_boundOf_72 ?_
  refine lv_iload_n hx hb dMeanings_boundOf_75 rfl (lv_at hl 4 rfl) ?_
  refine pu_Vi (rest := []) S hC (f3_Types_countOf l γ A κ φ ψ x2) meTypes_countOf qw_fae60a97b0 ⟨Nat.le_of_ble_eq_true rfl, Nat.le_of_ble_eq_true rfl⟩ (rv_3 hC hI) hG rfl hl.1 rfl (Nat.le_of_ble_eq_true rfl) dMeanings_boundOf_76 ⟨Nat.zero_le _, Nat.zero_le _⟩ (fun r18 hr18 => ?_)
  obtain ⟨hr18, er18⟩ := hr18
  exact hE _ _ _ ⟨trivial, (by subst er18 er11 er10; exact (hO.tr ((if_neg k12).trans ((if_neg k13).trans ((if_neg k14).trans (if_neg k16))))).symm)⟩ dMeanings_boundOf_79

def P_Operators_areOfOneClass_45 (κ : Nat → Nat) (φ : gF) (ψ : gG) (i1 : Int32) (i2 : Int32) (i3 : Int32) : Int32 := 1
def P_Operators_areOfOneClass (κ : Nat → Nat) (φ : gF) (ψ : gG) (x1 : Int32) (x2 : Int32) : Int32 := (if (P_Looks_classOf (κ 7) (φ 9) x1) = (P_Looks_classOf (κ 7) (φ 9) x2) then (if (P_Looks_classOf (κ 7) (φ 9) x1) = 4 then (if (P_Looks_extentOf (κ 7) (φ 9) x1) = (P_Looks_extentOf (κ 7) (φ 9) x2) then (P_Operators_areOfOneClass_45 κ φ ψ  x1 x2 (P_Looks_classOf (κ 7) (φ 9) x1)) else 0) else (P_Operators_areOfOneClass_45 κ φ ψ  x1 x2 (P_Looks_classOf (κ 7) (φ 9) x1))) else 0)
set_option maxHeartbeats 4000000 in
set_option maxRecDepth 100000 in
theorem f_Operators_areOfOneClass (l : Launch) (γ : gE) (A : Nat → Prop) (κ : Nat → Nat) (φ : gF) (ψ : gG) (x1 : Int32) (x2 : Int32)  : PU l yOperators_areOfOneClass bOperators_areOfOneClass 4 (some .boolean) 2 42 [.ref (γ.2.2.2 11), .int x1, .int x2] γ (INVF γ A κ φ ψ) (vp_Si (fun v : Int32 => (True) ∧ v = P_Operators_areOfOneClass κ φ ψ x1 x2)) := by
  refine pu_openZ (by decide) (Nat.le_of_ble_eq_true rfl) ?_
  intro p e s m args below meth c ls Q S hC hI hE hl
  obtain ⟨hx, hb, hml, hown, hW⟩ := id S
  have hG := hI
  have hI := inv_of hG
  have hl : lv_has ls 4 [(0, .ref (γ.2.2.2 11)), (1, .int x1), (2, .int x2)] := hl
  obtain ⟨OUT, hQ, hO⟩ : ∃ z, (z = P_Operators_areOfOneClass κ φ ψ x1 x2) ∧ Oq z (P_Operators_areOfOneClass κ φ ψ x1 x2) := ⟨_, rfl, rfl⟩
  rw [← hQ] at hE
  clear hQ
  have J45 : ∀ (ls : Array Slot)  (i1 : Int32) (i2 : Int32) (i3 : Int32), (Oq OUT (P_Operators_areOfOneClass_45 κ φ ψ   i1 i2 i3)) → lv_has ls 4 [(0, .ref (γ.2.2.2 11)), (1, .int i1), (2, .int i2), (3, .int i3)] → W p l e (bs_rm 2 0 0 42) s m args below meth c s.heap [] 0 0 Q (F0 m 45 ls []) := by
    intro ls  i1 i2 i3 hO hl
    refine lv_iconst (v := 1) hx hb dOperators_areOfOneClass_45 (by decide) ?_
    refine lv_goto (tgt := 50) hx hb dOperators_areOfOneClass_46 (by decide) ?_
    exact hE _ _ _ rfl ⟨trivial, (by exact (hO.tr rfl).symm)⟩ dOperators_areOfOneClass_50
  refine lv_aload_n hx hb dOperators_areOfOneClass_0 rfl (lv_at hl 0 rfl) ?_
  refine of_get S hC (of_11_0 hI) in_Operators rfl (by decide) qw_46160f6e07 dOperators_areOfOneClass_1 ?_
  refine lv_iload_n hx hb dOperators_areOfOneClass_4 rfl (lv_at hl 1 rfl) ?_
  refine pu_Vi (rest := []) S hC (f9_Looks_classOf l γ A κ φ ψ x1) meLooks_classOf qw_2e1b0e0eff ⟨Nat.le_of_ble_eq_true rfl, Nat.le_of_ble_eq_true rfl⟩ (rv_9 hC hI) hG rfl hl.1 rfl (Nat.le_of_ble_eq_true rfl) dOperators_areOfOneClass_5 ⟨Nat.zero_le _, Nat.zero_le _⟩ (fun r8 hr8 => ?_)
  obtain ⟨hr8, er8⟩ := hr8
  refine lv_istore_n (lv' := [(3, .int r8), (0, .ref (γ.2.2.2 11)), (1, .int x1), (2, .int x2)]) hx hb dOperators_areOfOneClass_8 rfl hl (by decide) rfl (fun ls hl => ?_)
  refine lv_iload_n hx hb dOperators_areOfOneClass_9 rfl (lv_at hl 0 rfl) ?_
  refine lv_aload_n hx hb dOperators_areOfOneClass_10 rfl (lv_at hl 1 rfl) ?_
  refine of_get S hC (of_11_0 hI) in_Operators rfl (by decide) qw_46160f6e07 dOperators_areOfOneClass_11 ?_
  refine lv_iload_n hx hb dOperators_areOfOneClass_14 rfl (lv_at hl 3 rfl) ?_
  refine pu_Vi (rest := [.int r8]) S hC (f9_Looks_classOf l γ A κ φ ψ x2) meLooks_classOf qw_2e1b0e0eff ⟨Nat.le_of_ble_eq_true rfl, Nat.le_of_ble_eq_true rfl⟩ (rv_9 hC hI) hG rfl hl.1 rfl (Nat.le_of_ble_eq_true rfl) dOperators_areOfOneClass_15 ⟨Nat.zero_le _, Nat.zero_le _⟩ (fun r9 hr9 => ?_)
  obtain ⟨hr9, er9⟩ := hr9
  refine lv_icmp_ne (tgt := 49) hx hb dOperators_areOfOneClass_18 (by decide) (fun c10 => ?_) (fun c10 => ?_)
  · refine lv_iconst (v := 0) hx hb dOperators_areOfOneClass_49 (by decide) ?_
    exact hE _ _ _ rfl ⟨trivial, (by subst er9 er8; exact (hO.tr (if_neg c10)).symm)⟩ dOperators_areOfOneClass_50
  · refine lv_iload_n hx hb dOperators_areOfOneClass_21 rfl (lv_at hl 0 rfl) ?_
    refine lv_iconst (v := 4) hx hb dOperators_areOfOneClass_22 (by decide) ?_
    refine lv_icmp_ne (tgt := 45) hx hb dOperators_areOfOneClass_23 (by decide) (fun c11 => ?_) (fun c11 => ?_)
    · exact J45 ls x1 x2 r8 (by subst er9 er8; exact hO.tr ((if_pos c10).trans (if_neg c11))) (lv_sub hl [1, 2, 3, 0] rfl)
    · refine lv_aload_n hx hb dOperators_areOfOneClass_26 rfl (lv_at hl 1 rfl) ?_
      refine of_get S hC (of_11_0 hI) in_Operators rfl (by decide) qw_46160f6e07 dOperators_areOfOneClass_27 ?_
      refine lv_iload_n hx hb dOperators_areOfOneClass_30 rfl (lv_at hl 2 rfl) ?_
      refine pu_Vi (rest := []) S hC (f9_Looks_extentOf l γ A κ φ ψ x1) meLooks_extentOf qw_b0051a6c7a ⟨Nat.le_of_ble_eq_true rfl, Nat.le_of_ble_eq_true rfl⟩ (rv_9 hC hI) hG rfl hl.1 rfl (Nat.le_of_ble_eq_true rfl) dOperators_areOfOneClass_31 ⟨Nat.zero_le _, Nat.zero_le _⟩ (fun r12 hr12 => ?_)
      obtain ⟨hr12, er12⟩ := hr12
      refine lv_aload_n hx hb dOperators_areOfOneClass_34 rfl (lv_at hl 1 rfl) ?_
      refine of_get S hC (of_11_0 hI) in_Operators rfl (by decide) qw_46160f6e07 dOperators_areOfOneClass_35 ?_
      refine lv_iload_n hx hb dOperators_areOfOneClass_38 rfl (lv_at hl 3 rfl) ?_
      refine pu_Vi (rest := [.int r12]) S hC (f9_Looks_extentOf l γ A κ φ ψ x2) meLooks_extentOf qw_b0051a6c7a ⟨Nat.le_of_ble_eq_true rfl, Nat.le_of_ble_eq_true rfl⟩ (rv_9 hC hI) hG rfl hl.1 rfl (Nat.le_of_ble_eq_true rfl) dOperators_areOfOneClass_39 ⟨Nat.zero_le _, Nat.zero_le _⟩ (fun r13 hr13 => ?_)
      obtain ⟨hr13, er13⟩ := hr13
      refine lv_icmp_ne (tgt := 49) hx hb dOperators_areOfOneClass_42 (by decide) (fun c14 => ?_) (fun c14 => ?_)
      · refine lv_iconst (v := 0) hx hb dOperators_areOfOneClass_49 (by decide) ?_
        exact hE _ _ _ rfl ⟨trivial, (by subst er13 er12 er9 er8; exact (hO.tr ((if_pos c10).trans ((if_pos c11).trans (if_neg c14)))).symm)⟩ dOperators_areOfOneClass_50
      · exact J45 ls x1 x2 r8 (by subst er13 er12 er9 er8; exact hO.tr ((if_pos c10).trans ((if_pos c11).trans (if_pos c14)))) (lv_sub hl [1, 2, 3, 0] rfl)

def P_Operators_widthOf (κ : Nat → Nat) (φ : gF) (ψ : gG) (x1 : Int32) : Int32 := (if (P_Looks_classOf (κ 7) (φ 9) x1) = 3 then (P_Looks_extentOf (κ 7) (φ 9) x1) else 1)
set_option maxHeartbeats 4000000 in
set_option maxRecDepth 100000 in
theorem f_Operators_widthOf (l : Launch) (γ : gE) (A : Nat → Prop) (κ : Nat → Nat) (φ : gF) (ψ : gG) (x1 : Int32)  : PU l yOperators_widthOf bOperators_widthOf 2 (some .int) 2 42 [.ref (γ.2.2.2 11), .int x1] γ (INVF γ A κ φ ψ) (vp_Si (fun v : Int32 => (True) ∧ v = P_Operators_widthOf κ φ ψ x1)) := by
  refine pu_openI (by decide) (Nat.le_of_ble_eq_true rfl) ?_
  intro p e s m args below meth c ls Q S hC hI hE hl
  obtain ⟨hx, hb, hml, hown, hW⟩ := id S
  have hG := hI
  have hI := inv_of hG
  have hl : lv_has ls 2 [(0, .ref (γ.2.2.2 11)), (1, .int x1)] := hl
  obtain ⟨OUT, hQ, hO⟩ : ∃ z, (z = P_Operators_widthOf κ φ ψ x1) ∧ Oq z (P_Operators_widthOf κ φ ψ x1) := ⟨_, rfl, rfl⟩
  rw [← hQ] at hE
  clear hQ
  refine lv_aload_n hx hb dOperators_widthOf_0 rfl (lv_at hl 0 rfl) ?_
  refine of_get S hC (of_11_0 hI) in_Operators rfl (by decide) qw_46160f6e07 dOperators_widthOf_1 ?_
  refine lv_iload_n hx hb dOperators_widthOf_4 rfl (lv_at hl 1 rfl) ?_
  refine pu_Vi (rest := []) S hC (f9_Looks_classOf l γ A κ φ ψ x1) meLooks_classOf qw_2e1b0e0eff ⟨Nat.le_of_ble_eq_true rfl, Nat.le_of_ble_eq_true rfl⟩ (rv_9 hC hI) hG rfl hl.1 rfl (Nat.le_of_ble_eq_true rfl) dOperators_widthOf_5 ⟨Nat.zero_le _, Nat.zero_le _⟩ (fun r4 hr4 => ?_)
  obtain ⟨hr4, er4⟩ := hr4
  refine lv_iconst (v := 3) hx hb dOperators_widthOf_8 (by decide) ?_
  refine lv_icmp_ne (tgt := 23) hx hb dOperators_widthOf_9 (by decide) (fun c5 => ?_) (fun c5 => ?_)
  · refine lv_iconst (v := 1) hx hb dOperators_widthOf_23 (by decide) ?_
    exact hE _ _ _ ⟨trivial, (by subst er4; exact (hO.tr (if_neg c5)).symm)⟩ dOperators_widthOf_24
  · refine lv_aload_n hx hb dOperators_widthOf_12 rfl (lv_at hl 0 rfl) ?_
    refine of_get S hC (of_11_0 hI) in_Operators rfl (by decide) qw_46160f6e07 dOperators_widthOf_13 ?_
    refine lv_iload_n hx hb dOperators_widthOf_16 rfl (lv_at hl 1 rfl) ?_
    refine pu_Vi (rest := []) S hC (f9_Looks_extentOf l γ A κ φ ψ x1) meLooks_extentOf qw_b0051a6c7a ⟨Nat.le_of_ble_eq_true rfl, Nat.le_of_ble_eq_true rfl⟩ (rv_9 hC hI) hG rfl hl.1 rfl (Nat.le_of_ble_eq_true rfl) dOperators_widthOf_17 ⟨Nat.zero_le _, Nat.zero_le _⟩ (fun r6 hr6 => ?_)
    obtain ⟨hr6, er6⟩ := hr6
    refine lv_goto (tgt := 24) hx hb dOperators_widthOf_20 (by decide) ?_
    exact hE _ _ _ ⟨trivial, (by subst er6 er4; exact (hO.tr (if_pos c5)).symm)⟩ dOperators_widthOf_24

def P_Operators_resultLength (κ : Nat → Nat) (φ : gF) (ψ : gG) (x1 : Int32) (x2 : Int32) (x3 : Int32) : Int32 := (if x1 = 14 then ((P_Operators_widthOf κ φ ψ x2) + (P_Operators_widthOf κ φ ψ x3)) else (if (P_Looks_classOf (κ 7) (φ 9) x2) = 3 then (P_Looks_extentOf (κ 7) (φ 9) x2) else (P_Looks_extentOf (κ 7) (φ 9) x3)))
set_option maxHeartbeats 4000000 in
set_option maxRecDepth 100000 in
theorem f_Operators_resultLength (l : Launch) (γ : gE) (A : Nat → Prop) (κ : Nat → Nat) (φ : gF) (ψ : gG) (x1 : Int32) (x2 : Int32) (x3 : Int32)  : PU l yOperators_resultLength bOperators_resultLength 4 (some .int) 3 63 [.ref (γ.2.2.2 11), .int x1, .int x2, .int x3] γ (INVF γ A κ φ ψ) (vp_Si (fun v : Int32 => (True) ∧ v = P_Operators_resultLength κ φ ψ x1 x2 x3)) := by
  refine pu_openI (by decide) (Nat.le_of_ble_eq_true rfl) ?_
  intro p e s m args below meth c ls Q S hC hI hE hl
  obtain ⟨hx, hb, hml, hown, hW⟩ := id S
  have hG := hI
  have hI := inv_of hG
  have hl : lv_has ls 4 [(0, .ref (γ.2.2.2 11)), (1, .int x1), (2, .int x2), (3, .int x3)] := hl
  obtain ⟨OUT, hQ, hO⟩ : ∃ z, (z = P_Operators_resultLength κ φ ψ x1 x2 x3) ∧ Oq z (P_Operators_resultLength κ φ ψ x1 x2 x3) := ⟨_, rfl, rfl⟩
  rw [← hQ] at hE
  clear hQ
  refine lv_iload_n hx hb dOperators_resultLength_0 rfl (lv_at hl 1 rfl) ?_
  refine lv_bipush (v := 14) hx hb dOperators_resultLength_1 (by decide) ?_
  refine lv_icmp_ne (tgt := 18) hx hb dOperators_resultLength_3 (by decide) (fun c9 => ?_) (fun c9 => ?_)
  · refine lv_aload_n hx hb dOperators_resultLength_18 rfl (lv_at hl 0 rfl) ?_
    refine of_get S hC (of_11_0 hI) in_Operators rfl (by decide) qw_46160f6e07 dOperators_resultLength_19 ?_
    refine lv_iload_n hx hb dOperators_resultLength_22 rfl (lv_at hl 2 rfl) ?_
    refine pu_Vi (rest := []) S hC (f9_Looks_classOf l γ A κ φ ψ x2) meLooks_classOf qw_2e1b0e0eff ⟨Nat.le_of_ble_eq_true rfl, Nat.le_of_ble_eq_true rfl⟩ (rv_9 hC hI) hG rfl hl.1 rfl (Nat.le_of_ble_eq_true rfl) dOperators_resultLength_23 ⟨Nat.zero_le _, Nat.zero_le _⟩ (fun r10 hr10 => ?_)
    obtain ⟨hr10, er10⟩ := hr10
    refine lv_iconst (v := 3) hx hb dOperators_resultLength_26 (by decide) ?_
    refine lv_icmp_ne (tgt := 41) hx hb dOperators_resultLength_27 (by decide) (fun c11 => ?_) (fun c11 => ?_)
    · refine lv_aload_n hx hb dOperators_resultLength_41 rfl (lv_at hl 0 rfl) ?_
      refine of_get S hC (of_11_0 hI) in_Operators rfl (by decide) qw_46160f6e07 dOperators_resultLength_42 ?_
      refine lv_iload_n hx hb dOperators_resultLength_45 rfl (lv_at hl 3 rfl) ?_
      refine pu_Vi (rest := []) S hC (f9_Looks_extentOf l γ A κ φ ψ x3) meLooks_extentOf qw_b0051a6c7a ⟨Nat.le_of_ble_eq_true rfl, Nat.le_of_ble_eq_true rfl⟩ (rv_9 hC hI) hG rfl hl.1 rfl (Nat.le_of_ble_eq_true rfl) dOperators_resultLength_46 ⟨Nat.zero_le _, Nat.zero_le _⟩ (fun r12 hr12 => ?_)
      obtain ⟨hr12, er12⟩ := hr12
      exact hE _ _ _ ⟨trivial, (by subst er12 er10; exact (hO.tr ((if_neg c9).trans (if_neg c11))).symm)⟩ dOperators_resultLength_49
    · refine lv_aload_n hx hb dOperators_resultLength_30 rfl (lv_at hl 0 rfl) ?_
      refine of_get S hC (of_11_0 hI) in_Operators rfl (by decide) qw_46160f6e07 dOperators_resultLength_31 ?_
      refine lv_iload_n hx hb dOperators_resultLength_34 rfl (lv_at hl 2 rfl) ?_
      refine pu_Vi (rest := []) S hC (f9_Looks_extentOf l γ A κ φ ψ x2) meLooks_extentOf qw_b0051a6c7a ⟨Nat.le_of_ble_eq_true rfl, Nat.le_of_ble_eq_true rfl⟩ (rv_9 hC hI) hG rfl hl.1 rfl (Nat.le_of_ble_eq_true rfl) dOperators_resultLength_35 ⟨Nat.zero_le _, Nat.zero_le _⟩ (fun r13 hr13 => ?_)
      obtain ⟨hr13, er13⟩ := hr13
      refine lv_goto (tgt := 49) hx hb dOperators_resultLength_38 (by decide) ?_
      exact hE _ _ _ ⟨trivial, (by subst er13 er10; exact (hO.tr ((if_neg c9).trans (if_pos c11))).symm)⟩ dOperators_resultLength_49
  · refine lv_aload_n hx hb dOperators_resultLength_6 rfl (lv_at hl 0 rfl) ?_
    refine lv_iload_n hx hb dOperators_resultLength_7 rfl (lv_at hl 2 rfl) ?_
    refine pu_Vi (rest := []) S hC (f_Operators_widthOf l γ A κ φ ψ x2) meOperators_widthOf qw_c3b3c98375 ⟨Nat.le_of_ble_eq_true rfl, Nat.le_of_ble_eq_true rfl⟩ (rv_11 hC hI) hG rfl hl.1 rfl (Nat.le_of_ble_eq_true rfl) dOperators_resultLength_8 ⟨Nat.zero_le _, Nat.zero_le _⟩ (fun r14 hr14 => ?_)
    obtain ⟨hr14, er14⟩ := hr14
    refine lv_aload_n hx hb dOperators_resultLength_11 rfl (lv_at hl 0 rfl) ?_
    refine lv_iload_n hx hb dOperators_resultLength_12 rfl (lv_at hl 3 rfl) ?_
    refine pu_Vi (rest := [.int r14]) S hC (f_Operators_widthOf l γ A κ φ ψ x3) meOperators_widthOf qw_c3b3c98375 ⟨Nat.le_of_ble_eq_true rfl, Nat.le_of_ble_eq_true rfl⟩ (rv_11 hC hI) hG rfl hl.1 rfl (Nat.le_of_ble_eq_true rfl) dOperators_resultLength_13 ⟨Nat.zero_le _, Nat.zero_le _⟩ (fun r15 hr15 => ?_)
    obtain ⟨hr15, er15⟩ := hr15
    refine lv_iadd hx hb dOperators_resultLength_16 ?_
    refine lv_topi (fun v16 ev16 => ?_)
    exact hE _ _ _ ⟨trivial, (by subst ev16 er15 er14; exact (hO.tr (if_pos c9)).symm)⟩ dOperators_resultLength_17

def P_Operators_resultClass_213 (κ : Nat → Nat) (φ : gF) (ψ : gG) (i1 : Int32) (i2 : Int32) (i3 : Int32) (i4 : Int32) (i5 : Int32) (i6 : Int32) : Int32 := 3
def P_Operators_resultClass_202 (κ : Nat → Nat) (φ : gF) (ψ : gG) (i1 : Int32) (i2 : Int32) (i3 : Int32) (i4 : Int32) (i5 : Int32) (i6 : Int32) : Int32 := (if i5 = 3 then (P_Operators_resultClass_213 κ φ ψ  i1 i2 i3 i4 i5 i6) else (if i5 = 0 then (P_Operators_resultClass_213 κ φ ψ  i1 i2 i3 i4 i5 i6) else (-1)))
def P_Operators_resultClass_163 (κ : Nat → Nat) (φ : gF) (ψ : gG) (i1 : Int32) (i2 : Int32) (i3 : Int32) (i4 : Int32) (i5 : Int32) (i6 : Int32) (t0 : Int32) : Int32 := (if i6 = 0 then (if t0 = 0 then (-1) else 3) else 2)
def P_Operators_resultClass_158 (κ : Nat → Nat) (φ : gF) (ψ : gG) (i1 : Int32) (i2 : Int32) (i3 : Int32) (i4 : Int32) (i5 : Int32) (i6 : Int32) : Int32 := (P_Operators_resultClass_163 κ φ ψ  i1 i2 i3 i4 i5 i6 1)
def P_Operators_resultClass_162 (κ : Nat → Nat) (φ : gF) (ψ : gG) (i1 : Int32) (i2 : Int32) (i3 : Int32) (i4 : Int32) (i5 : Int32) (i6 : Int32) : Int32 := (P_Operators_resultClass_163 κ φ ψ  i1 i2 i3 i4 i5 i6 0)
def P_Operators_resultClass_146 (κ : Nat → Nat) (φ : gF) (ψ : gG) (i1 : Int32) (i2 : Int32) (i3 : Int32) (i4 : Int32) (i5 : Int32) (i6 : Int32) : Int32 := (if i5 = 3 then (P_Operators_resultClass_158 κ φ ψ  i1 i2 i3 i4 i5 i6) else (if i5 = 2 then (P_Operators_resultClass_158 κ φ ψ  i1 i2 i3 i4 i5 i6) else (P_Operators_resultClass_162 κ φ ψ  i1 i2 i3 i4 i5 i6)))
def P_Operators_resultClass_126 (κ : Nat → Nat) (φ : gF) (ψ : gG) (i1 : Int32) (i2 : Int32) (i3 : Int32) (i4 : Int32) (i5 : Int32) (t0 : Int32) : Int32 := (if 13 < i1 then (if i1 = 14 then (if i4 = 3 then (P_Operators_resultClass_202 κ φ ψ  i1 i2 i3 i4 i5 t0) else (if i4 = 0 then (P_Operators_resultClass_202 κ φ ψ  i1 i2 i3 i4 i5 t0) else (-1))) else (if 18 < i1 then (if i4 = 3 then (if i5 = 2 then 3 else (-1)) else (-1)) else (if t0 = 0 then (-1) else 2))) else (if i4 = 3 then (P_Operators_resultClass_146 κ φ ψ  i1 i2 i3 i4 i5 t0) else (if i4 = 2 then (P_Operators_resultClass_146 κ φ ψ  i1 i2 i3 i4 i5 t0) else (P_Operators_resultClass_162 κ φ ψ  i1 i2 i3 i4 i5 t0))))
def P_Operators_resultClass_125 (κ : Nat → Nat) (φ : gF) (ψ : gG) (i1 : Int32) (i2 : Int32) (i3 : Int32) (i4 : Int32) (i5 : Int32) : Int32 := (P_Operators_resultClass_126 κ φ ψ  i1 i2 i3 i4 i5 0)
def P_Operators_resultClass_49 (κ : Nat → Nat) (φ : gF) (ψ : gG) (i1 : Int32) (i2 : Int32) (i3 : Int32) (i4 : Int32) (i5 : Int32) : Int32 := i4
def P_Operators_resultClass (κ : Nat → Nat) (φ : gF) (ψ : gG) (x1 : Int32) (x2 : Int32) (x3 : Int32) : Int32 := (if 5 < x1 then (if 7 < x1 then (if 11 < x1 then (if (P_Looks_classOf (κ 7) (φ 9) x2) = 2 then (if (P_Looks_classOf (κ 7) (φ 9) x3) = 2 then (P_Operators_resultClass_126 κ φ ψ  x1 x2 x3 (P_Looks_classOf (κ 7) (φ 9) x2) (P_Looks_classOf (κ 7) (φ 9) x3) 1) else (P_Operators_resultClass_125 κ φ ψ  x1 x2 x3 (P_Looks_classOf (κ 7) (φ 9) x2) (P_Looks_classOf (κ 7) (φ 9) x3))) else (P_Operators_resultClass_125 κ φ ψ  x1 x2 x3 (P_Looks_classOf (κ 7) (φ 9) x2) (P_Looks_classOf (κ 7) (φ 9) x3))) else (if (P_Operators_areOfOneClass κ φ ψ x2 x3) = 0 then (-1) else (if (P_Looks_classOf (κ 7) (φ 9) x2) = 1 then (-1) else (if (P_Looks_classOf (κ 7) (φ 9) x2) = 0 then (-1) else 1)))) else (if (P_Operators_areOfOneClass κ φ ψ x2 x3) = 0 then (-1) else 1)) else (if (P_Looks_classOf (κ 7) (φ 9) x2) = (P_Looks_classOf (κ 7) (φ 9) x3) then (if (P_Looks_classOf (κ 7) (φ 9) x2) = 1 then (P_Operators_resultClass_49 κ φ ψ  x1 x2 x3 (P_Looks_classOf (κ 7) (φ 9) x2) (P_Looks_classOf (κ 7) (φ 9) x3)) else (if (P_Looks_classOf (κ 7) (φ 9) x2) = 0 then (P_Operators_resultClass_49 κ φ ψ  x1 x2 x3 (P_Looks_classOf (κ 7) (φ 9) x2) (P_Looks_classOf (κ 7) (φ 9) x3)) else (if (P_Looks_classOf (κ 7) (φ 9) x2) = 3 then (P_Operators_resultClass_49 κ φ ψ  x1 x2 x3 (P_Looks_classOf (κ 7) (φ 9) x2) (P_Looks_classOf (κ 7) (φ 9) x3)) else (-1)))) else (-1)))
set_option maxHeartbeats 4000000 in
set_option maxRecDepth 100000 in
theorem f_Operators_resultClass (l : Launch) (γ : gE) (A : Nat → Prop) (κ : Nat → Nat) (φ : gF) (ψ : gG) (x1 : Int32) (x2 : Int32) (x3 : Int32)  : PU l yOperators_resultClass bOperators_resultClass 8 (some .int) 3 65 [.ref (γ.2.2.2 11), .int x1, .int x2, .int x3] γ (INVF γ A κ φ ψ) (vp_Si (fun v : Int32 => (True) ∧ v = P_Operators_resultClass κ φ ψ x1 x2 x3)) := by
  refine pu_openI (by decide) (Nat.le_of_ble_eq_true rfl) ?_
  intro p e s m args below meth c ls Q S hC hI hE hl
  obtain ⟨hx, hb, hml, hown, hW⟩ := id S
  have hG := hI
  have hI := inv_of hG
  have hl : lv_has ls 8 [(0, .ref (γ.2.2.2 11)), (1, .int x1), (2, .int x2), (3, .int x3)] := hl
  obtain ⟨OUT, hQ, hO⟩ : ∃ z, (z = P_Operators_resultClass κ φ ψ x1 x2 x3) ∧ Oq z (P_Operators_resultClass κ φ ψ x1 x2 x3) := ⟨_, rfl, rfl⟩
  rw [← hQ] at hE
  clear hQ
  have J213 : ∀ (ls : Array Slot)  (i1 : Int32) (i2 : Int32) (i3 : Int32) (i4 : Int32) (i5 : Int32) (i6 : Int32), (Oq OUT (P_Operators_resultClass_213 κ φ ψ   i1 i2 i3 i4 i5 i6)) → lv_has ls 8 [(0, .ref (γ.2.2.2 11)), (1, .int i1), (2, .int i2), (3, .int i3), (4, .int i4), (5, .int i5), (6, .int i6)] → W p l e (bs_rm 3 0 0 65) s m args below meth c s.heap [] 0 0 Q (F0 m 213 ls []) := by
    intro ls  i1 i2 i3 i4 i5 i6 hO hl
    refine lv_iconst (v := 3) hx hb dOperators_resultClass_213 (by decide) ?_
    refine lv_goto (tgt := 218) hx hb dOperators_resultClass_214 (by decide) ?_
    exact hE _ _ _ ⟨trivial, (by exact (hO.tr rfl).symm)⟩ dOperators_resultClass_218
  have J202 : ∀ (ls : Array Slot)  (i1 : Int32) (i2 : Int32) (i3 : Int32) (i4 : Int32) (i5 : Int32) (i6 : Int32), (Oq OUT (P_Operators_resultClass_202 κ φ ψ   i1 i2 i3 i4 i5 i6)) → lv_has ls 8 [(0, .ref (γ.2.2.2 11)), (1, .int i1), (2, .int i2), (3, .int i3), (4, .int i4), (5, .int i5), (6, .int i6)] → W p l e (bs_rm 3 0 0 65) s m args below meth c s.heap [] 0 0 Q (F0 m 202 ls []) := by
    intro ls  i1 i2 i3 i4 i5 i6 hO hl
    refine lv_iload hx hb dOperators_resultClass_202 (lv_at hl 5 rfl) ?_
    refine lv_iconst (v := 3) hx hb dOperators_resultClass_204 (by decide) ?_
    refine lv_icmp_eq (tgt := 213) hx hb dOperators_resultClass_205 (by decide) (fun c34 => ?_) (fun c34 => ?_)
    · exact J213 ls i1 i2 i3 i4 i5 i6 (by exact hO.tr (if_pos c34)) (lv_sub hl [0, 1, 2, 3, 4, 5, 6] rfl)
    · refine lv_iload hx hb dOperators_resultClass_208 (lv_at hl 5 rfl) ?_
      refine lv_if_ne (tgt := 217) hx hb dOperators_resultClass_210 (by decide) (fun c35 => ?_) (fun c35 => ?_)
      · refine lv_iconst (v := (-1)) hx hb dOperators_resultClass_217 (by decide) ?_
        exact hE _ _ _ ⟨trivial, (by exact (hO.tr ((if_neg c34).trans (if_neg c35))).symm)⟩ dOperators_resultClass_218
      · exact J213 ls i1 i2 i3 i4 i5 i6 (by exact hO.tr ((if_neg c34).trans (if_pos c35))) (lv_sub hl [0, 1, 2, 3, 4, 5, 6] rfl)
  have J163 : ∀ (ls : Array Slot)  (i1 : Int32) (i2 : Int32) (i3 : Int32) (i4 : Int32) (i5 : Int32) (i6 : Int32) (t0 : Int32), (Oq OUT (P_Operators_resultClass_163 κ φ ψ   i1 i2 i3 i4 i5 i6 t0)) → lv_has ls 8 [(0, .ref (γ.2.2.2 11)), (1, .int i1), (2, .int i2), (3, .int i3), (4, .int i4), (5, .int i5), (6, .int i6)] → W p l e (bs_rm 3 0 0 65) s m args below meth c s.heap [] 0 0 Q (F0 m 163 ls [.int t0]) := by
    intro ls  i1 i2 i3 i4 i5 i6 t0 hO hl
    refine lv_istore (lv' := [(7, .int t0), (0, .ref (γ.2.2.2 11)), (1, .int i1), (2, .int i2), (3, .int i3), (4, .int i4), (5, .int i5), (6, .int i6)]) hx hb dOperators_resultClass_163 hl (by decide) rfl (fun ls hl => ?_)
    refine lv_iload hx hb dOperators_resultClass_165 (lv_at hl 7 rfl) ?_
    refine lv_if_eq (tgt := 174) hx hb dOperators_resultClass_167 (by decide) (fun c36 => ?_) (fun c36 => ?_)
    · refine lv_iload hx hb dOperators_resultClass_174 (lv_at hl 0 rfl) ?_
      refine lv_if_eq (tgt := 183) hx hb dOperators_resultClass_176 (by decide) (fun c37 => ?_) (fun c37 => ?_)
      · refine lv_iconst (v := (-1)) hx hb dOperators_resultClass_183 (by decide) ?_
        exact hE _ _ _ ⟨trivial, (by exact (hO.tr ((if_pos c36).trans (if_pos c37))).symm)⟩ dOperators_resultClass_184
      · refine lv_iconst (v := 3) hx hb dOperators_resultClass_179 (by decide) ?_
        refine lv_goto (tgt := 184) hx hb dOperators_resultClass_180 (by decide) ?_
        exact hE _ _ _ ⟨trivial, (by exact (hO.tr ((if_pos c36).trans (if_neg c37))).symm)⟩ dOperators_resultClass_184
    · refine lv_iconst (v := 2) hx hb dOperators_resultClass_170 (by decide) ?_
      refine lv_goto (tgt := 184) hx hb dOperators_resultClass_171 (by decide) ?_
      exact hE _ _ _ ⟨trivial, (by exact (hO.tr (if_neg c36)).symm)⟩ dOperators_resultClass_184
  have J162 : ∀ (ls : Array Slot)  (i1 : Int32) (i2 : Int32) (i3 : Int32) (i4 : Int32) (i5 : Int32) (i6 : Int32), (Oq OUT (P_Operators_resultClass_162 κ φ ψ   i1 i2 i3 i4 i5 i6)) → lv_has ls 8 [(0, .ref (γ.2.2.2 11)), (1, .int i1), (2, .int i2), (3, .int i3), (4, .int i4), (5, .int i5), (6, .int i6)] → W p l e (bs_rm 3 0 0 65) s m args below meth c s.heap [] 0 0 Q (F0 m 162 ls []) := by
    intro ls  i1 i2 i3 i4 i5 i6 hO hl
    refine lv_iconst (v := 0) hx hb dOperators_resultClass_162 (by decide) ?_
    exact J163 ls i1 i2 i3 i4 i5 i6 0 (by exact hO.tr rfl) (lv_sub hl [0, 1, 2, 3, 4, 5, 6] rfl)
  have J158 : ∀ (ls : Array Slot)  (i1 : Int32) (i2 : Int32) (i3 : Int32) (i4 : Int32) (i5 : Int32) (i6 : Int32), (Oq OUT (P_Operators_resultClass_158 κ φ ψ   i1 i2 i3 i4 i5 i6)) → lv_has ls 8 [(0, .ref (γ.2.2.2 11)), (1, .int i1), (2, .int i2), (3, .int i3), (4, .int i4), (5, .int i5), (6, .int i6)] → W p l e (bs_rm 3 0 0 65) s m args below meth c s.heap [] 0 0 Q (F0 m 158 ls []) := by
    intro ls  i1 i2 i3 i4 i5 i6 hO hl
    refine lv_iconst (v := 1) hx hb dOperators_resultClass_158 (by decide) ?_
    refine lv_goto (tgt := 163) hx hb dOperators_resultClass_159 (by decide) ?_
    exact J163 ls i1 i2 i3 i4 i5 i6 1 (by exact hO.tr rfl) (lv_sub hl [0, 1, 2, 3, 4, 5, 6] rfl)
  have J146 : ∀ (ls : Array Slot)  (i1 : Int32) (i2 : Int32) (i3 : Int32) (i4 : Int32) (i5 : Int32) (i6 : Int32), (Oq OUT (P_Operators_resultClass_146 κ φ ψ   i1 i2 i3 i4 i5 i6)) → lv_has ls 8 [(0, .ref (γ.2.2.2 11)), (1, .int i1), (2, .int i2), (3, .int i3), (4, .int i4), (5, .int i5), (6, .int i6)] → W p l e (bs_rm 3 0 0 65) s m args below meth c s.heap [] 0 0 Q (F0 m 146 ls []) := by
    intro ls  i1 i2 i3 i4 i5 i6 hO hl
    refine lv_iload hx hb dOperators_resultClass_146 (lv_at hl 5 rfl) ?_
    refine lv_iconst (v := 3) hx hb dOperators_resultClass_148 (by decide) ?_
    refine lv_icmp_eq (tgt := 158) hx hb dOperators_resultClass_149 (by decide) (fun c38 => ?_) (fun c38 => ?_)
    · exact J158 ls i1 i2 i3 i4 i5 i6 (by exact hO.tr (if_pos c38)) (lv_sub hl [0, 1, 2, 3, 4, 5, 6] rfl)
    · refine lv_iload hx hb dOperators_resultClass_152 (lv_at hl 5 rfl) ?_
      refine lv_iconst (v := 2) hx hb dOperators_resultClass_154 (by decide) ?_
      refine lv_icmp_ne (tgt := 162) hx hb dOperators_resultClass_155 (by decide) (fun c39 => ?_) (fun c39 => ?_)
      · exact J162 ls i1 i2 i3 i4 i5 i6 (by exact hO.tr ((if_neg c38).trans (if_neg c39))) (lv_sub hl [0, 1, 2, 3, 4, 5, 6] rfl)
      · exact J158 ls i1 i2 i3 i4 i5 i6 (by exact hO.tr ((if_neg c38).trans (if_pos c39))) (lv_sub hl [0, 1, 2, 3, 4, 5, 6] rfl)
  have J126 : ∀ (ls : Array Slot)  (i1 : Int32) (i2 : Int32) (i3 : Int32) (i4 : Int32) (i5 : Int32) (t0 : Int32), (Oq OUT (P_Operators_resultClass_126 κ φ ψ   i1 i2 i3 i4 i5 t0)) → lv_has ls 8 [(0, .ref (γ.2.2.2 11)), (1, .int i1), (2, .int i2), (3, .int i3), (4, .int i4), (5, .int i5)] → W p l e (bs_rm 3 0 0 65) s m args below meth c s.heap [] 0 0 Q (F0 m 126 ls [.int t0]) := by
    intro ls  i1 i2 i3 i4 i5 t0 hO hl
    refine lv_istore (lv' := [(6, .int t0), (0, .ref (γ.2.2.2 11)), (1, .int i1), (2, .int i2), (3, .int i3), (4, .int i4), (5, .int i5)]) hx hb dOperators_resultClass_126 hl (by decide) rfl (fun ls hl => ?_)
    refine lv_iload_n hx hb dOperators_resultClass_128 rfl (lv_at hl 2 rfl) ?_
    refine lv_bipush (v := 13) hx hb dOperators_resultClass_129 (by decide) ?_
    refine lv_icmp_gt (tgt := 185) hx hb dOperators_resultClass_131 (by decide) (fun c40 => ?_) (fun c40 => ?_)
    · refine lv_iload_n hx hb dOperators_resultClass_185 rfl (lv_at hl 2 rfl) ?_
      refine lv_bipush (v := 14) hx hb dOperators_resultClass_186 (by decide) ?_
      refine lv_icmp_ne (tgt := 219) hx hb dOperators_resultClass_188 (by decide) (fun c41 => ?_) (fun c41 => ?_)
      · refine lv_iload_n hx hb dOperators_resultClass_219 rfl (lv_at hl 2 rfl) ?_
        refine lv_bipush (v := 18) hx hb dOperators_resultClass_220 (by decide) ?_
        refine lv_icmp_gt (tgt := 236) hx hb dOperators_resultClass_222 (by decide) (fun c42 => ?_) (fun c42 => ?_)
        · refine lv_iload hx hb dOperators_resultClass_236 (lv_at hl 5 rfl) ?_
          refine lv_iconst (v := 3) hx hb dOperators_resultClass_238 (by decide) ?_
          refine lv_icmp_ne (tgt := 252) hx hb dOperators_resultClass_239 (by decide) (fun c43 => ?_) (fun c43 => ?_)
          · refine lv_iconst (v := (-1)) hx hb dOperators_resultClass_252 (by decide) ?_
            exact hE _ _ _ ⟨trivial, (by exact (hO.tr ((if_pos c40).trans ((if_neg c41).trans ((if_pos c42).trans (if_neg c43))))).symm)⟩ dOperators_resultClass_253
          · refine lv_iload hx hb dOperators_resultClass_242 (lv_at hl 6 rfl) ?_
            refine lv_iconst (v := 2) hx hb dOperators_resultClass_244 (by decide) ?_
            refine lv_icmp_ne (tgt := 252) hx hb dOperators_resultClass_245 (by decide) (fun c44 => ?_) (fun c44 => ?_)
            · refine lv_iconst (v := (-1)) hx hb dOperators_resultClass_252 (by decide) ?_
              exact hE _ _ _ ⟨trivial, (by exact (hO.tr ((if_pos c40).trans ((if_neg c41).trans ((if_pos c42).trans ((if_pos c43).trans (if_neg c44)))))).symm)⟩ dOperators_resultClass_253
            · refine lv_iconst (v := 3) hx hb dOperators_resultClass_248 (by decide) ?_
              refine lv_goto (tgt := 253) hx hb dOperators_resultClass_249 (by decide) ?_
              exact hE _ _ _ ⟨trivial, (by exact (hO.tr ((if_pos c40).trans ((if_neg c41).trans ((if_pos c42).trans ((if_pos c43).trans (if_pos c44)))))).symm)⟩ dOperators_resultClass_253
        · refine lv_iload hx hb dOperators_resultClass_225 (lv_at hl 0 rfl) ?_
          refine lv_if_eq (tgt := 234) hx hb dOperators_resultClass_227 (by decide) (fun c45 => ?_) (fun c45 => ?_)
          · refine lv_iconst (v := (-1)) hx hb dOperators_resultClass_234 (by decide) ?_
            exact hE _ _ _ ⟨trivial, (by exact (hO.tr ((if_pos c40).trans ((if_neg c41).trans ((if_neg c42).trans (if_pos c45))))).symm)⟩ dOperators_resultClass_235
          · refine lv_iconst (v := 2) hx hb dOperators_resultClass_230 (by decide) ?_
            refine lv_goto (tgt := 235) hx hb dOperators_resultClass_231 (by decide) ?_
            exact hE _ _ _ ⟨trivial, (by exact (hO.tr ((if_pos c40).trans ((if_neg c41).trans ((if_neg c42).trans (if_neg c45))))).symm)⟩ dOperators_resultClass_235
      · refine lv_iload hx hb dOperators_resultClass_191 (lv_at hl 5 rfl) ?_
        refine lv_iconst (v := 3) hx hb dOperators_resultClass_193 (by decide) ?_
        refine lv_icmp_eq (tgt := 202) hx hb dOperators_resultClass_194 (by decide) (fun c46 => ?_) (fun c46 => ?_)
        · exact J202 ls i1 i2 i3 i4 i5 t0 (by exact hO.tr ((if_pos c40).trans ((if_pos c41).trans (if_pos c46)))) (lv_sub hl [1, 2, 3, 4, 5, 6, 0] rfl)
        · refine lv_iload hx hb dOperators_resultClass_197 (lv_at hl 5 rfl) ?_
          refine lv_if_ne (tgt := 217) hx hb dOperators_resultClass_199 (by decide) (fun c47 => ?_) (fun c47 => ?_)
          · refine lv_iconst (v := (-1)) hx hb dOperators_resultClass_217 (by decide) ?_
            exact hE _ _ _ ⟨trivial, (by exact (hO.tr ((if_pos c40).trans ((if_pos c41).trans ((if_neg c46).trans (if_neg c47))))).symm)⟩ dOperators_resultClass_218
          · exact J202 ls i1 i2 i3 i4 i5 t0 (by exact hO.tr ((if_pos c40).trans ((if_pos c41).trans ((if_neg c46).trans (if_pos c47))))) (lv_sub hl [1, 2, 3, 4, 5, 6, 0] rfl)
    · refine lv_iload hx hb dOperators_resultClass_134 (lv_at hl 5 rfl) ?_
      refine lv_iconst (v := 3) hx hb dOperators_resultClass_136 (by decide) ?_
      refine lv_icmp_eq (tgt := 146) hx hb dOperators_resultClass_137 (by decide) (fun c48 => ?_) (fun c48 => ?_)
      · exact J146 ls i1 i2 i3 i4 i5 t0 (by exact hO.tr ((if_neg c40).trans (if_pos c48))) (lv_sub hl [1, 2, 3, 4, 5, 6, 0] rfl)
      · refine lv_iload hx hb dOperators_resultClass_140 (lv_at hl 5 rfl) ?_
        refine lv_iconst (v := 2) hx hb dOperators_resultClass_142 (by decide) ?_
        refine lv_icmp_ne (tgt := 162) hx hb dOperators_resultClass_143 (by decide) (fun c49 => ?_) (fun c49 => ?_)
        · exact J162 ls i1 i2 i3 i4 i5 t0 (by exact hO.tr ((if_neg c40).trans ((if_neg c48).trans (if_neg c49)))) (lv_sub hl [1, 2, 3, 4, 5, 6, 0] rfl)
        · exact J146 ls i1 i2 i3 i4 i5 t0 (by exact hO.tr ((if_neg c40).trans ((if_neg c48).trans (if_pos c49)))) (lv_sub hl [1, 2, 3, 4, 5, 6, 0] rfl)
  have J125 : ∀ (ls : Array Slot)  (i1 : Int32) (i2 : Int32) (i3 : Int32) (i4 : Int32) (i5 : Int32), (Oq OUT (P_Operators_resultClass_125 κ φ ψ   i1 i2 i3 i4 i5)) → lv_has ls 8 [(0, .ref (γ.2.2.2 11)), (1, .int i1), (2, .int i2), (3, .int i3), (4, .int i4), (5, .int i5)] → W p l e (bs_rm 3 0 0 65) s m args below meth c s.heap [] 0 0 Q (F0 m 125 ls []) := by
    intro ls  i1 i2 i3 i4 i5 hO hl
    refine lv_iconst (v := 0) hx hb dOperators_resultClass_125 (by decide) ?_
    exact J126 ls i1 i2 i3 i4 i5 0 (by exact hO.tr rfl) (lv_sub hl [0, 1, 2, 3, 4, 5] rfl)
  have J49 : ∀ (ls : Array Slot)  (i1 : Int32) (i2 : Int32) (i3 : Int32) (i4 : Int32) (i5 : Int32), (Oq OUT (P_Operators_resultClass_49 κ φ ψ   i1 i2 i3 i4 i5)) → lv_has ls 8 [(0, .ref (γ.2.2.2 11)), (1, .int i1), (2, .int i2), (3, .int i3), (4, .int i4), (5, .int i5)] → W p l e (bs_rm 3 0 0 65) s m args below meth c s.heap [] 0 0 Q (F0 m 49 ls []) := by
    intro ls  i1 i2 i3 i4 i5 hO hl
    refine lv_iload hx hb dOperators_resultClass_49 (lv_at hl 4 rfl) ?_
    refine lv_goto (tgt := 55) hx hb dOperators_resultClass_51 (by decide) ?_
    exact hE _ _ _ ⟨trivial, (by exact (hO.tr rfl).symm)⟩ dOperators_resultClass_55
  refine lv_aload_n hx hb dOperators_resultClass_0 rfl (lv_at hl 0 rfl) ?_
  refine of_get S hC (of_11_0 hI) in_Operators rfl (by decide) qw_46160f6e07 dOperators_resultClass_1 ?_
  refine lv_iload_n hx hb dOperators_resultClass_4 rfl (lv_at hl 2 rfl) ?_
  refine pu_Vi (rest := []) S hC (f9_Looks_classOf l γ A κ φ ψ x2) meLooks_classOf qw_2e1b0e0eff ⟨Nat.le_of_ble_eq_true rfl, Nat.le_of_ble_eq_true rfl⟩ (rv_9 hC hI) hG rfl hl.1 rfl (Nat.le_of_ble_eq_true rfl) dOperators_resultClass_5 ⟨Nat.zero_le _, Nat.zero_le _⟩ (fun r50 hr50 => ?_)
  obtain ⟨hr50, er50⟩ := hr50
  refine lv_istore (lv' := [(4, .int r50), (0, .ref (γ.2.2.2 11)), (1, .int x1), (2, .int x2), (3, .int x3)]) hx hb dOperators_resultClass_8 hl (by decide) rfl (fun ls hl => ?_)
  refine lv_aload_n hx hb dOperators_resultClass_10 rfl (lv_at hl 1 rfl) ?_
  refine of_get S hC (of_11_0 hI) in_Operators rfl (by decide) qw_46160f6e07 dOperators_resultClass_11 ?_
  refine lv_iload_n hx hb dOperators_resultClass_14 rfl (lv_at hl 4 rfl) ?_
  refine pu_Vi (rest := []) S hC (f9_Looks_classOf l γ A κ φ ψ x3) meLooks_classOf qw_2e1b0e0eff ⟨Nat.le_of_ble_eq_true rfl, Nat.le_of_ble_eq_true rfl⟩ (rv_9 hC hI) hG rfl hl.1 rfl (Nat.le_of_ble_eq_true rfl) dOperators_resultClass_15 ⟨Nat.zero_le _, Nat.zero_le _⟩ (fun r51 hr51 => ?_)
  obtain ⟨hr51, er51⟩ := hr51
  refine lv_istore (lv' := [(5, .int r51), (4, .int r50), (0, .ref (γ.2.2.2 11)), (1, .int x1), (2, .int x2), (3, .int x3)]) hx hb dOperators_resultClass_18 hl (by decide) rfl (fun ls hl => ?_)
  refine lv_iload_n hx hb dOperators_resultClass_20 rfl (lv_at hl 3 rfl) ?_
  refine lv_iconst (v := 5) hx hb dOperators_resultClass_21 (by decide) ?_
  refine lv_icmp_gt (tgt := 56) hx hb dOperators_resultClass_22 (by decide) (fun c52 => ?_) (fun c52 => ?_)
  · refine lv_iload_n hx hb dOperators_resultClass_56 rfl (lv_at hl 3 rfl) ?_
    refine lv_bipush (v := 7) hx hb dOperators_resultClass_57 (by decide) ?_
    refine lv_icmp_gt (tgt := 77) hx hb dOperators_resultClass_59 (by decide) (fun c53 => ?_) (fun c53 => ?_)
    · refine lv_iload_n hx hb dOperators_resultClass_77 rfl (lv_at hl 3 rfl) ?_
      refine lv_bipush (v := 11) hx hb dOperators_resultClass_78 (by decide) ?_
      refine lv_icmp_gt (tgt := 109) hx hb dOperators_resultClass_80 (by decide) (fun c54 => ?_) (fun c54 => ?_)
      · refine lv_iload hx hb dOperators_resultClass_109 (lv_at hl 1 rfl) ?_
        refine lv_iconst (v := 2) hx hb dOperators_resultClass_111 (by decide) ?_
        refine lv_icmp_ne (tgt := 125) hx hb dOperators_resultClass_112 (by decide) (fun c55 => ?_) (fun c55 => ?_)
        · exact J125 ls x1 x2 x3 r50 r51 (by subst er51 er50; exact hO.tr ((if_pos c52).trans ((if_pos c53).trans ((if_pos c54).trans (if_neg c55))))) (lv_sub hl [2, 3, 4, 5, 1, 0] rfl)
        · refine lv_iload hx hb dOperators_resultClass_115 (lv_at hl 0 rfl) ?_
          refine lv_iconst (v := 2) hx hb dOperators_resultClass_117 (by decide) ?_
          refine lv_icmp_ne (tgt := 125) hx hb dOperators_resultClass_118 (by decide) (fun c56 => ?_) (fun c56 => ?_)
          · exact J125 ls x1 x2 x3 r50 r51 (by subst er51 er50; exact hO.tr ((if_pos c52).trans ((if_pos c53).trans ((if_pos c54).trans ((if_pos c55).trans (if_neg c56)))))) (lv_sub hl [2, 3, 4, 5, 1, 0] rfl)
          · refine lv_iconst (v := 1) hx hb dOperators_resultClass_121 (by decide) ?_
            refine lv_goto (tgt := 126) hx hb dOperators_resultClass_122 (by decide) ?_
            exact J126 ls x1 x2 x3 r50 r51 1 (by subst er51 er50; exact hO.tr ((if_pos c52).trans ((if_pos c53).trans ((if_pos c54).trans ((if_pos c55).trans (if_pos c56)))))) (lv_sub hl [2, 3, 4, 5, 1, 0] rfl)
      · refine lv_aload_n hx hb dOperators_resultClass_83 rfl (lv_at hl 2 rfl) ?_
        refine lv_iload_n hx hb dOperators_resultClass_84 rfl (lv_at hl 4 rfl) ?_
        refine lv_iload_n hx hb dOperators_resultClass_85 rfl (lv_at hl 5 rfl) ?_
        refine pu_Vi (rest := []) S hC (f_Operators_areOfOneClass l γ A κ φ ψ x2 x3) meOperators_areOfOneClass qw_0526218670 ⟨Nat.le_of_ble_eq_true rfl, Nat.le_of_ble_eq_true rfl⟩ (rv_11 hC hI) hG rfl hl.1 rfl (Nat.le_of_ble_eq_true rfl) dOperators_resultClass_86 ⟨Nat.zero_le _, Nat.zero_le _⟩ (fun r57 hr57 => ?_)
        obtain ⟨hr57, er57⟩ := hr57
        refine lv_if_eq (tgt := 107) hx hb dOperators_resultClass_89 (by decide) (fun c58 => ?_) (fun c58 => ?_)
        · refine lv_iconst (v := (-1)) hx hb dOperators_resultClass_107 (by decide) ?_
          exact hE _ _ _ ⟨trivial, (by subst er57 er51 er50; exact (hO.tr ((if_pos c52).trans ((if_pos c53).trans ((if_neg c54).trans (if_pos c58))))).symm)⟩ dOperators_resultClass_108
        · refine lv_iload hx hb dOperators_resultClass_92 (lv_at hl 1 rfl) ?_
          refine lv_iconst (v := 1) hx hb dOperators_resultClass_94 (by decide) ?_
          refine lv_icmp_eq (tgt := 107) hx hb dOperators_resultClass_95 (by decide) (fun c59 => ?_) (fun c59 => ?_)
          · refine lv_iconst (v := (-1)) hx hb dOperators_resultClass_107 (by decide) ?_
            exact hE _ _ _ ⟨trivial, (by subst er57 er51 er50; exact (hO.tr ((if_pos c52).trans ((if_pos c53).trans ((if_neg c54).trans ((if_neg c58).trans (if_pos c59)))))).symm)⟩ dOperators_resultClass_108
          · refine lv_iload hx hb dOperators_resultClass_98 (lv_at hl 1 rfl) ?_
            refine lv_if_eq (tgt := 107) hx hb dOperators_resultClass_100 (by decide) (fun c60 => ?_) (fun c60 => ?_)
            · refine lv_iconst (v := (-1)) hx hb dOperators_resultClass_107 (by decide) ?_
              exact hE _ _ _ ⟨trivial, (by subst er57 er51 er50; exact (hO.tr ((if_pos c52).trans ((if_pos c53).trans ((if_neg c54).trans ((if_neg c58).trans ((if_neg c59).trans (if_pos c60))))))).symm)⟩ dOperators_resultClass_108
            · refine lv_iconst (v := 1) hx hb dOperators_resultClass_103 (by decide) ?_
              refine lv_goto (tgt := 108) hx hb dOperators_resultClass_104 (by decide) ?_
              exact hE _ _ _ ⟨trivial, (by subst er57 er51 er50; exact (hO.tr ((if_pos c52).trans ((if_pos c53).trans ((if_neg c54).trans ((if_neg c58).trans ((if_neg c59).trans (if_neg c60))))))).symm)⟩ dOperators_resultClass_108
    · refine lv_aload_n hx hb dOperators_resultClass_62 rfl (lv_at hl 2 rfl) ?_
      refine lv_iload_n hx hb dOperators_resultClass_63 rfl (lv_at hl 4 rfl) ?_
      refine lv_iload_n hx hb dOperators_resultClass_64 rfl (lv_at hl 5 rfl) ?_
      refine pu_Vi (rest := []) S hC (f_Operators_areOfOneClass l γ A κ φ ψ x2 x3) meOperators_areOfOneClass qw_0526218670 ⟨Nat.le_of_ble_eq_true rfl, Nat.le_of_ble_eq_true rfl⟩ (rv_11 hC hI) hG rfl hl.1 rfl (Nat.le_of_ble_eq_true rfl) dOperators_resultClass_65 ⟨Nat.zero_le _, Nat.zero_le _⟩ (fun r61 hr61 => ?_)
      obtain ⟨hr61, er61⟩ := hr61
      refine lv_if_eq (tgt := 75) hx hb dOperators_resultClass_68 (by decide) (fun c62 => ?_) (fun c62 => ?_)
      · refine lv_iconst (v := (-1)) hx hb dOperators_resultClass_75 (by decide) ?_
        exact hE _ _ _ ⟨trivial, (by subst er61 er51 er50; exact (hO.tr ((if_pos c52).trans ((if_neg c53).trans (if_pos c62)))).symm)⟩ dOperators_resultClass_76
      · refine lv_iconst (v := 1) hx hb dOperators_resultClass_71 (by decide) ?_
        refine lv_goto (tgt := 76) hx hb dOperators_resultClass_72 (by decide) ?_
        exact hE _ _ _ ⟨trivial, (by subst er61 er51 er50; exact (hO.tr ((if_pos c52).trans ((if_neg c53).trans (if_neg c62)))).symm)⟩ dOperators_resultClass_76
  · refine lv_iload hx hb dOperators_resultClass_25 (lv_at hl 1 rfl) ?_
    refine lv_iload hx hb dOperators_resultClass_27 (lv_at hl 0 rfl) ?_
    refine lv_icmp_ne (tgt := 54) hx hb dOperators_resultClass_29 (by decide) (fun c63 => ?_) (fun c63 => ?_)
    · refine lv_iconst (v := (-1)) hx hb dOperators_resultClass_54 (by decide) ?_
      exact hE _ _ _ ⟨trivial, (by subst er51 er50; exact (hO.tr ((if_neg c52).trans (if_neg c63))).symm)⟩ dOperators_resultClass_55
    · refine lv_iload hx hb dOperators_resultClass_32 (lv_at hl 1 rfl) ?_
      refine lv_iconst (v := 1) hx hb dOperators_resultClass_34 (by decide) ?_
      refine lv_icmp_eq (tgt := 49) hx hb dOperators_resultClass_35 (by decide) (fun c64 => ?_) (fun c64 => ?_)
      · exact J49 ls x1 x2 x3 r50 r51 (by subst er51 er50; exact hO.tr ((if_neg c52).trans ((if_pos c63).trans (if_pos c64)))) (lv_sub hl [2, 3, 4, 5, 1, 0] rfl)
      · refine lv_iload hx hb dOperators_resultClass_38 (lv_at hl 1 rfl) ?_
        refine lv_if_eq (tgt := 49) hx hb dOperators_resultClass_40 (by decide) (fun c65 => ?_) (fun c65 => ?_)
        · exact J49 ls x1 x2 x3 r50 r51 (by subst er51 er50; exact hO.tr ((if_neg c52).trans ((if_pos c63).trans ((if_neg c64).trans (if_pos c65))))) (lv_sub hl [2, 3, 4, 5, 1, 0] rfl)
        · refine lv_iload hx hb dOperators_resultClass_43 (lv_at hl 1 rfl) ?_
          refine lv_iconst (v := 3) hx hb dOperators_resultClass_45 (by decide) ?_
          refine lv_icmp_ne (tgt := 54) hx hb dOperators_resultClass_46 (by decide) (fun c66 => ?_) (fun c66 => ?_)
          · refine lv_iconst (v := (-1)) hx hb dOperators_resultClass_54 (by decide) ?_
            exact hE _ _ _ ⟨trivial, (by subst er51 er50; exact (hO.tr ((if_neg c52).trans ((if_pos c63).trans ((if_neg c64).trans ((if_neg c65).trans (if_neg c66)))))).symm)⟩ dOperators_resultClass_55
          · exact J49 ls x1 x2 x3 r50 r51 (by subst er51 er50; exact hO.tr ((if_neg c52).trans ((if_pos c63).trans ((if_neg c64).trans ((if_neg c65).trans (if_pos c66)))))) (lv_sub hl [2, 3, 4, 5, 1, 0] rfl)
def P_Operators_isClear_34 (κ : Nat → Nat) (φ : gF) (ψ : gG) (i1 : Int32) : Int32 := 1
def P_Operators_isClear (κ : Nat → Nat) (φ : gF) (ψ : gG) (x1 : Int32) : Int32 := (if (P_Looks_classOf (κ 7) (φ 9) x1) = 3 then (if (P_Rows_isClear (κ 10) (ψ 10) x1 (P_Looks_extentOf (κ 7) (φ 9) x1)) = 0 then 0 else (P_Operators_isClear_34 κ φ ψ  x1)) else (P_Operators_isClear_34 κ φ ψ  x1))
set_option maxHeartbeats 4000000 in
set_option maxRecDepth 100000 in
theorem f_Operators_isClear (l : Launch) (γ : gE) (A : Nat → Prop) (κ : Nat → Nat) (φ : gF) (ψ : gG) (x1 : Int32)  : PU l yOperators_isClear bOperators_isClear 2 (some .boolean) 2 45 [.ref (γ.2.2.2 11), .int x1] γ (INVF γ A κ φ ψ) (vp_Si (fun v : Int32 => (True) ∧ v = P_Operators_isClear κ φ ψ x1)) := by
  refine pu_openZ (by decide) (Nat.le_of_ble_eq_true rfl) ?_
  intro p e s m args below meth c ls Q S hC hI hE hl
  obtain ⟨hx, hb, hml, hown, hW⟩ := id S
  have hG := hI
  have hI := inv_of hG
  have hl : lv_has ls 2 [(0, .ref (γ.2.2.2 11)), (1, .int x1)] := hl
  obtain ⟨OUT, hQ, hO⟩ : ∃ z, (z = P_Operators_isClear κ φ ψ x1) ∧ Oq z (P_Operators_isClear κ φ ψ x1) := ⟨_, rfl, rfl⟩
  rw [← hQ] at hE
  clear hQ
  have J34 : ∀ (ls : Array Slot)  (i1 : Int32), (Oq OUT (P_Operators_isClear_34 κ φ ψ   i1)) → lv_has ls 2 [(0, .ref (γ.2.2.2 11)), (1, .int i1)] → W p l e (bs_rm 2 0 0 45) s m args below meth c s.heap [] 0 0 Q (F0 m 34 ls []) := by
    intro ls  i1 hO hl
    refine lv_iconst (v := 1) hx hb dOperators_isClear_34 (by decide) ?_
    refine lv_goto (tgt := 39) hx hb dOperators_isClear_35 (by decide) ?_
    exact hE _ _ _ rfl ⟨trivial, (by exact (hO.tr rfl).symm)⟩ dOperators_isClear_39
  refine lv_aload_n hx hb dOperators_isClear_0 rfl (lv_at hl 0 rfl) ?_
  refine of_get S hC (of_11_0 hI) in_Operators rfl (by decide) qw_46160f6e07 dOperators_isClear_1 ?_
  refine lv_iload_n hx hb dOperators_isClear_4 rfl (lv_at hl 1 rfl) ?_
  refine pu_Vi (rest := []) S hC (f9_Looks_classOf l γ A κ φ ψ x1) meLooks_classOf qw_2e1b0e0eff ⟨Nat.le_of_ble_eq_true rfl, Nat.le_of_ble_eq_true rfl⟩ (rv_9 hC hI) hG rfl hl.1 rfl (Nat.le_of_ble_eq_true rfl) dOperators_isClear_5 ⟨Nat.zero_le _, Nat.zero_le _⟩ (fun r6 hr6 => ?_)
  obtain ⟨hr6, er6⟩ := hr6
  refine lv_iconst (v := 3) hx hb dOperators_isClear_8 (by decide) ?_
  refine lv_icmp_ne (tgt := 34) hx hb dOperators_isClear_9 (by decide) (fun c7 => ?_) (fun c7 => ?_)
  · exact J34 ls x1 (by subst er6; exact hO.tr (if_neg c7)) (lv_sub hl [0, 1] rfl)
  · refine lv_aload_n hx hb dOperators_isClear_12 rfl (lv_at hl 0 rfl) ?_
    refine of_get S hC (of_11_0 hI) in_Operators rfl (by decide) qw_46160f6e07 dOperators_isClear_13 ?_
    refine of_getN S hC (of_9_5 hI) in_Looks rfl (by decide) qn_de7362ca2e dOperators_isClear_16 ?_
    refine lv_iload_n hx hb dOperators_isClear_19 rfl (lv_at hl 1 rfl) ?_
    refine lv_aload_n hx hb dOperators_isClear_20 rfl (lv_at hl 0 rfl) ?_
    refine of_get S hC (of_11_0 hI) in_Operators rfl (by decide) qw_46160f6e07 dOperators_isClear_21 ?_
    refine lv_iload_n hx hb dOperators_isClear_24 rfl (lv_at hl 1 rfl) ?_
    refine pu_Vi (rest := [.int x1, .ref (γ.2.2.2 10)]) S hC (f9_Looks_extentOf l γ A κ φ ψ x1) meLooks_extentOf qw_b0051a6c7a ⟨Nat.le_of_ble_eq_true rfl, Nat.le_of_ble_eq_true rfl⟩ (rv_9 hC hI) hG rfl hl.1 rfl (Nat.le_of_ble_eq_true rfl) dOperators_isClear_25 ⟨Nat.zero_le _, Nat.zero_le _⟩ (fun r8 hr8 => ?_)
    obtain ⟨hr8, er8⟩ := hr8
    refine pu_Vi (rest := []) S hC (f10_Rows_isClear l γ A κ φ ψ x1 r8) meRows_isClear qw_0d8e65883a ⟨Nat.le_of_ble_eq_true rfl, Nat.le_of_ble_eq_true rfl⟩ (rv_10 hC hI) hG rfl hl.1 rfl (Nat.le_of_ble_eq_true rfl) dOperators_isClear_28 ⟨Nat.zero_le _, Nat.zero_le _⟩ (fun r9 hr9 => ?_)
    obtain ⟨hr9, er9⟩ := hr9
    refine lv_if_eq (tgt := 38) hx hb dOperators_isClear_31 (by decide) (fun c10 => ?_) (fun c10 => ?_)
    · refine lv_iconst (v := 0) hx hb dOperators_isClear_38 (by decide) ?_
      exact hE _ _ _ rfl ⟨trivial, (by subst er9 er8 er6; exact (hO.tr ((if_pos c7).trans (if_pos c10))).symm)⟩ dOperators_isClear_39
    · exact J34 ls x1 (by subst er9 er8 er6; exact hO.tr ((if_pos c7).trans (if_neg c10))) (lv_sub hl [0, 1] rfl)

def P_Operators_countsAs (κ : Nat → Nat) (φ : gF) (ψ : gG) (x1 : Int32) : Int64 := (if (P_Looks_classOf (κ 7) (φ 9) x1) = 3 then (P_Rows_bitsOf (κ 10) (ψ 10) x1 (P_Looks_extentOf (κ 7) (φ 9) x1)) else ((P_Looks_numberOf (κ 7) (φ 9) x1).toInt64))
set_option maxHeartbeats 4000000 in
set_option maxRecDepth 100000 in
theorem f_Operators_countsAs (l : Launch) (γ : gE) (A : Nat → Prop) (κ : Nat → Nat) (φ : gF) (ψ : gG) (x1 : Int32)  : PU l yOperators_countsAs bOperators_countsAs 2 (some .long) 2 47 [.ref (γ.2.2.2 11), .int x1] γ (INVF γ A κ φ ψ) (vp_Sl (fun v : Int64 => (True) ∧ v = P_Operators_countsAs κ φ ψ x1)) := by
  refine pu_openJ (by decide) (Nat.le_of_ble_eq_true rfl) ?_
  intro p e s m args below meth c ls Q S hC hI hE hl
  obtain ⟨hx, hb, hml, hown, hW⟩ := id S
  have hG := hI
  have hI := inv_of hG
  have hl : lv_has ls 2 [(0, .ref (γ.2.2.2 11)), (1, .int x1)] := hl
  obtain ⟨OUT, hQ, hO⟩ : ∃ z, (z = P_Operators_countsAs κ φ ψ x1) ∧ Oq z (P_Operators_countsAs κ φ ψ x1) := ⟨_, rfl, rfl⟩
  rw [← hQ] at hE
  clear hQ
  refine lv_aload_n hx hb dOperators_countsAs_0 rfl (lv_at hl 0 rfl) ?_
  refine of_get S hC (of_11_0 hI) in_Operators rfl (by decide) qw_46160f6e07 dOperators_countsAs_1 ?_
  refine lv_iload_n hx hb dOperators_countsAs_4 rfl (lv_at hl 1 rfl) ?_
  refine pu_Vi (rest := []) S hC (f9_Looks_classOf l γ A κ φ ψ x1) meLooks_classOf qw_2e1b0e0eff ⟨Nat.le_of_ble_eq_true rfl, Nat.le_of_ble_eq_true rfl⟩ (rv_9 hC hI) hG rfl hl.1 rfl (Nat.le_of_ble_eq_true rfl) dOperators_countsAs_5 ⟨Nat.zero_le _, Nat.zero_le _⟩ (fun r7 hr7 => ?_)
  obtain ⟨hr7, er7⟩ := hr7
  refine lv_iconst (v := 3) hx hb dOperators_countsAs_8 (by decide) ?_
  refine lv_icmp_ne (tgt := 34) hx hb dOperators_countsAs_9 (by decide) (fun c8 => ?_) (fun c8 => ?_)
  · refine lv_aload_n hx hb dOperators_countsAs_34 rfl (lv_at hl 0 rfl) ?_
    refine of_get S hC (of_11_0 hI) in_Operators rfl (by decide) qw_46160f6e07 dOperators_countsAs_35 ?_
    refine lv_iload_n hx hb dOperators_countsAs_38 rfl (lv_at hl 1 rfl) ?_
    refine pu_Vi (rest := []) S hC (f9_Looks_numberOf l γ A κ φ ψ x1) meLooks_numberOf qw_567f1aae5f ⟨Nat.le_of_ble_eq_true rfl, Nat.le_of_ble_eq_true rfl⟩ (rv_9 hC hI) hG rfl hl.1 rfl (Nat.le_of_ble_eq_true rfl) dOperators_countsAs_39 ⟨Nat.zero_le _, Nat.zero_le _⟩ (fun r9 hr9 => ?_)
    obtain ⟨hr9, er9⟩ := hr9
    refine lv_i2l hx hb dOperators_countsAs_42 rfl ?_
    refine lv_topl (fun v10 ev10 => ?_)
    exact hE _ _ _ ⟨trivial, (by subst ev10 er9 er7; exact (hO.tr (if_neg c8)).symm)⟩ dOperators_countsAs_43
  · refine lv_aload_n hx hb dOperators_countsAs_12 rfl (lv_at hl 0 rfl) ?_
    refine of_get S hC (of_11_0 hI) in_Operators rfl (by decide) qw_46160f6e07 dOperators_countsAs_13 ?_
    refine of_getN S hC (of_9_5 hI) in_Looks rfl (by decide) qn_de7362ca2e dOperators_countsAs_16 ?_
    refine lv_iload_n hx hb dOperators_countsAs_19 rfl (lv_at hl 1 rfl) ?_
    refine lv_aload_n hx hb dOperators_countsAs_20 rfl (lv_at hl 0 rfl) ?_
    refine of_get S hC (of_11_0 hI) in_Operators rfl (by decide) qw_46160f6e07 dOperators_countsAs_21 ?_
    refine lv_iload_n hx hb dOperators_countsAs_24 rfl (lv_at hl 1 rfl) ?_
    refine pu_Vi (rest := [.int x1, .ref (γ.2.2.2 10)]) S hC (f9_Looks_extentOf l γ A κ φ ψ x1) meLooks_extentOf qw_b0051a6c7a ⟨Nat.le_of_ble_eq_true rfl, Nat.le_of_ble_eq_true rfl⟩ (rv_9 hC hI) hG rfl hl.1 rfl (Nat.le_of_ble_eq_true rfl) dOperators_countsAs_25 ⟨Nat.zero_le _, Nat.zero_le _⟩ (fun r11 hr11 => ?_)
    obtain ⟨hr11, er11⟩ := hr11
    refine pu_Vl (rest := []) S hC (f10_Rows_bitsOf l γ A κ φ ψ x1 r11) meRows_bitsOf qw_1bb8bfda8f ⟨Nat.le_of_ble_eq_true rfl, Nat.le_of_ble_eq_true rfl⟩ (rv_10 hC hI) hG rfl hl.1 rfl (Nat.le_of_ble_eq_true rfl) dOperators_countsAs_28 ⟨Nat.zero_le _, Nat.zero_le _⟩ (fun r12 hr12 => ?_)
    obtain ⟨hr12, er12⟩ := hr12
    refine lv_goto (tgt := 43) hx hb dOperators_countsAs_31 (by decide) ?_
    exact hE _ _ _ ⟨trivial, (by subst er12 er11 er7; exact (hO.tr (if_pos c8)).symm)⟩ dOperators_countsAs_43

def P_Operators_elementOf (κ : Nat → Nat) (φ : gF) (ψ : gG) (x1 : Int32) (x2 : Int32) : Int32 := (if (P_Looks_classOf (κ 7) (φ 9) x1) = 3 then (P_Rows_get (κ 10) (ψ 10) x1 x2) else (P_Looks_numberOf (κ 7) (φ 9) x1))
set_option maxHeartbeats 4000000 in
set_option maxRecDepth 100000 in
theorem f_Operators_elementOf (l : Launch) (γ : gE) (A : Nat → Prop) (κ : Nat → Nat) (φ : gF) (ψ : gG) (x1 : Int32) (x2 : Int32)  : PU l yOperators_elementOf bOperators_elementOf 3 (some .int) 2 42 [.ref (γ.2.2.2 11), .int x1, .int x2] γ (INVF γ A κ φ ψ) (vp_Si (fun v : Int32 => (True) ∧ v = P_Operators_elementOf κ φ ψ x1 x2)) := by
  refine pu_openI (by decide) (Nat.le_of_ble_eq_true rfl) ?_
  intro p e s m args below meth c ls Q S hC hI hE hl
  obtain ⟨hx, hb, hml, hown, hW⟩ := id S
  have hG := hI
  have hI := inv_of hG
  have hl : lv_has ls 3 [(0, .ref (γ.2.2.2 11)), (1, .int x1), (2, .int x2)] := hl
  obtain ⟨OUT, hQ, hO⟩ : ∃ z, (z = P_Operators_elementOf κ φ ψ x1 x2) ∧ Oq z (P_Operators_elementOf κ φ ψ x1 x2) := ⟨_, rfl, rfl⟩
  rw [← hQ] at hE
  clear hQ
  refine lv_aload_n hx hb dOperators_elementOf_0 rfl (lv_at hl 0 rfl) ?_
  refine of_get S hC (of_11_0 hI) in_Operators rfl (by decide) qw_46160f6e07 dOperators_elementOf_1 ?_
  refine lv_iload_n hx hb dOperators_elementOf_4 rfl (lv_at hl 1 rfl) ?_
  refine pu_Vi (rest := []) S hC (f9_Looks_classOf l γ A κ φ ψ x1) meLooks_classOf qw_2e1b0e0eff ⟨Nat.le_of_ble_eq_true rfl, Nat.le_of_ble_eq_true rfl⟩ (rv_9 hC hI) hG rfl hl.1 rfl (Nat.le_of_ble_eq_true rfl) dOperators_elementOf_5 ⟨Nat.zero_le _, Nat.zero_le _⟩ (fun r5 hr5 => ?_)
  obtain ⟨hr5, er5⟩ := hr5
  refine lv_iconst (v := 3) hx hb dOperators_elementOf_8 (by decide) ?_
  refine lv_icmp_ne (tgt := 27) hx hb dOperators_elementOf_9 (by decide) (fun c6 => ?_) (fun c6 => ?_)
  · refine lv_aload_n hx hb dOperators_elementOf_27 rfl (lv_at hl 0 rfl) ?_
    refine of_get S hC (of_11_0 hI) in_Operators rfl (by decide) qw_46160f6e07 dOperators_elementOf_28 ?_
    refine lv_iload_n hx hb dOperators_elementOf_31 rfl (lv_at hl 1 rfl) ?_
    refine pu_Vi (rest := []) S hC (f9_Looks_numberOf l γ A κ φ ψ x1) meLooks_numberOf qw_567f1aae5f ⟨Nat.le_of_ble_eq_true rfl, Nat.le_of_ble_eq_true rfl⟩ (rv_9 hC hI) hG rfl hl.1 rfl (Nat.le_of_ble_eq_true rfl) dOperators_elementOf_32 ⟨Nat.zero_le _, Nat.zero_le _⟩ (fun r7 hr7 => ?_)
    obtain ⟨hr7, er7⟩ := hr7
    exact hE _ _ _ ⟨trivial, (by subst er7 er5; exact (hO.tr (if_neg c6)).symm)⟩ dOperators_elementOf_35
  · refine lv_aload_n hx hb dOperators_elementOf_12 rfl (lv_at hl 0 rfl) ?_
    refine of_get S hC (of_11_0 hI) in_Operators rfl (by decide) qw_46160f6e07 dOperators_elementOf_13 ?_
    refine of_getN S hC (of_9_5 hI) in_Looks rfl (by decide) qn_de7362ca2e dOperators_elementOf_16 ?_
    refine lv_iload_n hx hb dOperators_elementOf_19 rfl (lv_at hl 1 rfl) ?_
    refine lv_iload_n hx hb dOperators_elementOf_20 rfl (lv_at hl 2 rfl) ?_
    refine pu_Vi (rest := []) S hC (f10_Rows_get l γ A κ φ ψ x1 x2) meRows_get qw_2b8ebea4b9 ⟨Nat.le_of_ble_eq_true rfl, Nat.le_of_ble_eq_true rfl⟩ (rv_10 hC hI) hG rfl hl.1 rfl (Nat.le_of_ble_eq_true rfl) dOperators_elementOf_21 ⟨Nat.zero_le _, Nat.zero_le _⟩ (fun r8 hr8 => ?_)
    obtain ⟨hr8, er8⟩ := hr8
    refine lv_goto (tgt := 35) hx hb dOperators_elementOf_24 (by decide) ?_
    exact hE _ _ _ ⟨trivial, (by subst er8 er5; exact (hO.tr (if_pos c6)).symm)⟩ dOperators_elementOf_35

def P_Operators_areAlike_39 (κ : Nat → Nat) (φ : gF) (ψ : gG) : Nat → Int32 → Int32 → Int32 → Int32
  | 0, _, _, _ => default
  | n + 1, i1, i2, i3 => (if (P_Looks_extentOf (κ 7) (φ 9) i1) ≤ i3 then 1 else (if (P_Rows_get (κ 10) (ψ 10) i1 i3) = (P_Rows_get (κ 10) (ψ 10) i2 i3) then (P_Operators_areAlike_39 κ φ ψ n i1 i2 (i3 + 1)) else 0))
def P_Operators_areAlike (κ : Nat → Nat) (φ : gF) (ψ : gG) (x1 : Int32) (x2 : Int32) : Int32 := (if (P_Looks_classOf (κ 7) (φ 9) x1) = 3 then (P_Operators_areAlike_39 κ φ ψ  ((2147483647 - (0 : Int32).toInt).toNat + 1) x1 x2 0) else (if (P_Looks_numberOf (κ 7) (φ 9) x1) = (P_Looks_numberOf (κ 7) (φ 9) x2) then 1 else 0))
set_option maxHeartbeats 4000000 in
set_option maxRecDepth 100000 in
theorem f_Operators_areAlike (l : Launch) (γ : gE) (A : Nat → Prop) (κ : Nat → Nat) (φ : gF) (ψ : gG) (x1 : Int32) (x2 : Int32)  : PU l yOperators_areAlike bOperators_areAlike 4 (some .boolean) 2 42 [.ref (γ.2.2.2 11), .int x1, .int x2] γ (INVF γ A κ φ ψ) (vp_Si (fun v : Int32 => (True) ∧ v = P_Operators_areAlike κ φ ψ x1 x2)) := by
  refine pu_openZ (by decide) (Nat.le_of_ble_eq_true rfl) ?_
  intro p e s m args below meth c ls Q S hC hI hE hl
  obtain ⟨hx, hb, hml, hown, hW⟩ := id S
  have hG := hI
  have hI := inv_of hG
  have hl : lv_has ls 4 [(0, .ref (γ.2.2.2 11)), (1, .int x1), (2, .int x2)] := hl
  obtain ⟨OUT, hQ, hO⟩ : ∃ z, (z = P_Operators_areAlike κ φ ψ x1 x2) ∧ Oq z (P_Operators_areAlike κ φ ψ x1 x2) := ⟨_, rfl, rfl⟩
  rw [← hQ] at hE
  clear hQ
  have J39 : ∀ (N39 : Nat) (ls : Array Slot)  (i1 : Int32) (i2 : Int32) (i3 : Int32), (Oq OUT (P_Operators_areAlike_39 κ φ ψ  (N39 + 1) i1 i2 i3)) → (2147483647 - i3.toInt).toNat = N39 → lv_has ls 4 [(0, .ref (γ.2.2.2 11)), (1, .int i1), (2, .int i2), (3, .int i3)] → W p l e (bs_rm 2 0 0 42) s m args below meth c s.heap [] 0 0 Q (F0 m 39 ls []) := by
    intro N39
    induction N39 using Nat.strongRecOn with
    | ind N39 ih39 =>
      intro ls  i1 i2 i3 hO hm39 hl
      refine lv_iload_n hx hb dOperators_areAlike_39 rfl (lv_at hl 3 rfl) ?_
      refine lv_aload_n hx hb dOperators_areAlike_40 rfl (lv_at hl 0 rfl) ?_
      refine of_get S hC (of_11_0 hI) in_Operators rfl (by decide) qw_46160f6e07 dOperators_areAlike_41 ?_
      refine lv_iload_n hx hb dOperators_areAlike_44 rfl (lv_at hl 1 rfl) ?_
      refine pu_Vi (rest := [.int i3]) S hC (f9_Looks_extentOf l γ A κ φ ψ i1) meLooks_extentOf qw_b0051a6c7a ⟨Nat.le_of_ble_eq_true rfl, Nat.le_of_ble_eq_true rfl⟩ (rv_9 hC hI) hG rfl hl.1 rfl (Nat.le_of_ble_eq_true rfl) dOperators_areAlike_45 ⟨Nat.zero_le _, Nat.zero_le _⟩ (fun r12 hr12 => ?_)
      obtain ⟨hr12, er12⟩ := hr12
      refine lv_icmp_ge (tgt := 86) hx hb dOperators_areAlike_48 (by decide) (fun c13 => ?_) (fun c13 => ?_)
      · refine lv_iconst (v := 1) hx hb dOperators_areAlike_86 (by decide) ?_
        exact hE _ _ _ rfl ⟨trivial, (by subst er12; exact (hO.tr (if_pos c13)).symm)⟩ dOperators_areAlike_87
      · refine lv_aload_n hx hb dOperators_areAlike_51 rfl (lv_at hl 0 rfl) ?_
        refine of_get S hC (of_11_0 hI) in_Operators rfl (by decide) qw_46160f6e07 dOperators_areAlike_52 ?_
        refine of_getN S hC (of_9_5 hI) in_Looks rfl (by decide) qn_de7362ca2e dOperators_areAlike_55 ?_
        refine lv_iload_n hx hb dOperators_areAlike_58 rfl (lv_at hl 1 rfl) ?_
        refine lv_iload_n hx hb dOperators_areAlike_59 rfl (lv_at hl 3 rfl) ?_
        refine pu_Vi (rest := []) S hC (f10_Rows_get l γ A κ φ ψ i1 i3) meRows_get qw_2b8ebea4b9 ⟨Nat.le_of_ble_eq_true rfl, Nat.le_of_ble_eq_true rfl⟩ (rv_10 hC hI) hG rfl hl.1 rfl (Nat.le_of_ble_eq_true rfl) dOperators_areAlike_60 ⟨Nat.zero_le _, Nat.zero_le _⟩ (fun r14 hr14 => ?_)
        obtain ⟨hr14, er14⟩ := hr14
        refine lv_aload_n hx hb dOperators_areAlike_63 rfl (lv_at hl 0 rfl) ?_
        refine of_get S hC (of_11_0 hI) in_Operators rfl (by decide) qw_46160f6e07 dOperators_areAlike_64 ?_
        refine of_getN S hC (of_9_5 hI) in_Looks rfl (by decide) qn_de7362ca2e dOperators_areAlike_67 ?_
        refine lv_iload_n hx hb dOperators_areAlike_70 rfl (lv_at hl 2 rfl) ?_
        refine lv_iload_n hx hb dOperators_areAlike_71 rfl (lv_at hl 3 rfl) ?_
        refine pu_Vi (rest := [.int r14]) S hC (f10_Rows_get l γ A κ φ ψ i2 i3) meRows_get qw_2b8ebea4b9 ⟨Nat.le_of_ble_eq_true rfl, Nat.le_of_ble_eq_true rfl⟩ (rv_10 hC hI) hG rfl hl.1 rfl (Nat.le_of_ble_eq_true rfl) dOperators_areAlike_72 ⟨Nat.zero_le _, Nat.zero_le _⟩ (fun r15 hr15 => ?_)
        obtain ⟨hr15, er15⟩ := hr15
        refine lv_icmp_eq (tgt := 80) hx hb dOperators_areAlike_75 (by decide) (fun c16 => ?_) (fun c16 => ?_)
        · obtain ⟨v17, ev17⟩ : ∃ y : Int32, y = i3 + 1 := ⟨_, rfl⟩
          refine lv_iinc (v := v17) (lv' := [(3, .int v17), (0, .ref (γ.2.2.2 11)), (1, .int i1), (2, .int i2)]) hx hb dOperators_areAlike_80 hl (k := 3) rfl (by rw [ev17]; rfl) (by decide) rfl (fun ls hl => ?_)
          refine lv_goto (tgt := 39) hx hb dOperators_areAlike_83 (by decide) ?_
          exact ih39 _ (by have q1 : i3.toInt < 2147483647 := (by first | exact (mu_up (k := i3) (by assumption)).2 | assumption); have q2 := mu_lt q1; rw [← ev17] at q2; omega) ls i1 i2 v17 (by have hN : N39 = (2147483647 - v17.toInt).toNat + 1 := (by have q1 : i3.toInt < 2147483647 := (by first | exact (mu_up (k := i3) (by assumption)).2 | assumption); have q2 := mu_lt q1; rw [← ev17] at q2; omega); rw [← hN]; clear hN; subst ev17 er15 er14 er12; exact hO.tr ((if_neg c13).trans (if_pos c16))) rfl (lv_sub hl [1, 2, 3, 0] rfl)
        · refine lv_iconst (v := 0) hx hb dOperators_areAlike_78 (by decide) ?_
          exact hE _ _ _ rfl ⟨trivial, (by subst er15 er14 er12; exact (hO.tr ((if_neg c13).trans (if_neg c16))).symm)⟩ dOperators_areAlike_79
  refine lv_aload_n hx hb dOperators_areAlike_0 rfl (lv_at hl 0 rfl) ?_
  refine of_get S hC (of_11_0 hI) in_Operators rfl (by decide) qw_46160f6e07 dOperators_areAlike_1 ?_
  refine lv_iload_n hx hb dOperators_areAlike_4 rfl (lv_at hl 1 rfl) ?_
  refine pu_Vi (rest := []) S hC (f9_Looks_classOf l γ A κ φ ψ x1) meLooks_classOf qw_2e1b0e0eff ⟨Nat.le_of_ble_eq_true rfl, Nat.le_of_ble_eq_true rfl⟩ (rv_9 hC hI) hG rfl hl.1 rfl (Nat.le_of_ble_eq_true rfl) dOperators_areAlike_5 ⟨Nat.zero_le _, Nat.zero_le _⟩ (fun r18 hr18 => ?_)
  obtain ⟨hr18, er18⟩ := hr18
  refine lv_iconst (v := 3) hx hb dOperators_areAlike_8 (by decide) ?_
  refine lv_icmp_eq (tgt := 37) hx hb dOperators_areAlike_9 (by decide) (fun c19 => ?_) (fun c19 => ?_)
  · refine lv_iconst (v := 0) hx hb dOperators_areAlike_37 (by decide) ?_
    refine lv_istore_n (lv' := [(3, .int 0), (0, .ref (γ.2.2.2 11)), (1, .int x1), (2, .int x2)]) hx hb dOperators_areAlike_38 rfl hl (by decide) rfl (fun ls hl => ?_)
    exact J39 _ ls x1 x2 0 (by subst er18; exact hO.tr (if_pos c19)) rfl (lv_sub hl [1, 2, 3, 0] rfl)
  · refine lv_aload_n hx hb dOperators_areAlike_12 rfl (lv_at hl 0 rfl) ?_
    refine of_get S hC (of_11_0 hI) in_Operators rfl (by decide) qw_46160f6e07 dOperators_areAlike_13 ?_
    refine lv_iload_n hx hb dOperators_areAlike_16 rfl (lv_at hl 1 rfl) ?_
    refine pu_Vi (rest := []) S hC (f9_Looks_numberOf l γ A κ φ ψ x1) meLooks_numberOf qw_567f1aae5f ⟨Nat.le_of_ble_eq_true rfl, Nat.le_of_ble_eq_true rfl⟩ (rv_9 hC hI) hG rfl hl.1 rfl (Nat.le_of_ble_eq_true rfl) dOperators_areAlike_17 ⟨Nat.zero_le _, Nat.zero_le _⟩ (fun r20 hr20 => ?_)
    obtain ⟨hr20, er20⟩ := hr20
    refine lv_aload_n hx hb dOperators_areAlike_20 rfl (lv_at hl 0 rfl) ?_
    refine of_get S hC (of_11_0 hI) in_Operators rfl (by decide) qw_46160f6e07 dOperators_areAlike_21 ?_
    refine lv_iload_n hx hb dOperators_areAlike_24 rfl (lv_at hl 2 rfl) ?_
    refine pu_Vi (rest := [.int r20]) S hC (f9_Looks_numberOf l γ A κ φ ψ x2) meLooks_numberOf qw_567f1aae5f ⟨Nat.le_of_ble_eq_true rfl, Nat.le_of_ble_eq_true rfl⟩ (rv_9 hC hI) hG rfl hl.1 rfl (Nat.le_of_ble_eq_true rfl) dOperators_areAlike_25 ⟨Nat.zero_le _, Nat.zero_le _⟩ (fun r21 hr21 => ?_)
    obtain ⟨hr21, er21⟩ := hr21
    refine lv_icmp_ne (tgt := 35) hx hb dOperators_areAlike_28 (by decide) (fun c22 => ?_) (fun c22 => ?_)
    · refine lv_iconst (v := 0) hx hb dOperators_areAlike_35 (by decide) ?_
      exact hE _ _ _ rfl ⟨trivial, (by subst er21 er20 er18; exact (hO.tr ((if_neg c19).trans (if_neg c22))).symm)⟩ dOperators_areAlike_36
    · refine lv_iconst (v := 1) hx hb dOperators_areAlike_31 (by decide) ?_
      refine lv_goto (tgt := 36) hx hb dOperators_areAlike_32 (by decide) ?_
      exact hE _ _ _ rfl ⟨trivial, (by subst er21 er20 er18; exact (hO.tr ((if_neg c19).trans (if_pos c22))).symm)⟩ dOperators_areAlike_36

def P_Operators_isOrdered_74 (κ : Nat → Nat) (φ : gF) (ψ : gG) (i1 : Int32) (i2 : Int32) (i3 : Int32) (i4 : Int32) : Int32 := (if i1 = 8 then (if 0 ≤ i4 then 0 else 1) else (if i1 = 9 then (if 0 < i4 then 0 else 1) else (if i1 = 10 then (if i4 ≤ 0 then 0 else 1) else (if i4 < 0 then 0 else 1))))
def P_Operators_isOrdered (κ : Nat → Nat) (φ : gF) (ψ : gG) (x1 : Int32) (x2 : Int32) (x3 : Int32) : Int32 := (if (P_Looks_classOf (κ 7) (φ 9) x2) = 3 then (if (P_Operators_isClear κ φ ψ x2) = 0 then 0 else (if (P_Operators_isClear κ φ ψ x3) = 0 then 0 else (P_Operators_isOrdered_74 κ φ ψ  x1 x2 x3 (P_jLong_compare ((P_Operators_countsAs κ φ ψ x2) ^^^ (-9223372036854775808)) ((P_Operators_countsAs κ φ ψ x3) ^^^ (-9223372036854775808)))))) else (P_Operators_isOrdered_74 κ φ ψ  x1 x2 x3 (P_jInteger_compare (P_Looks_numberOf (κ 7) (φ 9) x2) (P_Looks_numberOf (κ 7) (φ 9) x3))))
set_option maxHeartbeats 4000000 in
set_option maxRecDepth 100000 in
theorem f_Operators_isOrdered (l : Launch) (γ : gE) (A : Nat → Prop) (κ : Nat → Nat) (φ : gF) (ψ : gG) (x1 : Int32) (x2 : Int32) (x3 : Int32)  : PU l yOperators_isOrdered bOperators_isOrdered 5 (some .boolean) 3 68 [.ref (γ.2.2.2 11), .int x1, .int x2, .int x3] γ (INVF γ A κ φ ψ) (vp_Si (fun v : Int32 => (True) ∧ v = P_Operators_isOrdered κ φ ψ x1 x2 x3)) := by
  refine pu_openZ (by decide) (Nat.le_of_ble_eq_true rfl) ?_
  intro p e s m args below meth c ls Q S hC hI hE hl
  obtain ⟨hx, hb, hml, hown, hW⟩ := id S
  have hG := hI
  have hI := inv_of hG
  have hl : lv_has ls 5 [(0, .ref (γ.2.2.2 11)), (1, .int x1), (2, .int x2), (3, .int x3)] := hl
  obtain ⟨OUT, hQ, hO⟩ : ∃ z, (z = P_Operators_isOrdered κ φ ψ x1 x2 x3) ∧ Oq z (P_Operators_isOrdered κ φ ψ x1 x2 x3) := ⟨_, rfl, rfl⟩
  rw [← hQ] at hE
  clear hQ
  have J74 : ∀ (ls : Array Slot)  (i1 : Int32) (i2 : Int32) (i3 : Int32) (i4 : Int32), (Oq OUT (P_Operators_isOrdered_74 κ φ ψ   i1 i2 i3 i4)) → lv_has ls 5 [(0, .ref (γ.2.2.2 11)), (1, .int i1), (2, .int i2), (3, .int i3), (4, .int i4)] → W p l e (bs_rm 3 0 0 68) s m args below meth c s.heap [] 0 0 Q (F0 m 74 ls []) := by
    intro ls  i1 i2 i3 i4 hO hl
    refine lv_iload_n hx hb dOperators_isOrdered_74 rfl (lv_at hl 1 rfl) ?_
    by_cases k22 : i1 = 8
    · rw [k22]
      refine lv_tableIn (tgt := 100) hx hb dOperators_isOrdered_75 (by decide) (by decide) rfl (by decide) ?_
      refine lv_iload hx hb dOperators_isOrdered_100 (lv_at hl 4 rfl) ?_
      refine lv_if_ge (tgt := 109) hx hb dOperators_isOrdered_102 (by decide) (fun c23 => ?_) (fun c23 => ?_)
      · refine lv_iconst (v := 0) hx hb dOperators_isOrdered_109 (by decide) ?_
        exact hE _ _ _ rfl ⟨trivial, (by exact (hO.tr ((if_pos k22).trans (if_pos c23))).symm)⟩ dOperators_isOrdered_110
      · refine lv_iconst (v := 1) hx hb dOperators_isOrdered_105 (by decide) ?_
        refine lv_goto (tgt := 110) hx hb dOperators_isOrdered_106 (by decide) ?_
        exact hE _ _ _ rfl ⟨trivial, (by exact (hO.tr ((if_pos k22).trans (if_neg c23))).symm)⟩ dOperators_isOrdered_110
    by_cases k24 : i1 = 9
    · rw [k24]
      refine lv_tableIn (tgt := 111) hx hb dOperators_isOrdered_75 (by decide) (by decide) rfl (by decide) ?_
      refine lv_iload hx hb dOperators_isOrdered_111 (lv_at hl 4 rfl) ?_
      refine lv_if_gt (tgt := 120) hx hb dOperators_isOrdered_113 (by decide) (fun c25 => ?_) (fun c25 => ?_)
      · refine lv_iconst (v := 0) hx hb dOperators_isOrdered_120 (by decide) ?_
        exact hE _ _ _ rfl ⟨trivial, (by exact (hO.tr ((if_neg k22).trans ((if_pos k24).trans (if_pos c25)))).symm)⟩ dOperators_isOrdered_121
      · refine lv_iconst (v := 1) hx hb dOperators_isOrdered_116 (by decide) ?_
        refine lv_goto (tgt := 121) hx hb dOperators_isOrdered_117 (by decide) ?_
        exact hE _ _ _ rfl ⟨trivial, (by exact (hO.tr ((if_neg k22).trans ((if_pos k24).trans (if_neg c25)))).symm)⟩ dOperators_isOrdered_121
    by_cases k26 : i1 = 10
    · rw [k26]
      refine lv_tableIn (tgt := 122) hx hb dOperators_isOrdered_75 (by decide) (by decide) rfl (by decide) ?_
      refine lv_iload hx hb dOperators_isOrdered_122 (lv_at hl 4 rfl) ?_
      refine lv_if_le (tgt := 131) hx hb dOperators_isOrdered_124 (by decide) (fun c27 => ?_) (fun c27 => ?_)
      · refine lv_iconst (v := 0) hx hb dOperators_isOrdered_131 (by decide) ?_
        exact hE _ _ _ rfl ⟨trivial, (by exact (hO.tr ((if_neg k22).trans ((if_neg k24).trans ((if_pos k26).trans (if_pos c27))))).symm)⟩ dOperators_isOrdered_132
      · refine lv_iconst (v := 1) hx hb dOperators_isOrdered_127 (by decide) ?_
        refine lv_goto (tgt := 132) hx hb dOperators_isOrdered_128 (by decide) ?_
        exact hE _ _ _ rfl ⟨trivial, (by exact (hO.tr ((if_neg k22).trans ((if_neg k24).trans ((if_pos k26).trans (if_neg c27))))).symm)⟩ dOperators_isOrdered_132
    refine lv_tableOut (tgt := 133) hx hb dOperators_isOrdered_75 (by have qk22 := lv_neT (a := 8) k22 (by decide); have qk24 := lv_neT (a := 9) k24 (by decide); have qk26 := lv_neT (a := 10) k26 (by decide); omega) (by decide) ?_
    refine lv_iload hx hb dOperators_isOrdered_133 (lv_at hl 4 rfl) ?_
    refine lv_if_lt (tgt := 142) hx hb dOperators_isOrdered_135 (by decide) (fun c28 => ?_) (fun c28 => ?_)
    · refine lv_iconst (v := 0) hx hb dOperators_isOrdered_142 (by decide) ?_
      exact hE _ _ _ rfl ⟨trivial, (by exact (hO.tr ((if_neg k22).trans ((if_neg k24).trans ((if_neg k26).trans (if_pos c28))))).symm)⟩ dOperators_isOrdered_143
    · refine lv_iconst (v := 1) hx hb dOperators_isOrdered_138 (by decide) ?_
      refine lv_goto (tgt := 143) hx hb dOperators_isOrdered_139 (by decide) ?_
      exact hE _ _ _ rfl ⟨trivial, (by exact (hO.tr ((if_neg k22).trans ((if_neg k24).trans ((if_neg k26).trans (if_neg c28))))).symm)⟩ dOperators_isOrdered_143
  refine lv_aload_n hx hb dOperators_isOrdered_0 rfl (lv_at hl 0 rfl) ?_
  refine of_get S hC (of_11_0 hI) in_Operators rfl (by decide) qw_46160f6e07 dOperators_isOrdered_1 ?_
  refine lv_iload_n hx hb dOperators_isOrdered_4 rfl (lv_at hl 2 rfl) ?_
  refine pu_Vi (rest := []) S hC (f9_Looks_numberOf l γ A κ φ ψ x2) meLooks_numberOf qw_567f1aae5f ⟨Nat.le_of_ble_eq_true rfl, Nat.le_of_ble_eq_true rfl⟩ (rv_9 hC hI) hG rfl hl.1 rfl (Nat.le_of_ble_eq_true rfl) dOperators_isOrdered_5 ⟨Nat.zero_le _, Nat.zero_le _⟩ (fun r29 hr29 => ?_)
  obtain ⟨hr29, er29⟩ := hr29
  refine lv_aload_n hx hb dOperators_isOrdered_8 rfl (lv_at hl 0 rfl) ?_
  refine of_get S hC (of_11_0 hI) in_Operators rfl (by decide) qw_46160f6e07 dOperators_isOrdered_9 ?_
  refine lv_iload_n hx hb dOperators_isOrdered_12 rfl (lv_at hl 3 rfl) ?_
  refine pu_Vi (rest := [.int r29]) S hC (f9_Looks_numberOf l γ A κ φ ψ x3) meLooks_numberOf qw_567f1aae5f ⟨Nat.le_of_ble_eq_true rfl, Nat.le_of_ble_eq_true rfl⟩ (rv_9 hC hI) hG rfl hl.1 rfl (Nat.le_of_ble_eq_true rfl) dOperators_isOrdered_13 ⟨Nat.zero_le _, Nat.zero_le _⟩ (fun r30 hr30 => ?_)
  obtain ⟨hr30, er30⟩ := hr30
  refine pu_Si (rest := []) S hC (f_jInteger_compare l γ (INVF γ A κ φ ψ) r29 r30) mejInteger_compare qw_a34bb4dff1 ⟨Nat.le_of_ble_eq_true rfl, Nat.le_of_ble_eq_true rfl⟩ hG rfl hl.1 rfl (Nat.le_of_ble_eq_true rfl) dOperators_isOrdered_16 ⟨Nat.zero_le _, Nat.zero_le _⟩ (fun r31 hr31 => ?_)
  obtain ⟨hr31, er31⟩ := hr31
  refine lv_istore (lv' := [(4, .int r31), (0, .ref (γ.2.2.2 11)), (1, .int x1), (2, .int x2), (3, .int x3)]) hx hb dOperators_isOrdered_19 hl (by decide) rfl (fun ls hl => ?_)
  refine lv_aload_n hx hb dOperators_isOrdered_21 rfl (lv_at hl 1 rfl) ?_
  refine of_get S hC (of_11_0 hI) in_Operators rfl (by decide) qw_46160f6e07 dOperators_isOrdered_22 ?_
  refine lv_iload_n hx hb dOperators_isOrdered_25 rfl (lv_at hl 3 rfl) ?_
  refine pu_Vi (rest := []) S hC (f9_Looks_classOf l γ A κ φ ψ x2) meLooks_classOf qw_2e1b0e0eff ⟨Nat.le_of_ble_eq_true rfl, Nat.le_of_ble_eq_true rfl⟩ (rv_9 hC hI) hG rfl hl.1 rfl (Nat.le_of_ble_eq_true rfl) dOperators_isOrdered_26 ⟨Nat.zero_le _, Nat.zero_le _⟩ (fun r32 hr32 => ?_)
  obtain ⟨hr32, er32⟩ := hr32
  refine lv_iconst (v := 3) hx hb dOperators_isOrdered_29 (by decide) ?_
  refine lv_icmp_ne (tgt := 74) hx hb dOperators_isOrdered_30 (by decide) (fun c33 => ?_) (fun c33 => ?_)
  · exact J74 ls x1 x2 x3 r31 (by subst er32 er31 er30 er29; exact hO.tr (if_neg c33)) (lv_sub hl [1, 2, 3, 4, 0] rfl)
  · refine lv_aload_n hx hb dOperators_isOrdered_33 rfl (lv_at hl 1 rfl) ?_
    refine lv_iload_n hx hb dOperators_isOrdered_34 rfl (lv_at hl 3 rfl) ?_
    refine pu_Vi (rest := []) S hC (f_Operators_isClear l γ A κ φ ψ x2) meOperators_isClear qw_9422e74c3c ⟨Nat.le_of_ble_eq_true rfl, Nat.le_of_ble_eq_true rfl⟩ (rv_11 hC hI) hG rfl hl.1 rfl (Nat.le_of_ble_eq_true rfl) dOperators_isOrdered_35 ⟨Nat.zero_le _, Nat.zero_le _⟩ (fun r34 hr34 => ?_)
    obtain ⟨hr34, er34⟩ := hr34
    refine lv_if_eq (tgt := 49) hx hb dOperators_isOrdered_38 (by decide) (fun c35 => ?_) (fun c35 => ?_)
    · refine lv_iconst (v := 0) hx hb dOperators_isOrdered_49 (by decide) ?_
      exact hE _ _ _ rfl ⟨trivial, (by subst er34 er32 er31 er30 er29; exact (hO.tr ((if_pos c33).trans (if_pos c35))).symm)⟩ dOperators_isOrdered_50
    · refine lv_aload_n hx hb dOperators_isOrdered_41 rfl (lv_at hl 1 rfl) ?_
      refine lv_iload_n hx hb dOperators_isOrdered_42 rfl (lv_at hl 4 rfl) ?_
      refine pu_Vi (rest := []) S hC (f_Operators_isClear l γ A κ φ ψ x3) meOperators_isClear qw_9422e74c3c ⟨Nat.le_of_ble_eq_true rfl, Nat.le_of_ble_eq_true rfl⟩ (rv_11 hC hI) hG rfl hl.1 rfl (Nat.le_of_ble_eq_true rfl) dOperators_isOrdered_43 ⟨Nat.zero_le _, Nat.zero_le _⟩ (fun r36 hr36 => ?_)
      obtain ⟨hr36, er36⟩ := hr36
      refine lv_if_ne (tgt := 51) hx hb dOperators_isOrdered_46 (by decide) (fun c37 => ?_) (fun c37 => ?_)
      · refine lv_aload_n hx hb dOperators_isOrdered_51 rfl (lv_at hl 1 rfl) ?_
        refine lv_iload_n hx hb dOperators_isOrdered_52 rfl (lv_at hl 3 rfl) ?_
        refine pu_Vl (rest := []) S hC (f_Operators_countsAs l γ A κ φ ψ x2) meOperators_countsAs qw_1ec68b5307 ⟨Nat.le_of_ble_eq_true rfl, Nat.le_of_ble_eq_true rfl⟩ (rv_11 hC hI) hG rfl hl.1 rfl (Nat.le_of_ble_eq_true rfl) dOperators_isOrdered_53 ⟨Nat.zero_le _, Nat.zero_le _⟩ (fun r38 hr38 => ?_)
        obtain ⟨hr38, er38⟩ := hr38
        refine lv_ldc2 (v := (-9223372036854775808)) hx hb hown (hW _ qw_ea81ec05e8) dOperators_isOrdered_56 ?_
        refine lv_lxor hx hb dOperators_isOrdered_59 ?_
        refine lv_topl (fun v39 ev39 => ?_)
        refine lv_aload_n hx hb dOperators_isOrdered_60 rfl (lv_at hl 1 rfl) ?_
        refine lv_iload_n hx hb dOperators_isOrdered_61 rfl (lv_at hl 4 rfl) ?_
        refine pu_Vl (rest := [.long v39]) S hC (f_Operators_countsAs l γ A κ φ ψ x3) meOperators_countsAs qw_1ec68b5307 ⟨Nat.le_of_ble_eq_true rfl, Nat.le_of_ble_eq_true rfl⟩ (rv_11 hC hI) hG rfl hl.1 rfl (Nat.le_of_ble_eq_true rfl) dOperators_isOrdered_62 ⟨Nat.zero_le _, Nat.zero_le _⟩ (fun r40 hr40 => ?_)
        obtain ⟨hr40, er40⟩ := hr40
        refine lv_ldc2 (v := (-9223372036854775808)) hx hb hown (hW _ qw_ea81ec05e8) dOperators_isOrdered_65 ?_
        refine lv_lxor hx hb dOperators_isOrdered_68 ?_
        refine lv_topl (fun v41 ev41 => ?_)
        refine pu_Si (rest := []) S hC (f_jLong_compare l γ (INVF γ A κ φ ψ) v39 v41) mejLong_compare qw_e0d1ecf615 ⟨Nat.le_of_ble_eq_true rfl, Nat.le_of_ble_eq_true rfl⟩ hG rfl hl.1 rfl (Nat.le_of_ble_eq_true rfl) dOperators_isOrdered_69 ⟨Nat.zero_le _, Nat.zero_le _⟩ (fun r42 hr42 => ?_)
        obtain ⟨hr42, er42⟩ := hr42
        refine lv_istore (lv' := [(4, .int r42), (0, .ref (γ.2.2.2 11)), (1, .int x1), (2, .int x2), (3, .int x3)]) hx hb dOperators_isOrdered_72 hl (by decide) rfl (fun ls hl => ?_)
        exact J74 ls x1 x2 x3 r42 (by subst er42 ev41 er40 ev39 er38 er36 er34 er32 er31 er30 er29; exact hO.tr ((if_pos c33).trans ((if_neg c35).trans (if_neg c37)))) (lv_sub hl [1, 2, 3, 4, 0] rfl)
      · refine lv_iconst (v := 0) hx hb dOperators_isOrdered_49 (by decide) ?_
        exact hE _ _ _ rfl ⟨trivial, (by subst er36 er34 er32 er31 er30 er29; exact (hO.tr ((if_pos c33).trans ((if_neg c35).trans (if_pos c37)))).symm)⟩ dOperators_isOrdered_50

def P_TypeBook_place (κ : Nat → Nat) (φ : gF) (ψ : gG) : Int32 := (φ 1 1 0)
set_option maxHeartbeats 4000000 in
set_option maxRecDepth 100000 in
theorem f_TypeBook_place (l : Launch) (γ : gE) (A : Nat → Prop) (κ : Nat → Nat) (φ : gF) (ψ : gG)   : PU l yTypeBook_place bTypeBook_place 1 (some .int) 0 0 [.ref (γ.2.2.2 0)] γ (INVF γ A κ φ ψ) (vp_Si (fun v : Int32 => (True) ∧ v = P_TypeBook_place κ φ ψ )) := by
  refine pu_openI (by decide) (Nat.le_of_ble_eq_true rfl) ?_
  intro p e s m args below meth c ls Q S hC hI hE hl
  obtain ⟨hx, hb, hml, hown, hW⟩ := id S
  have hG := hI
  have hI := inv_of hG
  have hl : lv_has ls 1 [(0, .ref (γ.2.2.2 0))] := hl
  obtain ⟨OUT, hQ, hO⟩ : ∃ z, (z = P_TypeBook_place κ φ ψ ) ∧ Oq z (P_TypeBook_place κ φ ψ ) := ⟨_, rfl, rfl⟩
  rw [← hQ] at hE
  clear hQ
  refine lv_aload_n hx hb dTypeBook_place_0 rfl (lv_at hl 0 rfl) ?_
  refine of_get S hC (og_0 hG) in_TypeBook rfl (by decide) qw_464f80981e dTypeBook_place_1 ?_
  refine lv_topi (fun v2 ev2 => ?_)
  exact hE _ _ _ ⟨trivial, (by subst ev2; exact (hO.tr rfl).symm)⟩ dTypeBook_place_4

def P_TypeBook_isNameOfOneBefore_2 (κ : Nat → Nat) (φ : gF) (ψ : gG) : Nat → Int32 → Int32 → Int32 → Int32
  | 0, _, _, _ => default
  | n + 1, i1, i2, i3 => (if i2 ≤ i3 then 0 else (if (P_Trees_valueOf (κ 0) (κ 1) (κ 11) (φ 2) i3) = (P_Trees_valueOf (κ 0) (κ 1) (κ 11) (φ 2) i2) then 1 else (P_TypeBook_isNameOfOneBefore_2 κ φ ψ n i1 i2 (i3 + 1))))
def P_TypeBook_isNameOfOneBefore (κ : Nat → Nat) (φ : gF) (ψ : gG) (x1 : Int32) (x2 : Int32) : Int32 := (P_TypeBook_isNameOfOneBefore_2 κ φ ψ  ((2147483647 - x1.toInt).toNat + 1) x1 x2 x1)
set_option maxHeartbeats 4000000 in
set_option maxRecDepth 100000 in
theorem f_TypeBook_isNameOfOneBefore (l : Launch) (γ : gE) (A : Nat → Prop) (κ : Nat → Nat) (φ : gF) (ψ : gG) (x1 : Int32) (x2 : Int32)  : PU l yTypeBook_isNameOfOneBefore bTypeBook_isNameOfOneBefore 4 (some .boolean) 2 42 [.ref (γ.2.2.2 0), .int x1, .int x2] γ (INVF γ A κ φ ψ) (vp_Si (fun v : Int32 => (True) ∧ v = P_TypeBook_isNameOfOneBefore κ φ ψ x1 x2)) := by
  refine pu_openZ (by decide) (Nat.le_of_ble_eq_true rfl) ?_
  intro p e s m args below meth c ls Q S hC hI hE hl
  obtain ⟨hx, hb, hml, hown, hW⟩ := id S
  have hG := hI
  have hI := inv_of hG
  have hl : lv_has ls 4 [(0, .ref (γ.2.2.2 0)), (1, .int x1), (2, .int x2)] := hl
  obtain ⟨OUT, hQ, hO⟩ : ∃ z, (z = P_TypeBook_isNameOfOneBefore κ φ ψ x1 x2) ∧ Oq z (P_TypeBook_isNameOfOneBefore κ φ ψ x1 x2) := ⟨_, rfl, rfl⟩
  rw [← hQ] at hE
  clear hQ
  have J2 : ∀ (N2 : Nat) (ls : Array Slot)  (i1 : Int32) (i2 : Int32) (i3 : Int32), (Oq OUT (P_TypeBook_isNameOfOneBefore_2 κ φ ψ  (N2 + 1) i1 i2 i3)) → (2147483647 - i3.toInt).toNat = N2 → lv_has ls 4 [(0, .ref (γ.2.2.2 0)), (1, .int i1), (2, .int i2), (3, .int i3)] → W p l e (bs_rm 2 0 0 42) s m args below meth c s.heap [] 0 0 Q (F0 m 2 ls []) := by
    intro N2
    induction N2 using Nat.strongRecOn with
    | ind N2 ih2 =>
      intro ls  i1 i2 i3 hO hm2 hl
      refine lv_iload_n hx hb dTypeBook_isNameOfOneBefore_2 rfl (lv_at hl 3 rfl) ?_
      refine lv_iload_n hx hb dTypeBook_isNameOfOneBefore_3 rfl (lv_at hl 2 rfl) ?_
      refine lv_icmp_ge (tgt := 34) hx hb dTypeBook_isNameOfOneBefore_4 (by decide) (fun c6 => ?_) (fun c6 => ?_)
      · refine lv_iconst (v := 0) hx hb dTypeBook_isNameOfOneBefore_34 (by decide) ?_
        exact hE _ _ _ rfl ⟨trivial, (by exact (hO.tr (if_pos c6)).symm)⟩ dTypeBook_isNameOfOneBefore_35
      · refine lv_aload_n hx hb dTypeBook_isNameOfOneBefore_7 rfl (lv_at hl 0 rfl) ?_
        refine of_get S hC (of_0_0 hI) in_TypeBook rfl (by decide) qw_6151ee7924 dTypeBook_isNameOfOneBefore_8 ?_
        refine lv_iload_n hx hb dTypeBook_isNameOfOneBefore_11 rfl (lv_at hl 3 rfl) ?_
        refine pu_Vi (rest := []) S hC (f1_Trees_valueOf l γ A κ φ ψ i3) meTrees_valueOf qw_1062a20d6a ⟨Nat.le_of_ble_eq_true rfl, Nat.le_of_ble_eq_true rfl⟩ (rv_1 hC hI) hG rfl hl.1 rfl (Nat.le_of_ble_eq_true rfl) dTypeBook_isNameOfOneBefore_12 ⟨Nat.zero_le _, Nat.zero_le _⟩ (fun r7 hr7 => ?_)
        obtain ⟨hr7, er7⟩ := hr7
        refine lv_aload_n hx hb dTypeBook_isNameOfOneBefore_15 rfl (lv_at hl 0 rfl) ?_
        refine of_get S hC (of_0_0 hI) in_TypeBook rfl (by decide) qw_6151ee7924 dTypeBook_isNameOfOneBefore_16 ?_
        refine lv_iload_n hx hb dTypeBook_isNameOfOneBefore_19 rfl (lv_at hl 2 rfl) ?_
        refine pu_Vi (rest := [.int r7]) S hC (f1_Trees_valueOf l γ A κ φ ψ i2) meTrees_valueOf qw_1062a20d6a ⟨Nat.le_of_ble_eq_true rfl, Nat.le_of_ble_eq_true rfl⟩ (rv_1 hC hI) hG rfl hl.1 rfl (Nat.le_of_ble_eq_true rfl) dTypeBook_isNameOfOneBefore_20 ⟨Nat.zero_le _, Nat.zero_le _⟩ (fun r8 hr8 => ?_)
        obtain ⟨hr8, er8⟩ := hr8
        refine lv_icmp_ne (tgt := 28) hx hb dTypeBook_isNameOfOneBefore_23 (by decide) (fun c9 => ?_) (fun c9 => ?_)
        · obtain ⟨v10, ev10⟩ : ∃ y : Int32, y = i3 + 1 := ⟨_, rfl⟩
          refine lv_iinc (v := v10) (lv' := [(3, .int v10), (0, .ref (γ.2.2.2 0)), (1, .int i1), (2, .int i2)]) hx hb dTypeBook_isNameOfOneBefore_28 hl (k := 3) rfl (by rw [ev10]; rfl) (by decide) rfl (fun ls hl => ?_)
          refine lv_goto (tgt := 2) hx hb dTypeBook_isNameOfOneBefore_31 (by decide) ?_
          exact ih2 _ (by have q1 : i3.toInt < 2147483647 := (by first | exact (mu_up (k := i3) (by assumption)).2 | assumption); have q2 := mu_lt q1; rw [← ev10] at q2; omega) ls i1 i2 v10 (by have hN : N2 = (2147483647 - v10.toInt).toNat + 1 := (by have q1 : i3.toInt < 2147483647 := (by first | exact (mu_up (k := i3) (by assumption)).2 | assumption); have q2 := mu_lt q1; rw [← ev10] at q2; omega); rw [← hN]; clear hN; subst ev10 er8 er7; exact hO.tr ((if_neg c6).trans (if_neg c9))) rfl (lv_sub hl [1, 2, 3, 0] rfl)
        · refine lv_iconst (v := 1) hx hb dTypeBook_isNameOfOneBefore_26 (by decide) ?_
          exact hE _ _ _ rfl ⟨trivial, (by subst er8 er7; exact (hO.tr ((if_neg c6).trans (if_pos c9))).symm)⟩ dTypeBook_isNameOfOneBefore_27
  refine lv_iload_n hx hb dTypeBook_isNameOfOneBefore_0 rfl (lv_at hl 1 rfl) ?_
  refine lv_istore_n (lv' := [(3, .int x1), (0, .ref (γ.2.2.2 0)), (1, .int x1), (2, .int x2)]) hx hb dTypeBook_isNameOfOneBefore_1 rfl hl (by decide) rfl (fun ls hl => ?_)
  exact J2 _ ls x1 x2 x1 (by exact hO.tr rfl) rfl (lv_sub hl [1, 2, 3, 0] rfl)

def P_TypeBook_malformedEnumNode_83 (κ : Nat → Nat) (φ : gF) (ψ : gG) (k49 : Int32 → Int32 → Int32 → Int32 → Int32 → Int32) (i1 : Int32) (i2 : Int32) (i3 : Int32) (i4 : Int32) (i5 : Int32) : Int32 := (k49 i1 i2 i3 ((P_Trees_firstOf (κ 0) (κ 1) (κ 11) (φ 2) i4) - 1) (i5 + 1))
def P_TypeBook_malformedEnumNode_80 (κ : Nat → Nat) (φ : gF) (ψ : gG) (k49 : Int32 → Int32 → Int32 → Int32 → Int32 → Int32) (i1 : Int32) (i2 : Int32) (i3 : Int32) (i4 : Int32) (i5 : Int32) : Int32 := (P_TypeBook_malformedEnumNode_83 κ φ ψ k49 i1 i2 i4 i4 i5)
def P_TypeBook_malformedEnumNode_49 (κ : Nat → Nat) (φ : gF) (ψ : gG) : Nat → Int32 → Int32 → Int32 → Int32 → Int32 → Int32
  | 0, _, _, _, _, _ => default
  | n + 1, i1, i2, i3, i4, i5 => (if i2 ≤ i5 then i3 else (if (P_Trees_kindOf (κ 0) (κ 1) (κ 11) (φ 2) i4) = 1 then (if (P_Trees_countOf (κ 0) (κ 1) (κ 11) (φ 2) i4) = 0 then (P_TypeBook_malformedEnumNode_83 κ φ ψ (fun a0 a1 a2 a3 a4 => P_TypeBook_malformedEnumNode_49 κ φ ψ  n a0 a1 a2 a3 a4) i1 i2 i3 i4 i5) else (P_TypeBook_malformedEnumNode_80 κ φ ψ (fun a0 a1 a2 a3 a4 => P_TypeBook_malformedEnumNode_49 κ φ ψ  n a0 a1 a2 a3 a4) i1 i2 i3 i4 i5)) else (P_TypeBook_malformedEnumNode_80 κ φ ψ (fun a0 a1 a2 a3 a4 => P_TypeBook_malformedEnumNode_49 κ φ ψ  n a0 a1 a2 a3 a4) i1 i2 i3 i4 i5)))
def P_TypeBook_malformedEnumNode_40 (κ : Nat → Nat) (φ : gF) (ψ : gG) (i1 : Int32) (i2 : Int32) (t0 : Int32) : Int32 := (P_TypeBook_malformedEnumNode_49 κ φ ψ  ((2147483647 - (0 : Int32).toInt).toNat + 1) i1 i2 t0 (i1 - 1) 0)
def P_TypeBook_malformedEnumNode_35 (κ : Nat → Nat) (φ : gF) (ψ : gG) (i1 : Int32) (i2 : Int32) : Int32 := (P_TypeBook_malformedEnumNode_40 κ φ ψ  i1 i2 i1)
def P_TypeBook_malformedEnumNode (κ : Nat → Nat) (φ : gF) (ψ : gG) (x1 : Int32) : Int32 := (if (P_Trees_kindOf (κ 0) (κ 1) (κ 11) (φ 2) x1) = 53 then (if (P_Trees_countOf (κ 0) (κ 1) (κ 11) (φ 2) x1) < 1 then (P_TypeBook_malformedEnumNode_35 κ φ ψ  x1 (P_Trees_countOf (κ 0) (κ 1) (κ 11) (φ 2) x1)) else (if (P_Trees_countOf (κ 0) (κ 1) (κ 11) (φ 2) x1) ≤ 64 then (P_TypeBook_malformedEnumNode_40 κ φ ψ  x1 (P_Trees_countOf (κ 0) (κ 1) (κ 11) (φ 2) x1) (-1)) else (P_TypeBook_malformedEnumNode_35 κ φ ψ  x1 (P_Trees_countOf (κ 0) (κ 1) (κ 11) (φ 2) x1)))) else x1)
set_option maxHeartbeats 4000000 in
set_option maxRecDepth 100000 in
theorem f_TypeBook_malformedEnumNode (l : Launch) (γ : gE) (A : Nat → Prop) (κ : Nat → Nat) (φ : gF) (ψ : gG) (x1 : Int32)  : PU l yTypeBook_malformedEnumNode bTypeBook_malformedEnumNode 6 (some .int) 2 42 [.ref (γ.2.2.2 0), .int x1] γ (INVF γ A κ φ ψ) (vp_Si (fun v : Int32 => (True) ∧ v = P_TypeBook_malformedEnumNode κ φ ψ x1)) := by
  refine pu_openI (by decide) (Nat.le_of_ble_eq_true rfl) ?_
  intro p e s m args below meth c ls Q S hC hI hE hl
  obtain ⟨hx, hb, hml, hown, hW⟩ := id S
  have hG := hI
  have hI := inv_of hG
  have hl : lv_has ls 6 [(0, .ref (γ.2.2.2 0)), (1, .int x1)] := hl
  obtain ⟨OUT, hQ, hO⟩ : ∃ z, (z = P_TypeBook_malformedEnumNode κ φ ψ x1) ∧ Oq z (P_TypeBook_malformedEnumNode κ φ ψ x1) := ⟨_, rfl, rfl⟩
  rw [← hQ] at hE
  clear hQ
  have J49 : ∀ (N49 : Nat) (ls : Array Slot)  (i1 : Int32) (i2 : Int32) (i3 : Int32) (i4 : Int32) (i5 : Int32), (Oq OUT (P_TypeBook_malformedEnumNode_49 κ φ ψ  (N49 + 1) i1 i2 i3 i4 i5)) → (2147483647 - i5.toInt).toNat = N49 → lv_has ls 6 [(0, .ref (γ.2.2.2 0)), (1, .int i1), (2, .int i2), (3, .int i3), (4, .int i4), (5, .int i5)] → W p l e (bs_rm 2 0 0 42) s m args below meth c s.heap [] 0 0 Q (F0 m 49 ls []) := by
    intro N49
    induction N49 using Nat.strongRecOn with
    | ind N49 ih49 =>
      intro ls  i1 i2 i3 i4 i5 hO hm49 hl
      have J83 : ∀ (ls : Array Slot)  (i1 : Int32) (i2 : Int32) (i3 : Int32) (i4 : Int32) (i5 : Int32), (i5.toInt < 2147483647 ∧ (2147483647 - i5.toInt).toNat = N49) → (Oq OUT (P_TypeBook_malformedEnumNode_83 κ φ ψ (fun a0 a1 a2 a3 a4 => P_TypeBook_malformedEnumNode_49 κ φ ψ N49 a0 a1 a2 a3 a4)  i1 i2 i3 i4 i5)) → lv_has ls 6 [(0, .ref (γ.2.2.2 0)), (1, .int i1), (2, .int i2), (3, .int i3), (4, .int i4), (5, .int i5)] → W p l e (bs_rm 2 0 0 42) s m args below meth c s.heap [] 0 0 Q (F0 m 83 ls []) := by
        intro ls  i1 i2 i3 i4 i5 ⟨hf49a, hf49b⟩ hO hl
        refine lv_aload_n hx hb dTypeBook_malformedEnumNode_83 rfl (lv_at hl 0 rfl) ?_
        refine of_get S hC (of_0_0 hI) in_TypeBook rfl (by decide) qw_6151ee7924 dTypeBook_malformedEnumNode_84 ?_
        refine lv_iload hx hb dTypeBook_malformedEnumNode_87 (lv_at hl 4 rfl) ?_
        refine pu_Vi (rest := []) S hC (f1_Trees_firstOf l γ A κ φ ψ i4) meTrees_firstOf qw_cf09947176 ⟨Nat.le_of_ble_eq_true rfl, Nat.le_of_ble_eq_true rfl⟩ (rv_1 hC hI) hG rfl hl.1 rfl (Nat.le_of_ble_eq_true rfl) dTypeBook_malformedEnumNode_89 ⟨Nat.zero_le _, Nat.zero_le _⟩ (fun r15 hr15 => ?_)
        obtain ⟨hr15, er15⟩ := hr15
        refine lv_iconst (v := 1) hx hb dTypeBook_malformedEnumNode_92 (by decide) ?_
        refine lv_isub hx hb dTypeBook_malformedEnumNode_93 ?_
        refine lv_topi (fun v16 ev16 => ?_)
        refine lv_istore (lv' := [(4, .int v16), (0, .ref (γ.2.2.2 0)), (1, .int i1), (2, .int i2), (3, .int i3), (5, .int i5)]) hx hb dTypeBook_malformedEnumNode_94 hl (by decide) rfl (fun ls hl => ?_)
        obtain ⟨v17, ev17⟩ : ∃ y : Int32, y = i5 + 1 := ⟨_, rfl⟩
        refine lv_iinc (v := v17) (lv' := [(5, .int v17), (4, .int v16), (0, .ref (γ.2.2.2 0)), (1, .int i1), (2, .int i2), (3, .int i3)]) hx hb dTypeBook_malformedEnumNode_96 hl (k := 5) rfl (by rw [ev17]; rfl) (by decide) rfl (fun ls hl => ?_)
        refine lv_goto (tgt := 49) hx hb dTypeBook_malformedEnumNode_99 (by decide) ?_
        exact ih49 _ (by have q1 : i5.toInt < 2147483647 := (by first | exact (mu_up (k := i5) (by assumption)).2 | assumption); have q2 := mu_lt q1; rw [← ev17] at q2; omega) ls i1 i2 i3 v16 v17 (by have hN : N49 = (2147483647 - v17.toInt).toNat + 1 := (by have q1 : i5.toInt < 2147483647 := (by first | exact (mu_up (k := i5) (by assumption)).2 | assumption); have q2 := mu_lt q1; rw [← ev17] at q2; omega); rw [← hN]; clear hN; subst ev17 ev16 er15; exact hO.tr rfl) rfl (lv_sub hl [2, 3, 4, 5, 1, 0] rfl)
      have J80 : ∀ (ls : Array Slot)  (i1 : Int32) (i2 : Int32) (i3 : Int32) (i4 : Int32) (i5 : Int32), (i5.toInt < 2147483647 ∧ (2147483647 - i5.toInt).toNat = N49) → (Oq OUT (P_TypeBook_malformedEnumNode_80 κ φ ψ (fun a0 a1 a2 a3 a4 => P_TypeBook_malformedEnumNode_49 κ φ ψ N49 a0 a1 a2 a3 a4)  i1 i2 i3 i4 i5)) → lv_has ls 6 [(0, .ref (γ.2.2.2 0)), (1, .int i1), (2, .int i2), (3, .int i3), (4, .int i4), (5, .int i5)] → W p l e (bs_rm 2 0 0 42) s m args below meth c s.heap [] 0 0 Q (F0 m 80 ls []) := by
        intro ls  i1 i2 i3 i4 i5 ⟨hf49a, hf49b⟩ hO hl
        refine lv_iload hx hb dTypeBook_malformedEnumNode_80 (lv_at hl 4 rfl) ?_
        refine lv_istore_n (lv' := [(3, .int i4), (0, .ref (γ.2.2.2 0)), (1, .int i1), (2, .int i2), (4, .int i4), (5, .int i5)]) hx hb dTypeBook_malformedEnumNode_82 rfl hl (by decide) rfl (fun ls hl => ?_)
        exact J83 ls i1 i2 i4 i4 i5 (by first | exact ⟨(mu_up (k := i5) (by assumption)).2, by assumption⟩ | exact ⟨by assumption, by assumption⟩) (by exact hO.tr rfl) (lv_sub hl [1, 2, 3, 0, 4, 5] rfl)
      refine lv_iload hx hb dTypeBook_malformedEnumNode_49 (lv_at hl 5 rfl) ?_
      refine lv_iload_n hx hb dTypeBook_malformedEnumNode_51 rfl (lv_at hl 2 rfl) ?_
      refine lv_icmp_ge (tgt := 102) hx hb dTypeBook_malformedEnumNode_52 (by decide) (fun c18 => ?_) (fun c18 => ?_)
      · refine lv_iload_n hx hb dTypeBook_malformedEnumNode_102 rfl (lv_at hl 3 rfl) ?_
        exact hE _ _ _ ⟨trivial, (by exact (hO.tr (if_pos c18)).symm)⟩ dTypeBook_malformedEnumNode_103
      · refine lv_aload_n hx hb dTypeBook_malformedEnumNode_55 rfl (lv_at hl 0 rfl) ?_
        refine of_get S hC (of_0_0 hI) in_TypeBook rfl (by decide) qw_6151ee7924 dTypeBook_malformedEnumNode_56 ?_
        refine lv_iload hx hb dTypeBook_malformedEnumNode_59 (lv_at hl 4 rfl) ?_
        refine pu_Vi (rest := []) S hC (f1_Trees_kindOf l γ A κ φ ψ i4) meTrees_kindOf qw_920bbe1ee1 ⟨Nat.le_of_ble_eq_true rfl, Nat.le_of_ble_eq_true rfl⟩ (rv_1 hC hI) hG rfl hl.1 rfl (Nat.le_of_ble_eq_true rfl) dTypeBook_malformedEnumNode_61 ⟨Nat.zero_le _, Nat.zero_le _⟩ (fun r19 hr19 => ?_)
        obtain ⟨hr19, er19⟩ := hr19
        refine lv_iconst (v := 1) hx hb dTypeBook_malformedEnumNode_64 (by decide) ?_
        refine lv_icmp_ne (tgt := 80) hx hb dTypeBook_malformedEnumNode_65 (by decide) (fun c20 => ?_) (fun c20 => ?_)
        · exact J80 ls i1 i2 i3 i4 i5 (by first | exact ⟨(mu_up (k := i5) (by assumption)).2, by assumption⟩ | exact ⟨by assumption, by assumption⟩) (by subst er19; exact hO.tr ((if_neg c18).trans (if_neg c20))) (lv_sub hl [0, 1, 2, 3, 4, 5] rfl)
        · refine lv_aload_n hx hb dTypeBook_malformedEnumNode_68 rfl (lv_at hl 0 rfl) ?_
          refine of_get S hC (of_0_0 hI) in_TypeBook rfl (by decide) qw_6151ee7924 dTypeBook_malformedEnumNode_69 ?_
          refine lv_iload hx hb dTypeBook_malformedEnumNode_72 (lv_at hl 4 rfl) ?_
          refine pu_Vi (rest := []) S hC (f1_Trees_countOf l γ A κ φ ψ i4) meTrees_countOf qw_75eb836d1a ⟨Nat.le_of_ble_eq_true rfl, Nat.le_of_ble_eq_true rfl⟩ (rv_1 hC hI) hG rfl hl.1 rfl (Nat.le_of_ble_eq_true rfl) dTypeBook_malformedEnumNode_74 ⟨Nat.zero_le _, Nat.zero_le _⟩ (fun r21 hr21 => ?_)
          obtain ⟨hr21, er21⟩ := hr21
          refine lv_if_eq (tgt := 83) hx hb dTypeBook_malformedEnumNode_77 (by decide) (fun c22 => ?_) (fun c22 => ?_)
          · exact J83 ls i1 i2 i3 i4 i5 (by first | exact ⟨(mu_up (k := i5) (by assumption)).2, by assumption⟩ | exact ⟨by assumption, by assumption⟩) (by subst er21 er19; exact hO.tr ((if_neg c18).trans ((if_pos c20).trans (if_pos c22)))) (lv_sub hl [0, 1, 2, 3, 4, 5] rfl)
          · exact J80 ls i1 i2 i3 i4 i5 (by first | exact ⟨(mu_up (k := i5) (by assumption)).2, by assumption⟩ | exact ⟨by assumption, by assumption⟩) (by subst er21 er19; exact hO.tr ((if_neg c18).trans ((if_pos c20).trans (if_neg c22)))) (lv_sub hl [0, 1, 2, 3, 4, 5] rfl)
  have J40 : ∀ (ls : Array Slot)  (i1 : Int32) (i2 : Int32) (t0 : Int32), (Oq OUT (P_TypeBook_malformedEnumNode_40 κ φ ψ   i1 i2 t0)) → lv_has ls 6 [(0, .ref (γ.2.2.2 0)), (1, .int i1), (2, .int i2)] → W p l e (bs_rm 2 0 0 42) s m args below meth c s.heap [] 0 0 Q (F0 m 40 ls [.int t0]) := by
    intro ls  i1 i2 t0 hO hl
    refine lv_istore_n (lv' := [(3, .int t0), (0, .ref (γ.2.2.2 0)), (1, .int i1), (2, .int i2)]) hx hb dTypeBook_malformedEnumNode_40 rfl hl (by decide) rfl (fun ls hl => ?_)
    refine lv_iload_n hx hb dTypeBook_malformedEnumNode_41 rfl (lv_at hl 2 rfl) ?_
    refine lv_iconst (v := 1) hx hb dTypeBook_malformedEnumNode_42 (by decide) ?_
    refine lv_isub hx hb dTypeBook_malformedEnumNode_43 ?_
    refine lv_topi (fun v23 ev23 => ?_)
    refine lv_istore (lv' := [(4, .int v23), (3, .int t0), (0, .ref (γ.2.2.2 0)), (1, .int i1), (2, .int i2)]) hx hb dTypeBook_malformedEnumNode_44 hl (by decide) rfl (fun ls hl => ?_)
    refine lv_iconst (v := 0) hx hb dTypeBook_malformedEnumNode_46 (by decide) ?_
    refine lv_istore (lv' := [(5, .int 0), (4, .int v23), (3, .int t0), (0, .ref (γ.2.2.2 0)), (1, .int i1), (2, .int i2)]) hx hb dTypeBook_malformedEnumNode_47 hl (by decide) rfl (fun ls hl => ?_)
    exact J49 _ ls i1 i2 t0 v23 0 (by subst ev23; exact hO.tr rfl) rfl (lv_sub hl [3, 4, 5, 2, 1, 0] rfl)
  have J35 : ∀ (ls : Array Slot)  (i1 : Int32) (i2 : Int32), (Oq OUT (P_TypeBook_malformedEnumNode_35 κ φ ψ   i1 i2)) → lv_has ls 6 [(0, .ref (γ.2.2.2 0)), (1, .int i1), (2, .int i2)] → W p l e (bs_rm 2 0 0 42) s m args below meth c s.heap [] 0 0 Q (F0 m 35 ls []) := by
    intro ls  i1 i2 hO hl
    refine lv_iload_n hx hb dTypeBook_malformedEnumNode_35 rfl (lv_at hl 1 rfl) ?_
    refine lv_goto (tgt := 40) hx hb dTypeBook_malformedEnumNode_36 (by decide) ?_
    exact J40 ls i1 i2 i1 (by exact hO.tr rfl) (lv_sub hl [0, 1, 2] rfl)
  refine lv_aload_n hx hb dTypeBook_malformedEnumNode_0 rfl (lv_at hl 0 rfl) ?_
  refine of_get S hC (of_0_0 hI) in_TypeBook rfl (by decide) qw_6151ee7924 dTypeBook_malformedEnumNode_1 ?_
  refine lv_iload_n hx hb dTypeBook_malformedEnumNode_4 rfl (lv_at hl 1 rfl) ?_
  refine pu_Vi (rest := []) S hC (f1_Trees_kindOf l γ A κ φ ψ x1) meTrees_kindOf qw_920bbe1ee1 ⟨Nat.le_of_ble_eq_true rfl, Nat.le_of_ble_eq_true rfl⟩ (rv_1 hC hI) hG rfl hl.1 rfl (Nat.le_of_ble_eq_true rfl) dTypeBook_malformedEnumNode_5 ⟨Nat.zero_le _, Nat.zero_le _⟩ (fun r24 hr24 => ?_)
  obtain ⟨hr24, er24⟩ := hr24
  refine lv_bipush (v := 53) hx hb dTypeBook_malformedEnumNode_8 (by decide) ?_
  refine lv_icmp_eq (tgt := 15) hx hb dTypeBook_malformedEnumNode_10 (by decide) (fun c25 => ?_) (fun c25 => ?_)
  · refine lv_aload_n hx hb dTypeBook_malformedEnumNode_15 rfl (lv_at hl 0 rfl) ?_
    refine of_get S hC (of_0_0 hI) in_TypeBook rfl (by decide) qw_6151ee7924 dTypeBook_malformedEnumNode_16 ?_
    refine lv_iload_n hx hb dTypeBook_malformedEnumNode_19 rfl (lv_at hl 1 rfl) ?_
    refine pu_Vi (rest := []) S hC (f1_Trees_countOf l γ A κ φ ψ x1) meTrees_countOf qw_75eb836d1a ⟨Nat.le_of_ble_eq_true rfl, Nat.le_of_ble_eq_true rfl⟩ (rv_1 hC hI) hG rfl hl.1 rfl (Nat.le_of_ble_eq_true rfl) dTypeBook_malformedEnumNode_20 ⟨Nat.zero_le _, Nat.zero_le _⟩ (fun r26 hr26 => ?_)
    obtain ⟨hr26, er26⟩ := hr26
    refine lv_istore_n (lv' := [(2, .int r26), (0, .ref (γ.2.2.2 0)), (1, .int x1)]) hx hb dTypeBook_malformedEnumNode_23 rfl hl (by decide) rfl (fun ls hl => ?_)
    refine lv_iload_n hx hb dTypeBook_malformedEnumNode_24 rfl (lv_at hl 0 rfl) ?_
    refine lv_iconst (v := 1) hx hb dTypeBook_malformedEnumNode_25 (by decide) ?_
    refine lv_icmp_lt (tgt := 35) hx hb dTypeBook_malformedEnumNode_26 (by decide) (fun c27 => ?_) (fun c27 => ?_)
    · exact J35 ls x1 r26 (by subst er26 er24; exact hO.tr ((if_pos c25).trans (if_pos c27))) (lv_sub hl [1, 2, 0] rfl)
    · refine lv_iload_n hx hb dTypeBook_malformedEnumNode_29 rfl (lv_at hl 0 rfl) ?_
      refine lv_bipush (v := 64) hx hb dTypeBook_malformedEnumNode_30 (by decide) ?_
      refine lv_icmp_le (tgt := 39) hx hb dTypeBook_malformedEnumNode_32 (by decide) (fun c28 => ?_) (fun c28 => ?_)
      · refine lv_iconst (v := (-1)) hx hb dTypeBook_malformedEnumNode_39 (by decide) ?_
        exact J40 ls x1 r26 (-1) (by subst er26 er24; exact hO.tr ((if_pos c25).trans ((if_neg c27).trans (if_pos c28)))) (lv_sub hl [1, 2, 0] rfl)
      · exact J35 ls x1 r26 (by subst er26 er24; exact hO.tr ((if_pos c25).trans ((if_neg c27).trans (if_neg c28)))) (lv_sub hl [1, 2, 0] rfl)
  · refine lv_iload_n hx hb dTypeBook_malformedEnumNode_13 rfl (lv_at hl 1 rfl) ?_
    exact hE _ _ _ ⟨trivial, (by subst er24; exact (hO.tr (if_neg c25)).symm)⟩ dTypeBook_malformedEnumNode_14
