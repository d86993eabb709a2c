def P_Meanings_noteObject (κ : Nat → Nat) (φ : gF) (ψ : gG) (x1 : Int32) (x2 : Int32) : gF × gG := ((up (up (up φ 9 (P_Looks_note (κ 7) (φ 9) x1 (P_Types_classOf (κ 4) (κ 13) (φ 4) (P_Objects_typeOfObject (κ 5) (κ 14) (φ 5) x2)) (P_Types_extentOf (κ 4) (κ 13) (φ 4) (P_Objects_typeOfObject (κ 5) (κ 14) (φ 5) x2)) (P_Meanings_isConstant κ φ ψ x2))) 9 (P_Looks_setMeaning (κ 7) ((up φ 9 (P_Looks_note (κ 7) (φ 9) x1 (P_Types_classOf (κ 4) (κ 13) (φ 4) (P_Objects_typeOfObject (κ 5) (κ 14) (φ 5) x2)) (P_Types_extentOf (κ 4) (κ 13) (φ 4) (P_Objects_typeOfObject (κ 5) (κ 14) (φ 5) x2)) (P_Meanings_isConstant κ φ ψ x2))) 9) x1 x2)) 9 (P_Looks_setNumber (κ 7) ((up (up φ 9 (P_Looks_note (κ 7) (φ 9) x1 (P_Types_classOf (κ 4) (κ 13) (φ 4) (P_Objects_typeOfObject (κ 5) (κ 14) (φ 5) x2)) (P_Types_extentOf (κ 4) (κ 13) (φ 4) (P_Objects_typeOfObject (κ 5) (κ 14) (φ 5) x2)) (P_Meanings_isConstant κ φ ψ x2))) 9 (P_Looks_setMeaning (κ 7) ((up φ 9 (P_Looks_note (κ 7) (φ 9) x1 (P_Types_classOf (κ 4) (κ 13) (φ 4) (P_Objects_typeOfObject (κ 5) (κ 14) (φ 5) x2)) (P_Types_extentOf (κ 4) (κ 13) (φ 4) (P_Objects_typeOfObject (κ 5) (κ 14) (φ 5) x2)) (P_Meanings_isConstant κ φ ψ x2))) 9) x1 x2)) 9) x1 (P_Objects_numberOf (κ 5) (κ 14) ((up (up φ 9 (P_Looks_note (κ 7) (φ 9) x1 (P_Types_classOf (κ 4) (κ 13) (φ 4) (P_Objects_typeOfObject (κ 5) (κ 14) (φ 5) x2)) (P_Types_extentOf (κ 4) (κ 13) (φ 4) (P_Objects_typeOfObject (κ 5) (κ 14) (φ 5) x2)) (P_Meanings_isConstant κ φ ψ x2))) 9 (P_Looks_setMeaning (κ 7) ((up φ 9 (P_Looks_note (κ 7) (φ 9) x1 (P_Types_classOf (κ 4) (κ 13) (φ 4) (P_Objects_typeOfObject (κ 5) (κ 14) (φ 5) x2)) (P_Types_extentOf (κ 4) (κ 13) (φ 4) (P_Objects_typeOfObject (κ 5) (κ 14) (φ 5) x2)) (P_Meanings_isConstant κ φ ψ x2))) 9) x1 x2)) 5) x2))), (up ψ 10 (P_Rows_copy (κ 10) (κ 8) (ψ 10) (ψ 6) x1 x2)))
set_option maxHeartbeats 4000000 in
set_option maxRecDepth 100000 in
theorem f_Meanings_noteObject (l : Launch) (γ : gE) (A : Nat → Prop) (κ : Nat → Nat) (φ : gF) (ψ : gG) (x1 : Int32) (x2 : Int32) : MU l yMeanings_noteObject bMeanings_noteObject 4 (none) 3 83 0 0 [.ref (γ.2.2.2 12), .int x1, .int x2] γ A (INVF γ A κ φ ψ) (mQv (fun H => INVF γ A κ (P_Meanings_noteObject κ φ ψ x1 x2).1 (P_Meanings_noteObject κ φ ψ x1 x2).2 H) A) := by
  refine mu_openV (by decide) (Nat.le_of_ble_eq_true rfl) ?_
  intro p e s m args below meth c ls Q S hnm hC hA hG hE hl
  obtain ⟨hx, hb, hml, hown, hW⟩ := id S
  have hI := inv_of hG
  have hS : va_S A s.heap s.heap [] := va_S.rf
  have hl : lv_has ls 4 [(0, .ref (γ.2.2.2 12)), (1, .int x1), (2, .int x2)] := hl
  obtain ⟨OUT, hQ, hO⟩ : ∃ z, (z = P_Meanings_noteObject κ φ ψ x1 x2) ∧ Oq z (P_Meanings_noteObject κ φ ψ x1 x2) := ⟨_, rfl, rfl⟩
  rw [← hQ] at hE
  clear hQ
  refine lv_aload_n hx hb dMeanings_noteObject_0 rfl (lv_at hl 0 rfl) ?_
  refine of_get S hC (of_12_3 hI) in_Meanings rfl (by decide) qw_9bfdade5f5 dMeanings_noteObject_1 ?_
  refine lv_iload_n hx hb dMeanings_noteObject_4 rfl (lv_at hl 2 rfl) ?_
  refine pu_Vi (rest := []) S hC (f4_Objects_typeOfObject l γ A κ φ ψ x2) meObjects_typeOfObject qw_bc7306873f ⟨Nat.le_of_ble_eq_true rfl, Nat.le_of_ble_eq_true rfl⟩ (rv_4 hC hI) hG rfl hl.1 rfl (Nat.le_of_ble_eq_true rfl) dMeanings_noteObject_5 ⟨Nat.zero_le _, Nat.zero_le _⟩ (fun r14 hr14 => ?_)
  obtain ⟨hr14, er14⟩ := hr14
  refine lv_istore_n (lv' := [(3, .int r14), (0, .ref (γ.2.2.2 12)), (1, .int x1), (2, .int x2)]) hx hb dMeanings_noteObject_8 rfl hl (by decide) rfl (fun ls hl => ?_)
  refine lv_aload_n hx hb dMeanings_noteObject_9 rfl (lv_at hl 1 rfl) ?_
  refine of_get S hC (of_12_4 hI) in_Meanings rfl (by decide) qw_aa3d3bbcf9 dMeanings_noteObject_10 ?_
  refine lv_iload_n hx hb dMeanings_noteObject_13 rfl (lv_at hl 2 rfl) ?_
  refine lv_aload_n hx hb dMeanings_noteObject_14 rfl (lv_at hl 1 rfl) ?_
  refine of_get S hC (of_12_2 hI) in_Meanings rfl (by decide) qw_e2a2dba4a9 dMeanings_noteObject_15 ?_
  refine lv_iload_n hx hb dMeanings_noteObject_18 rfl (lv_at hl 0 rfl) ?_
  refine pu_Vi (rest := [.int x1, .ref (γ.2.2.2 9)]) S hC (f3_Types_classOf l γ A κ φ ψ r14) meTypes_classOf qw_ac19273b21 ⟨Nat.le_of_ble_eq_true rfl, Nat.le_of_ble_eq_true rfl⟩ (rv_3 hC hI) hG rfl hl.1 rfl (Nat.le_of_ble_eq_true rfl) dMeanings_noteObject_19 ⟨Nat.zero_le _, Nat.zero_le _⟩ (fun r15 hr15 => ?_)
  obtain ⟨hr15, er15⟩ := hr15
  refine lv_aload_n hx hb dMeanings_noteObject_22 rfl (lv_at hl 1 rfl) ?_
  refine of_get S hC (of_12_2 hI) in_Meanings rfl (by decide) qw_e2a2dba4a9 dMeanings_noteObject_23 ?_
  refine lv_iload_n hx hb dMeanings_noteObject_26 rfl (lv_at hl 0 rfl) ?_
  refine pu_Vi (rest := [.int r15, .int x1, .ref (γ.2.2.2 9)]) S hC (f3_Types_extentOf l γ A κ φ ψ r14) meTypes_extentOf qw_3b2c7270bb ⟨Nat.le_of_ble_eq_true rfl, Nat.le_of_ble_eq_true rfl⟩ (rv_3 hC hI) hG rfl hl.1 rfl (Nat.le_of_ble_eq_true rfl) dMeanings_noteObject_27 ⟨Nat.zero_le _, Nat.zero_le _⟩ (fun r16 hr16 => ?_)
  obtain ⟨hr16, er16⟩ := hr16
  refine lv_aload_n hx hb dMeanings_noteObject_30 rfl (lv_at hl 1 rfl) ?_
  refine lv_iload_n hx hb dMeanings_noteObject_31 rfl (lv_at hl 3 rfl) ?_
  refine pu_Vi (rest := [.int r16, .int r15, .int x1, .ref (γ.2.2.2 9)]) S hC (f_Meanings_isConstant l γ A κ φ ψ x2) meMeanings_isConstant qw_39c162a16b ⟨Nat.le_of_ble_eq_true rfl, Nat.le_of_ble_eq_true rfl⟩ (rv_12 hC hI) hG rfl hl.1 rfl (Nat.le_of_ble_eq_true rfl) dMeanings_noteObject_32 ⟨Nat.zero_le _, Nat.zero_le _⟩ (fun r17 hr17 => ?_)
  obtain ⟨hr17, er17⟩ := hr17
  refine mu_Vv (rest := []) S hC (fun q h => hA q (Nat.le_trans hS.1 h)) (fun q h => h) hS (f9_Looks_note l γ A κ φ ψ x1 r15 r16 r17) meLooks_note qw_454d4ae88d ⟨Nat.le_of_ble_eq_true rfl, Nat.le_of_ble_eq_true rfl⟩ (rv_9 hC hI) hG rfl hl.1 rfl (Nat.le_of_ble_eq_true rfl) dMeanings_noteObject_35 ⟨Nat.le_refl _, Nat.le_refl _⟩ (fun H locs hG hS _ _ => ?_)
  obtain ⟨φ19, eφ19⟩ : ∃ z : gF, z = up φ 9 (P_Looks_note (κ 7) (φ 9) x1 r15 r16 r17) := ⟨_, rfl⟩
  rw [← eφ19] at hG
  have hI := inv_of hG
  refine lv_aload_n hx hb dMeanings_noteObject_38 rfl (lv_at hl 1 rfl) ?_
  refine of_get S hC (of_12_4 hI) in_Meanings rfl (by decide) qw_aa3d3bbcf9 dMeanings_noteObject_39 ?_
  refine lv_iload_n hx hb dMeanings_noteObject_42 rfl (lv_at hl 2 rfl) ?_
  refine lv_iload_n hx hb dMeanings_noteObject_43 rfl (lv_at hl 3 rfl) ?_
  refine mu_Vv (rest := []) S hC (fun q h => hA q (Nat.le_trans hS.1 h)) (fun q h => h) hS (f9_Looks_setMeaning l γ A κ φ19 ψ x1 x2) meLooks_setMeaning qw_23315a9189 ⟨Nat.le_of_ble_eq_true rfl, Nat.le_of_ble_eq_true rfl⟩ (rv_9 hC hI) hG rfl hl.1 rfl (Nat.le_of_ble_eq_true rfl) dMeanings_noteObject_44 ⟨Nat.le_refl _, Nat.le_refl _⟩ (fun H locs hG hS _ _ => ?_)
  obtain ⟨φ21, eφ21⟩ : ∃ z : gF, z = up φ19 9 (P_Looks_setMeaning (κ 7) (φ19 9) x1 x2) := ⟨_, rfl⟩
  rw [← eφ21] at hG
  have hI := inv_of hG
  refine lv_aload_n hx hb dMeanings_noteObject_47 rfl (lv_at hl 1 rfl) ?_
  refine of_get S hC (of_12_4 hI) in_Meanings rfl (by decide) qw_aa3d3bbcf9 dMeanings_noteObject_48 ?_
  refine lv_iload_n hx hb dMeanings_noteObject_51 rfl (lv_at hl 2 rfl) ?_
  refine lv_aload_n hx hb dMeanings_noteObject_52 rfl (lv_at hl 1 rfl) ?_
  refine of_get S hC (of_12_3 hI) in_Meanings rfl (by decide) qw_9bfdade5f5 dMeanings_noteObject_53 ?_
  refine lv_iload_n hx hb dMeanings_noteObject_56 rfl (lv_at hl 3 rfl) ?_
  refine pu_Vi (rest := [.int x1, .ref (γ.2.2.2 9)]) S hC (f4_Objects_numberOf l γ A κ φ21 ψ x2) meObjects_numberOf qw_9efd1cd835 ⟨Nat.le_of_ble_eq_true rfl, Nat.le_of_ble_eq_true rfl⟩ (rv_4 hC hI) hG rfl hl.1 rfl (Nat.le_of_ble_eq_true rfl) dMeanings_noteObject_57 ⟨Nat.zero_le _, Nat.zero_le _⟩ (fun r22 hr22 => ?_)
  obtain ⟨hr22, er22⟩ := hr22
  refine mu_Vv (rest := []) S hC (fun q h => hA q (Nat.le_trans hS.1 h)) (fun q h => h) hS (f9_Looks_setNumber l γ A κ φ21 ψ x1 r22) meLooks_setNumber qw_86190d2de0 ⟨Nat.le_of_ble_eq_true rfl, Nat.le_of_ble_eq_true rfl⟩ (rv_9 hC hI) hG rfl hl.1 rfl (Nat.le_of_ble_eq_true rfl) dMeanings_noteObject_60 ⟨Nat.le_refl _, Nat.le_refl _⟩ (fun H locs hG hS _ _ => ?_)
  obtain ⟨φ24, eφ24⟩ : ∃ z : gF, z = up φ21 9 (P_Looks_setNumber (κ 7) (φ21 9) x1 r22) := ⟨_, rfl⟩
  rw [← eφ24] at hG
  have hI := inv_of hG
  refine lv_aload_n hx hb dMeanings_noteObject_63 rfl (lv_at hl 1 rfl) ?_
  refine of_get S hC (of_12_4 hI) in_Meanings rfl (by decide) qw_aa3d3bbcf9 dMeanings_noteObject_64 ?_
  refine of_getN S hC (of_9_5 hI) in_Looks rfl (by decide) qn_3420aee8ba dMeanings_noteObject_67 ?_
  refine lv_iload_n hx hb dMeanings_noteObject_70 rfl (lv_at hl 2 rfl) ?_
  refine lv_aload_n hx hb dMeanings_noteObject_71 rfl (lv_at hl 1 rfl) ?_
  refine of_get S hC (of_12_3 hI) in_Meanings rfl (by decide) qw_9bfdade5f5 dMeanings_noteObject_72 ?_
  refine of_getN S hC (of_4_3 hI) in_Objects rfl (by decide) qn_d1f72cec6f dMeanings_noteObject_75 ?_
  refine lv_iload_n hx hb dMeanings_noteObject_78 rfl (lv_at hl 3 rfl) ?_
  refine mu_Vv (rest := []) S hC (fun q h => hA q (Nat.le_trans hS.1 h)) (fun q h => h) hS (f10_Rows_copy l γ A κ φ24 ψ x1 x2) meRows_copy qw_02f321e768 ⟨Nat.le_of_ble_eq_true rfl, Nat.le_of_ble_eq_true rfl⟩ (rv_10 hC hI) hG rfl hl.1 rfl (Nat.le_of_ble_eq_true rfl) dMeanings_noteObject_79 ⟨Nat.le_refl _, Nat.le_refl _⟩ (fun H locs hG hS _ _ => ?_)
  obtain ⟨ψ26, eψ26⟩ : ∃ z : gG, z = up ψ 10 (P_Rows_copy (κ 10) (κ 8) (ψ 10) (ψ 6) x1 x2) := ⟨_, rfl⟩
  rw [← eψ26] at hG
  have hI := inv_of hG
  exact hE _ _ _ _ hS (by have hO2 : Oq OUT (φ24, ψ26) := (by subst eψ26 eφ24 er22 eφ21 eφ19 er17 er16 er15 er14; exact hO.tr rfl); rw [hO2.eq]; exact hG) dMeanings_noteObject_82

def P_Meanings_noteValue (κ : Nat → Nat) (φ : gF) (ψ : gG) (x1 : Int32) (x2 : Int32) (x3 : Int32) (x4 : Int32) : gF × gG := ((up (up (up φ 9 (P_Looks_note (κ 7) (φ 9) x1 x2 x3 1)) 9 (P_Looks_setMeaning (κ 7) ((up φ 9 (P_Looks_note (κ 7) (φ 9) x1 x2 x3 1)) 9) x1 2000)) 9 (P_Looks_setNumber (κ 7) ((up (up φ 9 (P_Looks_note (κ 7) (φ 9) x1 x2 x3 1)) 9 (P_Looks_setMeaning (κ 7) ((up φ 9 (P_Looks_note (κ 7) (φ 9) x1 x2 x3 1)) 9) x1 2000)) 9) x1 x4)), ψ)
set_option maxHeartbeats 4000000 in
set_option maxRecDepth 100000 in
theorem f_Meanings_noteValue (l : Launch) (γ : gE) (A : Nat → Prop) (κ : Nat → Nat) (φ : gF) (ψ : gG) (x1 : Int32) (x2 : Int32) (x3 : Int32) (x4 : Int32) : MU l yMeanings_noteValue bMeanings_noteValue 5 (none) 2 45 0 0 [.ref (γ.2.2.2 12), .int x1, .int x2, .int x3, .int x4] γ A (INVF γ A κ φ ψ) (mQv (fun H => INVF γ A κ (P_Meanings_noteValue κ φ ψ x1 x2 x3 x4).1 (P_Meanings_noteValue κ φ ψ x1 x2 x3 x4).2 H) A) := by
  refine mu_openV (by decide) (Nat.le_of_ble_eq_true rfl) ?_
  intro p e s m args below meth c ls Q S hnm hC hA hG hE hl
  obtain ⟨hx, hb, hml, hown, hW⟩ := id S
  have hI := inv_of hG
  have hS : va_S A s.heap s.heap [] := va_S.rf
  have hl : lv_has ls 5 [(0, .ref (γ.2.2.2 12)), (1, .int x1), (2, .int x2), (3, .int x3), (4, .int x4)] := hl
  obtain ⟨OUT, hQ, hO⟩ : ∃ z, (z = P_Meanings_noteValue κ φ ψ x1 x2 x3 x4) ∧ Oq z (P_Meanings_noteValue κ φ ψ x1 x2 x3 x4) := ⟨_, rfl, rfl⟩
  rw [← hQ] at hE
  clear hQ
  refine lv_aload_n hx hb dMeanings_noteValue_0 rfl (lv_at hl 0 rfl) ?_
  refine of_get S hC (of_12_4 hI) in_Meanings rfl (by decide) qw_aa3d3bbcf9 dMeanings_noteValue_1 ?_
  refine lv_iload_n hx hb dMeanings_noteValue_4 rfl (lv_at hl 1 rfl) ?_
  refine lv_iload_n hx hb dMeanings_noteValue_5 rfl (lv_at hl 2 rfl) ?_
  refine lv_iload_n hx hb dMeanings_noteValue_6 rfl (lv_at hl 3 rfl) ?_
  refine lv_iconst (v := 1) hx hb dMeanings_noteValue_7 (by decide) ?_
  refine mu_Vv (rest := []) S hC (fun q h => hA q (Nat.le_trans hS.1 h)) (fun q h => h) hS (f9_Looks_note l γ A κ φ ψ x1 x2 x3 1) meLooks_note qw_454d4ae88d ⟨Nat.le_of_ble_eq_true rfl, Nat.le_of_ble_eq_true rfl⟩ (rv_9 hC hI) hG rfl hl.1 rfl (Nat.le_of_ble_eq_true rfl) dMeanings_noteValue_8 ⟨Nat.le_refl _, Nat.le_refl _⟩ (fun H locs hG hS _ _ => ?_)
  obtain ⟨φ8, eφ8⟩ : ∃ z : gF, z = up φ 9 (P_Looks_note (κ 7) (φ 9) x1 x2 x3 1) := ⟨_, rfl⟩
  rw [← eφ8] at hG
  have hI := inv_of hG
  refine lv_aload_n hx hb dMeanings_noteValue_11 rfl (lv_at hl 0 rfl) ?_
  refine of_get S hC (of_12_4 hI) in_Meanings rfl (by decide) qw_aa3d3bbcf9 dMeanings_noteValue_12 ?_
  refine lv_iload_n hx hb dMeanings_noteValue_15 rfl (lv_at hl 1 rfl) ?_
  refine lv_sipush (v := 2000) hx hb dMeanings_noteValue_16 (by decide) ?_
  refine mu_Vv (rest := []) S hC (fun q h => hA q (Nat.le_trans hS.1 h)) (fun q h => h) hS (f9_Looks_setMeaning l γ A κ φ8 ψ x1 2000) meLooks_setMeaning qw_23315a9189 ⟨Nat.le_of_ble_eq_true rfl, Nat.le_of_ble_eq_true rfl⟩ (rv_9 hC hI) hG rfl hl.1 rfl (Nat.le_of_ble_eq_true rfl) dMeanings_noteValue_19 ⟨Nat.le_refl _, Nat.le_refl _⟩ (fun H locs hG hS _ _ => ?_)
  obtain ⟨φ10, eφ10⟩ : ∃ z : gF, z = up φ8 9 (P_Looks_setMeaning (κ 7) (φ8 9) x1 2000) := ⟨_, rfl⟩
  rw [← eφ10] at hG
  have hI := inv_of hG
  refine lv_aload_n hx hb dMeanings_noteValue_22 rfl (lv_at hl 0 rfl) ?_
  refine of_get S hC (of_12_4 hI) in_Meanings rfl (by decide) qw_aa3d3bbcf9 dMeanings_noteValue_23 ?_
  refine lv_iload_n hx hb dMeanings_noteValue_26 rfl (lv_at hl 1 rfl) ?_
  refine lv_iload hx hb dMeanings_noteValue_27 (lv_at hl 4 rfl) ?_
  refine mu_Vv (rest := []) S hC (fun q h => hA q (Nat.le_trans hS.1 h)) (fun q h => h) hS (f9_Looks_setNumber l γ A κ φ10 ψ x1 x4) meLooks_setNumber qw_86190d2de0 ⟨Nat.le_of_ble_eq_true rfl, Nat.le_of_ble_eq_true rfl⟩ (rv_9 hC hI) hG rfl hl.1 rfl (Nat.le_of_ble_eq_true rfl) dMeanings_noteValue_29 ⟨Nat.le_refl _, Nat.le_refl _⟩ (fun H locs hG hS _ _ => ?_)
  obtain ⟨φ12, eφ12⟩ : ∃ z : gF, z = up φ10 9 (P_Looks_setNumber (κ 7) (φ10 9) x1 x4) := ⟨_, rfl⟩
  rw [← eφ12] at hG
  have hI := inv_of hG
  exact hE _ _ _ _ hS (by have hO2 : Oq OUT (φ12, ψ) := (by subst eφ12 eφ10 eφ8; exact hO.tr rfl); rw [hO2.eq]; exact hG) dMeanings_noteValue_32

def P_Meanings_name (κ : Nat → Nat) (φ : gF) (ψ : gG) (x1 : Int32) : Int32 × gF × gG := (if (P_Trees_countOf (κ 0) (κ 1) (κ 11) (φ 2) x1) = 0 then (if (P_Names_find (κ 2) (κ 3) (κ 12) (φ 3) (P_Trees_valueOf (κ 0) (κ 1) (κ 11) (φ 2) x1)) = (-1) then (1, φ, ψ) else (if (P_Names_sortOf (κ 2) (κ 3) (κ 12) (φ 3) (P_Names_find (κ 2) (κ 3) (κ 12) (φ 3) (P_Trees_valueOf (κ 0) (κ 1) (κ 11) (φ 2) x1))) = 2 then (0, ((P_Meanings_noteObject κ φ ψ x1 (P_Names_numberOf (κ 2) (κ 3) (κ 12) (φ 3) (P_Names_find (κ 2) (κ 3) (κ 12) (φ 3) (P_Trees_valueOf (κ 0) (κ 1) (κ 11) (φ 2) x1)))).1), ((P_Meanings_noteObject κ φ ψ x1 (P_Names_numberOf (κ 2) (κ 3) (κ 12) (φ 3) (P_Names_find (κ 2) (κ 3) (κ 12) (φ 3) (P_Trees_valueOf (κ 0) (κ 1) (κ 11) (φ 2) x1)))).2)) else (if (P_Names_sortOf (κ 2) (κ 3) (κ 12) (φ 3) (P_Names_find (κ 2) (κ 3) (κ 12) (φ 3) (P_Trees_valueOf (κ 0) (κ 1) (κ 11) (φ 2) x1))) = 3 then (0, ((P_Meanings_noteValue κ φ ψ x1 4 (P_Names_numberOf (κ 2) (κ 3) (κ 12) (φ 3) (P_Names_find (κ 2) (κ 3) (κ 12) (φ 3) (P_Trees_valueOf (κ 0) (κ 1) (κ 11) (φ 2) x1))) (P_Names_partOf (κ 2) (κ 3) (κ 12) (φ 3) (P_Names_find (κ 2) (κ 3) (κ 12) (φ 3) (P_Trees_valueOf (κ 0) (κ 1) (κ 11) (φ 2) x1)))).1), ((P_Meanings_noteValue κ φ ψ x1 4 (P_Names_numberOf (κ 2) (κ 3) (κ 12) (φ 3) (P_Names_find (κ 2) (κ 3) (κ 12) (φ 3) (P_Trees_valueOf (κ 0) (κ 1) (κ 11) (φ 2) x1))) (P_Names_partOf (κ 2) (κ 3) (κ 12) (φ 3) (P_Names_find (κ 2) (κ 3) (κ 12) (φ 3) (P_Trees_valueOf (κ 0) (κ 1) (κ 11) (φ 2) x1)))).2)) else (if (P_Names_sortOf (κ 2) (κ 3) (κ 12) (φ 3) (P_Names_find (κ 2) (κ 3) (κ 12) (φ 3) (P_Trees_valueOf (κ 0) (κ 1) (κ 11) (φ 2) x1))) = 4 then (0, ((P_Meanings_noteValue κ φ ψ x1 1 0 (P_Names_numberOf (κ 2) (κ 3) (κ 12) (φ 3) (P_Names_find (κ 2) (κ 3) (κ 12) (φ 3) (P_Trees_valueOf (κ 0) (κ 1) (κ 11) (φ 2) x1)))).1), ((P_Meanings_noteValue κ φ ψ x1 1 0 (P_Names_numberOf (κ 2) (κ 3) (κ 12) (φ 3) (P_Names_find (κ 2) (κ 3) (κ 12) (φ 3) (P_Trees_valueOf (κ 0) (κ 1) (κ 11) (φ 2) x1)))).2)) else (2, φ, ψ))))) else (11, φ, ψ))
set_option maxHeartbeats 4000000 in
set_option maxRecDepth 100000 in
theorem f_Meanings_name (l : Launch) (γ : gE) (A : Nat → Prop) (κ : Nat → Nat) (φ : gF) (ψ : gG) (x1 : Int32) : MU l yMeanings_name bMeanings_name 4 (some .int) 4 106 0 0 [.ref (γ.2.2.2 12), .int x1] γ A (INVF γ A κ φ ψ) (mQi (fun r H => r = (P_Meanings_name κ φ ψ x1).1 ∧ INVF γ A κ (P_Meanings_name κ φ ψ x1).2.1 (P_Meanings_name κ φ ψ x1).2.2 H) A) := by
  refine mu_openI (by decide) (Nat.le_of_ble_eq_true rfl) ?_
  intro p e s m args below meth c ls Q S hnm hC hA hG hE hl
  obtain ⟨hx, hb, hml, hown, hW⟩ := id S
  have hI := inv_of hG
  have hS : va_S A s.heap s.heap [] := va_S.rf
  have hl : lv_has ls 4 [(0, .ref (γ.2.2.2 12)), (1, .int x1)] := hl
  obtain ⟨OUT, hQ, hO⟩ : ∃ z, (z = P_Meanings_name κ φ ψ x1) ∧ Oq z (P_Meanings_name κ φ ψ x1) := ⟨_, rfl, rfl⟩
  rw [← hQ] at hE
  clear hQ
  refine lv_aload_n hx hb dMeanings_name_0 rfl (lv_at hl 0 rfl) ?_
  refine of_get S hC (of_12_0 hI) in_Meanings rfl (by decide) qw_c54cffb97e dMeanings_name_1 ?_
  refine lv_iload_n hx hb dMeanings_name_4 rfl (lv_at hl 1 rfl) ?_
  refine pu_Vi (rest := []) S hC (f1_Trees_countOf l γ A κ φ ψ x1) meTrees_countOf qw_08981d77a7 ⟨Nat.le_of_ble_eq_true rfl, Nat.le_of_ble_eq_true rfl⟩ (rv_1 hC hI) hG rfl hl.1 rfl (Nat.le_of_ble_eq_true rfl) dMeanings_name_5 ⟨Nat.zero_le _, Nat.zero_le _⟩ (fun r21 hr21 => ?_)
  obtain ⟨hr21, er21⟩ := hr21
  refine lv_if_eq (tgt := 14) hx hb dMeanings_name_8 (by decide) (fun c22 => ?_) (fun c22 => ?_)
  · refine lv_aload_n hx hb dMeanings_name_14 rfl (lv_at hl 0 rfl) ?_
    refine of_get S hC (of_12_1 hI) in_Meanings rfl (by decide) qw_2a07109efc dMeanings_name_15 ?_
    refine lv_aload_n hx hb dMeanings_name_18 rfl (lv_at hl 0 rfl) ?_
    refine of_get S hC (of_12_0 hI) in_Meanings rfl (by decide) qw_c54cffb97e dMeanings_name_19 ?_
    refine lv_iload_n hx hb dMeanings_name_22 rfl (lv_at hl 1 rfl) ?_
    refine pu_Vi (rest := [.ref (γ.2.2.2 2)]) S hC (f1_Trees_valueOf l γ A κ φ ψ x1) meTrees_valueOf qw_b5139988c8 ⟨Nat.le_of_ble_eq_true rfl, Nat.le_of_ble_eq_true rfl⟩ (rv_1 hC hI) hG rfl hl.1 rfl (Nat.le_of_ble_eq_true rfl) dMeanings_name_23 ⟨Nat.zero_le _, Nat.zero_le _⟩ (fun r23 hr23 => ?_)
    obtain ⟨hr23, er23⟩ := hr23
    refine pu_Vi (rest := []) S hC (f2_Names_find l γ A κ φ ψ r23) meNames_find qw_941b68ccbe ⟨Nat.le_of_ble_eq_true rfl, Nat.le_of_ble_eq_true rfl⟩ (rv_2 hC hI) hG rfl hl.1 rfl (Nat.le_of_ble_eq_true rfl) dMeanings_name_26 ⟨Nat.zero_le _, Nat.zero_le _⟩ (fun r24 hr24 => ?_)
    obtain ⟨hr24, er24⟩ := hr24
    refine lv_istore_n (lv' := [(2, .int r24), (0, .ref (γ.2.2.2 12)), (1, .int x1)]) hx hb dMeanings_name_29 rfl hl (by decide) rfl (fun ls hl => ?_)
    refine lv_iload_n hx hb dMeanings_name_30 rfl (lv_at hl 0 rfl) ?_
    refine lv_iconst (v := (-1)) hx hb dMeanings_name_31 (by decide) ?_
    refine lv_icmp_ne (tgt := 37) hx hb dMeanings_name_32 (by decide) (fun c25 => ?_) (fun c25 => ?_)
    · refine lv_aload_n hx hb dMeanings_name_37 rfl (lv_at hl 1 rfl) ?_
      refine of_get S hC (of_12_1 hI) in_Meanings rfl (by decide) qw_2a07109efc dMeanings_name_38 ?_
      refine lv_iload_n hx hb dMeanings_name_41 rfl (lv_at hl 0 rfl) ?_
      refine pu_Vi (rest := []) S hC (f2_Names_numberOf l γ A κ φ ψ r24) meNames_numberOf qw_f03e5d487b ⟨Nat.le_of_ble_eq_true rfl, Nat.le_of_ble_eq_true rfl⟩ (rv_2 hC hI) hG rfl hl.1 rfl (Nat.le_of_ble_eq_true rfl) dMeanings_name_42 ⟨Nat.zero_le _, Nat.zero_le _⟩ (fun r26 hr26 => ?_)
      obtain ⟨hr26, er26⟩ := hr26
      refine lv_istore_n (lv' := [(3, .int r26), (2, .int r24), (0, .ref (γ.2.2.2 12)), (1, .int x1)]) hx hb dMeanings_name_45 rfl hl (by decide) rfl (fun ls hl => ?_)
      refine lv_aload_n hx hb dMeanings_name_46 rfl (lv_at hl 2 rfl) ?_
      refine of_get S hC (of_12_1 hI) in_Meanings rfl (by decide) qw_2a07109efc dMeanings_name_47 ?_
      refine lv_iload_n hx hb dMeanings_name_50 rfl (lv_at hl 1 rfl) ?_
      refine pu_Vi (rest := []) S hC (f2_Names_sortOf l γ A κ φ ψ r24) meNames_sortOf qw_79c9b178a8 ⟨Nat.le_of_ble_eq_true rfl, Nat.le_of_ble_eq_true rfl⟩ (rv_2 hC hI) hG rfl hl.1 rfl (Nat.le_of_ble_eq_true rfl) dMeanings_name_51 ⟨Nat.zero_le _, Nat.zero_le _⟩ (fun r27 hr27 => ?_)
      obtain ⟨hr27, er27⟩ := hr27
      by_cases k28 : r27 = 2
      · rw [k28]
        refine lv_tableIn (tgt := 80) hx hb dMeanings_name_54 (by decide) (by decide) rfl (by decide) ?_
        refine lv_aload_n hx hb dMeanings_name_80 rfl (lv_at hl 2 rfl) ?_
        refine lv_iload_n hx hb dMeanings_name_81 rfl (lv_at hl 3 rfl) ?_
        refine lv_iload_n hx hb dMeanings_name_82 rfl (lv_at hl 0 rfl) ?_
        refine mu_Vv (rest := []) S hC (fun q h => hA q (Nat.le_trans hS.1 h)) (fun q h => h) hS (f_Meanings_noteObject l γ A κ φ ψ x1 r26) meMeanings_noteObject qw_2c479d8bd0 ⟨Nat.le_of_ble_eq_true rfl, Nat.le_of_ble_eq_true rfl⟩ (rv_12 hC hI) hG rfl hl.1 rfl (Nat.le_of_ble_eq_true rfl) dMeanings_name_83 ⟨Nat.le_refl _, Nat.le_refl _⟩ (fun H locs hG hS _ _ => ?_)
        obtain ⟨φ30, eφ30⟩ : ∃ z : gF, z = (P_Meanings_noteObject κ φ ψ x1 r26).1 := ⟨_, rfl⟩
        rw [← eφ30] at hG
        obtain ⟨ψ31, eψ31⟩ : ∃ z : gG, z = (P_Meanings_noteObject κ φ ψ x1 r26).2 := ⟨_, rfl⟩
        rw [← eψ31] at hG
        have hI := inv_of hG
        refine lv_iconst (v := 0) hx hb dMeanings_name_86 (by decide) ?_
        exact hE _ _ _ _ _ hS (by have hO2 : Oq OUT (0, φ30, ψ31) := (by subst eψ31 eφ30 er27 er26 er24 er23 er21; exact hO.tr ((if_pos c22).trans ((if_neg c25).trans (if_pos k28)))); rw [hO2.eq]; exact ⟨rfl, hG⟩) dMeanings_name_87
      by_cases k32 : r27 = 3
      · rw [k32]
        refine lv_tableIn (tgt := 88) hx hb dMeanings_name_54 (by decide) (by decide) rfl (by decide) ?_
        refine lv_aload_n hx hb dMeanings_name_88 rfl (lv_at hl 2 rfl) ?_
        refine lv_iload_n hx hb dMeanings_name_89 rfl (lv_at hl 3 rfl) ?_
        refine lv_iconst (v := 4) hx hb dMeanings_name_90 (by decide) ?_
        refine lv_iload_n hx hb dMeanings_name_91 rfl (lv_at hl 0 rfl) ?_
        refine lv_aload_n hx hb dMeanings_name_92 rfl (lv_at hl 2 rfl) ?_
        refine of_get S hC (of_12_1 hI) in_Meanings rfl (by decide) qw_2a07109efc dMeanings_name_93 ?_
        refine lv_iload_n hx hb dMeanings_name_96 rfl (lv_at hl 1 rfl) ?_
        refine pu_Vi (rest := [.int r26, .int 4, .int x1, .ref (γ.2.2.2 12)]) S hC (f2_Names_partOf l γ A κ φ ψ r24) meNames_partOf qw_0d0f2aa427 ⟨Nat.le_of_ble_eq_true rfl, Nat.le_of_ble_eq_true rfl⟩ (rv_2 hC hI) hG rfl hl.1 rfl (Nat.le_of_ble_eq_true rfl) dMeanings_name_97 ⟨Nat.zero_le _, Nat.zero_le _⟩ (fun r33 hr33 => ?_)
        obtain ⟨hr33, er33⟩ := hr33
        refine mu_Vv (rest := []) S hC (fun q h => hA q (Nat.le_trans hS.1 h)) (fun q h => h) hS (f_Meanings_noteValue l γ A κ φ ψ x1 4 r26 r33) meMeanings_noteValue qw_c5322992c7 ⟨Nat.le_of_ble_eq_true rfl, Nat.le_of_ble_eq_true rfl⟩ (rv_12 hC hI) hG rfl hl.1 rfl (Nat.le_of_ble_eq_true rfl) dMeanings_name_100 ⟨Nat.le_refl _, Nat.le_refl _⟩ (fun H locs hG hS _ _ => ?_)
        obtain ⟨φ35, eφ35⟩ : ∃ z : gF, z = (P_Meanings_noteValue κ φ ψ x1 4 r26 r33).1 := ⟨_, rfl⟩
        rw [← eφ35] at hG
        obtain ⟨ψ36, eψ36⟩ : ∃ z : gG, z = (P_Meanings_noteValue κ φ ψ x1 4 r26 r33).2 := ⟨_, rfl⟩
        rw [← eψ36] at hG
        have hI := inv_of hG
        refine lv_iconst (v := 0) hx hb dMeanings_name_103 (by decide) ?_
        exact hE _ _ _ _ _ hS (by have hO2 : Oq OUT (0, φ35, ψ36) := (by subst eψ36 eφ35 er33 er27 er26 er24 er23 er21; exact hO.tr ((if_pos c22).trans ((if_neg c25).trans ((if_neg k28).trans (if_pos k32))))); rw [hO2.eq]; exact ⟨rfl, hG⟩) dMeanings_name_104
      by_cases k37 : r27 = 4
      · rw [k37]
        refine lv_tableIn (tgt := 105) hx hb dMeanings_name_54 (by decide) (by decide) rfl (by decide) ?_
        refine lv_aload_n hx hb dMeanings_name_105 rfl (lv_at hl 2 rfl) ?_
        refine lv_iload_n hx hb dMeanings_name_106 rfl (lv_at hl 3 rfl) ?_
        refine lv_iconst (v := 1) hx hb dMeanings_name_107 (by decide) ?_
        refine lv_iconst (v := 0) hx hb dMeanings_name_108 (by decide) ?_
        refine lv_iload_n hx hb dMeanings_name_109 rfl (lv_at hl 0 rfl) ?_
        refine mu_Vv (rest := []) S hC (fun q h => hA q (Nat.le_trans hS.1 h)) (fun q h => h) hS (f_Meanings_noteValue l γ A κ φ ψ x1 1 0 r26) meMeanings_noteValue qw_c5322992c7 ⟨Nat.le_of_ble_eq_true rfl, Nat.le_of_ble_eq_true rfl⟩ (rv_12 hC hI) hG rfl hl.1 rfl (Nat.le_of_ble_eq_true rfl) dMeanings_name_110 ⟨Nat.le_refl _, Nat.le_refl _⟩ (fun H locs hG hS _ _ => ?_)
        obtain ⟨φ39, eφ39⟩ : ∃ z : gF, z = (P_Meanings_noteValue κ φ ψ x1 1 0 r26).1 := ⟨_, rfl⟩
        rw [← eφ39] at hG
        obtain ⟨ψ40, eψ40⟩ : ∃ z : gG, z = (P_Meanings_noteValue κ φ ψ x1 1 0 r26).2 := ⟨_, rfl⟩
        rw [← eψ40] at hG
        have hI := inv_of hG
        refine lv_iconst (v := 0) hx hb dMeanings_name_113 (by decide) ?_
        exact hE _ _ _ _ _ hS (by have hO2 : Oq OUT (0, φ39, ψ40) := (by subst eψ40 eφ39 er27 er26 er24 er23 er21; exact hO.tr ((if_pos c22).trans ((if_neg c25).trans ((if_neg k28).trans ((if_neg k32).trans (if_pos k37)))))); rw [hO2.eq]; exact ⟨rfl, hG⟩) dMeanings_name_114
      refine lv_tableOut (tgt := 115) hx hb dMeanings_name_54 (by have qk28 := lv_neT (a := 2) k28 (by decide); have qk32 := lv_neT (a := 3) k32 (by decide); have qk37 := lv_neT (a := 4) k37 (by decide); omega) (by decide) ?_
      refine lv_iconst (v := 2) hx hb dMeanings_name_115 (by decide) ?_
      exact hE _ _ _ _ _ hS (by have hO2 : Oq OUT (2, φ, ψ) := (by subst er27 er26 er24 er23 er21; exact hO.tr ((if_pos c22).trans ((if_neg c25).trans ((if_neg k28).trans ((if_neg k32).trans (if_neg k37)))))); rw [hO2.eq]; exact ⟨rfl, hG⟩) dMeanings_name_116
    · refine lv_iconst (v := 1) hx hb dMeanings_name_35 (by decide) ?_
      exact hE _ _ _ _ _ hS (by have hO2 : Oq OUT (1, φ, ψ) := (by subst er24 er23 er21; exact hO.tr ((if_pos c22).trans (if_pos c25))); rw [hO2.eq]; exact ⟨rfl, hG⟩) dMeanings_name_36
  · refine lv_bipush (v := 11) hx hb dMeanings_name_11 (by decide) ?_
    exact hE _ _ _ _ _ hS (by have hO2 : Oq OUT (11, φ, ψ) := (by subst er21; exact hO.tr (if_neg c22)); rw [hO2.eq]; exact ⟨rfl, hG⟩) dMeanings_name_13

def P_Meanings_element_45 (κ : Nat → Nat) (φ : gF) (ψ : gG) (i1 : Int32) (i2 : Int32) (i3 : Int32) (t0 : Int32) (t1 : Int32) (t2 : Int32) (t3 : Int32) : Int32 × gF × gG := (if (P_Looks_isFixed (κ 7) ((up (up φ 9 (P_Looks_note (κ 7) (φ 9) t3 t2 t1 t0)) 9 (P_Looks_setMeaning (κ 7) ((up φ 9 (P_Looks_note (κ 7) (φ 9) t3 t2 t1 t0)) 9) i1 i2)) 9) i3) = 0 then (0, (up (up φ 9 (P_Looks_note (κ 7) (φ 9) t3 t2 t1 t0)) 9 (P_Looks_setMeaning (κ 7) ((up φ 9 (P_Looks_note (κ 7) (φ 9) t3 t2 t1 t0)) 9) i1 i2)), ψ) else (if (P_Types_fromRight (κ 4) (κ 13) ((up (up φ 9 (P_Looks_note (κ 7) (φ 9) t3 t2 t1 t0)) 9 (P_Looks_setMeaning (κ 7) ((up φ 9 (P_Looks_note (κ 7) (φ 9) t3 t2 t1 t0)) 9) i1 i2)) 4) (P_Objects_typeOfObject (κ 5) (κ 14) ((up (up φ 9 (P_Looks_note (κ 7) (φ 9) t3 t2 t1 t0)) 9 (P_Looks_setMeaning (κ 7) ((up φ 9 (P_Looks_note (κ 7) (φ 9) t3 t2 t1 t0)) 9) i1 i2)) 5) i2) (P_Looks_numberOf (κ 7) ((up (up φ 9 (P_Looks_note (κ 7) (φ 9) t3 t2 t1 t0)) 9 (P_Looks_setMeaning (κ 7) ((up φ 9 (P_Looks_note (κ 7) (φ 9) t3 t2 t1 t0)) 9) i1 i2)) 9) i3)) = (-1) then (6, (up (up φ 9 (P_Looks_note (κ 7) (φ 9) t3 t2 t1 t0)) 9 (P_Looks_setMeaning (κ 7) ((up φ 9 (P_Looks_note (κ 7) (φ 9) t3 t2 t1 t0)) 9) i1 i2)), ψ) else (0, (up (up (up φ 9 (P_Looks_note (κ 7) (φ 9) t3 t2 t1 t0)) 9 (P_Looks_setMeaning (κ 7) ((up φ 9 (P_Looks_note (κ 7) (φ 9) t3 t2 t1 t0)) 9) i1 i2)) 9 (P_Looks_setNumber (κ 7) ((up (up φ 9 (P_Looks_note (κ 7) (φ 9) t3 t2 t1 t0)) 9 (P_Looks_setMeaning (κ 7) ((up φ 9 (P_Looks_note (κ 7) (φ 9) t3 t2 t1 t0)) 9) i1 i2)) 9) i1 (P_Rows_get (κ 8) (ψ 6) i2 (P_Types_fromRight (κ 4) (κ 13) ((up (up φ 9 (P_Looks_note (κ 7) (φ 9) t3 t2 t1 t0)) 9 (P_Looks_setMeaning (κ 7) ((up φ 9 (P_Looks_note (κ 7) (φ 9) t3 t2 t1 t0)) 9) i1 i2)) 4) (P_Objects_typeOfObject (κ 5) (κ 14) ((up (up φ 9 (P_Looks_note (κ 7) (φ 9) t3 t2 t1 t0)) 9 (P_Looks_setMeaning (κ 7) ((up φ 9 (P_Looks_note (κ 7) (φ 9) t3 t2 t1 t0)) 9) i1 i2)) 5) i2) (P_Looks_numberOf (κ 7) ((up (up φ 9 (P_Looks_note (κ 7) (φ 9) t3 t2 t1 t0)) 9 (P_Looks_setMeaning (κ 7) ((up φ 9 (P_Looks_note (κ 7) (φ 9) t3 t2 t1 t0)) 9) i1 i2)) 9) i3))))), ψ)))
def P_Meanings_element_44 (κ : Nat → Nat) (φ : gF) (ψ : gG) (i1 : Int32) (i2 : Int32) (i3 : Int32) (t0 : Int32) (t1 : Int32) (t2 : Int32) : Int32 × gF × gG := (P_Meanings_element_45 κ  φ ψ i1 i2 i3 0 t0 t1 t2)
def P_Meanings_element (κ : Nat → Nat) (φ : gF) (ψ : gG) (x1 : Int32) (x2 : Int32) (x3 : Int32) : Int32 × gF × gG := (if (P_Looks_classOf (κ 7) (φ 9) x3) = 2 then (if (P_Meanings_isConstant κ φ ψ x2) = 0 then (P_Meanings_element_44 κ  φ ψ x1 x2 x3 0 0 x1) else (if (P_Looks_isFixed (κ 7) (φ 9) x3) = 0 then (P_Meanings_element_44 κ  φ ψ x1 x2 x3 0 0 x1) else (P_Meanings_element_45 κ  φ ψ x1 x2 x3 1 0 0 x1))) else (3, φ, ψ))
set_option maxHeartbeats 4000000 in
set_option maxRecDepth 100000 in
theorem f_Meanings_element (l : Launch) (γ : gE) (A : Nat → Prop) (κ : Nat → Nat) (φ : gF) (ψ : gG) (x1 : Int32) (x2 : Int32) (x3 : Int32) : MU l yMeanings_element bMeanings_element 5 (some .int) 3 66 0 0 [.ref (γ.2.2.2 12), .int x1, .int x2, .int x3] γ A (INVF γ A κ φ ψ) (mQi (fun r H => r = (P_Meanings_element κ φ ψ x1 x2 x3).1 ∧ INVF γ A κ (P_Meanings_element κ φ ψ x1 x2 x3).2.1 (P_Meanings_element κ φ ψ x1 x2 x3).2.2 H) A) := by
  refine mu_openI (by decide) (Nat.le_of_ble_eq_true rfl) ?_
  intro p e s m args below meth c ls Q S hnm hC hA hG hE hl
  obtain ⟨hx, hb, hml, hown, hW⟩ := id S
  have hI := inv_of hG
  have hS : va_S A s.heap s.heap [] := va_S.rf
  have hl : lv_has ls 5 [(0, .ref (γ.2.2.2 12)), (1, .int x1), (2, .int x2), (3, .int x3)] := hl
  obtain ⟨OUT, hQ, hO⟩ : ∃ z, (z = P_Meanings_element κ φ ψ x1 x2 x3) ∧ Oq z (P_Meanings_element κ φ ψ x1 x2 x3) := ⟨_, rfl, rfl⟩
  rw [← hQ] at hE
  clear hQ
  have J45 : ∀ (ls : Array Slot) (H : Heap) (locs : List Loc) (φ : gF) (ψ : gG) (i1 : Int32) (i2 : Int32) (i3 : Int32) (t0 : Int32) (t1 : Int32) (t2 : Int32) (t3 : Int32), INVF γ A κ φ ψ H → va_S A s.heap H locs → (Oq OUT (P_Meanings_element_45 κ   φ ψ i1 i2 i3 t0 t1 t2 t3)) → lv_has ls 5 [(0, .ref (γ.2.2.2 12)), (1, .int i1), (2, .int i2), (3, .int i3)] → W p l e (bs_rm 3 0 0 66) s m args below meth c H locs 0 0 Q (F0 m 45 ls [.int t0, .int t1, .int t2, .int t3, .ref (γ.2.2.2 9)]) := by
    intro ls H locs φ ψ i1 i2 i3 t0 t1 t2 t3 hG hS hO hl
    have hI := inv_of hG
    refine mu_Vv (rest := []) S hC (fun q h => hA q (Nat.le_trans hS.1 h)) (fun q h => h) hS (f9_Looks_note l γ A κ φ ψ t3 t2 t1 t0) meLooks_note qw_454d4ae88d ⟨Nat.le_of_ble_eq_true rfl, Nat.le_of_ble_eq_true rfl⟩ (rv_9 hC hI) hG rfl hl.1 rfl (Nat.le_of_ble_eq_true rfl) dMeanings_element_45 ⟨Nat.le_refl _, Nat.le_refl _⟩ (fun H locs hG hS _ _ => ?_)
    obtain ⟨φ21, eφ21⟩ : ∃ z : gF, z = up φ 9 (P_Looks_note (κ 7) (φ 9) t3 t2 t1 t0) := ⟨_, rfl⟩
    rw [← eφ21] at hG
    have hI := inv_of hG
    refine lv_aload_n hx hb dMeanings_element_48 rfl (lv_at hl 0 rfl) ?_
    refine of_get S hC (of_12_4 hI) in_Meanings rfl (by decide) qw_aa3d3bbcf9 dMeanings_element_49 ?_
    refine lv_iload_n hx hb dMeanings_element_52 rfl (lv_at hl 1 rfl) ?_
    refine lv_iload_n hx hb dMeanings_element_53 rfl (lv_at hl 2 rfl) ?_
    refine mu_Vv (rest := []) S hC (fun q h => hA q (Nat.le_trans hS.1 h)) (fun q h => h) hS (f9_Looks_setMeaning l γ A κ φ21 ψ i1 i2) meLooks_setMeaning qw_23315a9189 ⟨Nat.le_of_ble_eq_true rfl, Nat.le_of_ble_eq_true rfl⟩ (rv_9 hC hI) hG rfl hl.1 rfl (Nat.le_of_ble_eq_true rfl) dMeanings_element_54 ⟨Nat.le_refl _, Nat.le_refl _⟩ (fun H locs hG hS _ _ => ?_)
    obtain ⟨φ23, eφ23⟩ : ∃ z : gF, z = up φ21 9 (P_Looks_setMeaning (κ 7) (φ21 9) i1 i2) := ⟨_, rfl⟩
    rw [← eφ23] at hG
    have hI := inv_of hG
    refine lv_aload_n hx hb dMeanings_element_57 rfl (lv_at hl 0 rfl) ?_
    refine of_get S hC (of_12_4 hI) in_Meanings rfl (by decide) qw_aa3d3bbcf9 dMeanings_element_58 ?_
    refine lv_iload_n hx hb dMeanings_element_61 rfl (lv_at hl 3 rfl) ?_
    refine pu_Vi (rest := []) S hC (f9_Looks_isFixed l γ A κ φ23 ψ i3) meLooks_isFixed qw_e1e43cfc73 ⟨Nat.le_of_ble_eq_true rfl, Nat.le_of_ble_eq_true rfl⟩ (rv_9 hC hI) hG rfl hl.1 rfl (Nat.le_of_ble_eq_true rfl) dMeanings_element_62 ⟨Nat.zero_le _, Nat.zero_le _⟩ (fun r24 hr24 => ?_)
    obtain ⟨hr24, er24⟩ := hr24
    refine lv_if_ne (tgt := 70) hx hb dMeanings_element_65 (by decide) (fun c25 => ?_) (fun c25 => ?_)
    · refine lv_aload_n hx hb dMeanings_element_70 rfl (lv_at hl 0 rfl) ?_
      refine of_get S hC (of_12_2 hI) in_Meanings rfl (by decide) qw_e2a2dba4a9 dMeanings_element_71 ?_
      refine lv_aload_n hx hb dMeanings_element_74 rfl (lv_at hl 0 rfl) ?_
      refine of_get S hC (of_12_3 hI) in_Meanings rfl (by decide) qw_9bfdade5f5 dMeanings_element_75 ?_
      refine lv_iload_n hx hb dMeanings_element_78 rfl (lv_at hl 2 rfl) ?_
      refine pu_Vi (rest := [.ref (γ.2.2.2 3)]) S hC (f4_Objects_typeOfObject l γ A κ φ23 ψ i2) meObjects_typeOfObject qw_bc7306873f ⟨Nat.le_of_ble_eq_true rfl, Nat.le_of_ble_eq_true rfl⟩ (rv_4 hC hI) hG rfl hl.1 rfl (Nat.le_of_ble_eq_true rfl) dMeanings_element_79 ⟨Nat.zero_le _, Nat.zero_le _⟩ (fun r26 hr26 => ?_)
      obtain ⟨hr26, er26⟩ := hr26
      refine lv_aload_n hx hb dMeanings_element_82 rfl (lv_at hl 0 rfl) ?_
      refine of_get S hC (of_12_4 hI) in_Meanings rfl (by decide) qw_aa3d3bbcf9 dMeanings_element_83 ?_
      refine lv_iload_n hx hb dMeanings_element_86 rfl (lv_at hl 3 rfl) ?_
      refine pu_Vi (rest := [.int r26, .ref (γ.2.2.2 3)]) S hC (f9_Looks_numberOf l γ A κ φ23 ψ i3) meLooks_numberOf qw_58178e0f63 ⟨Nat.le_of_ble_eq_true rfl, Nat.le_of_ble_eq_true rfl⟩ (rv_9 hC hI) hG rfl hl.1 rfl (Nat.le_of_ble_eq_true rfl) dMeanings_element_87 ⟨Nat.zero_le _, Nat.zero_le _⟩ (fun r27 hr27 => ?_)
      obtain ⟨hr27, er27⟩ := hr27
      refine pu_Vi (rest := []) S hC (f3_Types_fromRight l γ A κ φ23 ψ r26 r27) meTypes_fromRight qw_de7e185c5e ⟨Nat.le_of_ble_eq_true rfl, Nat.le_of_ble_eq_true rfl⟩ (rv_3 hC hI) hG rfl hl.1 rfl (Nat.le_of_ble_eq_true rfl) dMeanings_element_90 ⟨Nat.zero_le _, Nat.zero_le _⟩ (fun r28 hr28 => ?_)
      obtain ⟨hr28, er28⟩ := hr28
      refine lv_istore (lv' := [(4, .int r28), (0, .ref (γ.2.2.2 12)), (1, .int i1), (2, .int i2), (3, .int i3)]) hx hb dMeanings_element_93 hl (by decide) rfl (fun ls hl => ?_)
      refine lv_iload hx hb dMeanings_element_95 (lv_at hl 0 rfl) ?_
      refine lv_iconst (v := (-1)) hx hb dMeanings_element_97 (by decide) ?_
      refine lv_icmp_ne (tgt := 104) hx hb dMeanings_element_98 (by decide) (fun c29 => ?_) (fun c29 => ?_)
      · refine lv_aload_n hx hb dMeanings_element_104 rfl (lv_at hl 1 rfl) ?_
        refine of_get S hC (of_12_4 hI) in_Meanings rfl (by decide) qw_aa3d3bbcf9 dMeanings_element_105 ?_
        refine lv_iload_n hx hb dMeanings_element_108 rfl (lv_at hl 2 rfl) ?_
        refine lv_aload_n hx hb dMeanings_element_109 rfl (lv_at hl 1 rfl) ?_
        refine of_get S hC (of_12_3 hI) in_Meanings rfl (by decide) qw_9bfdade5f5 dMeanings_element_110 ?_
        refine of_getN S hC (of_4_3 hI) in_Objects rfl (by decide) qn_d1f72cec6f dMeanings_element_113 ?_
        refine lv_iload_n hx hb dMeanings_element_116 rfl (lv_at hl 3 rfl) ?_
        refine lv_iload hx hb dMeanings_element_117 (lv_at hl 0 rfl) ?_
        refine pu_Vi (rest := [.int i1, .ref (γ.2.2.2 9)]) S hC (f5_Rows_get l γ A κ φ23 ψ i2 r28) meRows_get qw_a0ada774ee ⟨Nat.le_of_ble_eq_true rfl, Nat.le_of_ble_eq_true rfl⟩ (rv_5 hC hI) hG rfl hl.1 rfl (Nat.le_of_ble_eq_true rfl) dMeanings_element_119 ⟨Nat.zero_le _, Nat.zero_le _⟩ (fun r30 hr30 => ?_)
        obtain ⟨hr30, er30⟩ := hr30
        refine mu_Vv (rest := []) S hC (fun q h => hA q (Nat.le_trans hS.1 h)) (fun q h => h) hS (f9_Looks_setNumber l γ A κ φ23 ψ i1 r30) meLooks_setNumber qw_86190d2de0 ⟨Nat.le_of_ble_eq_true rfl, Nat.le_of_ble_eq_true rfl⟩ (rv_9 hC hI) hG rfl hl.1 rfl (Nat.le_of_ble_eq_true rfl) dMeanings_element_122 ⟨Nat.le_refl _, Nat.le_refl _⟩ (fun H locs hG hS _ _ => ?_)
        obtain ⟨φ32, eφ32⟩ : ∃ z : gF, z = up φ23 9 (P_Looks_setNumber (κ 7) (φ23 9) i1 r30) := ⟨_, rfl⟩
        rw [← eφ32] at hG
        have hI := inv_of hG
        refine lv_iconst (v := 0) hx hb dMeanings_element_125 (by decide) ?_
        exact hE _ _ _ _ _ hS (by have hO2 : Oq OUT (0, φ32, ψ) := (by subst eφ32 er30 er28 er27 er26 er24 eφ23 eφ21; exact hO.tr ((if_neg c25).trans (if_neg c29))); rw [hO2.eq]; exact ⟨rfl, hG⟩) dMeanings_element_126
      · refine lv_bipush (v := 6) hx hb dMeanings_element_101 (by decide) ?_
        exact hE _ _ _ _ _ hS (by have hO2 : Oq OUT (6, φ23, ψ) := (by subst er28 er27 er26 er24 eφ23 eφ21; exact hO.tr ((if_neg c25).trans (if_pos c29))); rw [hO2.eq]; exact ⟨rfl, hG⟩) dMeanings_element_103
    · refine lv_iconst (v := 0) hx hb dMeanings_element_68 (by decide) ?_
      exact hE _ _ _ _ _ hS (by have hO2 : Oq OUT (0, φ23, ψ) := (by subst er24 eφ23 eφ21; exact hO.tr (if_pos c25)); rw [hO2.eq]; exact ⟨rfl, hG⟩) dMeanings_element_69
  have J44 : ∀ (ls : Array Slot) (H : Heap) (locs : List Loc) (φ : gF) (ψ : gG) (i1 : Int32) (i2 : Int32) (i3 : Int32) (t0 : Int32) (t1 : Int32) (t2 : Int32), INVF γ A κ φ ψ H → va_S A s.heap H locs → (Oq OUT (P_Meanings_element_44 κ   φ ψ i1 i2 i3 t0 t1 t2)) → lv_has ls 5 [(0, .ref (γ.2.2.2 12)), (1, .int i1), (2, .int i2), (3, .int i3)] → W p l e (bs_rm 3 0 0 66) s m args below meth c H locs 0 0 Q (F0 m 44 ls [.int t0, .int t1, .int t2, .ref (γ.2.2.2 9)]) := by
    intro ls H locs φ ψ i1 i2 i3 t0 t1 t2 hG hS hO hl
    have hI := inv_of hG
    refine lv_iconst (v := 0) hx hb dMeanings_element_44 (by decide) ?_
    exact J45 ls _ _ φ ψ i1 i2 i3 0 t0 t1 t2 hG hS (by exact hO.tr rfl) (lv_sub hl [0, 1, 2, 3] rfl)
  refine lv_aload_n hx hb dMeanings_element_0 rfl (lv_at hl 0 rfl) ?_
  refine of_get S hC (of_12_4 hI) in_Meanings rfl (by decide) qw_aa3d3bbcf9 dMeanings_element_1 ?_
  refine lv_iload_n hx hb dMeanings_element_4 rfl (lv_at hl 3 rfl) ?_
  refine pu_Vi (rest := []) S hC (f9_Looks_classOf l γ A κ φ ψ x3) meLooks_classOf qw_631ccf37b6 ⟨Nat.le_of_ble_eq_true rfl, Nat.le_of_ble_eq_true rfl⟩ (rv_9 hC hI) hG rfl hl.1 rfl (Nat.le_of_ble_eq_true rfl) dMeanings_element_5 ⟨Nat.zero_le _, Nat.zero_le _⟩ (fun r33 hr33 => ?_)
  obtain ⟨hr33, er33⟩ := hr33
  refine lv_iconst (v := 2) hx hb dMeanings_element_8 (by decide) ?_
  refine lv_icmp_eq (tgt := 14) hx hb dMeanings_element_9 (by decide) (fun c34 => ?_) (fun c34 => ?_)
  · refine lv_aload_n hx hb dMeanings_element_14 rfl (lv_at hl 0 rfl) ?_
    refine of_get S hC (of_12_4 hI) in_Meanings rfl (by decide) qw_aa3d3bbcf9 dMeanings_element_15 ?_
    refine lv_iload_n hx hb dMeanings_element_18 rfl (lv_at hl 1 rfl) ?_
    refine lv_iconst (v := 0) hx hb dMeanings_element_19 (by decide) ?_
    refine lv_iconst (v := 0) hx hb dMeanings_element_20 (by decide) ?_
    refine lv_aload_n hx hb dMeanings_element_21 rfl (lv_at hl 0 rfl) ?_
    refine lv_iload_n hx hb dMeanings_element_22 rfl (lv_at hl 2 rfl) ?_
    refine pu_Vi (rest := [.int 0, .int 0, .int x1, .ref (γ.2.2.2 9)]) S hC (f_Meanings_isConstant l γ A κ φ ψ x2) meMeanings_isConstant qw_39c162a16b ⟨Nat.le_of_ble_eq_true rfl, Nat.le_of_ble_eq_true rfl⟩ (rv_12 hC hI) hG rfl hl.1 rfl (Nat.le_of_ble_eq_true rfl) dMeanings_element_23 ⟨Nat.zero_le _, Nat.zero_le _⟩ (fun r35 hr35 => ?_)
    obtain ⟨hr35, er35⟩ := hr35
    refine lv_if_eq (tgt := 44) hx hb dMeanings_element_26 (by decide) (fun c36 => ?_) (fun c36 => ?_)
    · exact J44 ls _ _ φ ψ x1 x2 x3 0 0 x1 hG hS (by subst er35 er33; exact hO.tr ((if_pos c34).trans (if_pos c36))) (lv_sub hl [0, 1, 2, 3] rfl)
    · refine lv_aload_n hx hb dMeanings_element_29 rfl (lv_at hl 0 rfl) ?_
      refine of_get S hC (of_12_4 hI) in_Meanings rfl (by decide) qw_aa3d3bbcf9 dMeanings_element_30 ?_
      refine lv_iload_n hx hb dMeanings_element_33 rfl (lv_at hl 3 rfl) ?_
      refine pu_Vi (rest := [.int 0, .int 0, .int x1, .ref (γ.2.2.2 9)]) S hC (f9_Looks_isFixed l γ A κ φ ψ x3) meLooks_isFixed qw_e1e43cfc73 ⟨Nat.le_of_ble_eq_true rfl, Nat.le_of_ble_eq_true rfl⟩ (rv_9 hC hI) hG rfl hl.1 rfl (Nat.le_of_ble_eq_true rfl) dMeanings_element_34 ⟨Nat.zero_le _, Nat.zero_le _⟩ (fun r37 hr37 => ?_)
      obtain ⟨hr37, er37⟩ := hr37
      refine lv_if_eq (tgt := 44) hx hb dMeanings_element_37 (by decide) (fun c38 => ?_) (fun c38 => ?_)
      · exact J44 ls _ _ φ ψ x1 x2 x3 0 0 x1 hG hS (by subst er37 er35 er33; exact hO.tr ((if_pos c34).trans ((if_neg c36).trans (if_pos c38)))) (lv_sub hl [0, 1, 2, 3] rfl)
      · refine lv_iconst (v := 1) hx hb dMeanings_element_40 (by decide) ?_
        refine lv_goto (tgt := 45) hx hb dMeanings_element_41 (by decide) ?_
        exact J45 ls _ _ φ ψ x1 x2 x3 1 0 0 x1 hG hS (by subst er37 er35 er33; exact hO.tr ((if_pos c34).trans ((if_neg c36).trans (if_neg c38)))) (lv_sub hl [0, 1, 2, 3] rfl)
  · refine lv_iconst (v := 3) hx hb dMeanings_element_12 (by decide) ?_
    exact hE _ _ _ _ _ hS (by have hO2 : Oq OUT (3, φ, ψ) := (by subst er33; exact hO.tr (if_neg c34)); rw [hO2.eq]; exact ⟨rfl, hG⟩) dMeanings_element_13

def P_Meanings_edge (κ : Nat → Nat) (φ : gF) (ψ : gG) (x1 : Int32) (x2 : Int32) : Int32 × gF × gG := (if (P_Trees_kindOf (κ 0) (κ 1) (κ 11) (φ 2) x2) = 1 then (if (P_Objects_whatOf (κ 5) (κ 14) (φ 5) (P_Looks_meaningOf (κ 7) (φ 9) x2)) = 1 then (if (P_Looks_classOf (κ 7) (φ 9) x2) = 0 then (0, (up φ 9 (P_Looks_note (κ 7) (φ 9) x1 1 0 0)), ψ) else (3, φ, ψ)) else (2, φ, ψ)) else (11, φ, ψ))
set_option maxHeartbeats 4000000 in
set_option maxRecDepth 100000 in
theorem f_Meanings_edge (l : Launch) (γ : gE) (A : Nat → Prop) (κ : Nat → Nat) (φ : gF) (ψ : gG) (x1 : Int32) (x2 : Int32) : MU l yMeanings_edge bMeanings_edge 3 (some .int) 2 45 0 0 [.ref (γ.2.2.2 12), .int x1, .int x2] γ A (INVF γ A κ φ ψ) (mQi (fun r H => r = (P_Meanings_edge κ φ ψ x1 x2).1 ∧ INVF γ A κ (P_Meanings_edge κ φ ψ x1 x2).2.1 (P_Meanings_edge κ φ ψ x1 x2).2.2 H) A) := by
  refine mu_openI (by decide) (Nat.le_of_ble_eq_true rfl) ?_
  intro p e s m args below meth c ls Q S hnm hC hA hG hE hl
  obtain ⟨hx, hb, hml, hown, hW⟩ := id S
  have hI := inv_of hG
  have hS : va_S A s.heap s.heap [] := va_S.rf
  have hl : lv_has ls 3 [(0, .ref (γ.2.2.2 12)), (1, .int x1), (2, .int x2)] := hl
  obtain ⟨OUT, hQ, hO⟩ : ∃ z, (z = P_Meanings_edge κ φ ψ x1 x2) ∧ Oq z (P_Meanings_edge κ φ ψ x1 x2) := ⟨_, rfl, rfl⟩
  rw [← hQ] at hE
  clear hQ
  refine lv_aload_n hx hb dMeanings_edge_0 rfl (lv_at hl 0 rfl) ?_
  refine of_get S hC (of_12_0 hI) in_Meanings rfl (by decide) qw_c54cffb97e dMeanings_edge_1 ?_
  refine lv_iload_n hx hb dMeanings_edge_4 rfl (lv_at hl 2 rfl) ?_
  refine pu_Vi (rest := []) S hC (f1_Trees_kindOf l γ A κ φ ψ x2) meTrees_kindOf qw_6dd2778f5c ⟨Nat.le_of_ble_eq_true rfl, Nat.le_of_ble_eq_true rfl⟩ (rv_1 hC hI) hG rfl hl.1 rfl (Nat.le_of_ble_eq_true rfl) dMeanings_edge_5 ⟨Nat.zero_le _, Nat.zero_le _⟩ (fun r10 hr10 => ?_)
  obtain ⟨hr10, er10⟩ := hr10
  refine lv_iconst (v := 1) hx hb dMeanings_edge_8 (by decide) ?_
  refine lv_icmp_eq (tgt := 15) hx hb dMeanings_edge_9 (by decide) (fun c11 => ?_) (fun c11 => ?_)
  · refine lv_aload_n hx hb dMeanings_edge_15 rfl (lv_at hl 0 rfl) ?_
    refine of_get S hC (of_12_3 hI) in_Meanings rfl (by decide) qw_9bfdade5f5 dMeanings_edge_16 ?_
    refine lv_aload_n hx hb dMeanings_edge_19 rfl (lv_at hl 0 rfl) ?_
    refine of_get S hC (of_12_4 hI) in_Meanings rfl (by decide) qw_aa3d3bbcf9 dMeanings_edge_20 ?_
    refine lv_iload_n hx hb dMeanings_edge_23 rfl (lv_at hl 2 rfl) ?_
    refine pu_Vi (rest := [.ref (γ.2.2.2 4)]) S hC (f9_Looks_meaningOf l γ A κ φ ψ x2) meLooks_meaningOf qw_9ed826734f ⟨Nat.le_of_ble_eq_true rfl, Nat.le_of_ble_eq_true rfl⟩ (rv_9 hC hI) hG rfl hl.1 rfl (Nat.le_of_ble_eq_true rfl) dMeanings_edge_24 ⟨Nat.zero_le _, Nat.zero_le _⟩ (fun r12 hr12 => ?_)
    obtain ⟨hr12, er12⟩ := hr12
    refine pu_Vi (rest := []) S hC (f4_Objects_whatOf l γ A κ φ ψ r12) meObjects_whatOf qw_2c7313498c ⟨Nat.le_of_ble_eq_true rfl, Nat.le_of_ble_eq_true rfl⟩ (rv_4 hC hI) hG rfl hl.1 rfl (Nat.le_of_ble_eq_true rfl) dMeanings_edge_27 ⟨Nat.zero_le _, Nat.zero_le _⟩ (fun r13 hr13 => ?_)
    obtain ⟨hr13, er13⟩ := hr13
    refine lv_iconst (v := 1) hx hb dMeanings_edge_30 (by decide) ?_
    refine lv_icmp_eq (tgt := 36) hx hb dMeanings_edge_31 (by decide) (fun c14 => ?_) (fun c14 => ?_)
    · refine lv_aload_n hx hb dMeanings_edge_36 rfl (lv_at hl 0 rfl) ?_
      refine of_get S hC (of_12_4 hI) in_Meanings rfl (by decide) qw_aa3d3bbcf9 dMeanings_edge_37 ?_
      refine lv_iload_n hx hb dMeanings_edge_40 rfl (lv_at hl 2 rfl) ?_
      refine pu_Vi (rest := []) S hC (f9_Looks_classOf l γ A κ φ ψ x2) meLooks_classOf qw_631ccf37b6 ⟨Nat.le_of_ble_eq_true rfl, Nat.le_of_ble_eq_true rfl⟩ (rv_9 hC hI) hG rfl hl.1 rfl (Nat.le_of_ble_eq_true rfl) dMeanings_edge_41 ⟨Nat.zero_le _, Nat.zero_le _⟩ (fun r15 hr15 => ?_)
      obtain ⟨hr15, er15⟩ := hr15
      refine lv_if_eq (tgt := 49) hx hb dMeanings_edge_44 (by decide) (fun c16 => ?_) (fun c16 => ?_)
      · refine lv_aload_n hx hb dMeanings_edge_49 rfl (lv_at hl 0 rfl) ?_
        refine of_get S hC (of_12_4 hI) in_Meanings rfl (by decide) qw_aa3d3bbcf9 dMeanings_edge_50 ?_
        refine lv_iload_n hx hb dMeanings_edge_53 rfl (lv_at hl 1 rfl) ?_
        refine lv_iconst (v := 1) hx hb dMeanings_edge_54 (by decide) ?_
        refine lv_iconst (v := 0) hx hb dMeanings_edge_55 (by decide) ?_
        refine lv_iconst (v := 0) hx hb dMeanings_edge_56 (by decide) ?_
        refine mu_Vv (rest := []) S hC (fun q h => hA q (Nat.le_trans hS.1 h)) (fun q h => h) hS (f9_Looks_note l γ A κ φ ψ x1 1 0 0) meLooks_note qw_454d4ae88d ⟨Nat.le_of_ble_eq_true rfl, Nat.le_of_ble_eq_true rfl⟩ (rv_9 hC hI) hG rfl hl.1 rfl (Nat.le_of_ble_eq_true rfl) dMeanings_edge_57 ⟨Nat.le_refl _, Nat.le_refl _⟩ (fun H locs hG hS _ _ => ?_)
        obtain ⟨φ18, eφ18⟩ : ∃ z : gF, z = up φ 9 (P_Looks_note (κ 7) (φ 9) x1 1 0 0) := ⟨_, rfl⟩
        rw [← eφ18] at hG
        have hI := inv_of hG
        refine lv_iconst (v := 0) hx hb dMeanings_edge_60 (by decide) ?_
        exact hE _ _ _ _ _ hS (by have hO2 : Oq OUT (0, φ18, ψ) := (by subst eφ18 er15 er13 er12 er10; exact hO.tr ((if_pos c11).trans ((if_pos c14).trans (if_pos c16)))); rw [hO2.eq]; exact ⟨rfl, hG⟩) dMeanings_edge_61
      · refine lv_iconst (v := 3) hx hb dMeanings_edge_47 (by decide) ?_
        exact hE _ _ _ _ _ hS (by have hO2 : Oq OUT (3, φ, ψ) := (by subst er15 er13 er12 er10; exact hO.tr ((if_pos c11).trans ((if_pos c14).trans (if_neg c16)))); rw [hO2.eq]; exact ⟨rfl, hG⟩) dMeanings_edge_48
    · refine lv_iconst (v := 2) hx hb dMeanings_edge_34 (by decide) ?_
      exact hE _ _ _ _ _ hS (by have hO2 : Oq OUT (2, φ, ψ) := (by subst er13 er12 er10; exact hO.tr ((if_pos c11).trans (if_neg c14))); rw [hO2.eq]; exact ⟨rfl, hG⟩) dMeanings_edge_35
  · refine lv_bipush (v := 11) hx hb dMeanings_edge_12 (by decide) ?_
    exact hE _ _ _ _ _ hS (by have hO2 : Oq OUT (11, φ, ψ) := (by subst er10; exact hO.tr (if_neg c11)); rw [hO2.eq]; exact ⟨rfl, hG⟩) dMeanings_edge_14

def P_Meanings_numberOfRow (κ : Nat → Nat) (φ : gF) (ψ : gG) (x1 : Int32) (x2 : Int32) : Int32 × gF × gG := (if (P_Looks_classOf (κ 7) (φ 9) x2) = 3 then (if (P_Looks_isFixed (κ 7) ((up φ 9 (P_Looks_note (κ 7) (φ 9) x1 2 0 (P_Looks_isFixed (κ 7) (φ 9) x2))) 9) x2) = 0 then (0, (up φ 9 (P_Looks_note (κ 7) (φ 9) x1 2 0 (P_Looks_isFixed (κ 7) (φ 9) x2))), ψ) else (if (P_Rows_isClear (κ 10) (ψ 10) x2 (P_Looks_extentOf (κ 7) ((up φ 9 (P_Looks_note (κ 7) (φ 9) x1 2 0 (P_Looks_isFixed (κ 7) (φ 9) x2))) 9) x2)) = 0 then (9, (up φ 9 (P_Looks_note (κ 7) (φ 9) x1 2 0 (P_Looks_isFixed (κ 7) (φ 9) x2))), ψ) else (if (lg_cmp (P_Rows_bitsOf (κ 10) (ψ 10) x2 (P_Looks_extentOf (κ 7) ((up φ 9 (P_Looks_note (κ 7) (φ 9) x1 2 0 (P_Looks_isFixed (κ 7) (φ 9) x2))) 9) x2)) 0) < 0 then (9, (up φ 9 (P_Looks_note (κ 7) (φ 9) x1 2 0 (P_Looks_isFixed (κ 7) (φ 9) x2))), ψ) else (if (lg_cmp (P_Rows_bitsOf (κ 10) (ψ 10) x2 (P_Looks_extentOf (κ 7) ((up φ 9 (P_Looks_note (κ 7) (φ 9) x1 2 0 (P_Looks_isFixed (κ 7) (φ 9) x2))) 9) x2)) 2147483647) ≤ 0 then (0, (up (up φ 9 (P_Looks_note (κ 7) (φ 9) x1 2 0 (P_Looks_isFixed (κ 7) (φ 9) x2))) 9 (P_Looks_setNumber (κ 7) ((up φ 9 (P_Looks_note (κ 7) (φ 9) x1 2 0 (P_Looks_isFixed (κ 7) (φ 9) x2))) 9) x1 ((P_Rows_bitsOf (κ 10) (ψ 10) x2 (P_Looks_extentOf (κ 7) ((up φ 9 (P_Looks_note (κ 7) (φ 9) x1 2 0 (P_Looks_isFixed (κ 7) (φ 9) x2))) 9) x2)).toInt32))), ψ) else (9, (up φ 9 (P_Looks_note (κ 7) (φ 9) x1 2 0 (P_Looks_isFixed (κ 7) (φ 9) x2))), ψ))))) else (3, φ, ψ))
set_option maxHeartbeats 4000000 in
set_option maxRecDepth 100000 in
theorem f_Meanings_numberOfRow (l : Launch) (γ : gE) (A : Nat → Prop) (κ : Nat → Nat) (φ : gF) (ψ : gG) (x1 : Int32) (x2 : Int32) : MU l yMeanings_numberOfRow bMeanings_numberOfRow 6 (some .int) 2 47 0 0 [.ref (γ.2.2.2 12), .int x1, .int x2] γ A (INVF γ A κ φ ψ) (mQi (fun r H => r = (P_Meanings_numberOfRow κ φ ψ x1 x2).1 ∧ INVF γ A κ (P_Meanings_numberOfRow κ φ ψ x1 x2).2.1 (P_Meanings_numberOfRow κ φ ψ x1 x2).2.2 H) A) := by
  refine mu_openI (by decide) (Nat.le_of_ble_eq_true rfl) ?_
  intro p e s m args below meth c ls Q S hnm hC hA hG hE hl
  obtain ⟨hx, hb, hml, hown, hW⟩ := id S
  have hI := inv_of hG
  have hS : va_S A s.heap s.heap [] := va_S.rf
  have hl : lv_has ls 6 [(0, .ref (γ.2.2.2 12)), (1, .int x1), (2, .int x2)] := hl
  obtain ⟨OUT, hQ, hO⟩ : ∃ z, (z = P_Meanings_numberOfRow κ φ ψ x1 x2) ∧ Oq z (P_Meanings_numberOfRow κ φ ψ x1 x2) := ⟨_, rfl, rfl⟩
  rw [← hQ] at hE
  clear hQ
  refine lv_aload_n hx hb dMeanings_numberOfRow_0 rfl (lv_at hl 0 rfl) ?_
  refine of_get S hC (of_12_4 hI) in_Meanings rfl (by decide) qw_aa3d3bbcf9 dMeanings_numberOfRow_1 ?_
  refine lv_iload_n hx hb dMeanings_numberOfRow_4 rfl (lv_at hl 2 rfl) ?_
  refine pu_Vi (rest := []) S hC (f9_Looks_classOf l γ A κ φ ψ x2) meLooks_classOf qw_631ccf37b6 ⟨Nat.le_of_ble_eq_true rfl, Nat.le_of_ble_eq_true rfl⟩ (rv_9 hC hI) hG rfl hl.1 rfl (Nat.le_of_ble_eq_true rfl) dMeanings_numberOfRow_5 ⟨Nat.zero_le _, Nat.zero_le _⟩ (fun r19 hr19 => ?_)
  obtain ⟨hr19, er19⟩ := hr19
  refine lv_iconst (v := 3) hx hb dMeanings_numberOfRow_8 (by decide) ?_
  refine lv_icmp_eq (tgt := 14) hx hb dMeanings_numberOfRow_9 (by decide) (fun c20 => ?_) (fun c20 => ?_)
  · refine lv_aload_n hx hb dMeanings_numberOfRow_14 rfl (lv_at hl 0 rfl) ?_
    refine of_get S hC (of_12_4 hI) in_Meanings rfl (by decide) qw_aa3d3bbcf9 dMeanings_numberOfRow_15 ?_
    refine lv_iload_n hx hb dMeanings_numberOfRow_18 rfl (lv_at hl 1 rfl) ?_
    refine lv_iconst (v := 2) hx hb dMeanings_numberOfRow_19 (by decide) ?_
    refine lv_iconst (v := 0) hx hb dMeanings_numberOfRow_20 (by decide) ?_
    refine lv_aload_n hx hb dMeanings_numberOfRow_21 rfl (lv_at hl 0 rfl) ?_
    refine of_get S hC (of_12_4 hI) in_Meanings rfl (by decide) qw_aa3d3bbcf9 dMeanings_numberOfRow_22 ?_
    refine lv_iload_n hx hb dMeanings_numberOfRow_25 rfl (lv_at hl 2 rfl) ?_
    refine pu_Vi (rest := [.int 0, .int 2, .int x1, .ref (γ.2.2.2 9)]) S hC (f9_Looks_isFixed l γ A κ φ ψ x2) meLooks_isFixed qw_e1e43cfc73 ⟨Nat.le_of_ble_eq_true rfl, Nat.le_of_ble_eq_true rfl⟩ (rv_9 hC hI) hG rfl hl.1 rfl (Nat.le_of_ble_eq_true rfl) dMeanings_numberOfRow_26 ⟨Nat.zero_le _, Nat.zero_le _⟩ (fun r21 hr21 => ?_)
    obtain ⟨hr21, er21⟩ := hr21
    refine mu_Vv (rest := []) S hC (fun q h => hA q (Nat.le_trans hS.1 h)) (fun q h => h) hS (f9_Looks_note l γ A κ φ ψ x1 2 0 r21) meLooks_note qw_454d4ae88d ⟨Nat.le_of_ble_eq_true rfl, Nat.le_of_ble_eq_true rfl⟩ (rv_9 hC hI) hG rfl hl.1 rfl (Nat.le_of_ble_eq_true rfl) dMeanings_numberOfRow_29 ⟨Nat.le_refl _, Nat.le_refl _⟩ (fun H locs hG hS _ _ => ?_)
    obtain ⟨φ23, eφ23⟩ : ∃ z : gF, z = up φ 9 (P_Looks_note (κ 7) (φ 9) x1 2 0 r21) := ⟨_, rfl⟩
    rw [← eφ23] at hG
    have hI := inv_of hG
    refine lv_aload_n hx hb dMeanings_numberOfRow_32 rfl (lv_at hl 0 rfl) ?_
    refine of_get S hC (of_12_4 hI) in_Meanings rfl (by decide) qw_aa3d3bbcf9 dMeanings_numberOfRow_33 ?_
    refine lv_iload_n hx hb dMeanings_numberOfRow_36 rfl (lv_at hl 2 rfl) ?_
    refine pu_Vi (rest := []) S hC (f9_Looks_isFixed l γ A κ φ23 ψ x2) meLooks_isFixed qw_e1e43cfc73 ⟨Nat.le_of_ble_eq_true rfl, Nat.le_of_ble_eq_true rfl⟩ (rv_9 hC hI) hG rfl hl.1 rfl (Nat.le_of_ble_eq_true rfl) dMeanings_numberOfRow_37 ⟨Nat.zero_le _, Nat.zero_le _⟩ (fun r24 hr24 => ?_)
    obtain ⟨hr24, er24⟩ := hr24
    refine lv_if_ne (tgt := 45) hx hb dMeanings_numberOfRow_40 (by decide) (fun c25 => ?_) (fun c25 => ?_)
    · refine lv_aload_n hx hb dMeanings_numberOfRow_45 rfl (lv_at hl 0 rfl) ?_
      refine of_get S hC (of_12_4 hI) in_Meanings rfl (by decide) qw_aa3d3bbcf9 dMeanings_numberOfRow_46 ?_
      refine lv_iload_n hx hb dMeanings_numberOfRow_49 rfl (lv_at hl 2 rfl) ?_
      refine pu_Vi (rest := []) S hC (f9_Looks_extentOf l γ A κ φ23 ψ x2) meLooks_extentOf qw_6a27f80c36 ⟨Nat.le_of_ble_eq_true rfl, Nat.le_of_ble_eq_true rfl⟩ (rv_9 hC hI) hG rfl hl.1 rfl (Nat.le_of_ble_eq_true rfl) dMeanings_numberOfRow_50 ⟨Nat.zero_le _, Nat.zero_le _⟩ (fun r26 hr26 => ?_)
      obtain ⟨hr26, er26⟩ := hr26
      refine lv_istore_n (lv' := [(3, .int r26), (0, .ref (γ.2.2.2 12)), (1, .int x1), (2, .int x2)]) hx hb dMeanings_numberOfRow_53 rfl hl (by decide) rfl (fun ls hl => ?_)
      refine lv_aload_n hx hb dMeanings_numberOfRow_54 rfl (lv_at hl 1 rfl) ?_
      refine of_get S hC (of_12_4 hI) in_Meanings rfl (by decide) qw_aa3d3bbcf9 dMeanings_numberOfRow_55 ?_
      refine of_getN S hC (of_9_5 hI) in_Looks rfl (by decide) qn_3420aee8ba dMeanings_numberOfRow_58 ?_
      refine lv_iload_n hx hb dMeanings_numberOfRow_61 rfl (lv_at hl 3 rfl) ?_
      refine lv_iload_n hx hb dMeanings_numberOfRow_62 rfl (lv_at hl 0 rfl) ?_
      refine pu_Vl (rest := []) S hC (f10_Rows_bitsOf l γ A κ φ23 ψ x2 r26) meRows_bitsOf qw_94e5b643f7 ⟨Nat.le_of_ble_eq_true rfl, Nat.le_of_ble_eq_true rfl⟩ (rv_10 hC hI) hG rfl hl.1 rfl (Nat.le_of_ble_eq_true rfl) dMeanings_numberOfRow_63 ⟨Nat.zero_le _, Nat.zero_le _⟩ (fun r27 hr27 => ?_)
      obtain ⟨hr27, er27⟩ := hr27
      refine lv_lstore (lv' := [(4, .long r27), (3, .int r26), (0, .ref (γ.2.2.2 12)), (1, .int x1), (2, .int x2)]) hx hb dMeanings_numberOfRow_66 hl (by decide) rfl (fun ls hl => ?_)
      refine lv_aload_n hx hb dMeanings_numberOfRow_68 rfl (lv_at hl 2 rfl) ?_
      refine of_get S hC (of_12_4 hI) in_Meanings rfl (by decide) qw_aa3d3bbcf9 dMeanings_numberOfRow_69 ?_
      refine of_getN S hC (of_9_5 hI) in_Looks rfl (by decide) qn_3420aee8ba dMeanings_numberOfRow_72 ?_
      refine lv_iload_n hx hb dMeanings_numberOfRow_75 rfl (lv_at hl 4 rfl) ?_
      refine lv_iload_n hx hb dMeanings_numberOfRow_76 rfl (lv_at hl 1 rfl) ?_
      refine pu_Vi (rest := []) S hC (f10_Rows_isClear l γ A κ φ23 ψ x2 r26) meRows_isClear qw_fd05335de5 ⟨Nat.le_of_ble_eq_true rfl, Nat.le_of_ble_eq_true rfl⟩ (rv_10 hC hI) hG rfl hl.1 rfl (Nat.le_of_ble_eq_true rfl) dMeanings_numberOfRow_77 ⟨Nat.zero_le _, Nat.zero_le _⟩ (fun r28 hr28 => ?_)
      obtain ⟨hr28, er28⟩ := hr28
      refine lv_if_eq (tgt := 99) hx hb dMeanings_numberOfRow_80 (by decide) (fun c29 => ?_) (fun c29 => ?_)
      · refine lv_bipush (v := 9) hx hb dMeanings_numberOfRow_99 (by decide) ?_
        exact hE _ _ _ _ _ hS (by have hO2 : Oq OUT (9, φ23, ψ) := (by subst er28 er27 er26 er24 eφ23 er21 er19; exact hO.tr ((if_pos c20).trans ((if_neg c25).trans (if_pos c29)))); rw [hO2.eq]; exact ⟨rfl, hG⟩) dMeanings_numberOfRow_101
      · refine lv_lload hx hb dMeanings_numberOfRow_83 (lv_at hl 0 rfl) ?_
        refine lv_lconst (v := 0) hx hb dMeanings_numberOfRow_85 (by decide) ?_
        refine W.lcmp hx hb dMeanings_numberOfRow_86 ?_
        refine lv_topi (fun v30 ev30 => ?_)
        refine lv_if_lt (tgt := 99) hx hb dMeanings_numberOfRow_87 (by decide) (fun c31 => ?_) (fun c31 => ?_)
        · refine lv_bipush (v := 9) hx hb dMeanings_numberOfRow_99 (by decide) ?_
          exact hE _ _ _ _ _ hS (by have hO2 : Oq OUT (9, φ23, ψ) := (by subst ev30 er28 er27 er26 er24 eφ23 er21 er19; exact hO.tr ((if_pos c20).trans ((if_neg c25).trans ((if_neg c29).trans (if_pos c31))))); rw [hO2.eq]; exact ⟨rfl, hG⟩) dMeanings_numberOfRow_101
        · refine lv_lload hx hb dMeanings_numberOfRow_90 (lv_at hl 0 rfl) ?_
          refine lv_ldc2 (v := 2147483647) hx hb hown (hW _ qw_02cd7db582) dMeanings_numberOfRow_92 ?_
          refine W.lcmp hx hb dMeanings_numberOfRow_95 ?_
          refine lv_topi (fun v32 ev32 => ?_)
          refine lv_if_le (tgt := 102) hx hb dMeanings_numberOfRow_96 (by decide) (fun c33 => ?_) (fun c33 => ?_)
          · refine lv_aload_n hx hb dMeanings_numberOfRow_102 rfl (lv_at hl 2 rfl) ?_
            refine of_get S hC (of_12_4 hI) in_Meanings rfl (by decide) qw_aa3d3bbcf9 dMeanings_numberOfRow_103 ?_
            refine lv_iload_n hx hb dMeanings_numberOfRow_106 rfl (lv_at hl 3 rfl) ?_
            refine lv_lload hx hb dMeanings_numberOfRow_107 (lv_at hl 0 rfl) ?_
            refine lv_l2i hx hb dMeanings_numberOfRow_109 rfl ?_
            refine lv_topi (fun v34 ev34 => ?_)
            refine mu_Vv (rest := []) S hC (fun q h => hA q (Nat.le_trans hS.1 h)) (fun q h => h) hS (f9_Looks_setNumber l γ A κ φ23 ψ x1 v34) meLooks_setNumber qw_86190d2de0 ⟨Nat.le_of_ble_eq_true rfl, Nat.le_of_ble_eq_true rfl⟩ (rv_9 hC hI) hG rfl hl.1 rfl (Nat.le_of_ble_eq_true rfl) dMeanings_numberOfRow_110 ⟨Nat.le_refl _, Nat.le_refl _⟩ (fun H locs hG hS _ _ => ?_)
            obtain ⟨φ36, eφ36⟩ : ∃ z : gF, z = up φ23 9 (P_Looks_setNumber (κ 7) (φ23 9) x1 v34) := ⟨_, rfl⟩
            rw [← eφ36] at hG
            have hI := inv_of hG
            refine lv_iconst (v := 0) hx hb dMeanings_numberOfRow_113 (by decide) ?_
            exact hE _ _ _ _ _ hS (by have hO2 : Oq OUT (0, φ36, ψ) := (by subst eφ36 ev34 ev32 ev30 er28 er27 er26 er24 eφ23 er21 er19; exact hO.tr ((if_pos c20).trans ((if_neg c25).trans ((if_neg c29).trans ((if_neg c31).trans (if_pos c33)))))); rw [hO2.eq]; exact ⟨rfl, hG⟩) dMeanings_numberOfRow_114
          · refine lv_bipush (v := 9) hx hb dMeanings_numberOfRow_99 (by decide) ?_
            exact hE _ _ _ _ _ hS (by have hO2 : Oq OUT (9, φ23, ψ) := (by subst ev32 ev30 er28 er27 er26 er24 eφ23 er21 er19; exact hO.tr ((if_pos c20).trans ((if_neg c25).trans ((if_neg c29).trans ((if_neg c31).trans (if_neg c33)))))); rw [hO2.eq]; exact ⟨rfl, hG⟩) dMeanings_numberOfRow_101
    · refine lv_iconst (v := 0) hx hb dMeanings_numberOfRow_43 (by decide) ?_
      exact hE _ _ _ _ _ hS (by have hO2 : Oq OUT (0, φ23, ψ) := (by subst er24 eφ23 er21 er19; exact hO.tr ((if_pos c20).trans (if_pos c25))); rw [hO2.eq]; exact ⟨rfl, hG⟩) dMeanings_numberOfRow_44
  · refine lv_iconst (v := 3) hx hb dMeanings_numberOfRow_12 (by decide) ?_
    exact hE _ _ _ _ _ hS (by have hO2 : Oq OUT (3, φ, ψ) := (by subst er19; exact hO.tr (if_neg c20)); rw [hO2.eq]; exact ⟨rfl, hG⟩) dMeanings_numberOfRow_13
def P_Meanings_bits_84 (κ : Nat → Nat) (φ : gF) (ψ : gG) (i1 : Int32) (i2 : Int32) (i3 : Int32) (i4 : Int32) (i5 : Int32) (t0 : Int32) (t1 : Int32) (t2 : Int32) : Int32 × gF × gG := (if i5 = 0 then (4, (up φ 9 (P_Looks_note (κ 7) (φ 9) t2 t1 t0 (P_Looks_isFixed (κ 7) (φ 9) i2))), ψ) else (if (P_Looks_isFixed (κ 7) ((up φ 9 (P_Looks_note (κ 7) (φ 9) t2 t1 t0 (P_Looks_isFixed (κ 7) (φ 9) i2))) 9) i2) = 0 then (0, (up φ 9 (P_Looks_note (κ 7) (φ 9) t2 t1 t0 (P_Looks_isFixed (κ 7) (φ 9) i2))), ψ) else (0, (up φ 9 (P_Looks_note (κ 7) (φ 9) t2 t1 t0 (P_Looks_isFixed (κ 7) (φ 9) i2))), (up ψ 10 (P_Rows_setBits (κ 10) (ψ 10) i1 i4 ((P_Looks_numberOf (κ 7) ((up φ 9 (P_Looks_note (κ 7) (φ 9) t2 t1 t0 (P_Looks_isFixed (κ 7) (φ 9) i2))) 9) i2).toInt64))))))
def P_Meanings_bits_65 (κ : Nat → Nat) (φ : gF) (ψ : gG) (i1 : Int32) (i2 : Int32) (i3 : Int32) (i4 : Int32) (t0 : Int32) : Int32 × gF × gG := (if t0 = 0 then (P_Meanings_bits_84 κ  φ ψ i1 i2 i3 i4 t0 0 3 i1) else (P_Meanings_bits_84 κ  φ ψ i1 i2 i3 i4 t0 i4 3 i1))
def P_Meanings_bits_64 (κ : Nat → Nat) (φ : gF) (ψ : gG) (i1 : Int32) (i2 : Int32) (i3 : Int32) (i4 : Int32) : Int32 × gF × gG := (P_Meanings_bits_65 κ  φ ψ i1 i2 i3 i4 0)
def P_Meanings_bits (κ : Nat → Nat) (φ : gF) (ψ : gG) (x1 : Int32) (x2 : Int32) (x3 : Int32) : Int32 × gF × gG := (if (P_Looks_classOf (κ 7) (φ 9) x2) = 2 then (if (P_Looks_classOf (κ 7) (φ 9) x3) = 2 then (if (P_Looks_isFixed (κ 7) (φ 9) x3) = 0 then (3, φ, ψ) else (if (P_Looks_numberOf (κ 7) (φ 9) x3) < 1 then (P_Meanings_bits_64 κ  φ ψ x1 x2 x3 (P_Looks_numberOf (κ 7) (φ 9) x3)) else (if 64 < (P_Looks_numberOf (κ 7) (φ 9) x3) then (P_Meanings_bits_64 κ  φ ψ x1 x2 x3 (P_Looks_numberOf (κ 7) (φ 9) x3)) else (P_Meanings_bits_65 κ  φ ψ x1 x2 x3 (P_Looks_numberOf (κ 7) (φ 9) x3) 1)))) else (3, φ, ψ)) else (3, φ, ψ))
set_option maxHeartbeats 4000000 in
set_option maxRecDepth 100000 in
theorem f_Meanings_bits (l : Launch) (γ : gE) (A : Nat → Prop) (κ : Nat → Nat) (φ : gF) (ψ : gG) (x1 : Int32) (x2 : Int32) (x3 : Int32) : MU l yMeanings_bits bMeanings_bits 6 (some .int) 2 50 0 0 [.ref (γ.2.2.2 12), .int x1, .int x2, .int x3] γ A (INVF γ A κ φ ψ) (mQi (fun r H => r = (P_Meanings_bits κ φ ψ x1 x2 x3).1 ∧ INVF γ A κ (P_Meanings_bits κ φ ψ x1 x2 x3).2.1 (P_Meanings_bits κ φ ψ x1 x2 x3).2.2 H) A) := by
  refine mu_openI (by decide) (Nat.le_of_ble_eq_true rfl) ?_
  intro p e s m args below meth c ls Q S hnm hC hA hG hE hl
  obtain ⟨hx, hb, hml, hown, hW⟩ := id S
  have hI := inv_of hG
  have hS : va_S A s.heap s.heap [] := va_S.rf
  have hl : lv_has ls 6 [(0, .ref (γ.2.2.2 12)), (1, .int x1), (2, .int x2), (3, .int x3)] := hl
  obtain ⟨OUT, hQ, hO⟩ : ∃ z, (z = P_Meanings_bits κ φ ψ x1 x2 x3) ∧ Oq z (P_Meanings_bits κ φ ψ x1 x2 x3) := ⟨_, rfl, rfl⟩
  rw [← hQ] at hE
  clear hQ
  have J84 : ∀ (ls : Array Slot) (H : Heap) (locs : List Loc) (φ : gF) (ψ : gG) (i1 : Int32) (i2 : Int32) (i3 : Int32) (i4 : Int32) (i5 : Int32) (t0 : Int32) (t1 : Int32) (t2 : Int32), INVF γ A κ φ ψ H → va_S A s.heap H locs → (Oq OUT (P_Meanings_bits_84 κ   φ ψ i1 i2 i3 i4 i5 t0 t1 t2)) → lv_has ls 6 [(0, .ref (γ.2.2.2 12)), (1, .int i1), (2, .int i2), (3, .int i3), (4, .int i4), (5, .int i5)] → W p l e (bs_rm 2 0 0 50) s m args below meth c H locs 0 0 Q (F0 m 84 ls [.int t0, .int t1, .int t2, .ref (γ.2.2.2 9)]) := by
    intro ls H locs φ ψ i1 i2 i3 i4 i5 t0 t1 t2 hG hS hO hl
    have hI := inv_of hG
    refine lv_aload_n hx hb dMeanings_bits_84 rfl (lv_at hl 0 rfl) ?_
    refine of_get S hC (of_12_4 hI) in_Meanings rfl (by decide) qw_aa3d3bbcf9 dMeanings_bits_85 ?_
    refine lv_iload_n hx hb dMeanings_bits_88 rfl (lv_at hl 2 rfl) ?_
    refine pu_Vi (rest := [.int t0, .int t1, .int t2, .ref (γ.2.2.2 9)]) S hC (f9_Looks_isFixed l γ A κ φ ψ i2) meLooks_isFixed qw_e1e43cfc73 ⟨Nat.le_of_ble_eq_true rfl, Nat.le_of_ble_eq_true rfl⟩ (rv_9 hC hI) hG rfl hl.1 rfl (Nat.le_of_ble_eq_true rfl) dMeanings_bits_89 ⟨Nat.zero_le _, Nat.zero_le _⟩ (fun r21 hr21 => ?_)
    obtain ⟨hr21, er21⟩ := hr21
    refine mu_Vv (rest := []) S hC (fun q h => hA q (Nat.le_trans hS.1 h)) (fun q h => h) hS (f9_Looks_note l γ A κ φ ψ t2 t1 t0 r21) meLooks_note qw_454d4ae88d ⟨Nat.le_of_ble_eq_true rfl, Nat.le_of_ble_eq_true rfl⟩ (rv_9 hC hI) hG rfl hl.1 rfl (Nat.le_of_ble_eq_true rfl) dMeanings_bits_92 ⟨Nat.le_refl _, Nat.le_refl _⟩ (fun H locs hG hS _ _ => ?_)
    obtain ⟨φ23, eφ23⟩ : ∃ z : gF, z = up φ 9 (P_Looks_note (κ 7) (φ 9) t2 t1 t0 r21) := ⟨_, rfl⟩
    rw [← eφ23] at hG
    have hI := inv_of hG
    refine lv_iload hx hb dMeanings_bits_95 (lv_at hl 5 rfl) ?_
    refine lv_if_ne (tgt := 102) hx hb dMeanings_bits_97 (by decide) (fun c24 => ?_) (fun c24 => ?_)
    · refine lv_aload_n hx hb dMeanings_bits_102 rfl (lv_at hl 0 rfl) ?_
      refine of_get S hC (of_12_4 hI) in_Meanings rfl (by decide) qw_aa3d3bbcf9 dMeanings_bits_103 ?_
      refine lv_iload_n hx hb dMeanings_bits_106 rfl (lv_at hl 2 rfl) ?_
      refine pu_Vi (rest := []) S hC (f9_Looks_isFixed l γ A κ φ23 ψ i2) meLooks_isFixed qw_e1e43cfc73 ⟨Nat.le_of_ble_eq_true rfl, Nat.le_of_ble_eq_true rfl⟩ (rv_9 hC hI) hG rfl hl.1 rfl (Nat.le_of_ble_eq_true rfl) dMeanings_bits_107 ⟨Nat.zero_le _, Nat.zero_le _⟩ (fun r25 hr25 => ?_)
      obtain ⟨hr25, er25⟩ := hr25
      refine lv_if_eq (tgt := 135) hx hb dMeanings_bits_110 (by decide) (fun c26 => ?_) (fun c26 => ?_)
      · refine lv_iconst (v := 0) hx hb dMeanings_bits_135 (by decide) ?_
        exact hE _ _ _ _ _ hS (by have hO2 : Oq OUT (0, φ23, ψ) := (by subst er25 eφ23 er21; exact hO.tr ((if_neg c24).trans (if_pos c26))); rw [hO2.eq]; exact ⟨rfl, hG⟩) dMeanings_bits_136
      · refine lv_aload_n hx hb dMeanings_bits_113 rfl (lv_at hl 0 rfl) ?_
        refine of_get S hC (of_12_4 hI) in_Meanings rfl (by decide) qw_aa3d3bbcf9 dMeanings_bits_114 ?_
        refine of_getN S hC (of_9_5 hI) in_Looks rfl (by decide) qn_3420aee8ba dMeanings_bits_117 ?_
        refine lv_iload_n hx hb dMeanings_bits_120 rfl (lv_at hl 1 rfl) ?_
        refine lv_iload hx hb dMeanings_bits_121 (lv_at hl 4 rfl) ?_
        refine lv_aload_n hx hb dMeanings_bits_123 rfl (lv_at hl 0 rfl) ?_
        refine of_get S hC (of_12_4 hI) in_Meanings rfl (by decide) qw_aa3d3bbcf9 dMeanings_bits_124 ?_
        refine lv_iload_n hx hb dMeanings_bits_127 rfl (lv_at hl 2 rfl) ?_
        refine pu_Vi (rest := [.int i4, .int i1, .ref (γ.2.2.2 10)]) S hC (f9_Looks_numberOf l γ A κ φ23 ψ i2) meLooks_numberOf qw_58178e0f63 ⟨Nat.le_of_ble_eq_true rfl, Nat.le_of_ble_eq_true rfl⟩ (rv_9 hC hI) hG rfl hl.1 rfl (Nat.le_of_ble_eq_true rfl) dMeanings_bits_128 ⟨Nat.zero_le _, Nat.zero_le _⟩ (fun r27 hr27 => ?_)
        obtain ⟨hr27, er27⟩ := hr27
        refine lv_i2l hx hb dMeanings_bits_131 rfl ?_
        refine lv_topl (fun v28 ev28 => ?_)
        refine mu_Vv (rest := []) S hC (fun q h => hA q (Nat.le_trans hS.1 h)) (fun q h => h) hS (f10_Rows_setBits l γ A κ φ23 ψ i1 i4 v28) meRows_setBits qw_5a6c519f0e ⟨Nat.le_of_ble_eq_true rfl, Nat.le_of_ble_eq_true rfl⟩ (rv_10 hC hI) hG rfl hl.1 rfl (Nat.le_of_ble_eq_true rfl) dMeanings_bits_132 ⟨Nat.le_refl _, Nat.le_refl _⟩ (fun H locs hG hS _ _ => ?_)
        obtain ⟨ψ30, eψ30⟩ : ∃ z : gG, z = up ψ 10 (P_Rows_setBits (κ 10) (ψ 10) i1 i4 v28) := ⟨_, rfl⟩
        rw [← eψ30] at hG
        have hI := inv_of hG
        refine lv_iconst (v := 0) hx hb dMeanings_bits_135 (by decide) ?_
        exact hE _ _ _ _ _ hS (by have hO2 : Oq OUT (0, φ23, ψ30) := (by subst eψ30 ev28 er27 er25 eφ23 er21; exact hO.tr ((if_neg c24).trans (if_neg c26))); rw [hO2.eq]; exact ⟨rfl, hG⟩) dMeanings_bits_136
    · refine lv_iconst (v := 4) hx hb dMeanings_bits_100 (by decide) ?_
      exact hE _ _ _ _ _ hS (by have hO2 : Oq OUT (4, φ23, ψ) := (by subst eφ23 er21; exact hO.tr (if_pos c24)); rw [hO2.eq]; exact ⟨rfl, hG⟩) dMeanings_bits_101
  have J65 : ∀ (ls : Array Slot) (H : Heap) (locs : List Loc) (φ : gF) (ψ : gG) (i1 : Int32) (i2 : Int32) (i3 : Int32) (i4 : Int32) (t0 : Int32), INVF γ A κ φ ψ H → va_S A s.heap H locs → (Oq OUT (P_Meanings_bits_65 κ   φ ψ i1 i2 i3 i4 t0)) → lv_has ls 6 [(0, .ref (γ.2.2.2 12)), (1, .int i1), (2, .int i2), (3, .int i3), (4, .int i4)] → W p l e (bs_rm 2 0 0 50) s m args below meth c H locs 0 0 Q (F0 m 65 ls [.int t0]) := by
    intro ls H locs φ ψ i1 i2 i3 i4 t0 hG hS hO hl
    have hI := inv_of hG
    refine lv_istore (lv' := [(5, .int t0), (0, .ref (γ.2.2.2 12)), (1, .int i1), (2, .int i2), (3, .int i3), (4, .int i4)]) hx hb dMeanings_bits_65 hl (by decide) rfl (fun ls hl => ?_)
    refine lv_aload_n hx hb dMeanings_bits_67 rfl (lv_at hl 1 rfl) ?_
    refine of_get S hC (of_12_4 hI) in_Meanings rfl (by decide) qw_aa3d3bbcf9 dMeanings_bits_68 ?_
    refine lv_iload_n hx hb dMeanings_bits_71 rfl (lv_at hl 2 rfl) ?_
    refine lv_iconst (v := 3) hx hb dMeanings_bits_72 (by decide) ?_
    refine lv_iload hx hb dMeanings_bits_73 (lv_at hl 0 rfl) ?_
    refine lv_if_eq (tgt := 83) hx hb dMeanings_bits_75 (by decide) (fun c31 => ?_) (fun c31 => ?_)
    · refine lv_iconst (v := 0) hx hb dMeanings_bits_83 (by decide) ?_
      exact J84 ls _ _ φ ψ i1 i2 i3 i4 t0 0 3 i1 hG hS (by exact hO.tr (if_pos c31)) (lv_sub hl [1, 2, 3, 4, 5, 0] rfl)
    · refine lv_iload hx hb dMeanings_bits_78 (lv_at hl 5 rfl) ?_
      refine lv_goto (tgt := 84) hx hb dMeanings_bits_80 (by decide) ?_
      exact J84 ls _ _ φ ψ i1 i2 i3 i4 t0 i4 3 i1 hG hS (by exact hO.tr (if_neg c31)) (lv_sub hl [1, 2, 3, 4, 5, 0] rfl)
  have J64 : ∀ (ls : Array Slot) (H : Heap) (locs : List Loc) (φ : gF) (ψ : gG) (i1 : Int32) (i2 : Int32) (i3 : Int32) (i4 : Int32), INVF γ A κ φ ψ H → va_S A s.heap H locs → (Oq OUT (P_Meanings_bits_64 κ   φ ψ i1 i2 i3 i4)) → lv_has ls 6 [(0, .ref (γ.2.2.2 12)), (1, .int i1), (2, .int i2), (3, .int i3), (4, .int i4)] → W p l e (bs_rm 2 0 0 50) s m args below meth c H locs 0 0 Q (F0 m 64 ls []) := by
    intro ls H locs φ ψ i1 i2 i3 i4 hG hS hO hl
    have hI := inv_of hG
    refine lv_iconst (v := 0) hx hb dMeanings_bits_64 (by decide) ?_
    exact J65 ls _ _ φ ψ i1 i2 i3 i4 0 hG hS (by exact hO.tr rfl) (lv_sub hl [0, 1, 2, 3, 4] rfl)
  refine lv_aload_n hx hb dMeanings_bits_0 rfl (lv_at hl 0 rfl) ?_
  refine of_get S hC (of_12_4 hI) in_Meanings rfl (by decide) qw_aa3d3bbcf9 dMeanings_bits_1 ?_
  refine lv_iload_n hx hb dMeanings_bits_4 rfl (lv_at hl 2 rfl) ?_
  refine pu_Vi (rest := []) S hC (f9_Looks_classOf l γ A κ φ ψ x2) meLooks_classOf qw_631ccf37b6 ⟨Nat.le_of_ble_eq_true rfl, Nat.le_of_ble_eq_true rfl⟩ (rv_9 hC hI) hG rfl hl.1 rfl (Nat.le_of_ble_eq_true rfl) dMeanings_bits_5 ⟨Nat.zero_le _, Nat.zero_le _⟩ (fun r32 hr32 => ?_)
  obtain ⟨hr32, er32⟩ := hr32
  refine lv_iconst (v := 2) hx hb dMeanings_bits_8 (by decide) ?_
  refine lv_icmp_ne (tgt := 35) hx hb dMeanings_bits_9 (by decide) (fun c33 => ?_) (fun c33 => ?_)
  · refine lv_iconst (v := 3) hx hb dMeanings_bits_35 (by decide) ?_
    exact hE _ _ _ _ _ hS (by have hO2 : Oq OUT (3, φ, ψ) := (by subst er32; exact hO.tr (if_neg c33)); rw [hO2.eq]; exact ⟨rfl, hG⟩) dMeanings_bits_36
  · refine lv_aload_n hx hb dMeanings_bits_12 rfl (lv_at hl 0 rfl) ?_
    refine of_get S hC (of_12_4 hI) in_Meanings rfl (by decide) qw_aa3d3bbcf9 dMeanings_bits_13 ?_
    refine lv_iload_n hx hb dMeanings_bits_16 rfl (lv_at hl 3 rfl) ?_
    refine pu_Vi (rest := []) S hC (f9_Looks_classOf l γ A κ φ ψ x3) meLooks_classOf qw_631ccf37b6 ⟨Nat.le_of_ble_eq_true rfl, Nat.le_of_ble_eq_true rfl⟩ (rv_9 hC hI) hG rfl hl.1 rfl (Nat.le_of_ble_eq_true rfl) dMeanings_bits_17 ⟨Nat.zero_le _, Nat.zero_le _⟩ (fun r34 hr34 => ?_)
    obtain ⟨hr34, er34⟩ := hr34
    refine lv_iconst (v := 2) hx hb dMeanings_bits_20 (by decide) ?_
    refine lv_icmp_ne (tgt := 35) hx hb dMeanings_bits_21 (by decide) (fun c35 => ?_) (fun c35 => ?_)
    · refine lv_iconst (v := 3) hx hb dMeanings_bits_35 (by decide) ?_
      exact hE _ _ _ _ _ hS (by have hO2 : Oq OUT (3, φ, ψ) := (by subst er34 er32; exact hO.tr ((if_pos c33).trans (if_neg c35))); rw [hO2.eq]; exact ⟨rfl, hG⟩) dMeanings_bits_36
    · refine lv_aload_n hx hb dMeanings_bits_24 rfl (lv_at hl 0 rfl) ?_
      refine of_get S hC (of_12_4 hI) in_Meanings rfl (by decide) qw_aa3d3bbcf9 dMeanings_bits_25 ?_
      refine lv_iload_n hx hb dMeanings_bits_28 rfl (lv_at hl 3 rfl) ?_
      refine pu_Vi (rest := []) S hC (f9_Looks_isFixed l γ A κ φ ψ x3) meLooks_isFixed qw_e1e43cfc73 ⟨Nat.le_of_ble_eq_true rfl, Nat.le_of_ble_eq_true rfl⟩ (rv_9 hC hI) hG rfl hl.1 rfl (Nat.le_of_ble_eq_true rfl) dMeanings_bits_29 ⟨Nat.zero_le _, Nat.zero_le _⟩ (fun r36 hr36 => ?_)
      obtain ⟨hr36, er36⟩ := hr36
      refine lv_if_ne (tgt := 37) hx hb dMeanings_bits_32 (by decide) (fun c37 => ?_) (fun c37 => ?_)
      · refine lv_aload_n hx hb dMeanings_bits_37 rfl (lv_at hl 0 rfl) ?_
        refine of_get S hC (of_12_4 hI) in_Meanings rfl (by decide) qw_aa3d3bbcf9 dMeanings_bits_38 ?_
        refine lv_iload_n hx hb dMeanings_bits_41 rfl (lv_at hl 3 rfl) ?_
        refine pu_Vi (rest := []) S hC (f9_Looks_numberOf l γ A κ φ ψ x3) meLooks_numberOf qw_58178e0f63 ⟨Nat.le_of_ble_eq_true rfl, Nat.le_of_ble_eq_true rfl⟩ (rv_9 hC hI) hG rfl hl.1 rfl (Nat.le_of_ble_eq_true rfl) dMeanings_bits_42 ⟨Nat.zero_le _, Nat.zero_le _⟩ (fun r38 hr38 => ?_)
        obtain ⟨hr38, er38⟩ := hr38
        refine lv_istore (lv' := [(4, .int r38), (0, .ref (γ.2.2.2 12)), (1, .int x1), (2, .int x2), (3, .int x3)]) hx hb dMeanings_bits_45 hl (by decide) rfl (fun ls hl => ?_)
        refine lv_iload hx hb dMeanings_bits_47 (lv_at hl 0 rfl) ?_
        refine lv_iconst (v := 1) hx hb dMeanings_bits_49 (by decide) ?_
        refine lv_icmp_lt (tgt := 64) hx hb dMeanings_bits_50 (by decide) (fun c39 => ?_) (fun c39 => ?_)
        · exact J64 ls _ _ φ ψ x1 x2 x3 r38 hG hS (by subst er38 er36 er34 er32; exact hO.tr ((if_pos c33).trans ((if_pos c35).trans ((if_neg c37).trans (if_pos c39))))) (lv_sub hl [1, 2, 3, 4, 0] rfl)
        · refine lv_iload hx hb dMeanings_bits_53 (lv_at hl 0 rfl) ?_
          refine lv_bipush (v := 64) hx hb dMeanings_bits_55 (by decide) ?_
          refine lv_icmp_gt (tgt := 64) hx hb dMeanings_bits_57 (by decide) (fun c40 => ?_) (fun c40 => ?_)
          · exact J64 ls _ _ φ ψ x1 x2 x3 r38 hG hS (by subst er38 er36 er34 er32; exact hO.tr ((if_pos c33).trans ((if_pos c35).trans ((if_neg c37).trans ((if_neg c39).trans (if_pos c40)))))) (lv_sub hl [1, 2, 3, 4, 0] rfl)
          · refine lv_iconst (v := 1) hx hb dMeanings_bits_60 (by decide) ?_
            refine lv_goto (tgt := 65) hx hb dMeanings_bits_61 (by decide) ?_
            exact J65 ls _ _ φ ψ x1 x2 x3 r38 1 hG hS (by subst er38 er36 er34 er32; exact hO.tr ((if_pos c33).trans ((if_pos c35).trans ((if_neg c37).trans ((if_neg c39).trans (if_neg c40)))))) (lv_sub hl [1, 2, 3, 4, 0] rfl)
      · refine lv_iconst (v := 3) hx hb dMeanings_bits_35 (by decide) ?_
        exact hE _ _ _ _ _ hS (by have hO2 : Oq OUT (3, φ, ψ) := (by subst er36 er34 er32; exact hO.tr ((if_pos c33).trans ((if_pos c35).trans (if_pos c37)))); rw [hO2.eq]; exact ⟨rfl, hG⟩) dMeanings_bits_36

def P_Meanings_applyFunction_30 (κ : Nat → Nat) (φ : gF) (ψ : gG) (i1 : Int32) (i2 : Int32) (t0 : Int32) (t1 : Int32) : Int32 × gF × gG := (if t1 = t0 then (if i2 = 10 then ((P_Meanings_numberOfRow κ φ ψ i1 (i1 - 1)).1, ((P_Meanings_numberOfRow κ φ ψ i1 (i1 - 1)).2.1), ((P_Meanings_numberOfRow κ φ ψ i1 (i1 - 1)).2.2)) else (if i2 = 11 then ((P_Meanings_bits κ φ ψ i1 (P_Trees_leftOfTwo (κ 0) (κ 1) (κ 11) (φ 2) i1) (i1 - 1)).1, ((P_Meanings_bits κ φ ψ i1 (P_Trees_leftOfTwo (κ 0) (κ 1) (κ 11) (φ 2) i1) (i1 - 1)).2.1), ((P_Meanings_bits κ φ ψ i1 (P_Trees_leftOfTwo (κ 0) (κ 1) (κ 11) (φ 2) i1) (i1 - 1)).2.2)) else ((P_Meanings_edge κ φ ψ i1 (i1 - 1)).1, ((P_Meanings_edge κ φ ψ i1 (i1 - 1)).2.1), ((P_Meanings_edge κ φ ψ i1 (i1 - 1)).2.2)))) else (11, φ, ψ))
def P_Meanings_applyFunction (κ : Nat → Nat) (φ : gF) (ψ : gG) (x1 : Int32) (x2 : Int32) : Int32 × gF × gG := (if x2 = 11 then (P_Meanings_applyFunction_30 κ  (up φ 9 (P_Looks_setMeaning (κ 7) (φ 9) x1 3000)) ψ x1 x2 2 (P_Trees_countOf (κ 0) (κ 1) (κ 11) ((up φ 9 (P_Looks_setMeaning (κ 7) (φ 9) x1 3000)) 2) x1)) else (P_Meanings_applyFunction_30 κ  (up φ 9 (P_Looks_setMeaning (κ 7) (φ 9) x1 3000)) ψ x1 x2 1 (P_Trees_countOf (κ 0) (κ 1) (κ 11) ((up φ 9 (P_Looks_setMeaning (κ 7) (φ 9) x1 3000)) 2) x1)))
set_option maxHeartbeats 4000000 in
set_option maxRecDepth 100000 in
theorem f_Meanings_applyFunction (l : Launch) (γ : gE) (A : Nat → Prop) (κ : Nat → Nat) (φ : gF) (ψ : gG) (x1 : Int32) (x2 : Int32) : MU l yMeanings_applyFunction bMeanings_applyFunction 3 (some .int) 3 75 0 0 [.ref (γ.2.2.2 12), .int x1, .int x2] γ A (INVF γ A κ φ ψ) (mQi (fun r H => r = (P_Meanings_applyFunction κ φ ψ x1 x2).1 ∧ INVF γ A κ (P_Meanings_applyFunction κ φ ψ x1 x2).2.1 (P_Meanings_applyFunction κ φ ψ x1 x2).2.2 H) A) := by
  refine mu_openI (by decide) (Nat.le_of_ble_eq_true rfl) ?_
  intro p e s m args below meth c ls Q S hnm hC hA hG hE hl
  obtain ⟨hx, hb, hml, hown, hW⟩ := id S
  have hI := inv_of hG
  have hS : va_S A s.heap s.heap [] := va_S.rf
  have hl : lv_has ls 3 [(0, .ref (γ.2.2.2 12)), (1, .int x1), (2, .int x2)] := hl
  obtain ⟨OUT, hQ, hO⟩ : ∃ z, (z = P_Meanings_applyFunction κ φ ψ x1 x2) ∧ Oq z (P_Meanings_applyFunction κ φ ψ x1 x2) := ⟨_, rfl, rfl⟩
  rw [← hQ] at hE
  clear hQ
  have J30 : ∀ (ls : Array Slot) (H : Heap) (locs : List Loc) (φ : gF) (ψ : gG) (i1 : Int32) (i2 : Int32) (t0 : Int32) (t1 : Int32), INVF γ A κ φ ψ H → va_S A s.heap H locs → (Oq OUT (P_Meanings_applyFunction_30 κ   φ ψ i1 i2 t0 t1)) → lv_has ls 3 [(0, .ref (γ.2.2.2 12)), (1, .int i1), (2, .int i2)] → W p l e (bs_rm 3 0 0 75) s m args below meth c H locs 0 0 Q (F0 m 30 ls [.int t0, .int t1]) := by
    intro ls H locs φ ψ i1 i2 t0 t1 hG hS hO hl
    have hI := inv_of hG
    refine lv_icmp_eq (tgt := 36) hx hb dMeanings_applyFunction_30 (by decide) (fun c21 => ?_) (fun c21 => ?_)
    · refine lv_iload_n hx hb dMeanings_applyFunction_36 rfl (lv_at hl 2 rfl) ?_
      by_cases k22 : i2 = 10
      · rw [k22]
        refine lv_lookup (tgt := 64) hx hb dMeanings_applyFunction_37 (by decide) rfl (by decide) ?_
        refine lv_aload_n hx hb dMeanings_applyFunction_64 rfl (lv_at hl 0 rfl) ?_
        refine lv_iload_n hx hb dMeanings_applyFunction_65 rfl (lv_at hl 1 rfl) ?_
        refine lv_iload_n hx hb dMeanings_applyFunction_66 rfl (lv_at hl 1 rfl) ?_
        refine lv_iconst (v := 1) hx hb dMeanings_applyFunction_67 (by decide) ?_
        refine lv_isub hx hb dMeanings_applyFunction_68 ?_
        refine lv_topi (fun v23 ev23 => ?_)
        refine mu_Vi (rest := []) S hC (fun q h => hA q (Nat.le_trans hS.1 h)) (fun q h => h) hS (f_Meanings_numberOfRow l γ A κ φ ψ i1 v23) meMeanings_numberOfRow qw_98b2e6b46a ⟨Nat.le_of_ble_eq_true rfl, Nat.le_of_ble_eq_true rfl⟩ (rv_12 hC hI) hG rfl hl.1 rfl (Nat.le_of_ble_eq_true rfl) dMeanings_applyFunction_69 ⟨Nat.le_refl _, Nat.le_refl _⟩ (fun r24 H locs ⟨er24, hG⟩ hS _ _ => ?_)
        obtain ⟨φ25, eφ25⟩ : ∃ z : gF, z = (P_Meanings_numberOfRow κ φ ψ i1 v23).2.1 := ⟨_, rfl⟩
        rw [← eφ25] at hG
        obtain ⟨ψ26, eψ26⟩ : ∃ z : gG, z = (P_Meanings_numberOfRow κ φ ψ i1 v23).2.2 := ⟨_, rfl⟩
        rw [← eψ26] at hG
        have hI := inv_of hG
        exact hE _ _ _ _ _ hS (by have hO2 : Oq OUT (r24, φ25, ψ26) := (by subst eψ26 eφ25 er24 ev23; exact hO.tr ((if_pos c21).trans (if_pos k22))); rw [hO2.eq]; exact ⟨rfl, hG⟩) dMeanings_applyFunction_72
      by_cases k27 : i2 = 11
      · rw [k27]
        refine lv_lookup (tgt := 73) hx hb dMeanings_applyFunction_37 (by decide) rfl (by decide) ?_
        refine lv_aload_n hx hb dMeanings_applyFunction_73 rfl (lv_at hl 0 rfl) ?_
        refine lv_iload_n hx hb dMeanings_applyFunction_74 rfl (lv_at hl 1 rfl) ?_
        refine lv_aload_n hx hb dMeanings_applyFunction_75 rfl (lv_at hl 0 rfl) ?_
        refine of_get S hC (of_12_0 hI) in_Meanings rfl (by decide) qw_c54cffb97e dMeanings_applyFunction_76 ?_
        refine lv_iload_n hx hb dMeanings_applyFunction_79 rfl (lv_at hl 1 rfl) ?_
        refine pu_Vi (rest := [.int i1, .ref (γ.2.2.2 12)]) S hC (f1_Trees_leftOfTwo l γ A κ φ ψ i1) meTrees_leftOfTwo qw_8972b5ce5c ⟨Nat.le_of_ble_eq_true rfl, Nat.le_of_ble_eq_true rfl⟩ (rv_1 hC hI) hG rfl hl.1 rfl (Nat.le_of_ble_eq_true rfl) dMeanings_applyFunction_80 ⟨Nat.zero_le _, Nat.zero_le _⟩ (fun r28 hr28 => ?_)
        obtain ⟨hr28, er28⟩ := hr28
        refine lv_iload_n hx hb dMeanings_applyFunction_83 rfl (lv_at hl 1 rfl) ?_
        refine lv_iconst (v := 1) hx hb dMeanings_applyFunction_84 (by decide) ?_
        refine lv_isub hx hb dMeanings_applyFunction_85 ?_
        refine lv_topi (fun v29 ev29 => ?_)
        refine mu_Vi (rest := []) S hC (fun q h => hA q (Nat.le_trans hS.1 h)) (fun q h => h) hS (f_Meanings_bits l γ A κ φ ψ i1 r28 v29) meMeanings_bits qw_041f192a6b ⟨Nat.le_of_ble_eq_true rfl, Nat.le_of_ble_eq_true rfl⟩ (rv_12 hC hI) hG rfl hl.1 rfl (Nat.le_of_ble_eq_true rfl) dMeanings_applyFunction_86 ⟨Nat.le_refl _, Nat.le_refl _⟩ (fun r30 H locs ⟨er30, hG⟩ hS _ _ => ?_)
        obtain ⟨φ31, eφ31⟩ : ∃ z : gF, z = (P_Meanings_bits κ φ ψ i1 r28 v29).2.1 := ⟨_, rfl⟩
        rw [← eφ31] at hG
        obtain ⟨ψ32, eψ32⟩ : ∃ z : gG, z = (P_Meanings_bits κ φ ψ i1 r28 v29).2.2 := ⟨_, rfl⟩
        rw [← eψ32] at hG
        have hI := inv_of hG
        exact hE _ _ _ _ _ hS (by have hO2 : Oq OUT (r30, φ31, ψ32) := (by subst eψ32 eφ31 er30 ev29 er28; exact hO.tr ((if_pos c21).trans ((if_neg k22).trans (if_pos k27)))); rw [hO2.eq]; exact ⟨rfl, hG⟩) dMeanings_applyFunction_89
      refine lv_lookup (off := 53) (tgt := 90) hx hb dMeanings_applyFunction_37 (by decide) ((lv_osw k22 (by decide)).trans ((lv_osw k27 (by decide)).trans rfl)) (by decide) ?_
      refine lv_aload_n hx hb dMeanings_applyFunction_90 rfl (lv_at hl 0 rfl) ?_
      refine lv_iload_n hx hb dMeanings_applyFunction_91 rfl (lv_at hl 1 rfl) ?_
      refine lv_iload_n hx hb dMeanings_applyFunction_92 rfl (lv_at hl 1 rfl) ?_
      refine lv_iconst (v := 1) hx hb dMeanings_applyFunction_93 (by decide) ?_
      refine lv_isub hx hb dMeanings_applyFunction_94 ?_
      refine lv_topi (fun v33 ev33 => ?_)
      refine mu_Vi (rest := []) S hC (fun q h => hA q (Nat.le_trans hS.1 h)) (fun q h => h) hS (f_Meanings_edge l γ A κ φ ψ i1 v33) meMeanings_edge qw_f7151b70e2 ⟨Nat.le_of_ble_eq_true rfl, Nat.le_of_ble_eq_true rfl⟩ (rv_12 hC hI) hG rfl hl.1 rfl (Nat.le_of_ble_eq_true rfl) dMeanings_applyFunction_95 ⟨Nat.le_refl _, Nat.le_refl _⟩ (fun r34 H locs ⟨er34, hG⟩ hS _ _ => ?_)
      obtain ⟨φ35, eφ35⟩ : ∃ z : gF, z = (P_Meanings_edge κ φ ψ i1 v33).2.1 := ⟨_, rfl⟩
      rw [← eφ35] at hG
      obtain ⟨ψ36, eψ36⟩ : ∃ z : gG, z = (P_Meanings_edge κ φ ψ i1 v33).2.2 := ⟨_, rfl⟩
      rw [← eψ36] at hG
      have hI := inv_of hG
      exact hE _ _ _ _ _ hS (by have hO2 : Oq OUT (r34, φ35, ψ36) := (by subst eψ36 eφ35 er34 ev33; exact hO.tr ((if_pos c21).trans ((if_neg k22).trans (if_neg k27)))); rw [hO2.eq]; exact ⟨rfl, hG⟩) dMeanings_applyFunction_98
    · refine lv_bipush (v := 11) hx hb dMeanings_applyFunction_33 (by decide) ?_
      exact hE _ _ _ _ _ hS (by have hO2 : Oq OUT (11, φ, ψ) := (by exact hO.tr (if_neg c21)); rw [hO2.eq]; exact ⟨rfl, hG⟩) dMeanings_applyFunction_35
  refine lv_aload_n hx hb dMeanings_applyFunction_0 rfl (lv_at hl 0 rfl) ?_
  refine of_get S hC (of_12_4 hI) in_Meanings rfl (by decide) qw_aa3d3bbcf9 dMeanings_applyFunction_1 ?_
  refine lv_iload_n hx hb dMeanings_applyFunction_4 rfl (lv_at hl 1 rfl) ?_
  refine lv_sipush (v := 3000) hx hb dMeanings_applyFunction_5 (by decide) ?_
  refine mu_Vv (rest := []) S hC (fun q h => hA q (Nat.le_trans hS.1 h)) (fun q h => h) hS (f9_Looks_setMeaning l γ A κ φ ψ x1 3000) meLooks_setMeaning qw_23315a9189 ⟨Nat.le_of_ble_eq_true rfl, Nat.le_of_ble_eq_true rfl⟩ (rv_9 hC hI) hG rfl hl.1 rfl (Nat.le_of_ble_eq_true rfl) dMeanings_applyFunction_8 ⟨Nat.le_refl _, Nat.le_refl _⟩ (fun H locs hG hS _ _ => ?_)
  obtain ⟨φ38, eφ38⟩ : ∃ z : gF, z = up φ 9 (P_Looks_setMeaning (κ 7) (φ 9) x1 3000) := ⟨_, rfl⟩
  rw [← eφ38] at hG
  have hI := inv_of hG
  refine lv_aload_n hx hb dMeanings_applyFunction_11 rfl (lv_at hl 0 rfl) ?_
  refine of_get S hC (of_12_0 hI) in_Meanings rfl (by decide) qw_c54cffb97e dMeanings_applyFunction_12 ?_
  refine lv_iload_n hx hb dMeanings_applyFunction_15 rfl (lv_at hl 1 rfl) ?_
  refine pu_Vi (rest := []) S hC (f1_Trees_countOf l γ A κ φ38 ψ x1) meTrees_countOf qw_08981d77a7 ⟨Nat.le_of_ble_eq_true rfl, Nat.le_of_ble_eq_true rfl⟩ (rv_1 hC hI) hG rfl hl.1 rfl (Nat.le_of_ble_eq_true rfl) dMeanings_applyFunction_16 ⟨Nat.zero_le _, Nat.zero_le _⟩ (fun r39 hr39 => ?_)
  obtain ⟨hr39, er39⟩ := hr39
  refine lv_iload_n hx hb dMeanings_applyFunction_19 rfl (lv_at hl 2 rfl) ?_
  refine lv_bipush (v := 11) hx hb dMeanings_applyFunction_20 (by decide) ?_
  refine lv_icmp_ne (tgt := 29) hx hb dMeanings_applyFunction_22 (by decide) (fun c40 => ?_) (fun c40 => ?_)
  · refine lv_iconst (v := 1) hx hb dMeanings_applyFunction_29 (by decide) ?_
    exact J30 ls _ _ φ38 ψ x1 x2 1 r39 hG hS (by subst er39 eφ38; exact hO.tr (if_neg c40)) (lv_sub hl [0, 1, 2] rfl)
  · refine lv_iconst (v := 2) hx hb dMeanings_applyFunction_25 (by decide) ?_
    refine lv_goto (tgt := 30) hx hb dMeanings_applyFunction_26 (by decide) ?_
    exact J30 ls _ _ φ38 ψ x1 x2 2 r39 hG hS (by subst er39 eφ38; exact hO.tr (if_pos c40)) (lv_sub hl [0, 1, 2] rfl)

def P_Meanings_apply (κ : Nat → Nat) (φ : gF) (ψ : gG) (x1 : Int32) : Int32 × gF × gG := (if (P_Names_find (κ 2) (κ 3) (κ 12) (φ 3) (P_Trees_valueOf (κ 0) (κ 1) (κ 11) (φ 2) x1)) = (-1) then (1, φ, ψ) else (if (P_Names_sortOf (κ 2) (κ 3) (κ 12) (φ 3) (P_Names_find (κ 2) (κ 3) (κ 12) (φ 3) (P_Trees_valueOf (κ 0) (κ 1) (κ 11) (φ 2) x1))) = 5 then ((P_Meanings_applyFunction κ φ ψ x1 (P_Names_numberOf (κ 2) (κ 3) (κ 12) (φ 3) (P_Names_find (κ 2) (κ 3) (κ 12) (φ 3) (P_Trees_valueOf (κ 0) (κ 1) (κ 11) (φ 2) x1)))).1, ((P_Meanings_applyFunction κ φ ψ x1 (P_Names_numberOf (κ 2) (κ 3) (κ 12) (φ 3) (P_Names_find (κ 2) (κ 3) (κ 12) (φ 3) (P_Trees_valueOf (κ 0) (κ 1) (κ 11) (φ 2) x1)))).2.1), ((P_Meanings_applyFunction κ φ ψ x1 (P_Names_numberOf (κ 2) (κ 3) (κ 12) (φ 3) (P_Names_find (κ 2) (κ 3) (κ 12) (φ 3) (P_Trees_valueOf (κ 0) (κ 1) (κ 11) (φ 2) x1)))).2.2)) else (if (P_Meanings_objectAt κ φ ψ x1) = (-1) then (2, φ, ψ) else (if (P_Meanings_isRow κ φ ψ (P_Meanings_objectAt κ φ ψ x1)) = 0 then (2, φ, ψ) else (if (P_Trees_countOf (κ 0) (κ 1) (κ 11) (φ 2) x1) = 1 then ((P_Meanings_element κ φ ψ x1 (P_Meanings_objectAt κ φ ψ x1) (x1 - 1)).1, ((P_Meanings_element κ φ ψ x1 (P_Meanings_objectAt κ φ ψ x1) (x1 - 1)).2.1), ((P_Meanings_element κ φ ψ x1 (P_Meanings_objectAt κ φ ψ x1) (x1 - 1)).2.2)) else (11, φ, ψ))))))
set_option maxHeartbeats 4000000 in
set_option maxRecDepth 100000 in
theorem f_Meanings_apply (l : Launch) (γ : gE) (A : Nat → Prop) (κ : Nat → Nat) (φ : gF) (ψ : gG) (x1 : Int32) : MU l yMeanings_apply bMeanings_apply 4 (some .int) 4 97 0 0 [.ref (γ.2.2.2 12), .int x1] γ A (INVF γ A κ φ ψ) (mQi (fun r H => r = (P_Meanings_apply κ φ ψ x1).1 ∧ INVF γ A κ (P_Meanings_apply κ φ ψ x1).2.1 (P_Meanings_apply κ φ ψ x1).2.2 H) A) := by
  refine mu_openI (by decide) (Nat.le_of_ble_eq_true rfl) ?_
  intro p e s m args below meth c ls Q S hnm hC hA hG hE hl
  obtain ⟨hx, hb, hml, hown, hW⟩ := id S
  have hI := inv_of hG
  have hS : va_S A s.heap s.heap [] := va_S.rf
  have hl : lv_has ls 4 [(0, .ref (γ.2.2.2 12)), (1, .int x1)] := hl
  obtain ⟨OUT, hQ, hO⟩ : ∃ z, (z = P_Meanings_apply κ φ ψ x1) ∧ Oq z (P_Meanings_apply κ φ ψ x1) := ⟨_, rfl, rfl⟩
  rw [← hQ] at hE
  clear hQ
  refine lv_aload_n hx hb dMeanings_apply_0 rfl (lv_at hl 0 rfl) ?_
  refine of_get S hC (of_12_1 hI) in_Meanings rfl (by decide) qw_2a07109efc dMeanings_apply_1 ?_
  refine lv_aload_n hx hb dMeanings_apply_4 rfl (lv_at hl 0 rfl) ?_
  refine of_get S hC (of_12_0 hI) in_Meanings rfl (by decide) qw_c54cffb97e dMeanings_apply_5 ?_
  refine lv_iload_n hx hb dMeanings_apply_8 rfl (lv_at hl 1 rfl) ?_
  refine pu_Vi (rest := [.ref (γ.2.2.2 2)]) S hC (f1_Trees_valueOf l γ A κ φ ψ x1) meTrees_valueOf qw_b5139988c8 ⟨Nat.le_of_ble_eq_true rfl, Nat.le_of_ble_eq_true rfl⟩ (rv_1 hC hI) hG rfl hl.1 rfl (Nat.le_of_ble_eq_true rfl) dMeanings_apply_9 ⟨Nat.zero_le _, Nat.zero_le _⟩ (fun r20 hr20 => ?_)
  obtain ⟨hr20, er20⟩ := hr20
  refine pu_Vi (rest := []) S hC (f2_Names_find l γ A κ φ ψ r20) meNames_find qw_941b68ccbe ⟨Nat.le_of_ble_eq_true rfl, Nat.le_of_ble_eq_true rfl⟩ (rv_2 hC hI) hG rfl hl.1 rfl (Nat.le_of_ble_eq_true rfl) dMeanings_apply_12 ⟨Nat.zero_le _, Nat.zero_le _⟩ (fun r21 hr21 => ?_)
  obtain ⟨hr21, er21⟩ := hr21
  refine lv_istore_n (lv' := [(2, .int r21), (0, .ref (γ.2.2.2 12)), (1, .int x1)]) hx hb dMeanings_apply_15 rfl hl (by decide) rfl (fun ls hl => ?_)
  refine lv_iload_n hx hb dMeanings_apply_16 rfl (lv_at hl 0 rfl) ?_
  refine lv_iconst (v := (-1)) hx hb dMeanings_apply_17 (by decide) ?_
  refine lv_icmp_ne (tgt := 23) hx hb dMeanings_apply_18 (by decide) (fun c22 => ?_) (fun c22 => ?_)
  · refine lv_aload_n hx hb dMeanings_apply_23 rfl (lv_at hl 1 rfl) ?_
    refine of_get S hC (of_12_1 hI) in_Meanings rfl (by decide) qw_2a07109efc dMeanings_apply_24 ?_
    refine lv_iload_n hx hb dMeanings_apply_27 rfl (lv_at hl 0 rfl) ?_
    refine pu_Vi (rest := []) S hC (f2_Names_sortOf l γ A κ φ ψ r21) meNames_sortOf qw_79c9b178a8 ⟨Nat.le_of_ble_eq_true rfl, Nat.le_of_ble_eq_true rfl⟩ (rv_2 hC hI) hG rfl hl.1 rfl (Nat.le_of_ble_eq_true rfl) dMeanings_apply_28 ⟨Nat.zero_le _, Nat.zero_le _⟩ (fun r23 hr23 => ?_)
    obtain ⟨hr23, er23⟩ := hr23
    refine lv_iconst (v := 5) hx hb dMeanings_apply_31 (by decide) ?_
    refine lv_icmp_ne (tgt := 49) hx hb dMeanings_apply_32 (by decide) (fun c24 => ?_) (fun c24 => ?_)
    · refine lv_aload_n hx hb dMeanings_apply_49 rfl (lv_at hl 1 rfl) ?_
      refine lv_iload_n hx hb dMeanings_apply_50 rfl (lv_at hl 2 rfl) ?_
      refine pu_Vi (rest := []) S hC (f_Meanings_objectAt l γ A κ φ ψ x1) meMeanings_objectAt qw_1c1a520089 ⟨Nat.le_of_ble_eq_true rfl, Nat.le_of_ble_eq_true rfl⟩ (rv_12 hC hI) hG rfl hl.1 rfl (Nat.le_of_ble_eq_true rfl) dMeanings_apply_51 ⟨Nat.zero_le _, Nat.zero_le _⟩ (fun r25 hr25 => ?_)
      obtain ⟨hr25, er25⟩ := hr25
      refine lv_istore_n (lv' := [(3, .int r25), (2, .int r21), (0, .ref (γ.2.2.2 12)), (1, .int x1)]) hx hb dMeanings_apply_54 rfl hl (by decide) rfl (fun ls hl => ?_)
      refine lv_iload_n hx hb dMeanings_apply_55 rfl (lv_at hl 0 rfl) ?_
      refine lv_iconst (v := (-1)) hx hb dMeanings_apply_56 (by decide) ?_
      refine lv_icmp_eq (tgt := 68) hx hb dMeanings_apply_57 (by decide) (fun c26 => ?_) (fun c26 => ?_)
      · refine lv_iconst (v := 2) hx hb dMeanings_apply_68 (by decide) ?_
        exact hE _ _ _ _ _ hS (by have hO2 : Oq OUT (2, φ, ψ) := (by subst er25 er23 er21 er20; exact hO.tr ((if_neg c22).trans ((if_neg c24).trans (if_pos c26)))); rw [hO2.eq]; exact ⟨rfl, hG⟩) dMeanings_apply_69
      · refine lv_aload_n hx hb dMeanings_apply_60 rfl (lv_at hl 2 rfl) ?_
        refine lv_iload_n hx hb dMeanings_apply_61 rfl (lv_at hl 0 rfl) ?_
        refine pu_Vi (rest := []) S hC (f_Meanings_isRow l γ A κ φ ψ r25) meMeanings_isRow qw_5342b138aa ⟨Nat.le_of_ble_eq_true rfl, Nat.le_of_ble_eq_true rfl⟩ (rv_12 hC hI) hG rfl hl.1 rfl (Nat.le_of_ble_eq_true rfl) dMeanings_apply_62 ⟨Nat.zero_le _, Nat.zero_le _⟩ (fun r27 hr27 => ?_)
        obtain ⟨hr27, er27⟩ := hr27
        refine lv_if_ne (tgt := 70) hx hb dMeanings_apply_65 (by decide) (fun c28 => ?_) (fun c28 => ?_)
        · refine lv_aload_n hx hb dMeanings_apply_70 rfl (lv_at hl 2 rfl) ?_
          refine of_get S hC (of_12_0 hI) in_Meanings rfl (by decide) qw_c54cffb97e dMeanings_apply_71 ?_
          refine lv_iload_n hx hb dMeanings_apply_74 rfl (lv_at hl 3 rfl) ?_
          refine pu_Vi (rest := []) S hC (f1_Trees_countOf l γ A κ φ ψ x1) meTrees_countOf qw_08981d77a7 ⟨Nat.le_of_ble_eq_true rfl, Nat.le_of_ble_eq_true rfl⟩ (rv_1 hC hI) hG rfl hl.1 rfl (Nat.le_of_ble_eq_true rfl) dMeanings_apply_75 ⟨Nat.zero_le _, Nat.zero_le _⟩ (fun r29 hr29 => ?_)
          obtain ⟨hr29, er29⟩ := hr29
          refine lv_iconst (v := 1) hx hb dMeanings_apply_78 (by decide) ?_
          refine lv_icmp_ne (tgt := 94) hx hb dMeanings_apply_79 (by decide) (fun c30 => ?_) (fun c30 => ?_)
          · refine lv_bipush (v := 11) hx hb dMeanings_apply_94 (by decide) ?_
            exact hE _ _ _ _ _ hS (by have hO2 : Oq OUT (11, φ, ψ) := (by subst er29 er27 er25 er23 er21 er20; exact hO.tr ((if_neg c22).trans ((if_neg c24).trans ((if_neg c26).trans ((if_neg c28).trans (if_neg c30)))))); rw [hO2.eq]; exact ⟨rfl, hG⟩) dMeanings_apply_96
          · refine lv_aload_n hx hb dMeanings_apply_82 rfl (lv_at hl 2 rfl) ?_
            refine lv_iload_n hx hb dMeanings_apply_83 rfl (lv_at hl 3 rfl) ?_
            refine lv_iload_n hx hb dMeanings_apply_84 rfl (lv_at hl 0 rfl) ?_
            refine lv_iload_n hx hb dMeanings_apply_85 rfl (lv_at hl 3 rfl) ?_
            refine lv_iconst (v := 1) hx hb dMeanings_apply_86 (by decide) ?_
            refine lv_isub hx hb dMeanings_apply_87 ?_
            refine lv_topi (fun v31 ev31 => ?_)
            refine mu_Vi (rest := []) S hC (fun q h => hA q (Nat.le_trans hS.1 h)) (fun q h => h) hS (f_Meanings_element l γ A κ φ ψ x1 r25 v31) meMeanings_element qw_e79345225d ⟨Nat.le_of_ble_eq_true rfl, Nat.le_of_ble_eq_true rfl⟩ (rv_12 hC hI) hG rfl hl.1 rfl (Nat.le_of_ble_eq_true rfl) dMeanings_apply_88 ⟨Nat.le_refl _, Nat.le_refl _⟩ (fun r32 H locs ⟨er32, hG⟩ hS _ _ => ?_)
            obtain ⟨φ33, eφ33⟩ : ∃ z : gF, z = (P_Meanings_element κ φ ψ x1 r25 v31).2.1 := ⟨_, rfl⟩
            rw [← eφ33] at hG
            obtain ⟨ψ34, eψ34⟩ : ∃ z : gG, z = (P_Meanings_element κ φ ψ x1 r25 v31).2.2 := ⟨_, rfl⟩
            rw [← eψ34] at hG
            have hI := inv_of hG
            refine lv_goto (tgt := 96) hx hb dMeanings_apply_91 (by decide) ?_
            exact hE _ _ _ _ _ hS (by have hO2 : Oq OUT (r32, φ33, ψ34) := (by subst eψ34 eφ33 er32 ev31 er29 er27 er25 er23 er21 er20; exact hO.tr ((if_neg c22).trans ((if_neg c24).trans ((if_neg c26).trans ((if_neg c28).trans (if_pos c30)))))); rw [hO2.eq]; exact ⟨rfl, hG⟩) dMeanings_apply_96
        · refine lv_iconst (v := 2) hx hb dMeanings_apply_68 (by decide) ?_
          exact hE _ _ _ _ _ hS (by have hO2 : Oq OUT (2, φ, ψ) := (by subst er27 er25 er23 er21 er20; exact hO.tr ((if_neg c22).trans ((if_neg c24).trans ((if_neg c26).trans (if_pos c28))))); rw [hO2.eq]; exact ⟨rfl, hG⟩) dMeanings_apply_69
    · refine lv_aload_n hx hb dMeanings_apply_35 rfl (lv_at hl 1 rfl) ?_
      refine lv_iload_n hx hb dMeanings_apply_36 rfl (lv_at hl 2 rfl) ?_
      refine lv_aload_n hx hb dMeanings_apply_37 rfl (lv_at hl 1 rfl) ?_
      refine of_get S hC (of_12_1 hI) in_Meanings rfl (by decide) qw_2a07109efc dMeanings_apply_38 ?_
      refine lv_iload_n hx hb dMeanings_apply_41 rfl (lv_at hl 0 rfl) ?_
      refine pu_Vi (rest := [.int x1, .ref (γ.2.2.2 12)]) S hC (f2_Names_numberOf l γ A κ φ ψ r21) meNames_numberOf qw_f03e5d487b ⟨Nat.le_of_ble_eq_true rfl, Nat.le_of_ble_eq_true rfl⟩ (rv_2 hC hI) hG rfl hl.1 rfl (Nat.le_of_ble_eq_true rfl) dMeanings_apply_42 ⟨Nat.zero_le _, Nat.zero_le _⟩ (fun r35 hr35 => ?_)
      obtain ⟨hr35, er35⟩ := hr35
      refine mu_Vi (rest := []) S hC (fun q h => hA q (Nat.le_trans hS.1 h)) (fun q h => h) hS (f_Meanings_applyFunction l γ A κ φ ψ x1 r35) meMeanings_applyFunction qw_11cbdab6fb ⟨Nat.le_of_ble_eq_true rfl, Nat.le_of_ble_eq_true rfl⟩ (rv_12 hC hI) hG rfl hl.1 rfl (Nat.le_of_ble_eq_true rfl) dMeanings_apply_45 ⟨Nat.le_refl _, Nat.le_refl _⟩ (fun r36 H locs ⟨er36, hG⟩ hS _ _ => ?_)
      obtain ⟨φ37, eφ37⟩ : ∃ z : gF, z = (P_Meanings_applyFunction κ φ ψ x1 r35).2.1 := ⟨_, rfl⟩
      rw [← eφ37] at hG
      obtain ⟨ψ38, eψ38⟩ : ∃ z : gG, z = (P_Meanings_applyFunction κ φ ψ x1 r35).2.2 := ⟨_, rfl⟩
      rw [← eψ38] at hG
      have hI := inv_of hG
      exact hE _ _ _ _ _ hS (by have hO2 : Oq OUT (r36, φ37, ψ38) := (by subst eψ38 eφ37 er36 er35 er23 er21 er20; exact hO.tr ((if_neg c22).trans (if_pos c24))); rw [hO2.eq]; exact ⟨rfl, hG⟩) dMeanings_apply_48
  · refine lv_iconst (v := 1) hx hb dMeanings_apply_21 (by decide) ?_
    exact hE _ _ _ _ _ hS (by have hO2 : Oq OUT (1, φ, ψ) := (by subst er21 er20; exact hO.tr (if_pos c22)); rw [hO2.eq]; exact ⟨rfl, hG⟩) dMeanings_apply_22

def P_Meanings_cut_127 (κ : Nat → Nat) : Nat → gF → gG → Int32 → Int32 → Int32 → Int32 → Int32 → Int32 → Int32 → Int32 → Int32 → Int32 → Int32 × gF × gG
  | 0, _, _, _, _, _, _, _, _, _, _, _, _ => default
  | n + 1, φ, ψ, i1, i2, i3, i4, i5, i6, i7, i8, i9, i10 => (if i9 ≤ i10 then (0, φ, ψ) else (P_Meanings_cut_127 κ n φ (up ψ 10 (P_Rows_set (κ 10) (ψ 10) i1 i10 (P_Rows_get (κ 8) (ψ 6) i2 (i7 + i10)))) i1 i2 i3 i4 i5 i6 i7 i8 i9 (i10 + 1)))
def P_Meanings_cut_70 (κ : Nat → Nat) (φ : gF) (ψ : gG) (i1 : Int32) (i2 : Int32) (i3 : Int32) (i4 : Int32) (i5 : Int32) (i6 : Int32) (i7 : Int32) (t0 : Int32) : Int32 × gF × gG := (if t0 = 0 then (6, φ, ψ) else (if i6 = (-1) then (6, φ, ψ) else (if i7 = (-1) then (6, φ, ψ) else (if i7 ≤ i6 then (P_Meanings_cut_127 κ  ((2147483647 - (0 : Int32).toInt).toNat + 1) (up φ 9 (P_Looks_note (κ 7) (φ 9) i1 3 ((i6 - i7) + 1) (P_Meanings_isConstant κ φ ψ i2))) ψ i1 i2 i3 i4 i5 i6 i7 t0 ((i6 - i7) + 1) 0) else (6, φ, ψ)))))
def P_Meanings_cut_62 (κ : Nat → Nat) (φ : gF) (ψ : gG) (i1 : Int32) (i2 : Int32) (i3 : Int32) (i4 : Int32) (i5 : Int32) (i6 : Int32) (i7 : Int32) (t0 : Int32) (t1 : Int32) : Int32 × gF × gG := (if t1 = t0 then (P_Meanings_cut_70 κ  φ ψ i1 i2 i3 i4 i5 i6 i7 1) else (P_Meanings_cut_70 κ  φ ψ i1 i2 i3 i4 i5 i6 i7 0))
def P_Meanings_cut (κ : Nat → Nat) (φ : gF) (ψ : gG) (x1 : Int32) (x2 : Int32) (x3 : Int32) (x4 : Int32) : Int32 × gF × gG := (if (P_Trees_kindOf (κ 0) (κ 1) (κ 11) (φ 2) x1) = 24 then (P_Meanings_cut_62 κ  φ ψ x1 x2 x3 x4 (P_Objects_typeOfObject (κ 5) (κ 14) (φ 5) x2) (P_Types_fromRight (κ 4) (κ 13) (φ 4) (P_Objects_typeOfObject (κ 5) (κ 14) (φ 5) x2) x3) (P_Types_fromRight (κ 4) (κ 13) (φ 4) (P_Objects_typeOfObject (κ 5) (κ 14) (φ 5) x2) x4) 1 (P_Types_goesDown (κ 4) (κ 13) (φ 4) (P_Objects_typeOfObject (κ 5) (κ 14) (φ 5) x2))) else (P_Meanings_cut_62 κ  φ ψ x1 x2 x3 x4 (P_Objects_typeOfObject (κ 5) (κ 14) (φ 5) x2) (P_Types_fromRight (κ 4) (κ 13) (φ 4) (P_Objects_typeOfObject (κ 5) (κ 14) (φ 5) x2) x3) (P_Types_fromRight (κ 4) (κ 13) (φ 4) (P_Objects_typeOfObject (κ 5) (κ 14) (φ 5) x2) x4) 0 (P_Types_goesDown (κ 4) (κ 13) (φ 4) (P_Objects_typeOfObject (κ 5) (κ 14) (φ 5) x2))))
set_option maxHeartbeats 4000000 in
set_option maxRecDepth 100000 in
theorem f_Meanings_cut (l : Launch) (γ : gE) (A : Nat → Prop) (κ : Nat → Nat) (φ : gF) (ψ : gG) (x1 : Int32) (x2 : Int32) (x3 : Int32) (x4 : Int32) : MU l yMeanings_cut bMeanings_cut 11 (some .int) 3 66 0 0 [.ref (γ.2.2.2 12), .int x1, .int x2, .int x3, .int x4] γ A (INVF γ A κ φ ψ) (mQi (fun r H => r = (P_Meanings_cut κ φ ψ x1 x2 x3 x4).1 ∧ INVF γ A κ (P_Meanings_cut κ φ ψ x1 x2 x3 x4).2.1 (P_Meanings_cut κ φ ψ x1 x2 x3 x4).2.2 H) A) := by
  refine mu_openI (by decide) (Nat.le_of_ble_eq_true rfl) ?_
  intro p e s m args below meth c ls Q S hnm hC hA hG hE hl
  obtain ⟨hx, hb, hml, hown, hW⟩ := id S
  have hI := inv_of hG
  have hS : va_S A s.heap s.heap [] := va_S.rf
  have hl : lv_has ls 11 [(0, .ref (γ.2.2.2 12)), (1, .int x1), (2, .int x2), (3, .int x3), (4, .int x4)] := hl
  obtain ⟨OUT, hQ, hO⟩ : ∃ z, (z = P_Meanings_cut κ φ ψ x1 x2 x3 x4) ∧ Oq z (P_Meanings_cut κ φ ψ x1 x2 x3 x4) := ⟨_, rfl, rfl⟩
  rw [← hQ] at hE
  clear hQ
  have J127 : ∀ (N127 : Nat) (ls : Array Slot) (H : Heap) (locs : List Loc) (φ : gF) (ψ : gG) (i1 : Int32) (i2 : Int32) (i3 : Int32) (i4 : Int32) (i5 : Int32) (i6 : Int32) (i7 : Int32) (i8 : Int32) (i9 : Int32) (i10 : Int32), INVF γ A κ φ ψ H → va_S A s.heap H locs → (Oq OUT (P_Meanings_cut_127 κ  (N127 + 1) φ ψ i1 i2 i3 i4 i5 i6 i7 i8 i9 i10)) → (2147483647 - i10.toInt).toNat = N127 → lv_has ls 11 [(0, .ref (γ.2.2.2 12)), (1, .int i1), (2, .int i2), (3, .int i3), (4, .int i4), (5, .int i5), (6, .int i6), (7, .int i7), (8, .int i8), (9, .int i9), (10, .int i10)] → W p l e (bs_rm 3 0 0 66) s m args below meth c H locs 0 0 Q (F0 m 127 ls []) := by
    intro N127
    induction N127 using Nat.strongRecOn with
    | ind N127 ih127 =>
      intro ls H locs φ ψ i1 i2 i3 i4 i5 i6 i7 i8 i9 i10 hG hS hO hm127 hl
      have hI := inv_of hG
      refine lv_iload hx hb dMeanings_cut_127 (lv_at hl 10 rfl) ?_
      refine lv_iload hx hb dMeanings_cut_129 (lv_at hl 9 rfl) ?_
      refine lv_icmp_ge (tgt := 169) hx hb dMeanings_cut_131 (by decide) (fun c23 => ?_) (fun c23 => ?_)
      · refine lv_iconst (v := 0) hx hb dMeanings_cut_169 (by decide) ?_
        exact hE _ _ _ _ _ hS (by have hO2 : Oq OUT (0, φ, ψ) := (by exact hO.tr (if_pos c23)); rw [hO2.eq]; exact ⟨rfl, hG⟩) dMeanings_cut_170
      · refine lv_aload_n hx hb dMeanings_cut_134 rfl (lv_at hl 0 rfl) ?_
        refine of_get S hC (of_12_4 hI) in_Meanings rfl (by decide) qw_aa3d3bbcf9 dMeanings_cut_135 ?_
        refine of_getN S hC (of_9_5 hI) in_Looks rfl (by decide) qn_3420aee8ba dMeanings_cut_138 ?_
        refine lv_iload_n hx hb dMeanings_cut_141 rfl (lv_at hl 1 rfl) ?_
        refine lv_iload hx hb dMeanings_cut_142 (lv_at hl 10 rfl) ?_
        refine lv_aload_n hx hb dMeanings_cut_144 rfl (lv_at hl 0 rfl) ?_
        refine of_get S hC (of_12_3 hI) in_Meanings rfl (by decide) qw_9bfdade5f5 dMeanings_cut_145 ?_
        refine of_getN S hC (of_4_3 hI) in_Objects rfl (by decide) qn_d1f72cec6f dMeanings_cut_148 ?_
        refine lv_iload_n hx hb dMeanings_cut_151 rfl (lv_at hl 2 rfl) ?_
        refine lv_iload hx hb dMeanings_cut_152 (lv_at hl 7 rfl) ?_
        refine lv_iload hx hb dMeanings_cut_154 (lv_at hl 10 rfl) ?_
        refine lv_iadd hx hb dMeanings_cut_156 ?_
        refine lv_topi (fun v24 ev24 => ?_)
        refine pu_Vi (rest := [.int i10, .int i1, .ref (γ.2.2.2 10)]) S hC (f5_Rows_get l γ A κ φ ψ i2 v24) meRows_get qw_a0ada774ee ⟨Nat.le_of_ble_eq_true rfl, Nat.le_of_ble_eq_true rfl⟩ (rv_5 hC hI) hG rfl hl.1 rfl (Nat.le_of_ble_eq_true rfl) dMeanings_cut_157 ⟨Nat.zero_le _, Nat.zero_le _⟩ (fun r25 hr25 => ?_)
        obtain ⟨hr25, er25⟩ := hr25
        refine mu_Vv (rest := []) S hC (fun q h => hA q (Nat.le_trans hS.1 h)) (fun q h => h) hS (f10_Rows_set l γ A κ φ ψ i1 i10 r25) meRows_set qw_b68edfa9a7 ⟨Nat.le_of_ble_eq_true rfl, Nat.le_of_ble_eq_true rfl⟩ (rv_10 hC hI) hG rfl hl.1 rfl (Nat.le_of_ble_eq_true rfl) dMeanings_cut_160 ⟨Nat.le_refl _, Nat.le_refl _⟩ (fun H locs hG hS _ _ => ?_)
        obtain ⟨ψ27, eψ27⟩ : ∃ z : gG, z = up ψ 10 (P_Rows_set (κ 10) (ψ 10) i1 i10 r25) := ⟨_, rfl⟩
        rw [← eψ27] at hG
        have hI := inv_of hG
        obtain ⟨v28, ev28⟩ : ∃ y : Int32, y = i10 + 1 := ⟨_, rfl⟩
        refine lv_iinc (v := v28) (lv' := [(10, .int v28), (0, .ref (γ.2.2.2 12)), (1, .int i1), (2, .int i2), (3, .int i3), (4, .int i4), (5, .int i5), (6, .int i6), (7, .int i7), (8, .int i8), (9, .int i9)]) hx hb dMeanings_cut_163 hl (k := 10) rfl (by rw [ev28]; rfl) (by decide) rfl (fun ls hl => ?_)
        refine lv_goto (tgt := 127) hx hb dMeanings_cut_166 (by decide) ?_
        exact ih127 _ (by have q1 : i10.toInt < 2147483647 := (by first | exact (mu_up (k := i10) (by assumption)).2 | assumption); have q2 := mu_lt q1; rw [← ev28] at q2; omega) ls _ _ φ ψ27 i1 i2 i3 i4 i5 i6 i7 i8 i9 v28 hG hS (by have hN : N127 = (2147483647 - v28.toInt).toNat + 1 := (by have q1 : i10.toInt < 2147483647 := (by first | exact (mu_up (k := i10) (by assumption)).2 | assumption); have q2 := mu_lt q1; rw [← ev28] at q2; omega); rw [← hN]; clear hN; subst ev28 eψ27 er25 ev24; exact hO.tr (if_neg c23)) rfl (lv_sub hl [1, 2, 3, 4, 5, 6, 7, 8, 9, 10, 0] rfl)
  have J70 : ∀ (ls : Array Slot) (H : Heap) (locs : List Loc) (φ : gF) (ψ : gG) (i1 : Int32) (i2 : Int32) (i3 : Int32) (i4 : Int32) (i5 : Int32) (i6 : Int32) (i7 : Int32) (t0 : Int32), INVF γ A κ φ ψ H → va_S A s.heap H locs → (Oq OUT (P_Meanings_cut_70 κ   φ ψ i1 i2 i3 i4 i5 i6 i7 t0)) → lv_has ls 11 [(0, .ref (γ.2.2.2 12)), (1, .int i1), (2, .int i2), (3, .int i3), (4, .int i4), (5, .int i5), (6, .int i6), (7, .int i7)] → W p l e (bs_rm 3 0 0 66) s m args below meth c H locs 0 0 Q (F0 m 70 ls [.int t0]) := by
    intro ls H locs φ ψ i1 i2 i3 i4 i5 i6 i7 t0 hG hS hO hl
    have hI := inv_of hG
    refine lv_istore (lv' := [(8, .int t0), (0, .ref (γ.2.2.2 12)), (1, .int i1), (2, .int i2), (3, .int i3), (4, .int i4), (5, .int i5), (6, .int i6), (7, .int i7)]) hx hb dMeanings_cut_70 hl (by decide) rfl (fun ls hl => ?_)
    refine lv_iload hx hb dMeanings_cut_72 (lv_at hl 0 rfl) ?_
    refine lv_if_eq (tgt := 96) hx hb dMeanings_cut_74 (by decide) (fun c29 => ?_) (fun c29 => ?_)
    · refine lv_bipush (v := 6) hx hb dMeanings_cut_96 (by decide) ?_
      exact hE _ _ _ _ _ hS (by have hO2 : Oq OUT (6, φ, ψ) := (by exact hO.tr (if_pos c29)); rw [hO2.eq]; exact ⟨rfl, hG⟩) dMeanings_cut_98
    · refine lv_iload hx hb dMeanings_cut_77 (lv_at hl 7 rfl) ?_
      refine lv_iconst (v := (-1)) hx hb dMeanings_cut_79 (by decide) ?_
      refine lv_icmp_eq (tgt := 96) hx hb dMeanings_cut_80 (by decide) (fun c30 => ?_) (fun c30 => ?_)
      · refine lv_bipush (v := 6) hx hb dMeanings_cut_96 (by decide) ?_
        exact hE _ _ _ _ _ hS (by have hO2 : Oq OUT (6, φ, ψ) := (by exact hO.tr ((if_neg c29).trans (if_pos c30))); rw [hO2.eq]; exact ⟨rfl, hG⟩) dMeanings_cut_98
      · refine lv_iload hx hb dMeanings_cut_83 (lv_at hl 8 rfl) ?_
        refine lv_iconst (v := (-1)) hx hb dMeanings_cut_85 (by decide) ?_
        refine lv_icmp_eq (tgt := 96) hx hb dMeanings_cut_86 (by decide) (fun c31 => ?_) (fun c31 => ?_)
        · refine lv_bipush (v := 6) hx hb dMeanings_cut_96 (by decide) ?_
          exact hE _ _ _ _ _ hS (by have hO2 : Oq OUT (6, φ, ψ) := (by exact hO.tr ((if_neg c29).trans ((if_neg c30).trans (if_pos c31)))); rw [hO2.eq]; exact ⟨rfl, hG⟩) dMeanings_cut_98
        · refine lv_iload hx hb dMeanings_cut_89 (lv_at hl 7 rfl) ?_
          refine lv_iload hx hb dMeanings_cut_91 (lv_at hl 8 rfl) ?_
          refine lv_icmp_ge (tgt := 99) hx hb dMeanings_cut_93 (by decide) (fun c32 => ?_) (fun c32 => ?_)
          · refine lv_iload hx hb dMeanings_cut_99 (lv_at hl 7 rfl) ?_
            refine lv_iload hx hb dMeanings_cut_101 (lv_at hl 8 rfl) ?_
            refine lv_isub hx hb dMeanings_cut_103 ?_
            refine lv_topi (fun v33 ev33 => ?_)
            refine lv_iconst (v := 1) hx hb dMeanings_cut_104 (by decide) ?_
            refine lv_iadd hx hb dMeanings_cut_105 ?_
            refine lv_topi (fun v34 ev34 => ?_)
            refine lv_istore (lv' := [(9, .int v34), (8, .int t0), (0, .ref (γ.2.2.2 12)), (1, .int i1), (2, .int i2), (3, .int i3), (4, .int i4), (5, .int i5), (6, .int i6), (7, .int i7)]) hx hb dMeanings_cut_106 hl (by decide) rfl (fun ls hl => ?_)
            refine lv_aload_n hx hb dMeanings_cut_108 rfl (lv_at hl 2 rfl) ?_
            refine of_get S hC (of_12_4 hI) in_Meanings rfl (by decide) qw_aa3d3bbcf9 dMeanings_cut_109 ?_
            refine lv_iload_n hx hb dMeanings_cut_112 rfl (lv_at hl 3 rfl) ?_
            refine lv_iconst (v := 3) hx hb dMeanings_cut_113 (by decide) ?_
            refine lv_iload hx hb dMeanings_cut_114 (lv_at hl 0 rfl) ?_
            refine lv_aload_n hx hb dMeanings_cut_116 rfl (lv_at hl 2 rfl) ?_
            refine lv_iload_n hx hb dMeanings_cut_117 rfl (lv_at hl 4 rfl) ?_
            refine pu_Vi (rest := [.int v34, .int 3, .int i1, .ref (γ.2.2.2 9)]) S hC (f_Meanings_isConstant l γ A κ φ ψ i2) meMeanings_isConstant qw_39c162a16b ⟨Nat.le_of_ble_eq_true rfl, Nat.le_of_ble_eq_true rfl⟩ (rv_12 hC hI) hG rfl hl.1 rfl (Nat.le_of_ble_eq_true rfl) dMeanings_cut_118 ⟨Nat.zero_le _, Nat.zero_le _⟩ (fun r35 hr35 => ?_)
            obtain ⟨hr35, er35⟩ := hr35
            refine mu_Vv (rest := []) S hC (fun q h => hA q (Nat.le_trans hS.1 h)) (fun q h => h) hS (f9_Looks_note l γ A κ φ ψ i1 3 v34 r35) meLooks_note qw_454d4ae88d ⟨Nat.le_of_ble_eq_true rfl, Nat.le_of_ble_eq_true rfl⟩ (rv_9 hC hI) hG rfl hl.1 rfl (Nat.le_of_ble_eq_true rfl) dMeanings_cut_121 ⟨Nat.le_refl _, Nat.le_refl _⟩ (fun H locs hG hS _ _ => ?_)
            obtain ⟨φ37, eφ37⟩ : ∃ z : gF, z = up φ 9 (P_Looks_note (κ 7) (φ 9) i1 3 v34 r35) := ⟨_, rfl⟩
            rw [← eφ37] at hG
            have hI := inv_of hG
            refine lv_iconst (v := 0) hx hb dMeanings_cut_124 (by decide) ?_
            refine lv_istore (lv' := [(10, .int 0), (9, .int v34), (8, .int t0), (0, .ref (γ.2.2.2 12)), (1, .int i1), (2, .int i2), (3, .int i3), (4, .int i4), (5, .int i5), (6, .int i6), (7, .int i7)]) hx hb dMeanings_cut_125 hl (by decide) rfl (fun ls hl => ?_)
            exact J127 _ ls _ _ φ37 ψ i1 i2 i3 i4 i5 i6 i7 t0 v34 0 hG hS (by subst eφ37 er35 ev34 ev33; exact hO.tr ((if_neg c29).trans ((if_neg c30).trans ((if_neg c31).trans (if_pos c32))))) rfl (lv_sub hl [3, 4, 5, 6, 7, 8, 9, 10, 2, 1, 0] rfl)
          · refine lv_bipush (v := 6) hx hb dMeanings_cut_96 (by decide) ?_
            exact hE _ _ _ _ _ hS (by have hO2 : Oq OUT (6, φ, ψ) := (by exact hO.tr ((if_neg c29).trans ((if_neg c30).trans ((if_neg c31).trans (if_neg c32))))); rw [hO2.eq]; exact ⟨rfl, hG⟩) dMeanings_cut_98
  have J62 : ∀ (ls : Array Slot) (H : Heap) (locs : List Loc) (φ : gF) (ψ : gG) (i1 : Int32) (i2 : Int32) (i3 : Int32) (i4 : Int32) (i5 : Int32) (i6 : Int32) (i7 : Int32) (t0 : Int32) (t1 : Int32), INVF γ A κ φ ψ H → va_S A s.heap H locs → (Oq OUT (P_Meanings_cut_62 κ   φ ψ i1 i2 i3 i4 i5 i6 i7 t0 t1)) → lv_has ls 11 [(0, .ref (γ.2.2.2 12)), (1, .int i1), (2, .int i2), (3, .int i3), (4, .int i4), (5, .int i5), (6, .int i6), (7, .int i7)] → W p l e (bs_rm 3 0 0 66) s m args below meth c H locs 0 0 Q (F0 m 62 ls [.int t0, .int t1]) := by
    intro ls H locs φ ψ i1 i2 i3 i4 i5 i6 i7 t0 t1 hG hS hO hl
    have hI := inv_of hG
    refine lv_icmp_ne (tgt := 69) hx hb dMeanings_cut_62 (by decide) (fun c38 => ?_) (fun c38 => ?_)
    · refine lv_iconst (v := 0) hx hb dMeanings_cut_69 (by decide) ?_
      exact J70 ls _ _ φ ψ i1 i2 i3 i4 i5 i6 i7 0 hG hS (by exact hO.tr (if_neg c38)) (lv_sub hl [0, 1, 2, 3, 4, 5, 6, 7] rfl)
    · refine lv_iconst (v := 1) hx hb dMeanings_cut_65 (by decide) ?_
      refine lv_goto (tgt := 70) hx hb dMeanings_cut_66 (by decide) ?_
      exact J70 ls _ _ φ ψ i1 i2 i3 i4 i5 i6 i7 1 hG hS (by exact hO.tr (if_pos c38)) (lv_sub hl [0, 1, 2, 3, 4, 5, 6, 7] rfl)
  refine lv_aload_n hx hb dMeanings_cut_0 rfl (lv_at hl 0 rfl) ?_
  refine of_get S hC (of_12_3 hI) in_Meanings rfl (by decide) qw_9bfdade5f5 dMeanings_cut_1 ?_
  refine lv_iload_n hx hb dMeanings_cut_4 rfl (lv_at hl 2 rfl) ?_
  refine pu_Vi (rest := []) S hC (f4_Objects_typeOfObject l γ A κ φ ψ x2) meObjects_typeOfObject qw_bc7306873f ⟨Nat.le_of_ble_eq_true rfl, Nat.le_of_ble_eq_true rfl⟩ (rv_4 hC hI) hG rfl hl.1 rfl (Nat.le_of_ble_eq_true rfl) dMeanings_cut_5 ⟨Nat.zero_le _, Nat.zero_le _⟩ (fun r39 hr39 => ?_)
  obtain ⟨hr39, er39⟩ := hr39
  refine lv_istore (lv' := [(5, .int r39), (0, .ref (γ.2.2.2 12)), (1, .int x1), (2, .int x2), (3, .int x3), (4, .int x4)]) hx hb dMeanings_cut_8 hl (by decide) rfl (fun ls hl => ?_)
  refine lv_aload_n hx hb dMeanings_cut_10 rfl (lv_at hl 1 rfl) ?_
  refine of_get S hC (of_12_2 hI) in_Meanings rfl (by decide) qw_e2a2dba4a9 dMeanings_cut_11 ?_
  refine lv_iload hx hb dMeanings_cut_14 (lv_at hl 0 rfl) ?_
  refine lv_iload_n hx hb dMeanings_cut_16 rfl (lv_at hl 4 rfl) ?_
  refine pu_Vi (rest := []) S hC (f3_Types_fromRight l γ A κ φ ψ r39 x3) meTypes_fromRight qw_de7e185c5e ⟨Nat.le_of_ble_eq_true rfl, Nat.le_of_ble_eq_true rfl⟩ (rv_3 hC hI) hG rfl hl.1 rfl (Nat.le_of_ble_eq_true rfl) dMeanings_cut_17 ⟨Nat.zero_le _, Nat.zero_le _⟩ (fun r40 hr40 => ?_)
  obtain ⟨hr40, er40⟩ := hr40
  refine lv_istore (lv' := [(6, .int r40), (5, .int r39), (0, .ref (γ.2.2.2 12)), (1, .int x1), (2, .int x2), (3, .int x3), (4, .int x4)]) hx hb dMeanings_cut_20 hl (by decide) rfl (fun ls hl => ?_)
  refine lv_aload_n hx hb dMeanings_cut_22 rfl (lv_at hl 2 rfl) ?_
  refine of_get S hC (of_12_2 hI) in_Meanings rfl (by decide) qw_e2a2dba4a9 dMeanings_cut_23 ?_
  refine lv_iload hx hb dMeanings_cut_26 (lv_at hl 1 rfl) ?_
  refine lv_iload hx hb dMeanings_cut_28 (lv_at hl 6 rfl) ?_
  refine pu_Vi (rest := []) S hC (f3_Types_fromRight l γ A κ φ ψ r39 x4) meTypes_fromRight qw_de7e185c5e ⟨Nat.le_of_ble_eq_true rfl, Nat.le_of_ble_eq_true rfl⟩ (rv_3 hC hI) hG rfl hl.1 rfl (Nat.le_of_ble_eq_true rfl) dMeanings_cut_30 ⟨Nat.zero_le _, Nat.zero_le _⟩ (fun r41 hr41 => ?_)
  obtain ⟨hr41, er41⟩ := hr41
  refine lv_istore (lv' := [(7, .int r41), (6, .int r40), (5, .int r39), (0, .ref (γ.2.2.2 12)), (1, .int x1), (2, .int x2), (3, .int x3), (4, .int x4)]) hx hb dMeanings_cut_33 hl (by decide) rfl (fun ls hl => ?_)
  refine lv_aload_n hx hb dMeanings_cut_35 rfl (lv_at hl 3 rfl) ?_
  refine of_get S hC (of_12_2 hI) in_Meanings rfl (by decide) qw_e2a2dba4a9 dMeanings_cut_36 ?_
  refine lv_iload hx hb dMeanings_cut_39 (lv_at hl 2 rfl) ?_
  refine pu_Vi (rest := []) S hC (f3_Types_goesDown l γ A κ φ ψ r39) meTypes_goesDown qw_63bfba27f7 ⟨Nat.le_of_ble_eq_true rfl, Nat.le_of_ble_eq_true rfl⟩ (rv_3 hC hI) hG rfl hl.1 rfl (Nat.le_of_ble_eq_true rfl) dMeanings_cut_41 ⟨Nat.zero_le _, Nat.zero_le _⟩ (fun r42 hr42 => ?_)
  obtain ⟨hr42, er42⟩ := hr42
  refine lv_aload_n hx hb dMeanings_cut_44 rfl (lv_at hl 3 rfl) ?_
  refine of_get S hC (of_12_0 hI) in_Meanings rfl (by decide) qw_c54cffb97e dMeanings_cut_45 ?_
  refine lv_iload_n hx hb dMeanings_cut_48 rfl (lv_at hl 4 rfl) ?_
  refine pu_Vi (rest := [.int r42]) S hC (f1_Trees_kindOf l γ A κ φ ψ x1) meTrees_kindOf qw_6dd2778f5c ⟨Nat.le_of_ble_eq_true rfl, Nat.le_of_ble_eq_true rfl⟩ (rv_1 hC hI) hG rfl hl.1 rfl (Nat.le_of_ble_eq_true rfl) dMeanings_cut_49 ⟨Nat.zero_le _, Nat.zero_le _⟩ (fun r43 hr43 => ?_)
  obtain ⟨hr43, er43⟩ := hr43
  refine lv_bipush (v := 24) hx hb dMeanings_cut_52 (by decide) ?_
  refine lv_icmp_ne (tgt := 61) hx hb dMeanings_cut_54 (by decide) (fun c44 => ?_) (fun c44 => ?_)
  · refine lv_iconst (v := 0) hx hb dMeanings_cut_61 (by decide) ?_
    exact J62 ls _ _ φ ψ x1 x2 x3 x4 r39 r40 r41 0 r42 hG hS (by subst er43 er42 er41 er40 er39; exact hO.tr (if_neg c44)) (lv_sub hl [3, 4, 5, 6, 7, 2, 1, 0] rfl)
  · refine lv_iconst (v := 1) hx hb dMeanings_cut_57 (by decide) ?_
    refine lv_goto (tgt := 62) hx hb dMeanings_cut_58 (by decide) ?_
    exact J62 ls _ _ φ ψ x1 x2 x3 x4 r39 r40 r41 1 r42 hG hS (by subst er43 er42 er41 er40 er39; exact hO.tr (if_pos c44)) (lv_sub hl [3, 4, 5, 6, 7, 2, 1, 0] rfl)
