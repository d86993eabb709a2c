theorem qw_311ac4ac85 : (Cond.methodLink R_Model 1 Lib.objectInit) ∈ bs_W0 := bs_in (in_tables_1_5 (List.mem_of_getElem? (i := 145) rfl)) rfl
theorem qw_14bcb724a4 : (Cond.arrayClass .boolean) ∈ bs_W0 := bs_in (in_tables_1_6 (List.mem_of_getElem? (i := 19) rfl)) rfl
theorem qw_ac0cfedea6 : (Cond.constant R_Model 46 640000) ∈ bs_W0 := bs_in (in_tables_1_5 (List.mem_of_getElem? (i := 146) rfl)) rfl
theorem qw_542fcd69e5 : (Cond.arrayClass .byte) ∈ bs_W0 := bs_in (in_tables_1_2 (List.mem_of_getElem? (i := 162) rfl)) rfl
theorem qw_935637abc2 : (Cond.constant R_Model 97 (-2147483647)) ∈ bs_W0 := bs_in (in_tables_1_5 (List.mem_of_getElem? (i := 151) rfl)) rfl
theorem qw_56a015b2eb : (Cond.constant R_Model 98 2147483647) ∈ bs_W0 := bs_in (in_tables_1_5 (List.mem_of_getElem? (i := 152) rfl)) rfl
set_option maxHeartbeats 4000000 in
set_option maxRecDepth 100000 in
theorem i_Model (l : Launch) (γ : gE) (s0 : State) (hw0 : SW s0) (a : Nat) (H0 : Heap) : MS l yModel_init bModel_init 1 none 1 25 24 738000 [.ref a] γ (fun q => a ≤ q) (ct_P s0 a H0 γ (wsI γ a (fun _ => 0) 0)) (mQv (fun H => (∃ κ : Nat → Nat, (κ 5 = 1 ∧ κ 0 = 0 ∧ κ 1 = 0) ∧ MI γ a (B0 a) (fun q => a ≤ q) κ 0 H) ∧ H.size = a + 25) (fun q => a ≤ q)) := by
  refine ms_openV (by decide) (Nat.le_of_ble_eq_true rfl) ?_
  intro p e s m args below meth c ls Q S hnm hC hA hPS hE hl
  obtain ⟨⟨hF0, hA1⟩, hH0, hz, hP⟩ := hPS
  subst hH0
  have hz00 : s.heap.size = a + 1 := hz
  have hA : ∀ q, s.heap.size ≤ q → a ≤ q := hA
  obtain ⟨hx, hb, hml, hown, hW⟩ := id S
  have hS : va_S (fun q => a ≤ q) s.heap s.heap [] := va_S.rf
  have hD : va_D (fun q => a ≤ q) (wsI γ a (fun _ => 0) 0) := one_D (Nat.le_refl a)
  have hP : va_P γ.1 vwCl (wsI γ a (fun _ => 0) 0) s.heap := hP
  have hl : lv_has ls 1 [(0, .ref a)] := hl
  have hz : s.heap.size = a + 1 + 0 := hz
  refine lv_aload_n hx hb dModel_init_0 rfl (lv_at hl 0 rfl) ?_
  refine W.objInit hx hb hown (hW _ qw_311ac4ac85) (hW _ qw_aaa073e22d) (hW _ qc_obj) rfl (hl.1.trans hml.symm) rfl dModel_init_1 (Nat.le_of_ble_eq_true rfl) (Nat.le_of_ble_eq_true rfl) ?_
  refine lv_aload_n hx hb dModel_init_4 rfl (lv_at hl 0 rfl) ?_
  refine lv_iconst (v := (-1)) hx hb dModel_init_5 (by decide) ?_
  refine st_put (D := γ.1) (ci := 10) (v := .int (-1)) (ty := .int) (C := R_Model) (T := T_Model) (N := 35) (Ts := bs_W0) hx hb hW in_Model t_Model t_Model_ok n_Model hown hC.1 hP hD (fun q h => h) hS 0 rfl rfl 1 (by decide) (hW _ qw_d4a57461ea) (fun _ h9 => h9) rfl (by decide +kernel) rfl rfl (by rw [fsI_len]; decide) dModel_init_6 (fun H locs hP hD hS hz9 ho9 => ?_)
  have hP : va_P γ.1 vwCl (wsI γ a (upd (fun _ => 0) 1 (-1)) 0) H := by have h9 : (wsI γ a (fun _ => 0) 0).set 0 (a, .inr (10, (fsI a (fun _ => 0) 0).set 1 (.int (-1)))) = wsI γ a (upd (fun _ => 0) 1 (-1)) 0 := (by rw [fsI_put (by decide) rfl]; rfl); rw [← h9]; exact hP
  have hD : va_D (fun q => a ≤ q) (wsI γ a (upd (fun _ => 0) 1 (-1)) 0) := by have h9 : (wsI γ a (fun _ => 0) 0).set 0 (a, .inr (10, (fsI a (fun _ => 0) 0).set 1 (.int (-1)))) = wsI γ a (upd (fun _ => 0) 1 (-1)) 0 := (by rw [fsI_put (by decide) rfl]; rfl); rw [← h9]; exact hD
  have hz : H.size = a + 1 + 0 := hz9.trans hz
  refine lv_aload_n hx hb dModel_init_9 rfl (lv_at hl 0 rfl) ?_
  refine lv_sipush (v := 4000) hx hb dModel_init_10 (by decide) ?_
  refine mi_int (V := (upd (fun _ => 0) 1 (-1))) (j := 0) (k := 2) S hnm hC hP hD hS hA hz rfl (by decide) (by decide) rfl (by decide) rfl rfl (by decide) (Nat.le_of_ble_eq_true rfl) (Nat.le_of_ble_eq_true rfl) qw_8e969fb20a qw_3471296067 rfl rfl (by decide +kernel) dModel_init_13 dModel_init_15 (fun H locs hP hD hS hz => ?_)
  refine lv_aload_n hx hb dModel_init_18 rfl (lv_at hl 0 rfl) ?_
  refine lv_sipush (v := 4000) hx hb dModel_init_19 (by decide) ?_
  refine mi_int (V := (upd (fun _ => 0) 1 (-1))) (j := 1) (k := 3) S hnm hC hP hD hS hA hz rfl (by decide) (by decide) rfl (by decide) rfl rfl (by decide) (Nat.le_of_ble_eq_true rfl) (Nat.le_of_ble_eq_true rfl) qw_8e969fb20a qw_9fb851a5fa rfl rfl (by decide +kernel) dModel_init_22 dModel_init_24 (fun H locs hP hD hS hz => ?_)
  refine lv_aload_n hx hb dModel_init_27 rfl (lv_at hl 0 rfl) ?_
  refine lv_sipush (v := 4000) hx hb dModel_init_28 (by decide) ?_
  refine mi_int (V := (upd (fun _ => 0) 1 (-1))) (j := 2) (k := 4) S hnm hC hP hD hS hA hz rfl (by decide) (by decide) rfl (by decide) rfl rfl (by decide) (Nat.le_of_ble_eq_true rfl) (Nat.le_of_ble_eq_true rfl) qw_8e969fb20a qw_a8caa30de3 rfl rfl (by decide +kernel) dModel_init_31 dModel_init_33 (fun H locs hP hD hS hz => ?_)
  refine lv_aload_n hx hb dModel_init_36 rfl (lv_at hl 0 rfl) ?_
  refine lv_sipush (v := 4000) hx hb dModel_init_37 (by decide) ?_
  refine mi_int (V := (upd (fun _ => 0) 1 (-1))) (j := 3) (k := 5) S hnm hC hP hD hS hA hz rfl (by decide) (by decide) rfl (by decide) rfl rfl (by decide) (Nat.le_of_ble_eq_true rfl) (Nat.le_of_ble_eq_true rfl) qw_8e969fb20a qw_7e4081a75e rfl rfl (by decide +kernel) dModel_init_40 dModel_init_42 (fun H locs hP hD hS hz => ?_)
  refine lv_aload_n hx hb dModel_init_45 rfl (lv_at hl 0 rfl) ?_
  refine lv_sipush (v := 4000) hx hb dModel_init_46 (by decide) ?_
  refine mi_int (V := (upd (fun _ => 0) 1 (-1))) (j := 4) (k := 7) S hnm hC hP hD hS hA hz rfl (by decide) (by decide) rfl (by decide) rfl rfl (by decide) (Nat.le_of_ble_eq_true rfl) (Nat.le_of_ble_eq_true rfl) qw_8e969fb20a qw_398ffa5efc rfl rfl (by decide +kernel) dModel_init_49 dModel_init_51 (fun H locs hP hD hS hz => ?_)
  refine lv_aload_n hx hb dModel_init_54 rfl (lv_at hl 0 rfl) ?_
  refine lv_sipush (v := 10000) hx hb dModel_init_55 (by decide) ?_
  refine mi_int (V := (upd (fun _ => 0) 1 (-1))) (j := 5) (k := 9) S hnm hC hP hD hS hA hz rfl (by decide) (by decide) rfl (by decide) rfl rfl (by decide) (Nat.le_of_ble_eq_true rfl) (Nat.le_of_ble_eq_true rfl) qw_8e969fb20a qw_a119aeeca0 rfl rfl (by decide +kernel) dModel_init_58 dModel_init_60 (fun H locs hP hD hS hz => ?_)
  refine lv_aload_n hx hb dModel_init_63 rfl (lv_at hl 0 rfl) ?_
  refine lv_sipush (v := 10000) hx hb dModel_init_64 (by decide) ?_
  refine mi_int (V := (upd (fun _ => 0) 1 (-1))) (j := 6) (k := 10) S hnm hC hP hD hS hA hz rfl (by decide) (by decide) rfl (by decide) rfl rfl (by decide) (Nat.le_of_ble_eq_true rfl) (Nat.le_of_ble_eq_true rfl) qw_8e969fb20a qw_bd0251c605 rfl rfl (by decide +kernel) dModel_init_67 dModel_init_69 (fun H locs hP hD hS hz => ?_)
  refine lv_aload_n hx hb dModel_init_72 rfl (lv_at hl 0 rfl) ?_
  refine lv_sipush (v := 10000) hx hb dModel_init_73 (by decide) ?_
  refine mi_boolean (V := (upd (fun _ => 0) 1 (-1))) (j := 7) (k := 11) S hnm hC hP hD hS hA hz rfl (by decide) (by decide) rfl (by decide) rfl rfl (by decide) (Nat.le_of_ble_eq_true rfl) (Nat.le_of_ble_eq_true rfl) qw_14bcb724a4 qw_88b9028ba7 rfl rfl (by decide +kernel) dModel_init_76 dModel_init_78 (fun H locs hP hD hS hz => ?_)
  refine lv_aload_n hx hb dModel_init_81 rfl (lv_at hl 0 rfl) ?_
  refine lv_sipush (v := 10000) hx hb dModel_init_82 (by decide) ?_
  refine mi_int (V := (upd (fun _ => 0) 1 (-1))) (j := 8) (k := 12) S hnm hC hP hD hS hA hz rfl (by decide) (by decide) rfl (by decide) rfl rfl (by decide) (Nat.le_of_ble_eq_true rfl) (Nat.le_of_ble_eq_true rfl) qw_8e969fb20a qw_19df235c4a rfl rfl (by decide +kernel) dModel_init_85 dModel_init_87 (fun H locs hP hD hS hz => ?_)
  refine lv_aload_n hx hb dModel_init_90 rfl (lv_at hl 0 rfl) ?_
  refine lv_sipush (v := 10000) hx hb dModel_init_91 (by decide) ?_
  refine mi_long (V := (upd (fun _ => 0) 1 (-1))) (j := 9) (k := 13) S hnm hC hP hD hS hA hz rfl (by decide) (by decide) rfl (by decide) rfl rfl (by decide) (Nat.le_of_ble_eq_true rfl) (Nat.le_of_ble_eq_true rfl) qw_6933bd775d qw_7b809afc8c rfl rfl (by decide +kernel) dModel_init_94 dModel_init_96 (fun H locs hP hD hS hz => ?_)
  refine lv_aload_n hx hb dModel_init_99 rfl (lv_at hl 0 rfl) ?_
  refine lv_ldc (v := 640000) hx hb hown (hW _ qw_ac0cfedea6) dModel_init_100 ?_
  refine mi_byte (V := (upd (fun _ => 0) 1 (-1))) (j := 10) (k := 14) S hnm hC hP hD hS hA hz rfl (by decide) (by decide) rfl (by decide) rfl rfl (by decide) (Nat.le_of_ble_eq_true rfl) (Nat.le_of_ble_eq_true rfl) qw_542fcd69e5 qw_e487507e04 rfl rfl (by decide +kernel) dModel_init_102 dModel_init_104 (fun H locs hP hD hS hz => ?_)
  refine lv_aload_n hx hb dModel_init_107 rfl (lv_at hl 0 rfl) ?_
  refine lv_sipush (v := 4000) hx hb dModel_init_108 (by decide) ?_
  refine mi_boolean (V := (upd (fun _ => 0) 1 (-1))) (j := 11) (k := 15) S hnm hC hP hD hS hA hz rfl (by decide) (by decide) rfl (by decide) rfl rfl (by decide) (Nat.le_of_ble_eq_true rfl) (Nat.le_of_ble_eq_true rfl) qw_14bcb724a4 qw_bcd494e5c6 rfl rfl (by decide +kernel) dModel_init_111 dModel_init_113 (fun H locs hP hD hS hz => ?_)
  refine lv_aload_n hx hb dModel_init_116 rfl (lv_at hl 0 rfl) ?_
  refine lv_sipush (v := 1000) hx hb dModel_init_117 (by decide) ?_
  refine mi_int (V := (upd (fun _ => 0) 1 (-1))) (j := 12) (k := 16) S hnm hC hP hD hS hA hz rfl (by decide) (by decide) rfl (by decide) rfl rfl (by decide) (Nat.le_of_ble_eq_true rfl) (Nat.le_of_ble_eq_true rfl) qw_8e969fb20a qw_9bd8ea24bb rfl rfl (by decide +kernel) dModel_init_120 dModel_init_122 (fun H locs hP hD hS hz => ?_)
  refine lv_aload_n hx hb dModel_init_125 rfl (lv_at hl 0 rfl) ?_
  refine lv_sipush (v := 1000) hx hb dModel_init_126 (by decide) ?_
  refine mi_int (V := (upd (fun _ => 0) 1 (-1))) (j := 13) (k := 17) S hnm hC hP hD hS hA hz rfl (by decide) (by decide) rfl (by decide) rfl rfl (by decide) (Nat.le_of_ble_eq_true rfl) (Nat.le_of_ble_eq_true rfl) qw_8e969fb20a qw_94306de345 rfl rfl (by decide +kernel) dModel_init_129 dModel_init_131 (fun H locs hP hD hS hz => ?_)
  refine lv_aload_n hx hb dModel_init_134 rfl (lv_at hl 0 rfl) ?_
  refine lv_sipush (v := 1000) hx hb dModel_init_135 (by decide) ?_
  refine mi_int (V := (upd (fun _ => 0) 1 (-1))) (j := 14) (k := 18) S hnm hC hP hD hS hA hz rfl (by decide) (by decide) rfl (by decide) rfl rfl (by decide) (Nat.le_of_ble_eq_true rfl) (Nat.le_of_ble_eq_true rfl) qw_8e969fb20a qw_82ee92f611 rfl rfl (by decide +kernel) dModel_init_138 dModel_init_140 (fun H locs hP hD hS hz => ?_)
  refine lv_aload_n hx hb dModel_init_143 rfl (lv_at hl 0 rfl) ?_
  refine lv_sipush (v := 1000) hx hb dModel_init_144 (by decide) ?_
  refine mi_int (V := (upd (fun _ => 0) 1 (-1))) (j := 15) (k := 19) S hnm hC hP hD hS hA hz rfl (by decide) (by decide) rfl (by decide) rfl rfl (by decide) (Nat.le_of_ble_eq_true rfl) (Nat.le_of_ble_eq_true rfl) qw_8e969fb20a qw_c139dbceda rfl rfl (by decide +kernel) dModel_init_147 dModel_init_149 (fun H locs hP hD hS hz => ?_)
  refine lv_aload_n hx hb dModel_init_152 rfl (lv_at hl 0 rfl) ?_
  refine lv_sipush (v := 1000) hx hb dModel_init_153 (by decide) ?_
  refine mi_boolean (V := (upd (fun _ => 0) 1 (-1))) (j := 16) (k := 20) S hnm hC hP hD hS hA hz rfl (by decide) (by decide) rfl (by decide) rfl rfl (by decide) (Nat.le_of_ble_eq_true rfl) (Nat.le_of_ble_eq_true rfl) qw_14bcb724a4 qw_1579022aeb rfl rfl (by decide +kernel) dModel_init_156 dModel_init_158 (fun H locs hP hD hS hz => ?_)
  refine lv_aload_n hx hb dModel_init_161 rfl (lv_at hl 0 rfl) ?_
  refine lv_sipush (v := 2000) hx hb dModel_init_162 (by decide) ?_
  refine mi_int (V := (upd (fun _ => 0) 1 (-1))) (j := 17) (k := 22) S hnm hC hP hD hS hA hz rfl (by decide) (by decide) rfl (by decide) rfl rfl (by decide) (Nat.le_of_ble_eq_true rfl) (Nat.le_of_ble_eq_true rfl) qw_8e969fb20a qw_50c5849686 rfl rfl (by decide +kernel) dModel_init_165 dModel_init_167 (fun H locs hP hD hS hz => ?_)
  refine lv_aload_n hx hb dModel_init_170 rfl (lv_at hl 0 rfl) ?_
  refine lv_sipush (v := 2000) hx hb dModel_init_171 (by decide) ?_
  refine mi_int (V := (upd (fun _ => 0) 1 (-1))) (j := 18) (k := 23) S hnm hC hP hD hS hA hz rfl (by decide) (by decide) rfl (by decide) rfl rfl (by decide) (Nat.le_of_ble_eq_true rfl) (Nat.le_of_ble_eq_true rfl) qw_8e969fb20a qw_bd9bcb35cb rfl rfl (by decide +kernel) dModel_init_174 dModel_init_176 (fun H locs hP hD hS hz => ?_)
  refine lv_aload_n hx hb dModel_init_179 rfl (lv_at hl 0 rfl) ?_
  refine lv_sipush (v := 3000) hx hb dModel_init_180 (by decide) ?_
  refine mi_int (V := (upd (fun _ => 0) 1 (-1))) (j := 19) (k := 25) S hnm hC hP hD hS hA hz rfl (by decide) (by decide) rfl (by decide) rfl rfl (by decide) (Nat.le_of_ble_eq_true rfl) (Nat.le_of_ble_eq_true rfl) qw_8e969fb20a qw_0f8ce80864 rfl rfl (by decide +kernel) dModel_init_183 dModel_init_185 (fun H locs hP hD hS hz => ?_)
  refine lv_aload_n hx hb dModel_init_188 rfl (lv_at hl 0 rfl) ?_
  refine lv_sipush (v := 3000) hx hb dModel_init_189 (by decide) ?_
  refine mi_int (V := (upd (fun _ => 0) 1 (-1))) (j := 20) (k := 26) S hnm hC hP hD hS hA hz rfl (by decide) (by decide) rfl (by decide) rfl rfl (by decide) (Nat.le_of_ble_eq_true rfl) (Nat.le_of_ble_eq_true rfl) qw_8e969fb20a qw_e95de6bb1e rfl rfl (by decide +kernel) dModel_init_192 dModel_init_194 (fun H locs hP hD hS hz => ?_)
  refine lv_aload_n hx hb dModel_init_197 rfl (lv_at hl 0 rfl) ?_
  refine lv_sipush (v := 3000) hx hb dModel_init_198 (by decide) ?_
  refine mi_int (V := (upd (fun _ => 0) 1 (-1))) (j := 21) (k := 27) S hnm hC hP hD hS hA hz rfl (by decide) (by decide) rfl (by decide) rfl rfl (by decide) (Nat.le_of_ble_eq_true rfl) (Nat.le_of_ble_eq_true rfl) qw_8e969fb20a qw_5b2f86bc41 rfl rfl (by decide +kernel) dModel_init_201 dModel_init_203 (fun H locs hP hD hS hz => ?_)
  refine lv_aload_n hx hb dModel_init_206 rfl (lv_at hl 0 rfl) ?_
  refine lv_sipush (v := 3000) hx hb dModel_init_207 (by decide) ?_
  refine mi_int (V := (upd (fun _ => 0) 1 (-1))) (j := 22) (k := 28) S hnm hC hP hD hS hA hz rfl (by decide) (by decide) rfl (by decide) rfl rfl (by decide) (Nat.le_of_ble_eq_true rfl) (Nat.le_of_ble_eq_true rfl) qw_8e969fb20a qw_73fdadc701 rfl rfl (by decide +kernel) dModel_init_210 dModel_init_212 (fun H locs hP hD hS hz => ?_)
  refine lv_aload_n hx hb dModel_init_215 rfl (lv_at hl 0 rfl) ?_
  refine lv_sipush (v := 3000) hx hb dModel_init_216 (by decide) ?_
  refine mi_int (V := (upd (fun _ => 0) 1 (-1))) (j := 23) (k := 29) S hnm hC hP hD hS hA hz rfl (by decide) (by decide) rfl (by decide) rfl rfl (by decide) (Nat.le_of_ble_eq_true rfl) (Nat.le_of_ble_eq_true rfl) qw_8e969fb20a qw_6551c8877a rfl rfl (by decide +kernel) dModel_init_219 dModel_init_221 (fun H locs hP hD hS hz => ?_)
  rw [wsI_all] at hP hD
  refine lv_aload_n hx hb dModel_init_224 rfl (lv_at hl 0 rfl) ?_
  refine lv_iconst (v := 1) hx hb dModel_init_225 (by decide) ?_
  refine mb_pI (Z := (fun q => a ≤ q)) S hC ⟨hP, hD⟩ hS 31 (by decide) rfl qw_e3979b88d4 rfl (by decide +kernel) dModel_init_226 (fun H locs hMb hS => ?_)
  have hM := md_of hMb
  refine W.up (k := 24) (n := 738000) (Nat.le_of_ble_eq_true rfl) (Nat.le_of_ble_eq_true rfl) ?_
  obtain ⟨κ0, hT0, h2_0, h5_0⟩ : ∃ κ0 : Nat → Nat, ST κ0 (fun _ => 0) (fun _ => 0) (upd (upd (fun _ => 0) 1 (-1)) 31 1) (fun _ _ => 0) ∧ κ0 2 = 0 ∧ κ0 5 = 1 ∧ κ0 0 = 0 ∧ κ0 1 = 0 := ⟨_, mi_st, rfl, rfl, rfl, rfl⟩
  obtain ⟨V2, hV2, hV0⟩ : ∃ V2 : Nat → Int32, V2 = (upd (upd (fun _ => 0) 1 (-1)) 31 1) ∧ (V2 0 = 0 ∧ V2 32 = 0) := ⟨_, rfl, rfl, rfl⟩
  rw [← hV2] at hM hT0
  refine lv_aload_n hx hb dModel_init_229 rfl (lv_at hl 0 rfl) ?_
  refine lv_iconst (v := 0) hx hb dModel_init_230 (by decide) ?_
  refine lv_iconst (v := 0) hx hb dModel_init_231 (by decide) ?_
  refine lv_iconst (v := 0) hx hb dModel_init_232 (by decide) ?_
  refine lv_iconst (v := 0) hx hb dModel_init_233 (by decide) ?_
  refine lv_iconst (v := 0) hx hb dModel_init_234 (by decide) ?_
  refine mu_Vi (rest := []) S hC (fun q h => hA q (Nat.le_trans hS.1 h)) (fun q h => h) hS (m_newType l γ a (B0 a) (fun q => a ≤ q) κ0 (fun _ => 0) (fun _ => 0) V2 (fun _ _ => 0) V2 (fun _ _ => 0) (fun _ => 0) hT0 0 0 0 0 0 (by rw [h2_0]; decide) (fun h9 => absurd h9 (by decide))) meModel_newType qw_90495fa5dd ⟨Nat.le_of_ble_eq_true rfl, Nat.le_of_ble_eq_true rfl⟩ (md_rv hC hM) hM rfl hl.1 rfl (Nat.le_of_ble_eq_true rfl) dModel_init_235 ⟨Nat.le_of_ble_eq_true rfl, Nat.le_of_ble_eq_true rfl⟩ (fun r0 H locs hPO hS _ _ => ?_)
  obtain ⟨_, ν0, τ0, hM, hT1⟩ := hPO
  obtain ⟨κ1, hκ1⟩ : ∃ z : Nat → Nat, z = ku κ0 2 (κ0 2 + 1) := ⟨_, rfl⟩
  rw [← hκ1] at hT1
  have h2_1 : κ1 2 = 1 := (by rw [hκ1]; show κ0 2 + 1 = _; rw [h2_0])
  have h5_1 : κ1 5 = 1 ∧ κ1 0 = 0 ∧ κ1 1 = 0 := (by rw [hκ1]; exact h5_0)
  refine lv_pop hx hb dModel_init_238 rfl ?_
  refine lv_aload_n hx hb dModel_init_239 rfl (lv_at hl 0 rfl) ?_
  refine lv_iconst (v := 1) hx hb dModel_init_240 (by decide) ?_
  refine lv_iconst (v := 0) hx hb dModel_init_241 (by decide) ?_
  refine lv_iconst (v := 0) hx hb dModel_init_242 (by decide) ?_
  refine lv_iconst (v := 0) hx hb dModel_init_243 (by decide) ?_
  refine lv_iconst (v := 0) hx hb dModel_init_244 (by decide) ?_
  refine mu_Vi (rest := []) S hC (fun q h => hA q (Nat.le_trans hS.1 h)) (fun q h => h) hS (m_newType l γ a (B0 a) (fun q => a ≤ q) κ1 (fun _ => 0) (fun _ => 0) ν0 τ0 V2 (fun _ _ => 0) (fun _ => 0) hT1 1 0 0 0 0 (by rw [h2_1]; decide) (fun h9 => absurd h9 (by decide))) meModel_newType qw_90495fa5dd ⟨Nat.le_of_ble_eq_true rfl, Nat.le_of_ble_eq_true rfl⟩ (md_rv hC hM) hM rfl hl.1 rfl (Nat.le_of_ble_eq_true rfl) dModel_init_245 ⟨Nat.le_of_ble_eq_true rfl, Nat.le_of_ble_eq_true rfl⟩ (fun r1 H locs hPO hS _ _ => ?_)
  obtain ⟨_, ν1, τ1, hM, hT2⟩ := hPO
  obtain ⟨κ2, hκ2⟩ : ∃ z : Nat → Nat, z = ku κ1 2 (κ1 2 + 1) := ⟨_, rfl⟩
  rw [← hκ2] at hT2
  have h2_2 : κ2 2 = 2 := (by rw [hκ2]; show κ1 2 + 1 = _; rw [h2_1])
  have h5_2 : κ2 5 = 1 ∧ κ2 0 = 0 ∧ κ2 1 = 0 := (by rw [hκ2]; exact h5_1)
  refine lv_pop hx hb dModel_init_248 rfl ?_
  refine lv_aload_n hx hb dModel_init_249 rfl (lv_at hl 0 rfl) ?_
  refine lv_iconst (v := 2) hx hb dModel_init_250 (by decide) ?_
  refine lv_ldc (v := (-2147483647)) hx hb hown (hW _ qw_935637abc2) dModel_init_251 ?_
  refine lv_ldc (v := 2147483647) hx hb hown (hW _ qw_56a015b2eb) dModel_init_253 ?_
  refine lv_iconst (v := 0) hx hb dModel_init_255 (by decide) ?_
  refine lv_iconst (v := 0) hx hb dModel_init_256 (by decide) ?_
  refine mu_Vi (rest := []) S hC (fun q h => hA q (Nat.le_trans hS.1 h)) (fun q h => h) hS (m_newType l γ a (B0 a) (fun q => a ≤ q) κ2 (fun _ => 0) (fun _ => 0) ν1 τ1 V2 (fun _ _ => 0) (fun _ => 0) hT2 2 (-2147483647) 2147483647 0 0 (by rw [h2_2]; decide) (fun h9 => absurd h9 (by decide))) meModel_newType qw_90495fa5dd ⟨Nat.le_of_ble_eq_true rfl, Nat.le_of_ble_eq_true rfl⟩ (md_rv hC hM) hM rfl hl.1 rfl (Nat.le_of_ble_eq_true rfl) dModel_init_257 ⟨Nat.le_of_ble_eq_true rfl, Nat.le_of_ble_eq_true rfl⟩ (fun r2 H locs hPO hS _ _ => ?_)
  obtain ⟨_, ν2, τ2, hM, hT3⟩ := hPO
  obtain ⟨κ3, hκ3⟩ : ∃ z : Nat → Nat, z = ku κ2 2 (κ2 2 + 1) := ⟨_, rfl⟩
  rw [← hκ3] at hT3
  have h2_3 : κ3 2 = 3 := (by rw [hκ3]; show κ2 2 + 1 = _; rw [h2_2])
  have h5_3 : κ3 5 = 1 ∧ κ3 0 = 0 ∧ κ3 1 = 0 := (by rw [hκ3]; exact h5_2)
  refine lv_pop hx hb dModel_init_260 rfl ?_
  refine lv_aload_n hx hb dModel_init_261 rfl (lv_at hl 0 rfl) ?_
  refine lv_iconst (v := 2) hx hb dModel_init_262 (by decide) ?_
  refine lv_iconst (v := 0) hx hb dModel_init_263 (by decide) ?_
  refine lv_ldc (v := 2147483647) hx hb hown (hW _ qw_56a015b2eb) dModel_init_264 ?_
  refine lv_iconst (v := 0) hx hb dModel_init_266 (by decide) ?_
  refine lv_iconst (v := 0) hx hb dModel_init_267 (by decide) ?_
  refine mu_Vi (rest := []) S hC (fun q h => hA q (Nat.le_trans hS.1 h)) (fun q h => h) hS (m_newType l γ a (B0 a) (fun q => a ≤ q) κ3 (fun _ => 0) (fun _ => 0) ν2 τ2 V2 (fun _ _ => 0) (fun _ => 0) hT3 2 0 2147483647 0 0 (by rw [h2_3]; decide) (fun h9 => absurd h9 (by decide))) meModel_newType qw_90495fa5dd ⟨Nat.le_of_ble_eq_true rfl, Nat.le_of_ble_eq_true rfl⟩ (md_rv hC hM) hM rfl hl.1 rfl (Nat.le_of_ble_eq_true rfl) dModel_init_268 ⟨Nat.le_of_ble_eq_true rfl, Nat.le_of_ble_eq_true rfl⟩ (fun r3 H locs hPO hS _ _ => ?_)
  obtain ⟨_, ν3, τ3, hM, hT4⟩ := hPO
  obtain ⟨κ4, hκ4⟩ : ∃ z : Nat → Nat, z = ku κ3 2 (κ3 2 + 1) := ⟨_, rfl⟩
  rw [← hκ4] at hT4
  have h2_4 : κ4 2 = 4 := (by rw [hκ4]; show κ3 2 + 1 = _; rw [h2_3])
  have h5_4 : κ4 5 = 1 ∧ κ4 0 = 0 ∧ κ4 1 = 0 := (by rw [hκ4]; exact h5_3)
  refine lv_pop hx hb dModel_init_271 rfl ?_
  refine lv_aload_n hx hb dModel_init_272 rfl (lv_at hl 0 rfl) ?_
  refine lv_iconst (v := 2) hx hb dModel_init_273 (by decide) ?_
  refine lv_iconst (v := 1) hx hb dModel_init_274 (by decide) ?_
  refine lv_ldc (v := 2147483647) hx hb hown (hW _ qw_56a015b2eb) dModel_init_275 ?_
  refine lv_iconst (v := 0) hx hb dModel_init_277 (by decide) ?_
  refine lv_iconst (v := 0) hx hb dModel_init_278 (by decide) ?_
  refine mu_Vi (rest := []) S hC (fun q h => hA q (Nat.le_trans hS.1 h)) (fun q h => h) hS (m_newType l γ a (B0 a) (fun q => a ≤ q) κ4 (fun _ => 0) (fun _ => 0) ν3 τ3 V2 (fun _ _ => 0) (fun _ => 0) hT4 2 1 2147483647 0 0 (by rw [h2_4]; decide) (fun h9 => absurd h9 (by decide))) meModel_newType qw_90495fa5dd ⟨Nat.le_of_ble_eq_true rfl, Nat.le_of_ble_eq_true rfl⟩ (md_rv hC hM) hM rfl hl.1 rfl (Nat.le_of_ble_eq_true rfl) dModel_init_279 ⟨Nat.le_of_ble_eq_true rfl, Nat.le_of_ble_eq_true rfl⟩ (fun r4 H locs hPO hS _ _ => ?_)
  obtain ⟨_, ν4, τ4, hM, hT5⟩ := hPO
  obtain ⟨κ5, hκ5⟩ : ∃ z : Nat → Nat, z = ku κ4 2 (κ4 2 + 1) := ⟨_, rfl⟩
  rw [← hκ5] at hT5
  have h2_5 : κ5 2 = 5 := (by rw [hκ5]; show κ4 2 + 1 = _; rw [h2_4])
  have h5_5 : κ5 5 = 1 ∧ κ5 0 = 0 ∧ κ5 1 = 0 := (by rw [hκ5]; exact h5_4)
  refine lv_pop hx hb dModel_init_282 rfl ?_
  refine hE _ _ _ _ _ _ hS (Nat.le_of_ble_eq_true rfl) (Nat.le_of_ble_eq_true rfl) (fun hG => ?_) dModel_init_283
  have hz1 := hG.2.1
  have hz2 := md_sz hM
  exact ⟨⟨κ5, h5_5, (fun _ => 0), (fun _ => 0), ν4, τ4, V2, (fun _ _ => 0), (fun _ => 0), hT5, sz_0, fd_0 hV0.2, gd_0, hV0.1, hM⟩, sz_25 hz1 rfl hz00 hz2⟩
