theorem qw_14b8232d09 : (Cond.methodLink R_Looker 202 yTypes_put) ∈ bs_W0 := bs_in (in_tables_1_5 (List.mem_of_getElem? (i := 4) rfl)) rfl
set_option maxHeartbeats 4000000 in
set_option maxRecDepth 100000 in
theorem k_Looker_newType (l : Launch) (γ : gE) (A : Nat → Prop) (κ : Nat → Nat) (x1 : Int32) (hN : κ 4 ≤ 4000) : MU l yLooker_newType bLooker_newType 6 (some .int) 4 127 (0 + (0 + wc (κ 13) (κ 4 + 1) + wc (κ 13) (κ 4 + 1) + wc (κ 13) (κ 4 + 1) + wc (κ 13) (κ 4 + 1))) (0 + (0 + wm (κ 13) (κ 4 + 1) + wm (κ 13) (κ 4 + 1) + wm (κ 13) (κ 4 + 1) + wm (κ 13) (κ 4 + 1))) [.ref (γ.2.2.2 8), .int x1] γ A (INV γ A κ) (mQi (fun r H => r = nI (κ 4) ∧ INV γ A (ku (ku κ 4 (κ 4 + 1)) 13 (wl (κ 13) (κ 4 + 1))) H) A) := by
  refine mu_openI (by decide) (Nat.le_of_ble_eq_true rfl) ?_
  intro p e s m args below meth c ls Q S hnm hC hA hI hE hl
  obtain ⟨hx, hb, hml, hown, hW⟩ := id S
  have hS : va_S A s.heap s.heap [] := va_S.rf
  have hl : lv_has ls 6 [(0, .ref (γ.2.2.2 8)), (1, .int x1)] := hl
  have J90 : ∀ (ls : Array Slot) (H : Heap) (locs : List Loc) (i1 : Int32) (i2 : Int32) (i3 : Int32) (i4 : Int32) (i5 : Int32) (t0 : Int32) (t1 : Int32) (t2 : Int32) (t3 : Int32), INV γ A κ H → va_S A s.heap H locs → lv_has ls 6 [(0, .ref (γ.2.2.2 8)), (1, .int i1), (2, .int i2), (3, .int i3), (4, .int i4), (5, .int i5)] → W p l e (bs_rm 4 (0 + (0 + wc (κ 13) (κ 4 + 1) + wc (κ 13) (κ 4 + 1) + wc (κ 13) (κ 4 + 1) + wc (κ 13) (κ 4 + 1))) (0 + (0 + wm (κ 13) (κ 4 + 1) + wm (κ 13) (κ 4 + 1) + wm (κ 13) (κ 4 + 1) + wm (κ 13) (κ 4 + 1))) 127) s m args below meth c H locs 0 0 Q (F0 m 90 ls [.int t0, .int t1, .int t2, .int t3, .ref (γ.2.2.2 3)]) := by
    intro ls H locs i1 i2 i3 i4 i5 t0 t1 t2 t3 hI hS hl
    refine mu_Vi (rest := []) S hC (fun q h => hA q (Nat.le_trans hS.1 h)) (fun q h => h) hS (k3_Types_put l γ A κ t3 t2 t1 t0 (by show κ 4 ≤ 4000; omega)) meTypes_put qw_14b8232d09 ⟨Nat.le_of_ble_eq_true rfl, Nat.le_of_ble_eq_true rfl⟩ (rv_3 hC hI) hI rfl hl.1 rfl (Nat.le_of_ble_eq_true rfl) dLooker_newType_90 ⟨(by show 0 + (0 + wc (κ 13) (κ 4 + 1) + wc (κ 13) (κ 4 + 1) + wc (κ 13) (κ 4 + 1) + wc (κ 13) (κ 4 + 1)) ≤ 0 + (0 + wc (κ 13) (κ 4 + 1) + wc (κ 13) (κ 4 + 1) + wc (κ 13) (κ 4 + 1) + wc (κ 13) (κ 4 + 1)); omega), (by show 0 + (0 + wm (κ 13) (κ 4 + 1) + wm (κ 13) (κ 4 + 1) + wm (κ 13) (κ 4 + 1) + wm (κ 13) (κ 4 + 1)) ≤ 0 + (0 + wm (κ 13) (κ 4 + 1) + wm (κ 13) (κ 4 + 1) + wm (κ 13) (κ 4 + 1) + wm (κ 13) (κ 4 + 1)); omega)⟩ (fun r15 H locs ⟨hr15, hI⟩ hS _ _ => ?_)
    refine W.cs (cells' := 0 + (0 + wc (κ 13) (κ 4 + 1) + wc (κ 13) (κ 4 + 1) + wc (κ 13) (κ 4 + 1) + wc (κ 13) (κ 4 + 1))) (slots' := 0 + (0 + wm (κ 13) (κ 4 + 1) + wm (κ 13) (κ 4 + 1) + wm (κ 13) (κ 4 + 1) + wm (κ 13) (κ 4 + 1))) rfl rfl ?_
    have hI : INV γ A (ku (ku κ 4 (κ 4 + 1)) 13 (wl (κ 13) (κ 4 + 1))) _ := hI
    have er15 : r15 = nI (κ 4) := hr15
    have hQ := hE _ _ r15 93 ls hS ⟨er15, hI⟩ dLooker_newType_93
    refine W.cs (cells' := 0 + (0 + wc (κ 13) (κ 4 + 1) + wc (κ 13) (κ 4 + 1) + wc (κ 13) (κ 4 + 1) + wc (κ 13) (κ 4 + 1))) (slots' := 0 + (0 + wm (κ 13) (κ 4 + 1) + wm (κ 13) (κ 4 + 1) + wm (κ 13) (κ 4 + 1) + wm (κ 13) (κ 4 + 1))) (by omega) (by omega) ?_
    exact hQ
  refine lv_aload_n hx hb dLooker_newType_0 rfl (lv_at hl 0 rfl) ?_
  refine of_get S hC (of_8_0 hI) in_Looker rfl (by decide) qw_22d2793f25 dLooker_newType_1 ?_
  refine lv_iload_n hx hb dLooker_newType_4 rfl (lv_at hl 1 rfl) ?_
  refine pu_Vi (rest := []) S hC (k1_Trees_kindOf l γ A κ x1) meTrees_kindOf qw_f48a4a6aed ⟨Nat.le_of_ble_eq_true rfl, Nat.le_of_ble_eq_true rfl⟩ (rv_1 hC hI) hI rfl hl.1 rfl (Nat.le_of_ble_eq_true rfl) dLooker_newType_5 ⟨(by show _ ≤ 0 + (0 + wc (κ 13) (κ 4 + 1) + wc (κ 13) (κ 4 + 1) + wc (κ 13) (κ 4 + 1) + wc (κ 13) (κ 4 + 1)); omega), (by show _ ≤ 0 + (0 + wm (κ 13) (κ 4 + 1) + wm (κ 13) (κ 4 + 1) + wm (κ 13) (κ 4 + 1) + wm (κ 13) (κ 4 + 1)); omega)⟩ (fun r16 hr16 => ?_)
  refine lv_istore_n (lv' := [(2, .int r16), (0, .ref (γ.2.2.2 8)), (1, .int x1)]) hx hb dLooker_newType_8 rfl hl (by decide) rfl (fun ls hl => ?_)
  refine lv_aload_n hx hb dLooker_newType_9 rfl (lv_at hl 1 rfl) ?_
  refine of_get S hC (of_8_3 hI) in_Looker rfl (by decide) qw_77aeadf252 dLooker_newType_10 ?_
  refine lv_aload_n hx hb dLooker_newType_13 rfl (lv_at hl 1 rfl) ?_
  refine of_get S hC (of_8_0 hI) in_Looker rfl (by decide) qw_22d2793f25 dLooker_newType_14 ?_
  refine lv_iload_n hx hb dLooker_newType_17 rfl (lv_at hl 2 rfl) ?_
  refine pu_Vi (rest := [.ref (γ.2.2.2 9)]) S hC (k1_Trees_leftOfTwo l γ A κ x1) meTrees_leftOfTwo qw_844ff72d87 ⟨Nat.le_of_ble_eq_true rfl, Nat.le_of_ble_eq_true rfl⟩ (rv_1 hC hI) hI rfl hl.1 rfl (Nat.le_of_ble_eq_true rfl) dLooker_newType_18 ⟨(by show _ ≤ 0 + (0 + wc (κ 13) (κ 4 + 1) + wc (κ 13) (κ 4 + 1) + wc (κ 13) (κ 4 + 1) + wc (κ 13) (κ 4 + 1)); omega), (by show _ ≤ 0 + (0 + wm (κ 13) (κ 4 + 1) + wm (κ 13) (κ 4 + 1) + wm (κ 13) (κ 4 + 1) + wm (κ 13) (κ 4 + 1)); omega)⟩ (fun r17 hr17 => ?_)
  refine pu_Vi (rest := []) S hC (k9_Looks_numberOf l γ A κ r17) meLooks_numberOf qw_7e695d47da ⟨Nat.le_of_ble_eq_true rfl, Nat.le_of_ble_eq_true rfl⟩ (rv_9 hC hI) hI rfl hl.1 rfl (Nat.le_of_ble_eq_true rfl) dLooker_newType_21 ⟨(by show _ ≤ 0 + (0 + wc (κ 13) (κ 4 + 1) + wc (κ 13) (κ 4 + 1) + wc (κ 13) (κ 4 + 1) + wc (κ 13) (κ 4 + 1)); omega), (by show _ ≤ 0 + (0 + wm (κ 13) (κ 4 + 1) + wm (κ 13) (κ 4 + 1) + wm (κ 13) (κ 4 + 1) + wm (κ 13) (κ 4 + 1)); omega)⟩ (fun r18 hr18 => ?_)
  refine lv_istore_n (lv' := [(3, .int r18), (2, .int r16), (0, .ref (γ.2.2.2 8)), (1, .int x1)]) hx hb dLooker_newType_24 rfl hl (by decide) rfl (fun ls hl => ?_)
  refine lv_aload_n hx hb dLooker_newType_25 rfl (lv_at hl 2 rfl) ?_
  refine of_get S hC (of_8_3 hI) in_Looker rfl (by decide) qw_77aeadf252 dLooker_newType_26 ?_
  refine lv_iload_n hx hb dLooker_newType_29 rfl (lv_at hl 3 rfl) ?_
  refine lv_iconst (v := 1) hx hb dLooker_newType_30 (by decide) ?_
  refine lv_isub hx hb dLooker_newType_31 ?_
  refine lv_topi (fun v19 ev19 => ?_)
  refine pu_Vi (rest := []) S hC (k9_Looks_numberOf l γ A κ v19) meLooks_numberOf qw_7e695d47da ⟨Nat.le_of_ble_eq_true rfl, Nat.le_of_ble_eq_true rfl⟩ (rv_9 hC hI) hI rfl hl.1 rfl (Nat.le_of_ble_eq_true rfl) dLooker_newType_32 ⟨(by show _ ≤ 0 + (0 + wc (κ 13) (κ 4 + 1) + wc (κ 13) (κ 4 + 1) + wc (κ 13) (κ 4 + 1) + wc (κ 13) (κ 4 + 1)); omega), (by show _ ≤ 0 + (0 + wm (κ 13) (κ 4 + 1) + wm (κ 13) (κ 4 + 1) + wm (κ 13) (κ 4 + 1) + wm (κ 13) (κ 4 + 1)); omega)⟩ (fun r20 hr20 => ?_)
  refine lv_istore (lv' := [(4, .int r20), (3, .int r18), (2, .int r16), (0, .ref (γ.2.2.2 8)), (1, .int x1)]) hx hb dLooker_newType_35 hl (by decide) rfl (fun ls hl => ?_)
  refine lv_iload_n hx hb dLooker_newType_37 rfl (lv_at hl 2 rfl) ?_
  refine lv_bipush (v := 11) hx hb dLooker_newType_38 (by decide) ?_
  refine lv_icmp_ne (tgt := 56) hx hb dLooker_newType_40 (by decide) (fun c21 => ?_) (fun c21 => ?_)
  · refine lv_iload_n hx hb dLooker_newType_56 rfl (lv_at hl 2 rfl) ?_
    refine lv_iload_n hx hb dLooker_newType_57 rfl (lv_at hl 1 rfl) ?_
    refine lv_i2l hx hb dLooker_newType_58 rfl ?_
    refine lv_topl (fun v22 ev22 => ?_)
    refine lv_iload hx hb dLooker_newType_59 (lv_at hl 0 rfl) ?_
    refine lv_i2l hx hb dLooker_newType_61 rfl ?_
    refine lv_topl (fun v23 ev23 => ?_)
    refine pu_Sl (rest := []) S hC (s_Looker_elementsOf l γ (INV γ A κ) r16 v22 v23) meLooker_elementsOf qw_b544f0cdd0 ⟨Nat.le_of_ble_eq_true rfl, Nat.le_of_ble_eq_true rfl⟩ hI rfl hl.1 rfl (Nat.le_of_ble_eq_true rfl) dLooker_newType_62 ⟨(by show _ ≤ 0 + (0 + wc (κ 13) (κ 4 + 1) + wc (κ 13) (κ 4 + 1) + wc (κ 13) (κ 4 + 1) + wc (κ 13) (κ 4 + 1)); omega), (by show _ ≤ 0 + (0 + wm (κ 13) (κ 4 + 1) + wm (κ 13) (κ 4 + 1) + wm (κ 13) (κ 4 + 1) + wm (κ 13) (κ 4 + 1)); omega)⟩ (fun r24 hr24 => ?_)
    refine lv_l2i hx hb dLooker_newType_65 rfl ?_
    refine lv_topi (fun v25 ev25 => ?_)
    refine lv_istore (lv' := [(5, .int v25), (4, .int r20), (3, .int r18), (2, .int r16), (0, .ref (γ.2.2.2 8)), (1, .int x1)]) hx hb dLooker_newType_66 hl (by decide) rfl (fun ls hl => ?_)
    refine lv_aload_n hx hb dLooker_newType_68 rfl (lv_at hl 4 rfl) ?_
    refine of_get S hC (of_8_2 hI) in_Looker rfl (by decide) qw_abb87946e7 dLooker_newType_69 ?_
    refine lv_iconst (v := 3) hx hb dLooker_newType_72 (by decide) ?_
    refine lv_iload_n hx hb dLooker_newType_73 rfl (lv_at hl 2 rfl) ?_
    refine lv_iload hx hb dLooker_newType_74 (lv_at hl 1 rfl) ?_
    refine lv_iload_n hx hb dLooker_newType_76 rfl (lv_at hl 3 rfl) ?_
    refine lv_bipush (v := 13) hx hb dLooker_newType_77 (by decide) ?_
    refine lv_icmp_ne (tgt := 88) hx hb dLooker_newType_79 (by decide) (fun c26 => ?_) (fun c26 => ?_)
    · refine lv_iload hx hb dLooker_newType_88 (lv_at hl 0 rfl) ?_
      refine W.cs (cells' := 0) (slots' := 0) (by omega) (by omega) ?_
      exact J90 ls _ _ x1 r16 r18 r20 v25 v25 r20 r18 3 hI hS (lv_sub hl [4, 5, 3, 2, 1, 0] rfl)
    · refine lv_iload hx hb dLooker_newType_82 (lv_at hl 0 rfl) ?_
      refine lv_ineg hx hb dLooker_newType_84 ?_
      refine lv_topi (fun v27 ev27 => ?_)
      refine lv_goto (tgt := 90) hx hb dLooker_newType_85 (by decide) ?_
      refine W.cs (cells' := 0) (slots' := 0) (by omega) (by omega) ?_
      exact J90 ls _ _ x1 r16 r18 r20 v25 v27 r20 r18 3 hI hS (lv_sub hl [4, 5, 3, 2, 1, 0] rfl)
  · refine lv_aload_n hx hb dLooker_newType_43 rfl (lv_at hl 3 rfl) ?_
    refine of_get S hC (of_8_2 hI) in_Looker rfl (by decide) qw_abb87946e7 dLooker_newType_44 ?_
    refine lv_iconst (v := 2) hx hb dLooker_newType_47 (by decide) ?_
    refine lv_iload_n hx hb dLooker_newType_48 rfl (lv_at hl 1 rfl) ?_
    refine lv_iload hx hb dLooker_newType_49 (lv_at hl 0 rfl) ?_
    refine lv_iconst (v := 0) hx hb dLooker_newType_51 (by decide) ?_
    refine mu_Vi (rest := []) S hC (fun q h => hA q (Nat.le_trans hS.1 h)) (fun q h => h) hS (k3_Types_put l γ A κ 2 r18 r20 0 (by show κ 4 ≤ 4000; omega)) meTypes_put qw_14b8232d09 ⟨Nat.le_of_ble_eq_true rfl, Nat.le_of_ble_eq_true rfl⟩ (rv_3 hC hI) hI rfl hl.1 rfl (Nat.le_of_ble_eq_true rfl) dLooker_newType_52 ⟨(by show 0 + (0 + wc (κ 13) (κ 4 + 1) + wc (κ 13) (κ 4 + 1) + wc (κ 13) (κ 4 + 1) + wc (κ 13) (κ 4 + 1)) ≤ 0 + (0 + wc (κ 13) (κ 4 + 1) + wc (κ 13) (κ 4 + 1) + wc (κ 13) (κ 4 + 1) + wc (κ 13) (κ 4 + 1)); omega), (by show 0 + (0 + wm (κ 13) (κ 4 + 1) + wm (κ 13) (κ 4 + 1) + wm (κ 13) (κ 4 + 1) + wm (κ 13) (κ 4 + 1)) ≤ 0 + (0 + wm (κ 13) (κ 4 + 1) + wm (κ 13) (κ 4 + 1) + wm (κ 13) (κ 4 + 1) + wm (κ 13) (κ 4 + 1)); omega)⟩ (fun r28 H locs ⟨hr28, hI⟩ hS _ _ => ?_)
    refine W.cs (cells' := 0 + (0 + wc (κ 13) (κ 4 + 1) + wc (κ 13) (κ 4 + 1) + wc (κ 13) (κ 4 + 1) + wc (κ 13) (κ 4 + 1))) (slots' := 0 + (0 + wm (κ 13) (κ 4 + 1) + wm (κ 13) (κ 4 + 1) + wm (κ 13) (κ 4 + 1) + wm (κ 13) (κ 4 + 1))) rfl rfl ?_
    have hI : INV γ A (ku (ku κ 4 (κ 4 + 1)) 13 (wl (κ 13) (κ 4 + 1))) _ := hI
    have er28 : r28 = nI (κ 4) := hr28
    have hQ := hE _ _ r28 55 ls hS ⟨er28, hI⟩ dLooker_newType_55
    refine W.cs (cells' := 0 + (0 + wc (κ 13) (κ 4 + 1) + wc (κ 13) (κ 4 + 1) + wc (κ 13) (κ 4 + 1) + wc (κ 13) (κ 4 + 1))) (slots' := 0 + (0 + wm (κ 13) (κ 4 + 1) + wm (κ 13) (κ 4 + 1) + wm (κ 13) (κ 4 + 1) + wm (κ 13) (κ 4 + 1))) (by omega) (by omega) ?_
    exact hQ
