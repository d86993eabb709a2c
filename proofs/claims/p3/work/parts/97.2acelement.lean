theorem qw_e487507e04 : (Cond.fieldLink R_Model 47 R_Model "elements" "[B") ∈ bs_W0 := bs_in (in_tables_1_5 (List.mem_of_getElem? (i := 167) rfl)) rfl
set_option maxHeartbeats 4000000 in
set_option maxRecDepth 100000 in
theorem m_element (l : Launch) (γ : gE) (a : Nat) (B : Nat → Nat) (Z : Nat → Prop) (κ b mn : Nat → Nat) (ν : Nat → Int32) (τ : Nat → Nat → Int32) (σ : Nat → Int32) (F : Nat → Nat → Int32) (nu : Nat → Int64) (hT : ST κ b mn ν τ) (x1 : Int32) (x2 : Int32) (he : vp_in (64 * x1 + x2) 640000) : PU l yModel_element bModel_element 3 (some .int) 0 0 [.ref a, .int x1, .int x2] γ (MD γ a B Z ν τ σ F nu) (vp_Si (fun v : Int32 => True)) := by
  refine pu_openI (by decide) (Nat.le_of_ble_eq_true rfl) ?_
  intro p e s m args below meth c ls Q S hC hM hE hl
  obtain ⟨hx, hb, hml, hown, hW⟩ := id S
  obtain ⟨⟨hs0, hs1, hs2, hs3, hs4, hs5, hs6⟩, ⟨hv6, hv8, hv21, hv24, hv30, hv31⟩, hTR, hTY, hOB, hNM⟩ := id hT
  have hl : lv_has ls 3 [(0, .ref a), (1, .int x1), (2, .int x2)] := hl
  refine lv_aload_n hx hb dModel_element_0 rfl (lv_at hl 0 rfl) ?_
  refine md_gA S hC hM 14 (by decide) rfl qw_e487507e04 dModel_element_1 ?_
  refine lv_bipush (v := 64) hx hb dModel_element_4 (by decide) ?_
  refine lv_iload_n hx hb dModel_element_6 rfl (lv_at hl 1 rfl) ?_
  refine lv_imul hx hb dModel_element_7 ?_
  refine lv_topi (fun v1 ev1 => ?_)
  refine lv_iload_n hx hb dModel_element_8 rfl (lv_at hl 2 rfl) ?_
  refine lv_iadd hx hb dModel_element_9 ?_
  refine lv_topi (fun v2 ev2 => ?_)
  refine md_bld S hC hM 14 10 640000 (F 14) rfl rfl (by decide) rfl rfl (by subst_vars; exact he) dModel_element_10 ?_
  refine lv_topi (fun v3 ev3 => ?_)
  exact hE _ _ _ trivial dModel_element_11
set_option maxHeartbeats 4000000 in
set_option maxRecDepth 100000 in
theorem m_setElement (l : Launch) (γ : gE) (a : Nat) (B : Nat → Nat) (Z : Nat → Prop) (κ b mn : Nat → Nat) (ν : Nat → Int32) (τ : Nat → Nat → Int32) (σ : Nat → Int32) (F : Nat → Nat → Int32) (nu : Nat → Int64) (hT : ST κ b mn ν τ) (x1 : Int32) (x2 : Int32) (x3 : Int32) (he : vp_in (64 * x1 + x2) 640000) : MU l yModel_setElement bModel_setElement 4 (none) 0 0 0 0 [.ref a, .int x1, .int x2, .int x3] γ Z (MD γ a B Z ν τ σ F nu) (mQv (fun H => ∃ F' : Nat → Nat → Int32, MD γ a B Z ν τ σ F' nu H ∧ EQ14 F F') Z) := by
  refine mu_openV (by decide) (Nat.le_of_ble_eq_true rfl) ?_
  intro p e s m args below meth c ls Q S hnm hC hA hM hE hl
  have hS : va_S Z s.heap s.heap [] := va_S.rf
  obtain ⟨hx, hb, hml, hown, hW⟩ := id S
  obtain ⟨⟨hs0, hs1, hs2, hs3, hs4, hs5, hs6⟩, ⟨hv6, hv8, hv21, hv24, hv30, hv31⟩, hTR, hTY, hOB, hNM⟩ := id hT
  have hl : lv_has ls 4 [(0, .ref a), (1, .int x1), (2, .int x2), (3, .int x3)] := hl
  refine lv_aload_n hx hb dModel_setElement_0 rfl (lv_at hl 0 rfl) ?_
  refine md_gA S hC hM 14 (by decide) rfl qw_e487507e04 dModel_setElement_1 ?_
  refine lv_bipush (v := 64) hx hb dModel_setElement_4 (by decide) ?_
  refine lv_iload_n hx hb dModel_setElement_6 rfl (lv_at hl 1 rfl) ?_
  refine lv_imul hx hb dModel_setElement_7 ?_
  refine lv_topi (fun v1 ev1 => ?_)
  refine lv_iload_n hx hb dModel_setElement_8 rfl (lv_at hl 2 rfl) ?_
  refine lv_iadd hx hb dModel_setElement_9 ?_
  refine lv_topi (fun v2 ev2 => ?_)
  refine lv_iload_n hx hb dModel_setElement_10 rfl (lv_at hl 3 rfl) ?_
  refine lv_i2b hx hb dModel_setElement_11 rfl ?_
  refine lv_topi (fun v3 ev3 => ?_)
  refine md_bstD S hC hM hS 14 10 640000 rfl rfl (by decide) rfl rfl (by subst_vars; exact he) dModel_setElement_12 (fun H locs hM hS => ?_)
  obtain ⟨F4, eF4⟩ : ∃ z : Nat → Nat → Int32, z = Au F 14 v2.toNatClampNeg (vp_nar .byte v3) := ⟨_, rfl⟩
  rw [← eF4] at hM
  exact hE _ _ _ _ hS ⟨F4, hM, EQ14.au eF4⟩ dModel_setElement_13
theorem qw_bd0251c605 : (Cond.fieldLink R_Model 32 R_Model "size" "[I") ∈ bs_W0 := bs_in (in_tables_1_5 (List.mem_of_getElem? (i := 163) rfl)) rfl
theorem qw_ceb3d87d61 : (Cond.methodLink R_Model 131 yModel_element) ∈ bs_W0 := bs_in (in_tables_1_6 (List.mem_of_getElem? (i := 71) rfl)) rfl
set_option maxHeartbeats 4000000 in
set_option maxRecDepth 100000 in
theorem m_isClear (l : Launch) (γ : gE) (a : Nat) (B : Nat → Nat) (Z : Nat → Prop) (κ b mn : Nat → Nat) (ν : Nat → Int32) (τ : Nat → Nat → Int32) (σ : Nat → Int32) (F : Nat → Nat → Int32) (nu : Nat → Int64) (hT : ST κ b mn ν τ) (x1 : Int32) (hx1 : vp_in x1 (4000)) (hZ : SZ F) : PU l yModel_isClear bModel_isClear 4 (some .boolean) 1 22 [.ref a, .int x1] γ (MD γ a B Z ν τ σ F nu) (vp_Si (fun v : Int32 => True)) := by
  refine pu_openZ (by decide) (Nat.le_of_ble_eq_true rfl) ?_
  intro p e s m args below meth c ls Q S hC hM hE hl
  obtain ⟨hx, hb, hml, hown, hW⟩ := id S
  obtain ⟨⟨hs0, hs1, hs2, hs3, hs4, hs5, hs6⟩, ⟨hv6, hv8, hv21, hv24, hv30, hv31⟩, hTR, hTY, hOB, hNM⟩ := id hT
  have hl : lv_has ls 4 [(0, .ref a), (1, .int x1)] := hl
  refine lv_iconst (v := 1) hx hb dModel_isClear_0 (by decide) ?_
  refine lv_istore_n (lv' := [(2, .int 1), (0, .ref a), (1, .int x1)]) hx hb dModel_isClear_1 rfl hl (by decide) rfl (fun ls hl => ?_)
  refine lv_iconst (v := 0) hx hb dModel_isClear_2 (by decide) ?_
  refine lv_istore_n (lv' := [(3, .int 0), (2, .int 1), (0, .ref a), (1, .int x1)]) hx hb dModel_isClear_3 rfl hl (by decide) rfl (fun ls hl => ?_)
  have J4 : ∀ (N4 : Nat) (ls : Array Slot) (i3_4 : Int32) (i2_4 : Int32), (¬ i3_4 < 0) → (i2_4 = 0 ∨ i2_4 = 1) → (2147483647 - i3_4.toInt).toNat = N4 → lv_has ls 4 [(0, .ref a), (1, .int x1), (2, .int i2_4), (3, .int i3_4)] → W p l e (bs_rm 1 0 0 22) s m args below meth c s.heap [] 0 0 Q (F0 m 4 ls []) := by
    intro N4
    induction N4 using Nat.strongRecOn with
    | ind N4 ih4 =>
      intro ls i3_4 i2_4 hi3_4 hi2_4 hm4 hl
      refine lv_iload_n hx hb dModel_isClear_4 rfl (lv_at hl 3 rfl) ?_
      refine lv_aload_n hx hb dModel_isClear_5 rfl (lv_at hl 0 rfl) ?_
      refine md_gA S hC hM 10 (by decide) rfl qw_bd0251c605 dModel_isClear_6 ?_
      refine lv_iload_n hx hb dModel_isClear_9 rfl (lv_at hl 1 rfl) ?_
      refine md_ild S hC hM 10 6 10000 (F 10) rfl rfl (by decide) rfl rfl (vin (by assumption) (by omega)) dModel_isClear_10 ?_
      refine lv_topi (fun v1 ev1 => ?_)
      refine lv_icmp_ge (tgt := 54) hx hb dModel_isClear_11 (by decide) (fun c2 => ?_) (fun c2 => ?_)
      · refine lv_iload_n hx hb dModel_isClear_54 rfl (lv_at hl 2 rfl) ?_
        exact hE _ _ _ (by rcases (show i2_4 = 0 ∨ i2_4 = 1 by first | assumption | exact Or.inl rfl | exact Or.inr rfl) with h9 | h9 <;> rw [h9] <;> rfl) trivial dModel_isClear_55
      · have hin3 : vp_in i3_4 1000 := vsz hZ (vix (vin hx1 (by omega))) (by assumption) (by assumption) (by assumption)
        refine lv_iload_n hx hb dModel_isClear_14 rfl (lv_at hl 2 rfl) ?_
        have J47 : ∀ (ls : Array Slot) (t0_47 : Int32), (t0_47 = 0 ∨ t0_47 = 1) → lv_has ls 4 [(0, .ref a), (1, .int x1), (2, .int i2_4), (3, .int i3_4)] → W p l e (bs_rm 1 0 0 22) s m args below meth c s.heap [] 0 0 Q (F0 m 47 ls [.int t0_47]) := by
          intro ls t0_47 ht0_47 hl
          refine lv_istore_n (lv' := [(2, .int t0_47), (0, .ref a), (1, .int x1), (3, .int i3_4)]) hx hb dModel_isClear_47 rfl hl (by decide) rfl (fun ls hl => ?_)
          obtain ⟨v11, ev11⟩ : ∃ y : Int32, y = i3_4 + 1 := ⟨_, rfl⟩
          refine lv_iinc (v := v11) (lv' := [(3, .int v11), (2, .int t0_47), (0, .ref a), (1, .int x1)]) hx hb dModel_isClear_48 hl (k := 3) rfl (by rw [ev11]; rfl) (by decide) rfl (fun ls hl => ?_)
          refine lv_goto (tgt := 4) hx hb dModel_isClear_51 (by decide) ?_
          exact ih4 _ (by have q1 : i3_4.toInt < 2147483647 := (by first | assumption | exact (mu_up (k := i3_4) (by assumption)).2); have q2 := mu_lt q1; rw [← ev11] at q2; omega) ls v11 t0_47 (by first | decide | exact nn_inc (by assumption) (by assumption) (by assumption)) (by first | assumption | exact Or.inl rfl | exact Or.inr rfl) rfl (lv_sub hl [2, 3, 1, 0] rfl)
        have J46 : ∀ (ls : Array Slot), lv_has ls 4 [(0, .ref a), (1, .int x1), (2, .int i2_4), (3, .int i3_4)] → W p l e (bs_rm 1 0 0 22) s m args below meth c s.heap [] 0 0 Q (F0 m 46 ls []) := by
          intro ls hl
          refine lv_iconst (v := 0) hx hb dModel_isClear_46 (by decide) ?_
          exact J47 ls 0 (by first | assumption | exact Or.inl rfl | exact Or.inr rfl) (lv_sub hl [0, 1, 2, 3] rfl)
        refine lv_if_eq (tgt := 46) hx hb dModel_isClear_15 (by decide) (fun c12 => ?_) (fun c12 => ?_)
        · exact J46 ls  (lv_sub hl [0, 1, 2, 3] rfl)
        · refine lv_aload_n hx hb dModel_isClear_18 rfl (lv_at hl 0 rfl) ?_
          refine lv_iload_n hx hb dModel_isClear_19 rfl (lv_at hl 1 rfl) ?_
          refine lv_iload_n hx hb dModel_isClear_20 rfl (lv_at hl 3 rfl) ?_
          refine pu_Vi (rest := []) S hC (m_element l γ a B Z κ b mn ν τ σ F nu hT x1 i3_4 (el_in (by assumption) (by assumption) (by omega))) meModel_element qw_ceb3d87d61 ⟨Nat.le_of_ble_eq_true rfl, Nat.le_of_ble_eq_true rfl⟩ (md_rv hC hM) hM rfl hl.1 rfl (Nat.le_of_ble_eq_true rfl) dModel_isClear_21 ⟨Nat.zero_le _, Nat.zero_le _⟩ (fun r13 hr13 => ?_)
          refine pu_Si (rest := []) S hC (m_isLow l γ _ r13) meModel_isLow qw_50d7321591 ⟨Nat.le_of_ble_eq_true rfl, Nat.le_of_ble_eq_true rfl⟩ hM rfl hl.1 rfl (Nat.le_of_ble_eq_true rfl) dModel_isClear_24 ⟨Nat.zero_le _, Nat.zero_le _⟩ (fun r14 hr14 => ?_)
          have J42 : ∀ (ls : Array Slot), lv_has ls 4 [(0, .ref a), (1, .int x1), (2, .int i2_4), (3, .int i3_4)] → W p l e (bs_rm 1 0 0 22) s m args below meth c s.heap [] 0 0 Q (F0 m 42 ls []) := by
            intro ls hl
            refine lv_iconst (v := 1) hx hb dModel_isClear_42 (by decide) ?_
            refine lv_goto (tgt := 47) hx hb dModel_isClear_43 (by decide) ?_
            exact J47 ls 1 (by first | assumption | exact Or.inl rfl | exact Or.inr rfl) (lv_sub hl [0, 1, 2, 3] rfl)
          refine lv_if_ne (tgt := 42) hx hb dModel_isClear_27 (by decide) (fun c19 => ?_) (fun c19 => ?_)
          · exact J42 ls  (lv_sub hl [0, 1, 2, 3] rfl)
          · refine lv_aload_n hx hb dModel_isClear_30 rfl (lv_at hl 0 rfl) ?_
            refine lv_iload_n hx hb dModel_isClear_31 rfl (lv_at hl 1 rfl) ?_
            refine lv_iload_n hx hb dModel_isClear_32 rfl (lv_at hl 3 rfl) ?_
            refine pu_Vi (rest := []) S hC (m_element l γ a B Z κ b mn ν τ σ F nu hT x1 i3_4 (el_in (by assumption) (by assumption) (by omega))) meModel_element qw_ceb3d87d61 ⟨Nat.le_of_ble_eq_true rfl, Nat.le_of_ble_eq_true rfl⟩ (md_rv hC hM) hM rfl hl.1 rfl (Nat.le_of_ble_eq_true rfl) dModel_isClear_33 ⟨Nat.zero_le _, Nat.zero_le _⟩ (fun r20 hr20 => ?_)
            refine pu_Si (rest := []) S hC (m_isHigh l γ _ r20) meModel_isHigh qw_7b38890176 ⟨Nat.le_of_ble_eq_true rfl, Nat.le_of_ble_eq_true rfl⟩ hM rfl hl.1 rfl (Nat.le_of_ble_eq_true rfl) dModel_isClear_36 ⟨Nat.zero_le _, Nat.zero_le _⟩ (fun r21 hr21 => ?_)
            refine lv_if_eq (tgt := 46) hx hb dModel_isClear_39 (by decide) (fun c22 => ?_) (fun c22 => ?_)
            · exact J46 ls  (lv_sub hl [0, 1, 2, 3] rfl)
            · exact J42 ls  (lv_sub hl [0, 1, 2, 3] rfl)
  exact J4 _ ls 0 1 (by first | decide | exact nn_inc (by assumption) (by assumption) (by assumption)) (by first | assumption | exact Or.inl rfl | exact Or.inr rfl) rfl (lv_sub hl [2, 3, 1, 0] rfl)
theorem qw_6824d59f67 : (Cond.constantLong R_Model 141 2) ∈ bs_W0 := bs_in (in_tables_1_6 (List.mem_of_getElem? (i := 151) rfl)) rfl
set_option maxHeartbeats 4000000 in
set_option maxRecDepth 100000 in
theorem m_numberOf (l : Launch) (γ : gE) (a : Nat) (B : Nat → Nat) (Z : Nat → Prop) (κ b mn : Nat → Nat) (ν : Nat → Int32) (τ : Nat → Nat → Int32) (σ : Nat → Int32) (F : Nat → Nat → Int32) (nu : Nat → Int64) (hT : ST κ b mn ν τ) (x1 : Int32) (hx1 : vp_in x1 (4000)) (hZ : SZ F) : PU l yModel_numberOf bModel_numberOf 5 (some .long) 1 22 [.ref a, .int x1] γ (MD γ a B Z ν τ σ F nu) (vp_Sl (fun v : Int64 => True)) := by
  refine pu_openJ (by decide) (Nat.le_of_ble_eq_true rfl) ?_
  intro p e s m args below meth c ls Q S hC hM hE hl
  obtain ⟨hx, hb, hml, hown, hW⟩ := id S
  obtain ⟨⟨hs0, hs1, hs2, hs3, hs4, hs5, hs6⟩, ⟨hv6, hv8, hv21, hv24, hv30, hv31⟩, hTR, hTY, hOB, hNM⟩ := id hT
  have hl : lv_has ls 5 [(0, .ref a), (1, .int x1)] := hl
  refine lv_lconst (v := 0) hx hb dModel_numberOf_0 (by decide) ?_
  refine lv_lstore_n (lv' := [(2, .long 0), (0, .ref a), (1, .int x1)]) hx hb dModel_numberOf_1 rfl hl (by decide) rfl (fun ls hl => ?_)
  refine lv_aload_n hx hb dModel_numberOf_2 rfl (lv_at hl 1 rfl) ?_
  refine md_gA S hC hM 10 (by decide) rfl qw_bd0251c605 dModel_numberOf_3 ?_
  refine lv_iload_n hx hb dModel_numberOf_6 rfl (lv_at hl 2 rfl) ?_
  refine md_ild S hC hM 10 6 10000 (F 10) rfl rfl (by decide) rfl rfl (vin (by assumption) (by omega)) dModel_numberOf_7 ?_
  refine lv_topi (fun v1 ev1 => ?_)
  refine lv_iconst (v := 1) hx hb dModel_numberOf_8 (by decide) ?_
  refine lv_isub hx hb dModel_numberOf_9 ?_
  refine lv_topi (fun v2 ev2 => ?_)
  refine lv_istore (lv' := [(4, .int v2), (2, .long 0), (0, .ref a), (1, .int x1)]) hx hb dModel_numberOf_10 hl (by decide) rfl (fun ls hl => ?_)
  have J12 : ∀ (N12 : Nat) (ls : Array Slot) (i4_12 : Int32) (i2_12 : Int64), (i4_12.toInt < 1000) → (i4_12.toInt + 2147483648).toNat = N12 → lv_has ls 5 [(0, .ref a), (1, .int x1), (2, .long i2_12), (4, .int i4_12)] → W p l e (bs_rm 1 0 0 22) s m args below meth c s.heap [] 0 0 Q (F0 m 12 ls []) := by
    intro N12
    induction N12 using Nat.strongRecOn with
    | ind N12 ih12 =>
      intro ls i4_12 i2_12 hi4 hm12 hl
      refine lv_iload hx hb dModel_numberOf_12 (lv_at hl 3 rfl) ?_
      refine lv_if_lt (tgt := 48) hx hb dModel_numberOf_14 (by decide) (fun c3 => ?_) (fun c3 => ?_)
      · refine lv_lload_n hx hb dModel_numberOf_48 rfl (lv_at hl 2 rfl) ?_
        exact hE _ _ _ trivial dModel_numberOf_49
      · have hnn := i0_int (by assumption)
        have hin4 : vp_in i4_12 1000 := vin_le (by assumption) hi4
        have hdn : -2147483648 < i4_12.toInt := by omega
        refine lv_ldc2 (v := 2) hx hb hown (hW _ qw_6824d59f67) dModel_numberOf_17 ?_
        refine lv_lload_n hx hb dModel_numberOf_20 rfl (lv_at hl 2 rfl) ?_
        refine lv_lmul hx hb dModel_numberOf_21 ?_
        refine lv_topl (fun v4 ev4 => ?_)
        refine lv_aload_n hx hb dModel_numberOf_22 rfl (lv_at hl 0 rfl) ?_
        refine lv_iload_n hx hb dModel_numberOf_23 rfl (lv_at hl 1 rfl) ?_
        refine lv_iload hx hb dModel_numberOf_24 (lv_at hl 3 rfl) ?_
        refine pu_Vi (rest := [.long v4]) S hC (m_element l γ a B Z κ b mn ν τ σ F nu hT x1 i4_12 (el_in (by assumption) (by assumption) (by omega))) meModel_element qw_ceb3d87d61 ⟨Nat.le_of_ble_eq_true rfl, Nat.le_of_ble_eq_true rfl⟩ (md_rv hC hM) hM rfl hl.1 rfl (Nat.le_of_ble_eq_true rfl) dModel_numberOf_26 ⟨Nat.zero_le _, Nat.zero_le _⟩ (fun r5 hr5 => ?_)
        refine pu_Si (rest := [.long v4]) S hC (m_isHigh l γ _ r5) meModel_isHigh qw_7b38890176 ⟨Nat.le_of_ble_eq_true rfl, Nat.le_of_ble_eq_true rfl⟩ hM rfl hl.1 rfl (Nat.le_of_ble_eq_true rfl) dModel_numberOf_29 ⟨Nat.zero_le _, Nat.zero_le _⟩ (fun r6 hr6 => ?_)
        have J40 : ∀ (ls : Array Slot) (t0_40 : Int64), lv_has ls 5 [(0, .ref a), (1, .int x1), (2, .long i2_12), (4, .int i4_12)] → W p l e (bs_rm 1 0 0 22) s m args below meth c s.heap [] 0 0 Q (F0 m 40 ls [.long t0_40, .long v4]) := by
          intro ls t0_40 hl
          refine lv_ladd hx hb dModel_numberOf_40 ?_
          refine lv_topl (fun v10 ev10 => ?_)
          refine lv_lstore_n (lv' := [(2, .long v10), (0, .ref a), (1, .int x1), (4, .int i4_12)]) hx hb dModel_numberOf_41 rfl hl (by decide) rfl (fun ls hl => ?_)
          obtain ⟨v11, ev11⟩ : ∃ y : Int32, y = i4_12 + (-1) := ⟨_, rfl⟩
          refine lv_iinc (v := v11) (lv' := [(4, .int v11), (2, .long v10), (0, .ref a), (1, .int x1)]) hx hb dModel_numberOf_42 hl (k := 3) rfl (by rw [ev11]; rfl) (by decide) rfl (fun ls hl => ?_)
          refine lv_goto (tgt := 12) hx hb dModel_numberOf_45 (by decide) ?_
          exact ih12 _ (by have q1 : -2147483648 < i4_12.toInt := (by first | assumption | omega); have q2 := mu_dn q1; rw [← ev11] at q2; omega) ls v11 v10 (by have q1 := mu_dn (k := i4_12) (by assumption); rw [← ev11] at q1; omega) rfl (lv_sub hl [2, 3, 1, 0] rfl)
        refine lv_if_eq (tgt := 39) hx hb dModel_numberOf_32 (by decide) (fun c12 => ?_) (fun c12 => ?_)
        · refine lv_lconst (v := 0) hx hb dModel_numberOf_39 (by decide) ?_
          exact J40 ls 0 (lv_sub hl [0, 1, 2, 3] rfl)
        · refine lv_lconst (v := 1) hx hb dModel_numberOf_35 (by decide) ?_
          refine lv_goto (tgt := 40) hx hb dModel_numberOf_36 (by decide) ?_
          exact J40 ls 1 (lv_sub hl [0, 1, 2, 3] rfl)
  exact J12 _ ls v2 0 (by rw [ev2]; exact sz_pred hZ (vix (vin hx1 (by omega))) (by assumption)) rfl (lv_sub hl [2, 3, 1, 0] rfl)
theorem qw_143403ccb9 : (Cond.methodLink R_Model 127 yModel_setElement) ∈ bs_W0 := bs_in (in_tables_1_6 (List.mem_of_getElem? (i := 75) rfl)) rfl
set_option maxHeartbeats 4000000 in
set_option maxRecDepth 100000 in
theorem m_bits (l : Launch) (γ : gE) (a : Nat) (B : Nat → Nat) (Z : Nat → Prop) (κ b mn : Nat → Nat) (ν : Nat → Int32) (τ : Nat → Nat → Int32) (σ : Nat → Int32) (F : Nat → Nat → Int32) (nu : Nat → Int64) (hT : ST κ b mn ν τ) (x1 : Int32) (x2 : Int64) (hx1 : vp_in x1 (4000)) (hZ : SZ F) : MU l yModel_bits bModel_bits 5 (none) 1 23 0 0 [.ref a, .int x1, .long x2] γ Z (MD γ a B Z ν τ σ F nu) (mQv (fun H => ∃ F' : Nat → Nat → Int32, MD γ a B Z ν τ σ F' nu H ∧ EQ14 F F') Z) := by
  refine mu_openV (by decide) (Nat.le_of_ble_eq_true rfl) ?_
  intro p e s m args below meth c ls Q S hnm hC hA hM hE hl
  have hS : va_S Z s.heap s.heap [] := va_S.rf
  obtain ⟨hx, hb, hml, hown, hW⟩ := id S
  obtain ⟨⟨hs0, hs1, hs2, hs3, hs4, hs5, hs6⟩, ⟨hv6, hv8, hv21, hv24, hv30, hv31⟩, hTR, hTY, hOB, hNM⟩ := id hT
  have hl : lv_has ls 5 [(0, .ref a), (1, .int x1), (2, .long x2)] := hl
  have hE4 : EQ14 F F := EQ14.rf
  refine lv_iconst (v := 0) hx hb dModel_bits_0 (by decide) ?_
  refine lv_istore (lv' := [(4, .int 0), (0, .ref a), (1, .int x1), (2, .long x2)]) hx hb dModel_bits_1 hl (by decide) rfl (fun ls hl => ?_)
  have J3 : ∀ (N3 : Nat) (ls : Array Slot) (H : Heap) (locs : List Loc) (F_3 : Nat → Nat → Int32) (i4_3 : Int32), MD γ a B Z ν τ σ F_3 nu H → va_S Z s.heap H locs → (EQ14 F F_3) → (SZ F_3) → (¬ i4_3 < 0) → (2147483647 - i4_3.toInt).toNat = N3 → lv_has ls 5 [(0, .ref a), (1, .int x1), (2, .long x2), (4, .int i4_3)] → W p l e (bs_rm 1 0 0 23) s m args below meth c H locs 0 0 Q (F0 m 3 ls []) := by
    intro N3
    induction N3 using Nat.strongRecOn with
    | ind N3 ih3 =>
      intro ls H locs F_3 i4_3 hM hS hE4 hZ hi4_3 hm3 hl
      refine lv_iload hx hb dModel_bits_3 (lv_at hl 3 rfl) ?_
      refine lv_aload_n hx hb dModel_bits_5 rfl (lv_at hl 0 rfl) ?_
      refine md_gA S hC hM 10 (by decide) rfl qw_bd0251c605 dModel_bits_6 ?_
      refine lv_iload_n hx hb dModel_bits_9 rfl (lv_at hl 1 rfl) ?_
      refine md_ild S hC hM 10 6 10000 (F_3 10) rfl rfl (by decide) rfl rfl (vin (by assumption) (by omega)) dModel_bits_10 ?_
      refine lv_topi (fun v1 ev1 => ?_)
      refine lv_icmp_ge (tgt := 43) hx hb dModel_bits_11 (by decide) (fun c2 => ?_) (fun c2 => ?_)
      · exact hE _ _ _ _ hS ⟨F_3, hM, hE4⟩ dModel_bits_43
      · have hin4 : vp_in i4_3 1000 := vsz hZ (vix (vin hx1 (by omega))) (by assumption) (by assumption) (by assumption)
        refine lv_aload_n hx hb dModel_bits_14 rfl (lv_at hl 0 rfl) ?_
        refine lv_iload_n hx hb dModel_bits_15 rfl (lv_at hl 1 rfl) ?_
        refine lv_iload hx hb dModel_bits_16 (lv_at hl 3 rfl) ?_
        refine lv_lload_n hx hb dModel_bits_18 rfl (lv_at hl 2 rfl) ?_
        refine lv_iload hx hb dModel_bits_19 (lv_at hl 3 rfl) ?_
        refine lv_lshr hx hb dModel_bits_21 rfl ?_
        refine lv_topl (fun v3 ev3 => ?_)
        refine lv_lconst (v := 1) hx hb dModel_bits_22 (by decide) ?_
        refine lv_land hx hb dModel_bits_23 ?_
        refine lv_topl (fun v4 ev4 => ?_)
        refine lv_lconst (v := 1) hx hb dModel_bits_24 (by decide) ?_
        refine W.lcmp hx hb dModel_bits_25 ?_
        refine lv_topi (fun v5 ev5 => ?_)
        have J34 : ∀ (ls : Array Slot) (t0_34 : Int32), lv_has ls 5 [(0, .ref a), (1, .int x1), (2, .long x2), (4, .int i4_3)] → W p l e (bs_rm 1 0 0 23) s m args below meth c H locs 0 0 Q (F0 m 34 ls [.int t0_34, .int i4_3, .int x1, .ref a]) := by
          intro ls t0_34 hl
          refine mu_Vv (rest := []) S hC (fun q h => hA q (Nat.le_trans hS.1 h)) (fun q h => h) hS (m_setElement l γ a B Z κ b mn ν τ σ F_3 nu hT x1 i4_3 t0_34 (el_in (by assumption) (by assumption) (by omega))) meModel_setElement qw_143403ccb9 ⟨Nat.le_of_ble_eq_true rfl, Nat.le_of_ble_eq_true rfl⟩ (md_rv hC hM) hM rfl hl.1 rfl (Nat.le_of_ble_eq_true rfl) dModel_bits_34 ⟨Nat.le_refl _, Nat.le_refl _⟩ (fun H locs hPO hS _ _ => ?_)
          obtain ⟨Fr9, hM, hqr9⟩ := hPO
          have hZ : SZ Fr9 := hZ.e14 hqr9
          have hE4 : EQ14 F Fr9 := hE4.trans hqr9
          obtain ⟨v10, ev10⟩ : ∃ y : Int32, y = i4_3 + 1 := ⟨_, rfl⟩
          refine lv_iinc (v := v10) (lv' := [(4, .int v10), (0, .ref a), (1, .int x1), (2, .long x2)]) hx hb dModel_bits_37 hl (k := 3) rfl (by rw [ev10]; rfl) (by decide) rfl (fun ls hl => ?_)
          refine lv_goto (tgt := 3) hx hb dModel_bits_40 (by decide) ?_
          exact ih3 _ (by have q1 : i4_3.toInt < 2147483647 := (by first | assumption | exact (mu_up (k := i4_3) (by assumption)).2); have q2 := mu_lt q1; rw [← ev10] at q2; omega) ls _ _ Fr9 v10 hM hS hE4 hZ (by first | decide | exact nn_inc (by assumption) (by assumption) (by assumption)) rfl (lv_sub hl [1, 2, 3, 0] rfl)
        refine lv_if_ne (tgt := 33) hx hb dModel_bits_26 (by decide) (fun c11 => ?_) (fun c11 => ?_)
        · refine lv_iconst (v := 2) hx hb dModel_bits_33 (by decide) ?_
          exact J34 ls 2 (lv_sub hl [0, 1, 2, 3] rfl)
        · refine lv_iconst (v := 3) hx hb dModel_bits_29 (by decide) ?_
          refine lv_goto (tgt := 34) hx hb dModel_bits_30 (by decide) ?_
          exact J34 ls 3 (lv_sub hl [0, 1, 2, 3] rfl)
  exact J3 _ ls _ _ F 0 hM hS hE4 hZ (by first | decide | exact nn_inc (by assumption) (by assumption) (by assumption)) rfl (lv_sub hl [1, 2, 3, 0] rfl)
theorem qw_a119aeeca0 : (Cond.fieldLink R_Model 29 R_Model "is" "[I") ∈ bs_W0 := bs_in (in_tables_1_5 (List.mem_of_getElem? (i := 162) rfl)) rfl
theorem qw_88b9028ba7 : (Cond.fieldLink R_Model 35 R_Model "constant" "[Z") ∈ bs_W0 := bs_in (in_tables_1_5 (List.mem_of_getElem? (i := 164) rfl)) rfl
theorem qw_19df235c4a : (Cond.fieldLink R_Model 39 R_Model "meaning" "[I") ∈ bs_W0 := bs_in (in_tables_1_5 (List.mem_of_getElem? (i := 165) rfl)) rfl
theorem qw_7b809afc8c : (Cond.fieldLink R_Model 42 R_Model "number" "[J") ∈ bs_W0 := bs_in (in_tables_1_5 (List.mem_of_getElem? (i := 166) rfl)) rfl
set_option maxHeartbeats 4000000 in
set_option maxRecDepth 100000 in
theorem m_fact (l : Launch) (γ : gE) (a : Nat) (B : Nat → Nat) (Z : Nat → Prop) (κ b mn : Nat → Nat) (ν : Nat → Int32) (τ : Nat → Nat → Int32) (σ : Nat → Int32) (F : Nat → Nat → Int32) (nu : Nat → Int64) (hT : ST κ b mn ν τ) (x1 : Int32) (x2 : Int32) (x3 : Int32) (x4 : Int32) (hx1 : vp_in x1 (10000)) (hn : ∃ j, j ≤ 1000 ∧ x3 = nI j) : MU l yModel_fact bModel_fact 6 (none) 1 23 0 0 [.ref a, .int x1, .int x2, .int x3, .int x4] γ Z (MD γ a B Z ν τ σ F nu) (mQv (fun H => ∃ (F' : Nat → Nat → Int32) (nu' : Nat → Int64), MD γ a B Z ν τ σ F' nu' H ∧ SLT x1.toNatClampNeg x2 x3 0 F nu F' nu' ∧ F' 11 = upd (F 11) x1.toNatClampNeg (vp_nar .boolean x4)) Z) := by
  refine mu_openV (by decide) (Nat.le_of_ble_eq_true rfl) ?_
  intro p e s m args below meth c ls Q S hnm hC hA hM hE hl
  have hS : va_S Z s.heap s.heap [] := va_S.rf
  obtain ⟨hx, hb, hml, hown, hW⟩ := id S
  obtain ⟨⟨hs0, hs1, hs2, hs3, hs4, hs5, hs6⟩, ⟨hv6, hv8, hv21, hv24, hv30, hv31⟩, hTR, hTY, hOB, hNM⟩ := id hT
  have hl : lv_has ls 6 [(0, .ref a), (1, .int x1), (2, .int x2), (3, .int x3), (4, .int x4)] := hl
  refine lv_aload_n hx hb dModel_fact_0 rfl (lv_at hl 0 rfl) ?_
  refine md_gA S hC hM 9 (by decide) rfl qw_a119aeeca0 dModel_fact_1 ?_
  refine lv_iload_n hx hb dModel_fact_4 rfl (lv_at hl 1 rfl) ?_
  refine lv_iload_n hx hb dModel_fact_5 rfl (lv_at hl 2 rfl) ?_
  refine md_istD S hC hM hS 9 5 10000 rfl rfl (by decide) rfl rfl (vin (by assumption) (by omega)) dModel_fact_6 (fun H locs hM hS => ?_)
  obtain ⟨F1, eF1⟩ : ∃ z : Nat → Nat → Int32, z = Au F 9 x1.toNatClampNeg x2 := ⟨_, rfl⟩
  rw [← eF1] at hM
  refine lv_aload_n hx hb dModel_fact_7 rfl (lv_at hl 0 rfl) ?_
  refine md_gA S hC hM 10 (by decide) rfl qw_bd0251c605 dModel_fact_8 ?_
  refine lv_iload_n hx hb dModel_fact_11 rfl (lv_at hl 1 rfl) ?_
  refine lv_iload_n hx hb dModel_fact_12 rfl (lv_at hl 3 rfl) ?_
  refine md_istD S hC hM hS 10 6 10000 rfl rfl (by decide) rfl rfl (vin (by assumption) (by omega)) dModel_fact_13 (fun H locs hM hS => ?_)
  obtain ⟨F2, eF2⟩ : ∃ z : Nat → Nat → Int32, z = Au F1 10 x1.toNatClampNeg x3 := ⟨_, rfl⟩
  rw [← eF2] at hM
  refine lv_aload_n hx hb dModel_fact_14 rfl (lv_at hl 0 rfl) ?_
  refine md_gA S hC hM 11 (by decide) rfl qw_88b9028ba7 dModel_fact_15 ?_
  refine lv_iload_n hx hb dModel_fact_18 rfl (lv_at hl 1 rfl) ?_
  refine lv_iload hx hb dModel_fact_19 (lv_at hl 4 rfl) ?_
  refine md_zstD S hC hM hS 11 7 10000 rfl rfl (by decide) rfl rfl (vin (by assumption) (by omega)) dModel_fact_21 (fun H locs hM hS => ?_)
  obtain ⟨F3, eF3⟩ : ∃ z : Nat → Nat → Int32, z = Au F2 11 x1.toNatClampNeg (vp_nar .boolean x4) := ⟨_, rfl⟩
  rw [← eF3] at hM
  refine lv_aload_n hx hb dModel_fact_22 rfl (lv_at hl 0 rfl) ?_
  refine md_gA S hC hM 12 (by decide) rfl qw_19df235c4a dModel_fact_23 ?_
  refine lv_iload_n hx hb dModel_fact_26 rfl (lv_at hl 1 rfl) ?_
  refine lv_iconst (v := (-1)) hx hb dModel_fact_27 (by decide) ?_
  refine md_istD S hC hM hS 12 8 10000 rfl rfl (by decide) rfl rfl (vin (by assumption) (by omega)) dModel_fact_28 (fun H locs hM hS => ?_)
  obtain ⟨F4, eF4⟩ : ∃ z : Nat → Nat → Int32, z = Au F3 12 x1.toNatClampNeg (-1) := ⟨_, rfl⟩
  rw [← eF4] at hM
  refine lv_aload_n hx hb dModel_fact_29 rfl (lv_at hl 0 rfl) ?_
  refine md_gA S hC hM 13 (by decide) rfl qw_7b809afc8c dModel_fact_30 ?_
  refine lv_iload_n hx hb dModel_fact_33 rfl (lv_at hl 1 rfl) ?_
  refine lv_lconst (v := 0) hx hb dModel_fact_34 (by decide) ?_
  refine md_lst S hC hM hS (vin (by assumption) (by omega)) dModel_fact_35 (fun H locs hM hS => ?_)
  obtain ⟨nu5, enu5⟩ : ∃ z : Nat → Int64, z = vp_updL nu x1.toNatClampNeg 0 := ⟨_, rfl⟩
  rw [← enu5] at hM
  have hE4 : EQ14 F4 F4 := EQ14.rf
  refine lv_iconst (v := 0) hx hb dModel_fact_36 (by decide) ?_
  refine lv_istore (lv' := [(5, .int 0), (0, .ref a), (1, .int x1), (2, .int x2), (3, .int x3), (4, .int x4)]) hx hb dModel_fact_37 hl (by decide) rfl (fun ls hl => ?_)
  have J39 : ∀ (N39 : Nat) (ls : Array Slot) (H : Heap) (locs : List Loc) (F_39 : Nat → Nat → Int32) (i5_39 : Int32), MD γ a B Z ν τ σ F_39 nu5 H → va_S Z s.heap H locs → (EQ14 F4 F_39) → (¬ i5_39 < 0) → (2147483647 - i5_39.toInt).toNat = N39 → lv_has ls 6 [(0, .ref a), (1, .int x1), (2, .int x2), (3, .int x3), (4, .int x4), (5, .int i5_39)] → W p l e (bs_rm 1 0 0 23) s m args below meth c H locs 0 0 Q (F0 m 39 ls []) := by
    intro N39
    induction N39 using Nat.strongRecOn with
    | ind N39 ih39 =>
      intro ls H locs F_39 i5_39 hM hS hE4 hi5_39 hm39 hl
      refine lv_iload hx hb dModel_fact_39 (lv_at hl 5 rfl) ?_
      refine lv_bipush (v := 64) hx hb dModel_fact_41 (by decide) ?_
      refine lv_icmp_ge (tgt := 60) hx hb dModel_fact_43 (by decide) (fun c6 => ?_) (fun c6 => ?_)
      · exact hE _ _ _ _ hS (by have h9 := slt_fact eF1 eF2 eF3 eF4 hE4 enu5; exact ⟨F_39, nu5, hM, h9.1, h9.2⟩) dModel_fact_60
      · have hin5 : vp_in i5_39 64 := in_cmp (by assumption) (by assumption) (by omega)
        refine lv_aload_n hx hb dModel_fact_46 rfl (lv_at hl 0 rfl) ?_
        refine lv_iload_n hx hb dModel_fact_47 rfl (lv_at hl 1 rfl) ?_
        refine lv_iload hx hb dModel_fact_48 (lv_at hl 5 rfl) ?_
        refine lv_iconst (v := 0) hx hb dModel_fact_50 (by decide) ?_
        refine mu_Vv (rest := []) S hC (fun q h => hA q (Nat.le_trans hS.1 h)) (fun q h => h) hS (m_setElement l γ a B Z κ b mn ν τ σ F_39 nu5 hT x1 i5_39 0 (el_in (by assumption) (by assumption) (by omega))) meModel_setElement qw_143403ccb9 ⟨Nat.le_of_ble_eq_true rfl, Nat.le_of_ble_eq_true rfl⟩ (md_rv hC hM) hM rfl hl.1 rfl (Nat.le_of_ble_eq_true rfl) dModel_fact_51 ⟨Nat.le_refl _, Nat.le_refl _⟩ (fun H locs hPO hS _ _ => ?_)
        obtain ⟨Fr7, hM, hqr7⟩ := hPO
        have hE4 : EQ14 F4 Fr7 := hE4.trans hqr7
        obtain ⟨v8, ev8⟩ : ∃ y : Int32, y = i5_39 + 1 := ⟨_, rfl⟩
        refine lv_iinc (v := v8) (lv' := [(5, .int v8), (0, .ref a), (1, .int x1), (2, .int x2), (3, .int x3), (4, .int x4)]) hx hb dModel_fact_54 hl (k := 5) rfl (by rw [ev8]; rfl) (by decide) rfl (fun ls hl => ?_)
        refine lv_goto (tgt := 39) hx hb dModel_fact_57 (by decide) ?_
        exact ih39 _ (by have q1 : i5_39.toInt < 2147483647 := (by first | assumption | exact (mu_up (k := i5_39) (by assumption)).2); have q2 := mu_lt q1; rw [← ev8] at q2; omega) ls _ _ Fr7 v8 hM hS hE4 (by first | decide | exact nn_inc (by assumption) (by assumption) (by assumption)) rfl (lv_sub hl [1, 2, 3, 4, 5, 0] rfl)
  exact J39 _ ls _ _ F4 0 hM hS hE4 (by first | decide | exact nn_inc (by assumption) (by assumption) (by assumption)) rfl (lv_sub hl [1, 2, 3, 4, 5, 0] rfl)
