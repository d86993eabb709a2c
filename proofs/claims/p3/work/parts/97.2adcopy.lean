set_option maxHeartbeats 4000000 in
set_option maxRecDepth 100000 in
theorem m_copy (l : Launch) (γ : gE) (a : Nat) (B : Nat → Nat) (Z : Nat → Prop) (κ b mn : Nat → Nat) (ν : Nat → Int32) (τ : Nat → Nat → Int32) (σ : Nat → Int32) (F : Nat → Nat → Int32) (nu : Nat → Int64) (hT : ST κ b mn ν τ) (x1 : Int32) (x2 : Int32) (hx1 : vp_in x1 (10000)) (hx2 : vp_in x2 (10000)) : MU l yModel_copy bModel_copy 4 (none) 1 23 0 0 [.ref a, .int x1, .int x2] γ Z (MD γ a B Z ν τ σ F nu) (mQv (fun H => ∃ (F' : Nat → Nat → Int32) (nu' : Nat → Int64), MD γ a B Z ν τ σ F' nu' H ∧ SLT x2.toNatClampNeg (F 9 x1.toNatClampNeg) (F 10 x1.toNatClampNeg) (nu x1.toNatClampNeg) F nu F' nu') Z) := by
  refine mu_openV (by decide) (Nat.le_of_ble_eq_true rfl) ?_
  intro p e s m args below meth c ls Q S hnm hC hA hM hE hl
  have hS : va_S Z s.heap s.heap [] := va_S.rf
  obtain ⟨hx, hb, hml, hown, hW⟩ := id S
  obtain ⟨⟨hs0, hs1, hs2, hs3, hs4, hs5, hs6⟩, ⟨hv6, hv8, hv21, hv24, hv30, hv31⟩, hTR, hTY, hOB, hNM⟩ := id hT
  have hl : lv_has ls 4 [(0, .ref a), (1, .int x1), (2, .int x2)] := hl
  refine lv_aload_n hx hb dModel_copy_0 rfl (lv_at hl 0 rfl) ?_
  refine md_gA S hC hM 9 (by decide) rfl qw_a119aeeca0 dModel_copy_1 ?_
  refine lv_iload_n hx hb dModel_copy_4 rfl (lv_at hl 2 rfl) ?_
  refine lv_aload_n hx hb dModel_copy_5 rfl (lv_at hl 0 rfl) ?_
  refine md_gA S hC hM 9 (by decide) rfl qw_a119aeeca0 dModel_copy_6 ?_
  refine lv_iload_n hx hb dModel_copy_9 rfl (lv_at hl 1 rfl) ?_
  refine md_ild S hC hM 9 5 10000 (F 9) rfl rfl (by decide) rfl rfl (vin (by assumption) (by omega)) dModel_copy_10 ?_
  refine lv_topi (fun v1 ev1 => ?_)
  refine md_istD S hC hM hS 9 5 10000 rfl rfl (by decide) rfl rfl (vin (by assumption) (by omega)) dModel_copy_11 (fun H locs hM hS => ?_)
  obtain ⟨F2, eF2⟩ : ∃ z : Nat → Nat → Int32, z = Au F 9 x2.toNatClampNeg v1 := ⟨_, rfl⟩
  rw [← eF2] at hM
  refine lv_aload_n hx hb dModel_copy_12 rfl (lv_at hl 0 rfl) ?_
  refine md_gA S hC hM 10 (by decide) rfl qw_bd0251c605 dModel_copy_13 ?_
  refine lv_iload_n hx hb dModel_copy_16 rfl (lv_at hl 2 rfl) ?_
  refine lv_aload_n hx hb dModel_copy_17 rfl (lv_at hl 0 rfl) ?_
  refine md_gA S hC hM 10 (by decide) rfl qw_bd0251c605 dModel_copy_18 ?_
  refine lv_iload_n hx hb dModel_copy_21 rfl (lv_at hl 1 rfl) ?_
  refine md_ild S hC hM 10 6 10000 (F2 10) rfl rfl (by decide) rfl rfl (vin (by assumption) (by omega)) dModel_copy_22 ?_
  refine lv_topi (fun v3 ev3 => ?_)
  refine md_istD S hC hM hS 10 6 10000 rfl rfl (by decide) rfl rfl (vin (by assumption) (by omega)) dModel_copy_23 (fun H locs hM hS => ?_)
  obtain ⟨F4, eF4⟩ : ∃ z : Nat → Nat → Int32, z = Au F2 10 x2.toNatClampNeg v3 := ⟨_, rfl⟩
  rw [← eF4] at hM
  refine lv_aload_n hx hb dModel_copy_24 rfl (lv_at hl 0 rfl) ?_
  refine md_gA S hC hM 11 (by decide) rfl qw_88b9028ba7 dModel_copy_25 ?_
  refine lv_iload_n hx hb dModel_copy_28 rfl (lv_at hl 2 rfl) ?_
  refine lv_aload_n hx hb dModel_copy_29 rfl (lv_at hl 0 rfl) ?_
  refine md_gA S hC hM 11 (by decide) rfl qw_88b9028ba7 dModel_copy_30 ?_
  refine lv_iload_n hx hb dModel_copy_33 rfl (lv_at hl 1 rfl) ?_
  refine md_zld S hC hM 11 7 10000 (F4 11) rfl rfl (by decide) rfl rfl (vin (by assumption) (by omega)) dModel_copy_34 ?_
  refine lv_topi (fun v5 ev5 => ?_)
  refine md_zstD S hC hM hS 11 7 10000 rfl rfl (by decide) rfl rfl (vin (by assumption) (by omega)) dModel_copy_35 (fun H locs hM hS => ?_)
  obtain ⟨F6, eF6⟩ : ∃ z : Nat → Nat → Int32, z = Au F4 11 x2.toNatClampNeg (vp_nar .boolean v5) := ⟨_, rfl⟩
  rw [← eF6] at hM
  refine lv_aload_n hx hb dModel_copy_36 rfl (lv_at hl 0 rfl) ?_
  refine md_gA S hC hM 12 (by decide) rfl qw_19df235c4a dModel_copy_37 ?_
  refine lv_iload_n hx hb dModel_copy_40 rfl (lv_at hl 2 rfl) ?_
  refine lv_aload_n hx hb dModel_copy_41 rfl (lv_at hl 0 rfl) ?_
  refine md_gA S hC hM 12 (by decide) rfl qw_19df235c4a dModel_copy_42 ?_
  refine lv_iload_n hx hb dModel_copy_45 rfl (lv_at hl 1 rfl) ?_
  refine md_ild S hC hM 12 8 10000 (F6 12) rfl rfl (by decide) rfl rfl (vin (by assumption) (by omega)) dModel_copy_46 ?_
  refine lv_topi (fun v7 ev7 => ?_)
  refine md_istD S hC hM hS 12 8 10000 rfl rfl (by decide) rfl rfl (vin (by assumption) (by omega)) dModel_copy_47 (fun H locs hM hS => ?_)
  obtain ⟨F8, eF8⟩ : ∃ z : Nat → Nat → Int32, z = Au F6 12 x2.toNatClampNeg v7 := ⟨_, rfl⟩
  rw [← eF8] at hM
  refine lv_aload_n hx hb dModel_copy_48 rfl (lv_at hl 0 rfl) ?_
  refine md_gA S hC hM 13 (by decide) rfl qw_7b809afc8c dModel_copy_49 ?_
  refine lv_iload_n hx hb dModel_copy_52 rfl (lv_at hl 2 rfl) ?_
  refine lv_aload_n hx hb dModel_copy_53 rfl (lv_at hl 0 rfl) ?_
  refine md_gA S hC hM 13 (by decide) rfl qw_7b809afc8c dModel_copy_54 ?_
  refine lv_iload_n hx hb dModel_copy_57 rfl (lv_at hl 1 rfl) ?_
  refine md_lld S hC hM (vin (by assumption) (by omega)) dModel_copy_58 ?_
  refine lv_topl (fun v9 ev9 => ?_)
  have ev9 : v9 = nu x1.toNatClampNeg := ev9
  refine md_lst S hC hM hS (vin (by assumption) (by omega)) dModel_copy_59 (fun H locs hM hS => ?_)
  obtain ⟨nu10, enu10⟩ : ∃ z : Nat → Int64, z = vp_updL nu x2.toNatClampNeg v9 := ⟨_, rfl⟩
  rw [← enu10] at hM
  have hE4 : EQ14 F8 F8 := EQ14.rf
  refine lv_iconst (v := 0) hx hb dModel_copy_60 (by decide) ?_
  refine lv_istore_n (lv' := [(3, .int 0), (0, .ref a), (1, .int x1), (2, .int x2)]) hx hb dModel_copy_61 rfl hl (by decide) rfl (fun ls hl => ?_)
  have J62 : ∀ (N62 : Nat) (ls : Array Slot) (H : Heap) (locs : List Loc) (F_62 : Nat → Nat → Int32) (i3_62 : Int32), MD γ a B Z ν τ σ F_62 nu10 H → va_S Z s.heap H locs → (EQ14 F8 F_62) → (¬ i3_62 < 0) → (2147483647 - i3_62.toInt).toNat = N62 → lv_has ls 4 [(0, .ref a), (1, .int x1), (2, .int x2), (3, .int i3_62)] → W p l e (bs_rm 1 0 0 23) s m args below meth c H locs 0 0 Q (F0 m 62 ls []) := by
    intro N62
    induction N62 using Nat.strongRecOn with
    | ind N62 ih62 =>
      intro ls H locs F_62 i3_62 hM hS hE4 hi3_62 hm62 hl
      refine lv_iload_n hx hb dModel_copy_62 rfl (lv_at hl 3 rfl) ?_
      refine lv_bipush (v := 64) hx hb dModel_copy_63 (by decide) ?_
      refine lv_icmp_ge (tgt := 86) hx hb dModel_copy_65 (by decide) (fun c11 => ?_) (fun c11 => ?_)
      · exact hE _ _ _ _ hS (by have h9 := slt_fact eF2 eF4 eF6 eF8 hE4 enu10; rw [ev1, ev3, ev9, au_10 eF2] at h9; exact ⟨F_62, nu10, hM, h9.1⟩) dModel_copy_86
      · have hin3 : vp_in i3_62 64 := in_cmp (by assumption) (by assumption) (by omega)
        refine lv_aload_n hx hb dModel_copy_68 rfl (lv_at hl 0 rfl) ?_
        refine lv_iload_n hx hb dModel_copy_69 rfl (lv_at hl 2 rfl) ?_
        refine lv_iload_n hx hb dModel_copy_70 rfl (lv_at hl 3 rfl) ?_
        refine lv_aload_n hx hb dModel_copy_71 rfl (lv_at hl 0 rfl) ?_
        refine lv_iload_n hx hb dModel_copy_72 rfl (lv_at hl 1 rfl) ?_
        refine lv_iload_n hx hb dModel_copy_73 rfl (lv_at hl 3 rfl) ?_
        refine pu_Vi (rest := [.int i3_62, .int x2, .ref a]) S hC (m_element l γ a B Z κ b mn ν τ σ F_62 nu10 hT x1 i3_62 (el_in (by assumption) (by assumption) (by omega))) meModel_element qw_ceb3d87d61 ⟨Nat.le_of_ble_eq_true rfl, Nat.le_of_ble_eq_true rfl⟩ (md_rv hC hM) hM rfl hl.1 rfl (Nat.le_of_ble_eq_true rfl) dModel_copy_74 ⟨Nat.zero_le _, Nat.zero_le _⟩ (fun r12 hr12 => ?_)
        refine mu_Vv (rest := []) S hC (fun q h => hA q (Nat.le_trans hS.1 h)) (fun q h => h) hS (m_setElement l γ a B Z κ b mn ν τ σ F_62 nu10 hT x2 i3_62 r12 (el_in (by assumption) (by assumption) (by omega))) meModel_setElement qw_143403ccb9 ⟨Nat.le_of_ble_eq_true rfl, Nat.le_of_ble_eq_true rfl⟩ (md_rv hC hM) hM rfl hl.1 rfl (Nat.le_of_ble_eq_true rfl) dModel_copy_77 ⟨Nat.le_refl _, Nat.le_refl _⟩ (fun H locs hPO hS _ _ => ?_)
        obtain ⟨Fr13, hM, hqr13⟩ := hPO
        have hE4 : EQ14 F8 Fr13 := hE4.trans hqr13
        obtain ⟨v14, ev14⟩ : ∃ y : Int32, y = i3_62 + 1 := ⟨_, rfl⟩
        refine lv_iinc (v := v14) (lv' := [(3, .int v14), (0, .ref a), (1, .int x1), (2, .int x2)]) hx hb dModel_copy_80 hl (k := 3) rfl (by rw [ev14]; rfl) (by decide) rfl (fun ls hl => ?_)
        refine lv_goto (tgt := 62) hx hb dModel_copy_83 (by decide) ?_
        exact ih62 _ (by have q1 : i3_62.toInt < 2147483647 := (by first | assumption | exact (mu_up (k := i3_62) (by assumption)).2); have q2 := mu_lt q1; rw [← ev14] at q2; omega) ls _ _ Fr13 v14 hM hS hE4 (by first | decide | exact nn_inc (by assumption) (by assumption) (by assumption)) rfl (lv_sub hl [1, 2, 3, 0] rfl)
  exact J62 _ ls _ _ F8 0 hM hS hE4 (by first | decide | exact nn_inc (by assumption) (by assumption) (by assumption)) rfl (lv_sub hl [1, 2, 3, 0] rfl)
set_option maxHeartbeats 4000000 in
set_option maxRecDepth 100000 in
theorem m_known (l : Launch) (γ : gE) (a : Nat) (B : Nat → Nat) (Z : Nat → Prop) (κ b mn : Nat → Nat) (ν : Nat → Int32) (τ : Nat → Nat → Int32) (σ : Nat → Int32) (F : Nat → Nat → Int32) (nu : Nat → Int64) (hT : ST κ b mn ν τ) (x1 : Int32) (hx1 : vp_in x1 (4000)) : MU l yModel_known bModel_known 3 (some .int) 1 23 0 0 [.ref a, .int x1] γ Z (MD γ a B Z ν τ σ F nu) (mQi (fun r H => r = 0 ∧ ∃ (F' : Nat → Nat → Int32) (nu' : Nat → Int64), MD γ a B Z ν τ σ F' nu' H ∧ EQ14 F F' ∧ (nu' = nu ∨ nu' = vp_updL nu x1.toNatClampNeg 0)) Z) := by
  refine mu_openI (by decide) (Nat.le_of_ble_eq_true rfl) ?_
  intro p e s m args below meth c ls Q S hnm hC hA hM hE hl
  have hS : va_S Z s.heap s.heap [] := va_S.rf
  obtain ⟨hx, hb, hml, hown, hW⟩ := id S
  obtain ⟨⟨hs0, hs1, hs2, hs3, hs4, hs5, hs6⟩, ⟨hv6, hv8, hv21, hv24, hv30, hv31⟩, hTR, hTY, hOB, hNM⟩ := id hT
  have hl : lv_has ls 3 [(0, .ref a), (1, .int x1)] := hl
  have hE4 : EQ14 F F := EQ14.rf
  refine lv_aload_n hx hb dModel_known_0 rfl (lv_at hl 0 rfl) ?_
  refine md_gA S hC hM 11 (by decide) rfl qw_88b9028ba7 dModel_known_1 ?_
  refine lv_iload_n hx hb dModel_known_4 rfl (lv_at hl 1 rfl) ?_
  refine md_zld S hC hM 11 7 10000 (F 11) rfl rfl (by decide) rfl rfl (vin (by assumption) (by omega)) dModel_known_5 ?_
  refine lv_topi (fun v1 ev1 => ?_)
  refine lv_if_ne (tgt := 37) hx hb dModel_known_6 (by decide) (fun c2 => ?_) (fun c2 => ?_)
  · refine lv_iconst (v := 0) hx hb dModel_known_37 (by decide) ?_
    exact hE _ _ _ _ _ hS ⟨rfl, F, nu, hM, hE4, Or.inl rfl⟩ dModel_known_38
  · refine lv_aload_n hx hb dModel_known_9 rfl (lv_at hl 0 rfl) ?_
    refine md_gA S hC hM 13 (by decide) rfl qw_7b809afc8c dModel_known_10 ?_
    refine lv_iload_n hx hb dModel_known_13 rfl (lv_at hl 1 rfl) ?_
    refine lv_lconst (v := 0) hx hb dModel_known_14 (by decide) ?_
    refine md_lst S hC hM hS (vin (by assumption) (by omega)) dModel_known_15 (fun H locs hM hS => ?_)
    obtain ⟨nu3, enu3⟩ : ∃ z : Nat → Int64, z = vp_updL nu x1.toNatClampNeg 0 := ⟨_, rfl⟩
    rw [← enu3] at hM
    refine lv_iconst (v := 0) hx hb dModel_known_16 (by decide) ?_
    refine lv_istore_n (lv' := [(2, .int 0), (0, .ref a), (1, .int x1)]) hx hb dModel_known_17 rfl hl (by decide) rfl (fun ls hl => ?_)
    have J18 : ∀ (N18 : Nat) (ls : Array Slot) (H : Heap) (locs : List Loc) (F_18 : Nat → Nat → Int32) (i2_18 : Int32), MD γ a B Z ν τ σ F_18 nu3 H → va_S Z s.heap H locs → (EQ14 F F_18) → (¬ i2_18 < 0) → (2147483647 - i2_18.toInt).toNat = N18 → lv_has ls 3 [(0, .ref a), (1, .int x1), (2, .int i2_18)] → W p l e (bs_rm 1 0 0 23) s m args below meth c H locs 0 0 Q (F0 m 18 ls []) := by
      intro N18
      induction N18 using Nat.strongRecOn with
      | ind N18 ih18 =>
        intro ls H locs F_18 i2_18 hM hS hE4 hi2_18 hm18 hl
        refine lv_iload_n hx hb dModel_known_18 rfl (lv_at hl 2 rfl) ?_
        refine lv_bipush (v := 64) hx hb dModel_known_19 (by decide) ?_
        refine lv_icmp_ge (tgt := 37) hx hb dModel_known_21 (by decide) (fun c4 => ?_) (fun c4 => ?_)
        · refine lv_iconst (v := 0) hx hb dModel_known_37 (by decide) ?_
          exact hE _ _ _ _ _ hS ⟨rfl, F_18, nu3, hM, hE4, Or.inr enu3⟩ dModel_known_38
        · have hin2 : vp_in i2_18 64 := in_cmp (by assumption) (by assumption) (by omega)
          refine lv_aload_n hx hb dModel_known_24 rfl (lv_at hl 0 rfl) ?_
          refine lv_iload_n hx hb dModel_known_25 rfl (lv_at hl 1 rfl) ?_
          refine lv_iload_n hx hb dModel_known_26 rfl (lv_at hl 2 rfl) ?_
          refine lv_iconst (v := 0) hx hb dModel_known_27 (by decide) ?_
          refine mu_Vv (rest := []) S hC (fun q h => hA q (Nat.le_trans hS.1 h)) (fun q h => h) hS (m_setElement l γ a B Z κ b mn ν τ σ F_18 nu3 hT x1 i2_18 0 (el_in (by assumption) (by assumption) (by omega))) meModel_setElement qw_143403ccb9 ⟨Nat.le_of_ble_eq_true rfl, Nat.le_of_ble_eq_true rfl⟩ (md_rv hC hM) hM rfl hl.1 rfl (Nat.le_of_ble_eq_true rfl) dModel_known_28 ⟨Nat.le_refl _, Nat.le_refl _⟩ (fun H locs hPO hS _ _ => ?_)
          obtain ⟨Fr5, hM, hqr5⟩ := hPO
          have hE4 : EQ14 F Fr5 := hE4.trans hqr5
          obtain ⟨v6, ev6⟩ : ∃ y : Int32, y = i2_18 + 1 := ⟨_, rfl⟩
          refine lv_iinc (v := v6) (lv' := [(2, .int v6), (0, .ref a), (1, .int x1)]) hx hb dModel_known_31 hl (k := 2) rfl (by rw [ev6]; rfl) (by decide) rfl (fun ls hl => ?_)
          refine lv_goto (tgt := 18) hx hb dModel_known_34 (by decide) ?_
          exact ih18 _ (by have q1 : i2_18.toInt < 2147483647 := (by first | assumption | exact (mu_up (k := i2_18) (by assumption)).2); have q2 := mu_lt q1; rw [← ev6] at q2; omega) ls _ _ Fr5 v6 hM hS hE4 (by first | decide | exact nn_inc (by assumption) (by assumption) (by assumption)) rfl (lv_sub hl [1, 2, 0] rfl)
    exact J18 _ ls _ _ F 0 hM hS hE4 (by first | decide | exact nn_inc (by assumption) (by assumption) (by assumption)) rfl (lv_sub hl [1, 2, 0] rfl)
theorem qw_9bd8ea24bb : (Cond.fieldLink R_Model 54 R_Model "typeClass" "[I") ∈ bs_W0 := bs_in (in_tables_1_5 (List.mem_of_getElem? (i := 169) rfl)) rfl
theorem qw_c139dbceda : (Cond.fieldLink R_Model 63 R_Model "count" "[I") ∈ bs_W0 := bs_in (in_tables_1_5 (List.mem_of_getElem? (i := 172) rfl)) rfl
theorem qw_02871250ec : (Cond.methodLink R_Model 147 yModel_fact) ∈ bs_W0 := bs_in (in_tables_1_6 (List.mem_of_getElem? (i := 83) rfl)) rfl
set_option maxHeartbeats 4000000 in
set_option maxRecDepth 100000 in
theorem m_factOfType (l : Launch) (γ : gE) (a : Nat) (B : Nat → Nat) (Z : Nat → Prop) (κ b mn : Nat → Nat) (ν : Nat → Int32) (τ : Nat → Nat → Int32) (σ : Nat → Int32) (F : Nat → Nat → Int32) (nu : Nat → Int64) (hT : ST κ b mn ν τ) (x1 : Int32) (x2 : Int32) (hx1 : vp_in x1 (10000)) (hx2 : vp_in x2 (1000)) : MU l yModel_factOfType bModel_factOfType 3 (none) 2 48 0 0 [.ref a, .int x1, .int x2] γ Z (MD γ a B Z ν τ σ F nu) (mQv (fun H => ∃ (F' : Nat → Nat → Int32) (nu' : Nat → Int64) (c n : Int32), MD γ a B Z ν τ σ F' nu' H ∧ SLT x1.toNatClampNeg c n 0 F nu F' nu' ∧ ∃ j, j ≤ 1000 ∧ n = nI j) Z) := by
  refine mu_openV (by decide) (Nat.le_of_ble_eq_true rfl) ?_
  intro p e s m args below meth c ls Q S hnm hC hA hM hE hl
  have hS : va_S Z s.heap s.heap [] := va_S.rf
  obtain ⟨hx, hb, hml, hown, hW⟩ := id S
  obtain ⟨⟨hs0, hs1, hs2, hs3, hs4, hs5, hs6⟩, ⟨hv6, hv8, hv21, hv24, hv30, hv31⟩, hTR, hTY, hOB, hNM⟩ := id hT
  have hl : lv_has ls 3 [(0, .ref a), (1, .int x1), (2, .int x2)] := hl
  refine lv_aload_n hx hb dModel_factOfType_0 rfl (lv_at hl 0 rfl) ?_
  refine lv_iload_n hx hb dModel_factOfType_1 rfl (lv_at hl 1 rfl) ?_
  refine lv_aload_n hx hb dModel_factOfType_2 rfl (lv_at hl 0 rfl) ?_
  refine md_gA S hC hM 16 (by decide) rfl qw_9bd8ea24bb dModel_factOfType_3 ?_
  refine lv_iload_n hx hb dModel_factOfType_6 rfl (lv_at hl 2 rfl) ?_
  refine md_ild S hC hM 16 12 1000 (τ 16) rfl rfl (by decide) rfl rfl (vin (by assumption) (by omega)) dModel_factOfType_7 ?_
  refine lv_topi (fun v1 ev1 => ?_)
  refine lv_aload_n hx hb dModel_factOfType_8 rfl (lv_at hl 0 rfl) ?_
  refine md_gA S hC hM 16 (by decide) rfl qw_9bd8ea24bb dModel_factOfType_9 ?_
  refine lv_iload_n hx hb dModel_factOfType_12 rfl (lv_at hl 2 rfl) ?_
  refine md_ild S hC hM 16 12 1000 (τ 16) rfl rfl (by decide) rfl rfl (vin (by assumption) (by omega)) dModel_factOfType_13 ?_
  refine lv_topi (fun v2 ev2 => ?_)
  refine lv_iconst (v := 3) hx hb dModel_factOfType_14 (by decide) ?_
  have J42 : ∀ (ls : Array Slot) (t0_42 : Int32), (∃ j, j ≤ 1000 ∧ t0_42 = nI j) → lv_has ls 3 [(0, .ref a), (1, .int x1), (2, .int x2)] → W p l e (bs_rm 2 0 0 48) s m args below meth c s.heap [] 0 0 Q (F0 m 42 ls [.int t0_42, .int v1, .int x1, .ref a]) := by
    intro ls t0_42 ht0_42 hl
    refine lv_iconst (v := 0) hx hb dModel_factOfType_42 (by decide) ?_
    have hnr8 : ∃ j, j ≤ 1000 ∧ t0_42 = nI j := ht0_42
    refine mu_Vv (rest := []) S hC (fun q h => hA q (Nat.le_trans hS.1 h)) (fun q h => h) hS (m_fact l γ a B Z κ b mn ν τ σ F nu hT x1 v1 t0_42 0 (vin (by assumption) (by omega)) hnr8) meModel_fact qw_02871250ec ⟨Nat.le_of_ble_eq_true rfl, Nat.le_of_ble_eq_true rfl⟩ (md_rv hC hM) hM rfl hl.1 rfl (Nat.le_of_ble_eq_true rfl) dModel_factOfType_43 ⟨Nat.le_refl _, Nat.le_refl _⟩ (fun H locs hPO hS _ _ => ?_)
    obtain ⟨Fr8, nur8, hM, hqr8, hcr8⟩ := hPO
    exact hE _ _ _ _ hS ⟨Fr8, nur8, _, _, hM, hqr8, ht0_42⟩ dModel_factOfType_46
  refine lv_icmp_ne (tgt := 27) hx hb dModel_factOfType_15 (by decide) (fun c9 => ?_) (fun c9 => ?_)
  · refine lv_aload_n hx hb dModel_factOfType_27 rfl (lv_at hl 0 rfl) ?_
    refine md_gA S hC hM 16 (by decide) rfl qw_9bd8ea24bb dModel_factOfType_28 ?_
    refine lv_iload_n hx hb dModel_factOfType_31 rfl (lv_at hl 2 rfl) ?_
    refine md_ild S hC hM 16 12 1000 (τ 16) rfl rfl (by decide) rfl rfl (vin (by assumption) (by omega)) dModel_factOfType_32 ?_
    refine lv_topi (fun v10 ev10 => ?_)
    refine lv_iconst (v := 4) hx hb dModel_factOfType_33 (by decide) ?_
    refine lv_icmp_ne (tgt := 41) hx hb dModel_factOfType_34 (by decide) (fun c11 => ?_) (fun c11 => ?_)
    · refine lv_iconst (v := 0) hx hb dModel_factOfType_41 (by decide) ?_
      exact J42 ls 0 (by first | exact ⟨0, by omega, rfl⟩ | exact ⟨_, Nat.le_of_lt (vix hx2), vnI hx2⟩ | exact ft_row hTY hx2 (by assumption) (by assumption) (by assumption)) (lv_sub hl [0, 1, 2] rfl)
    · refine lv_iload_n hx hb dModel_factOfType_37 rfl (lv_at hl 2 rfl) ?_
      refine lv_goto (tgt := 42) hx hb dModel_factOfType_38 (by decide) ?_
      exact J42 ls x2 (by first | exact ⟨0, by omega, rfl⟩ | exact ⟨_, Nat.le_of_lt (vix hx2), vnI hx2⟩ | exact ft_row hTY hx2 (by assumption) (by assumption) (by assumption)) (lv_sub hl [0, 1, 2] rfl)
  · refine lv_aload_n hx hb dModel_factOfType_18 rfl (lv_at hl 0 rfl) ?_
    refine md_gA S hC hM 19 (by decide) rfl qw_c139dbceda dModel_factOfType_19 ?_
    refine lv_iload_n hx hb dModel_factOfType_22 rfl (lv_at hl 2 rfl) ?_
    refine md_ild S hC hM 19 15 1000 (τ 19) rfl rfl (by decide) rfl rfl (vin (by assumption) (by omega)) dModel_factOfType_23 ?_
    refine lv_topi (fun v12 ev12 => ?_)
    refine lv_goto (tgt := 42) hx hb dModel_factOfType_24 (by decide) ?_
    exact J42 ls v12 (by first | exact ⟨0, by omega, rfl⟩ | exact ⟨_, Nat.le_of_lt (vix hx2), vnI hx2⟩ | exact ft_row hTY hx2 (by assumption) (by assumption) (by assumption)) (lv_sub hl [0, 1, 2] rfl)
theorem qw_9d5e299446 : (Cond.fieldLink R_Model 118 R_Model "found" "I") ∈ bs_W0 := bs_in (in_tables_1_5 (List.mem_of_getElem? (i := 185) rfl)) rfl
theorem qw_c60a40a4a7 : (Cond.fieldLink R_Model 121 R_Model "foundNumber" "I") ∈ bs_W0 := bs_in (in_tables_1_5 (List.mem_of_getElem? (i := 186) rfl)) rfl
theorem qw_6a7082029c : (Cond.fieldLink R_Model 124 R_Model "foundPlace" "I") ∈ bs_W0 := bs_in (in_tables_1_5 (List.mem_of_getElem? (i := 187) rfl)) rfl
theorem qw_e95de6bb1e : (Cond.fieldLink R_Model 78 R_Model "means" "[I") ∈ bs_W0 := bs_in (in_tables_1_5 (List.mem_of_getElem? (i := 179) rfl)) rfl
theorem qw_5b2f86bc41 : (Cond.fieldLink R_Model 81 R_Model "which" "[I") ∈ bs_W0 := bs_in (in_tables_1_5 (List.mem_of_getElem? (i := 180) rfl)) rfl
theorem qw_73fdadc701 : (Cond.fieldLink R_Model 84 R_Model "placeOf" "[I") ∈ bs_W0 := bs_in (in_tables_1_5 (List.mem_of_getElem? (i := 181) rfl)) rfl
set_option maxHeartbeats 4000000 in
set_option maxRecDepth 100000 in
theorem m_find (l : Launch) (γ : gE) (a : Nat) (B : Nat → Nat) (Z : Nat → Prop) (κ b mn : Nat → Nat) (ν : Nat → Int32) (τ : Nat → Nat → Int32) (σ : Nat → Int32) (F : Nat → Nat → Int32) (nu : Nat → Int64) (hT : ST κ b mn ν τ) (x1 : Int32)  : MU l yModel_find bModel_find 3 (none) 0 0 0 0 [.ref a, .int x1] γ Z (MD γ a B Z ν τ σ F nu) (mQv (fun H => ∃ σ' : Nat → Int32, MD γ a B Z ν τ σ' F nu H ∧ FD σ') Z) := by
  refine mu_openV (by decide) (Nat.le_of_ble_eq_true rfl) ?_
  intro p e s m args below meth c ls Q S hnm hC hA hM hE hl
  have hS : va_S Z s.heap s.heap [] := va_S.rf
  obtain ⟨hx, hb, hml, hown, hW⟩ := id S
  obtain ⟨⟨hs0, hs1, hs2, hs3, hs4, hs5, hs6⟩, ⟨hv6, hv8, hv21, hv24, hv30, hv31⟩, hTR, hTY, hOB, hNM⟩ := id hT
  have hl : lv_has ls 3 [(0, .ref a), (1, .int x1)] := hl
  refine lv_aload_n hx hb dModel_find_0 rfl (lv_at hl 0 rfl) ?_
  refine lv_iload_n hx hb dModel_find_1 rfl (lv_at hl 1 rfl) ?_
  refine lv_iconst (v := 5) hx hb dModel_find_2 (by decide) ?_
  have J41 : ∀ (ls : Array Slot) (t0_41 : Int32), (¬ t0_41 = 1 ∧ ¬ t0_41 = 2 ∧ (t0_41 = 4 → ¬ 12 ≤ x1)) → lv_has ls 3 [(0, .ref a), (1, .int x1)] → W p l e (bs_rm 0 0 0 0) s m args below meth c s.heap [] 0 0 Q (F0 m 41 ls [.int t0_41, .ref a]) := by
    intro ls t0_41 ht0_41 hl
    refine md_pD S hC hM hS 32 rfl (by decide) rfl qw_9d5e299446 rfl (by decide +kernel) dModel_find_41 (fun H locs hM hS => ?_)
    obtain ⟨σ24, eσ24⟩ : ∃ z : Nat → Int32, z = upd σ 32 t0_41 := ⟨_, rfl⟩
    rw [← eσ24] at hM
    refine lv_aload_n hx hb dModel_find_44 rfl (lv_at hl 0 rfl) ?_
    refine lv_iload_n hx hb dModel_find_45 rfl (lv_at hl 1 rfl) ?_
    have J90 : ∀ (ls : Array Slot) (t0_90 : Int32), (t0_90 = x1 ∨ ¬ 11 < t0_90) → lv_has ls 3 [(0, .ref a), (1, .int x1)] → W p l e (bs_rm 0 0 0 0) s m args below meth c H locs 0 0 Q (F0 m 90 ls [.int t0_90, .ref a]) := by
      intro ls t0_90 ht0_90 hl
      refine md_pD S hC hM hS 33 rfl (by decide) rfl qw_c60a40a4a7 rfl (by decide +kernel) dModel_find_90 (fun H locs hM hS => ?_)
      obtain ⟨σ43, eσ43⟩ : ∃ z : Nat → Int32, z = upd σ24 33 t0_90 := ⟨_, rfl⟩
      rw [← eσ43] at hM
      refine lv_aload_n hx hb dModel_find_93 rfl (lv_at hl 0 rfl) ?_
      refine lv_iconst (v := 0) hx hb dModel_find_94 (by decide) ?_
      refine md_pD S hC hM hS 34 rfl (by decide) rfl qw_6a7082029c rfl (by decide +kernel) dModel_find_95 (fun H locs hM hS => ?_)
      obtain ⟨σ44, eσ44⟩ : ∃ z : Nat → Int32, z = upd σ43 34 0 := ⟨_, rfl⟩
      rw [← eσ44] at hM
      refine lv_iconst (v := 0) hx hb dModel_find_98 (by decide) ?_
      refine lv_istore_n (lv' := [(2, .int 0), (0, .ref a), (1, .int x1)]) hx hb dModel_find_99 rfl hl (by decide) rfl (fun ls hl => ?_)
      have J100 : ∀ (N100 : Nat) (ls : Array Slot) (H : Heap) (locs : List Loc) (σ_100 : Nat → Int32) (i2_100 : Int32), MD γ a B Z ν τ σ_100 F nu H → va_S Z s.heap H locs → (¬ i2_100 < 0) → (FD σ_100) → (2147483647 - i2_100.toInt).toNat = N100 → lv_has ls 3 [(0, .ref a), (1, .int x1), (2, .int i2_100)] → W p l e (bs_rm 0 0 0 0) s m args below meth c H locs 0 0 Q (F0 m 100 ls []) := by
        intro N100
        induction N100 using Nat.strongRecOn with
        | ind N100 ih100 =>
          intro ls H locs σ_100 i2_100 hM hS hi2_100 hF hm100 hl
          refine lv_iload_n hx hb dModel_find_100 rfl (lv_at hl 2 rfl) ?_
          refine lv_aload_n hx hb dModel_find_101 rfl (lv_at hl 0 rfl) ?_
          refine md_gI S hC hM 30 (v := nI (κ 4)) hv30 (by decide) rfl qw_8d5d48b583 dModel_find_102 ?_
          refine lv_topi (fun v45 ev45 => ?_)
          refine lv_icmp_ge (tgt := 154) hx hb dModel_find_105 (by decide) (fun c46 => ?_) (fun c46 => ?_)
          · exact hE _ _ _ _ hS ⟨σ_100, hM, hF⟩ dModel_find_154
          · have hin2 : vp_in i2_100 (κ 4) := vcmp (by assumption) (by assumption) (by assumption) (by omega)
            refine lv_aload_n hx hb dModel_find_108 rfl (lv_at hl 0 rfl) ?_
            refine md_gA S hC hM 25 (by decide) rfl qw_0f8ce80864 dModel_find_109 ?_
            refine lv_iload_n hx hb dModel_find_112 rfl (lv_at hl 2 rfl) ?_
            refine md_ild S hC hM 25 19 3000 (τ 25) rfl rfl (by decide) rfl rfl (vin (by assumption) (by omega)) dModel_find_113 ?_
            refine lv_topi (fun v47 ev47 => ?_)
            refine lv_iload_n hx hb dModel_find_114 rfl (lv_at hl 1 rfl) ?_
            have J148 : ∀ (ls : Array Slot) (H : Heap) (locs : List Loc) (σ_148 : Nat → Int32), MD γ a B Z ν τ σ_148 F nu H → va_S Z s.heap H locs → (FD σ_148) → lv_has ls 3 [(0, .ref a), (1, .int x1), (2, .int i2_100)] → W p l e (bs_rm 0 0 0 0) s m args below meth c H locs 0 0 Q (F0 m 148 ls []) := by
              intro ls H locs σ_148 hM hS hF hl
              obtain ⟨v56, ev56⟩ : ∃ y : Int32, y = i2_100 + 1 := ⟨_, rfl⟩
              refine lv_iinc (v := v56) (lv' := [(2, .int v56), (0, .ref a), (1, .int x1)]) hx hb dModel_find_148 hl (k := 2) rfl (by rw [ev56]; rfl) (by decide) rfl (fun ls hl => ?_)
              refine lv_goto (tgt := 100) hx hb dModel_find_151 (by decide) ?_
              exact ih100 _ (by have q1 : i2_100.toInt < 2147483647 := (by first | assumption | exact (mu_up (k := i2_100) (by assumption)).2); have q2 := mu_lt q1; rw [← ev56] at q2; omega) ls _ _ σ_148 v56 hM hS (by first | decide | exact nn_inc (by assumption) (by assumption) (by assumption)) hF rfl (lv_sub hl [1, 2, 0] rfl)
            refine lv_icmp_ne (tgt := 148) hx hb dModel_find_115 (by decide) (fun c57 => ?_) (fun c57 => ?_)
            · exact J148 ls _ _ σ_100 hM hS (by first | assumption | exact fd_nm hNM (vix (vin hin2 (by omega))) ev49 ev51 eσ50 eσ52 eσ_100) (lv_sub hl [0, 1, 2] rfl)
            · refine lv_aload_n hx hb dModel_find_118 rfl (lv_at hl 0 rfl) ?_
              refine lv_aload_n hx hb dModel_find_119 rfl (lv_at hl 0 rfl) ?_
              refine md_gA S hC hM 26 (by decide) rfl qw_e95de6bb1e dModel_find_120 ?_
              refine lv_iload_n hx hb dModel_find_123 rfl (lv_at hl 2 rfl) ?_
              refine md_ild S hC hM 26 20 3000 (τ 26) rfl rfl (by decide) rfl rfl (vin (by assumption) (by omega)) dModel_find_124 ?_
              refine lv_topi (fun v58 ev58 => ?_)
              refine md_pD S hC hM hS 32 rfl (by decide) rfl qw_9d5e299446 rfl (by decide +kernel) dModel_find_125 (fun H locs hM hS => ?_)
              obtain ⟨σ59, eσ59⟩ : ∃ z : Nat → Int32, z = upd σ_100 32 v58 := ⟨_, rfl⟩
              rw [← eσ59] at hM
              refine lv_aload_n hx hb dModel_find_128 rfl (lv_at hl 0 rfl) ?_
              refine lv_aload_n hx hb dModel_find_129 rfl (lv_at hl 0 rfl) ?_
              refine md_gA S hC hM 27 (by decide) rfl qw_5b2f86bc41 dModel_find_130 ?_
              refine lv_iload_n hx hb dModel_find_133 rfl (lv_at hl 2 rfl) ?_
              refine md_ild S hC hM 27 21 3000 (τ 27) rfl rfl (by decide) rfl rfl (vin (by assumption) (by omega)) dModel_find_134 ?_
              refine lv_topi (fun v60 ev60 => ?_)
              refine md_pD S hC hM hS 33 rfl (by decide) rfl qw_c60a40a4a7 rfl (by decide +kernel) dModel_find_135 (fun H locs hM hS => ?_)
              obtain ⟨σ61, eσ61⟩ : ∃ z : Nat → Int32, z = upd σ59 33 v60 := ⟨_, rfl⟩
              rw [← eσ61] at hM
              refine lv_aload_n hx hb dModel_find_138 rfl (lv_at hl 0 rfl) ?_
              refine lv_aload_n hx hb dModel_find_139 rfl (lv_at hl 0 rfl) ?_
              refine md_gA S hC hM 28 (by decide) rfl qw_73fdadc701 dModel_find_140 ?_
              refine lv_iload_n hx hb dModel_find_143 rfl (lv_at hl 2 rfl) ?_
              refine md_ild S hC hM 28 22 3000 (τ 28) rfl rfl (by decide) rfl rfl (vin (by assumption) (by omega)) dModel_find_144 ?_
              refine lv_topi (fun v62 ev62 => ?_)
              refine md_pD S hC hM hS 34 rfl (by decide) rfl qw_6a7082029c rfl (by decide +kernel) dModel_find_145 (fun H locs hM hS => ?_)
              obtain ⟨σ63, eσ63⟩ : ∃ z : Nat → Int32, z = upd σ61 34 v62 := ⟨_, rfl⟩
              rw [← eσ63] at hM
              exact J148 ls _ _ σ63 hM hS (by first | assumption | exact fd_nm hNM (vix (vin hin2 (by omega))) ev58 ev60 eσ59 eσ61 eσ63) (lv_sub hl [0, 1, 2] rfl)
      exact J100 _ ls _ _ σ44 0 hM hS (by first | decide | exact nn_inc (by assumption) (by assumption) (by assumption)) (fd_3 eσ24 eσ43 eσ44 ht0_41 ht0_90) rfl (lv_sub hl [1, 2, 0] rfl)
    refine lv_if_ne (tgt := 53) hx hb dModel_find_46 (by decide) (fun c64 => ?_) (fun c64 => ?_)
    · refine lv_iload_n hx hb dModel_find_53 rfl (lv_at hl 1 rfl) ?_
      refine lv_iconst (v := 1) hx hb dModel_find_54 (by decide) ?_
      refine lv_icmp_ne (tgt := 62) hx hb dModel_find_55 (by decide) (fun c65 => ?_) (fun c65 => ?_)
      · refine lv_iload_n hx hb dModel_find_62 rfl (lv_at hl 1 rfl) ?_
        refine lv_iconst (v := 2) hx hb dModel_find_63 (by decide) ?_
        refine lv_icmp_ne (tgt := 71) hx hb dModel_find_64 (by decide) (fun c66 => ?_) (fun c66 => ?_)
        · refine lv_iload_n hx hb dModel_find_71 rfl (lv_at hl 1 rfl) ?_
          refine lv_iconst (v := 3) hx hb dModel_find_72 (by decide) ?_
          refine lv_icmp_ne (tgt := 80) hx hb dModel_find_73 (by decide) (fun c67 => ?_) (fun c67 => ?_)
          · refine lv_iload_n hx hb dModel_find_80 rfl (lv_at hl 1 rfl) ?_
            refine lv_iconst (v := 4) hx hb dModel_find_81 (by decide) ?_
            refine lv_icmp_ne (tgt := 89) hx hb dModel_find_82 (by decide) (fun c68 => ?_) (fun c68 => ?_)
            · refine lv_iload_n hx hb dModel_find_89 rfl (lv_at hl 1 rfl) ?_
              exact J90 ls x1 (by first | exact Or.inl rfl | exact Or.inr (by decide)) (lv_sub hl [0, 1] rfl)
            · refine lv_iconst (v := 0) hx hb dModel_find_85 (by decide) ?_
              refine lv_goto (tgt := 90) hx hb dModel_find_86 (by decide) ?_
              exact J90 ls 0 (by first | exact Or.inl rfl | exact Or.inr (by decide)) (lv_sub hl [0, 1] rfl)
          · refine lv_iconst (v := 1) hx hb dModel_find_76 (by decide) ?_
            refine lv_goto (tgt := 90) hx hb dModel_find_77 (by decide) ?_
            exact J90 ls 1 (by first | exact Or.inl rfl | exact Or.inr (by decide)) (lv_sub hl [0, 1] rfl)
        · refine lv_iconst (v := 4) hx hb dModel_find_67 (by decide) ?_
          refine lv_goto (tgt := 90) hx hb dModel_find_68 (by decide) ?_
          exact J90 ls 4 (by first | exact Or.inl rfl | exact Or.inr (by decide)) (lv_sub hl [0, 1] rfl)
      · refine lv_iconst (v := 3) hx hb dModel_find_58 (by decide) ?_
        refine lv_goto (tgt := 90) hx hb dModel_find_59 (by decide) ?_
        exact J90 ls 3 (by first | exact Or.inl rfl | exact Or.inr (by decide)) (lv_sub hl [0, 1] rfl)
    · refine lv_iconst (v := 2) hx hb dModel_find_49 (by decide) ?_
      refine lv_goto (tgt := 90) hx hb dModel_find_50 (by decide) ?_
      exact J90 ls 2 (by first | exact Or.inl rfl | exact Or.inr (by decide)) (lv_sub hl [0, 1] rfl)
  refine lv_icmp_ge (tgt := 10) hx hb dModel_find_3 (by decide) (fun c69 => ?_) (fun c69 => ?_)
  · refine lv_iload_n hx hb dModel_find_10 rfl (lv_at hl 1 rfl) ?_
    refine lv_iconst (v := 5) hx hb dModel_find_11 (by decide) ?_
    refine lv_icmp_ne (tgt := 20) hx hb dModel_find_12 (by decide) (fun c70 => ?_) (fun c70 => ?_)
    · refine lv_iload_n hx hb dModel_find_20 rfl (lv_at hl 1 rfl) ?_
      refine lv_bipush (v := 8) hx hb dModel_find_21 (by decide) ?_
      refine lv_icmp_ge (tgt := 30) hx hb dModel_find_23 (by decide) (fun c71 => ?_) (fun c71 => ?_)
      · refine lv_iload_n hx hb dModel_find_30 rfl (lv_at hl 1 rfl) ?_
        refine lv_bipush (v := 12) hx hb dModel_find_31 (by decide) ?_
        refine lv_icmp_ge (tgt := 40) hx hb dModel_find_33 (by decide) (fun c72 => ?_) (fun c72 => ?_)
        · refine lv_iconst (v := 5) hx hb dModel_find_40 (by decide) ?_
          exact J41 ls 5 (by first | decide | exact ⟨by decide, by decide, fun _ => by assumption⟩ | exact ⟨by decide, by decide, fun h9 => absurd h9 (by decide)⟩) (lv_sub hl [0, 1] rfl)
        · refine lv_iconst (v := 4) hx hb dModel_find_36 (by decide) ?_
          refine lv_goto (tgt := 41) hx hb dModel_find_37 (by decide) ?_
          exact J41 ls 4 (by first | decide | exact ⟨by decide, by decide, fun _ => by assumption⟩ | exact ⟨by decide, by decide, fun h9 => absurd h9 (by decide)⟩) (lv_sub hl [0, 1] rfl)
      · refine lv_iconst (v := 3) hx hb dModel_find_26 (by decide) ?_
        refine lv_goto (tgt := 41) hx hb dModel_find_27 (by decide) ?_
        exact J41 ls 3 (by first | decide | exact ⟨by decide, by decide, fun _ => by assumption⟩ | exact ⟨by decide, by decide, fun h9 => absurd h9 (by decide)⟩) (lv_sub hl [0, 1] rfl)
    · refine lv_bipush (v := 6) hx hb dModel_find_15 (by decide) ?_
      refine lv_goto (tgt := 41) hx hb dModel_find_17 (by decide) ?_
      exact J41 ls 6 (by first | decide | exact ⟨by decide, by decide, fun _ => by assumption⟩ | exact ⟨by decide, by decide, fun h9 => absurd h9 (by decide)⟩) (lv_sub hl [0, 1] rfl)
  · refine lv_iconst (v := 0) hx hb dModel_find_6 (by decide) ?_
    refine lv_goto (tgt := 41) hx hb dModel_find_7 (by decide) ?_
    exact J41 ls 0 (by first | decide | exact ⟨by decide, by decide, fun _ => by assumption⟩ | exact ⟨by decide, by decide, fun h9 => absurd h9 (by decide)⟩) (lv_sub hl [0, 1] rfl)
