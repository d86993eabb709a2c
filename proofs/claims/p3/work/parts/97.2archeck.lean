theorem qw_fb32874592 : (Cond.methodLink R_Model 269 yModel_goThrough) ∈ bs_W0 := bs_in (in_tables_1_6 (List.mem_of_getElem? (i := 47) rfl)) rfl
theorem qw_17a2ee8d21 : (Cond.methodLink R_Model 291 yModel_fits) ∈ bs_W0 := bs_in (in_tables_1_6 (List.mem_of_getElem? (i := 231) rfl)) rfl
theorem qw_8cce6d7b5c : (Cond.methodLink R_Model 278 yModel_keep) ∈ bs_W0 := bs_in (in_tables_1_6 (List.mem_of_getElem? (i := 203) rfl)) rfl
set_option maxHeartbeats 4000000 in
set_option maxRecDepth 100000 in
theorem m_check (l : Launch) (γ : gE) (a : Nat) (B : Nat → Nat) (Z : Nat → Prop) (κ b mn : Nat → Nat) (ν : Nat → Int32) (τ : Nat → Nat → Int32) (σ : Nat → Int32) (F : Nat → Nat → Int32) (nu : Nat → Int64) (hT : ST κ b mn ν τ) (x1 : Int32) (x2 : Int32) (hZ : SZ F) (hF : FD σ) (hG : GD F nu) : MU l yModel_check bModel_check 4 (some .int) 7 177 0 0 [.ref a, .int x1, .int x2] γ Z (MD γ a B Z ν τ σ F nu) (mQi (fun r H => ∃ (κ' : Nat → Nat) (cd : Int32), (κ' 5 = κ 5 ∧ κ' 0 = κ 0 ∧ κ' 1 = κ 1) ∧ MI γ a B Z κ' cd H) Z) := by
  refine mu_openI (by decide) (Nat.le_of_ble_eq_true rfl) ?_
  intro p e s m args below meth c ls Q S hnm hC hA hM hE hl
  have hS : va_S Z s.heap s.heap [] := va_S.rf
  obtain ⟨hx, hb, hml, hown, hW⟩ := id S
  obtain ⟨⟨hs0, hs1, hs2, hs3, hs4, hs5, hs6⟩, ⟨hv6, hv8, hv21, hv24, hv30, hv31⟩, hTR, hTY, hOB, hNM⟩ := id hT
  have hl : lv_has ls 4 [(0, .ref a), (1, .int x1), (2, .int x2)] := hl
  refine lv_aload_n hx hb dModel_check_0 rfl (lv_at hl 0 rfl) ?_
  refine lv_aload_n hx hb dModel_check_1 rfl (lv_at hl 0 rfl) ?_
  refine lv_iload_n hx hb dModel_check_2 rfl (lv_at hl 1 rfl) ?_
  refine pu_Vi (rest := [.ref a]) S hC (m_noNode l γ a B Z κ b mn ν τ σ F nu hT x1 ) meModel_noNode qw_c926675227 ⟨Nat.le_of_ble_eq_true rfl, Nat.le_of_ble_eq_true rfl⟩ (md_rv hC hM) hM rfl hl.1 rfl (Nat.le_of_ble_eq_true rfl) dModel_check_3 ⟨Nat.zero_le _, Nat.zero_le _⟩ (fun r1 hr1 => ?_)
  have J27 : ∀ (ls : Array Slot) (t0_27 : Int32), (0 < t0_27 ∨ (t0_27 = 0 ∧ vp_in x1 (κ 0) ∧ (x2 = -1 ∨ vp_in x2 (κ 2)))) → lv_has ls 4 [(0, .ref a), (1, .int x1), (2, .int x2)] → W p l e (bs_rm 7 0 0 177) s m args below meth c s.heap [] 0 0 Q (F0 m 27 ls [.int t0_27, .ref a]) := by
    intro ls t0_27 ht0_27 hl
    refine md_pD S hC hM hS 0 rfl (by decide) rfl qw_53e275eed6 rfl (by decide +kernel) dModel_check_27 (fun H locs hM hS => ?_)
    obtain ⟨σ19, eσ19⟩ : ∃ z : Nat → Int32, z = upd σ 0 t0_27 := ⟨_, rfl⟩
    rw [← eσ19] at hM
    have hF : FD σ19 := hF.up eσ19 (by decide) (by decide)
    refine lv_aload_n hx hb dModel_check_30 rfl (lv_at hl 0 rfl) ?_
    refine md_gI S hC hM 0 (v := σ19 0) rfl (by decide) rfl qw_53e275eed6 dModel_check_31 ?_
    refine lv_topi (fun v20 ev20 => ?_)
    refine lv_if_le (tgt := 39) hx hb dModel_check_34 (by decide) (fun c21 => ?_) (fun c21 => ?_)
    · obtain ⟨hx1, hx2⟩ := cd_0 eσ19 ev20 (by assumption) ht0_27
      refine lv_aload_n hx hb dModel_check_39 rfl (lv_at hl 0 rfl) ?_
      refine lv_aload_n hx hb dModel_check_40 rfl (lv_at hl 0 rfl) ?_
      refine md_gA S hC hM 5 (by decide) rfl qw_7e4081a75e dModel_check_41 ?_
      refine lv_iload_n hx hb dModel_check_44 rfl (lv_at hl 1 rfl) ?_
      refine md_ild S hC hM 5 3 4000 (τ 5) rfl rfl (by decide) rfl rfl (vin (by assumption) (by omega)) dModel_check_45 ?_
      refine lv_topi (fun v22 ev22 => ?_)
      refine lv_iload_n hx hb dModel_check_46 rfl (lv_at hl 1 rfl) ?_
      have hbg := bg_ok hTR hs0 hx1 ev22
      refine mu_Vi (rest := []) S hC (fun q h => hA q (Nat.le_trans hS.1 h)) (fun q h => h) hS (m_goThrough l γ a B Z κ b mn ν τ σ19 F nu hT v22 x1 hbg.1 (x_int hx1) (fun k h8 h9 => by rw [hbg.2] at h8 ⊢; exact rg_ge hTR (vix hx1) h8 (by rw [vin_int hx1] at h9; omega)) hZ hF hG) meModel_goThrough qw_fb32874592 ⟨Nat.le_of_ble_eq_true rfl, Nat.le_of_ble_eq_true rfl⟩ (md_rv hC hM) hM rfl hl.1 rfl (Nat.le_of_ble_eq_true rfl) dModel_check_47 ⟨Nat.le_refl _, Nat.le_refl _⟩ (fun r23 H locs hPO hS _ _ => ?_)
      obtain ⟨σr23, Fr23, nur23, hM, hZ, hF, hG, hgtr23⟩ := hPO
      refine lv_istore_n (lv' := [(3, .int r23), (0, .ref a), (1, .int x1), (2, .int x2)]) hx hb dModel_check_50 rfl hl (by decide) rfl (fun ls hl => ?_)
      refine lv_iload_n hx hb dModel_check_51 rfl (lv_at hl 0 rfl) ?_
      refine lv_if_le (tgt := 58) hx hb dModel_check_52 (by decide) (fun c24 => ?_) (fun c24 => ?_)
      · refine lv_iload_n hx hb dModel_check_58 rfl (lv_at hl 3 rfl) ?_
        refine lv_iconst (v := (-1)) hx hb dModel_check_59 (by decide) ?_
        have J73 : ∀ (ls : Array Slot) (t0_73 : Int32), lv_has ls 4 [(0, .ref a), (1, .int x1), (2, .int x2), (3, .int r23)] → W p l e (bs_rm 7 0 0 177) s m args below meth c H locs 0 0 Q (F0 m 73 ls [.int t0_73]) := by
          intro ls t0_73 hl
          refine lv_istore_n (lv' := [(3, .int t0_73), (0, .ref a), (1, .int x1), (2, .int x2)]) hx hb dModel_check_73 rfl hl (by decide) rfl (fun ls hl => ?_)
          refine lv_iload_n hx hb dModel_check_74 rfl (lv_at hl 0 rfl) ?_
          refine lv_if_le (tgt := 85) hx hb dModel_check_75 (by decide) (fun c31 => ?_) (fun c31 => ?_)
          · refine lv_aload_n hx hb dModel_check_85 rfl (lv_at hl 1 rfl) ?_
            refine lv_aload_n hx hb dModel_check_86 rfl (lv_at hl 1 rfl) ?_
            refine md_gA S hC hM 5 (by decide) rfl qw_7e4081a75e dModel_check_87 ?_
            refine lv_iload_n hx hb dModel_check_90 rfl (lv_at hl 2 rfl) ?_
            refine md_ild S hC hM 5 3 4000 (τ 5) rfl rfl (by decide) rfl rfl (vin (by assumption) (by omega)) dModel_check_91 ?_
            refine lv_topi (fun v32 ev32 => ?_)
            refine lv_iload_n hx hb dModel_check_92 rfl (lv_at hl 2 rfl) ?_
            have hbg2 := bg_ok hTR hs0 hx1 ev32
            refine mu_Vv (rest := []) S hC (fun q h => hA q (Nat.le_trans hS.1 h)) (fun q h => h) hS (m_keep l γ a B Z κ b mn ν τ σr23 Fr23 nur23 hT v32 x1 hbg2.1 (x_int hx1) hZ hG (fun j h7 h8 h9 => hgtr23 (Int32.not_lt.mpr (by assumption)) j (by rw [hbg.2]; rw [hbg2.2] at h7; exact h7) h8 h9)) meModel_keep qw_8cce6d7b5c ⟨Nat.le_of_ble_eq_true rfl, Nat.le_of_ble_eq_true rfl⟩ (md_rv hC hM) hM rfl hl.1 rfl (Nat.le_of_ble_eq_true rfl) dModel_check_93 ⟨Nat.le_refl _, Nat.le_refl _⟩ (fun H locs hPO hS _ _ => ?_)
            obtain ⟨Fr33, nur33, hM, hZ, hG⟩ := hPO
            refine lv_iconst (v := 0) hx hb dModel_check_96 (by decide) ?_
            exact hE _ _ _ _ _ hS ⟨κ, _, ⟨rfl, rfl, rfl⟩, b, mn, ν, τ, σr23, Fr33, nur33, hT, hZ, hF, hG, rfl, hM⟩ dModel_check_97
          · refine lv_aload_n hx hb dModel_check_78 rfl (lv_at hl 1 rfl) ?_
            refine lv_iload_n hx hb dModel_check_79 rfl (lv_at hl 2 rfl) ?_
            refine lv_iload_n hx hb dModel_check_80 rfl (lv_at hl 0 rfl) ?_
            refine mu_Vi (rest := []) S hC (fun q h => hA q (Nat.le_trans hS.1 h)) (fun q h => h) hS (m_wrong l γ a B Z κ b mn ν τ σr23 Fr23 nur23 hT x1 t0_73 hF) meModel_wrong qw_a6e9824456 ⟨Nat.le_of_ble_eq_true rfl, Nat.le_of_ble_eq_true rfl⟩ (md_rv hC hM) hM rfl hl.1 rfl (Nat.le_of_ble_eq_true rfl) dModel_check_81 ⟨Nat.le_refl _, Nat.le_refl _⟩ (fun r34 H locs hPO hS _ _ => ?_)
            obtain ⟨σr34, hM, hF, h0r34⟩ := hPO
            exact hE _ _ _ _ _ hS ⟨κ, _, ⟨rfl, rfl, rfl⟩, b, mn, ν, τ, σr34, Fr23, nur23, hT, hZ, hF, hG, rfl, hM⟩ dModel_check_84
        refine lv_icmp_ne (tgt := 67) hx hb dModel_check_60 (by decide) (fun c35 => ?_) (fun c35 => ?_)
        · have hx2b := hx2.resolve_left (by assumption)
          refine lv_aload_n hx hb dModel_check_67 rfl (lv_at hl 1 rfl) ?_
          refine lv_iload_n hx hb dModel_check_68 rfl (lv_at hl 2 rfl) ?_
          refine lv_iload_n hx hb dModel_check_69 rfl (lv_at hl 3 rfl) ?_
          refine pu_Vi (rest := []) S hC (m_fits l γ a B Z κ b mn ν τ σr23 Fr23 nur23 hT x1 x2 (vin (by assumption) (by omega)) (vin hx2b (by omega))) meModel_fits qw_17a2ee8d21 ⟨Nat.le_of_ble_eq_true rfl, Nat.le_of_ble_eq_true rfl⟩ (md_rv hC hM) hM rfl hl.1 rfl (Nat.le_of_ble_eq_true rfl) dModel_check_70 ⟨Nat.zero_le _, Nat.zero_le _⟩ (fun r36 hr36 => ?_)
          exact J73 ls r36 (lv_sub hl [1, 2, 3, 0] rfl)
        · refine lv_iconst (v := 0) hx hb dModel_check_63 (by decide) ?_
          refine lv_goto (tgt := 73) hx hb dModel_check_64 (by decide) ?_
          exact J73 ls 0 (lv_sub hl [1, 2, 3, 0] rfl)
      · refine lv_iload_n hx hb dModel_check_55 rfl (lv_at hl 0 rfl) ?_
        refine lv_ineg hx hb dModel_check_56 ?_
        refine lv_topi (fun v37 ev37 => ?_)
        exact hE _ _ _ _ _ hS ⟨κ, _, ⟨rfl, rfl, rfl⟩, b, mn, ν, τ, σr23, Fr23, nur23, hT, hZ, hF, hG, rfl, hM⟩ dModel_check_57
    · refine lv_iconst (v := 0) hx hb dModel_check_37 (by decide) ?_
      exact hE _ _ _ _ _ hS ⟨κ, _, ⟨rfl, rfl, rfl⟩, b, mn, ν, τ, σ19, F, nu, hT, hZ, hF, hG, rfl, hM⟩ dModel_check_38
  have J22 : ∀ (ls : Array Slot), lv_has ls 4 [(0, .ref a), (1, .int x1), (2, .int x2)] → W p l e (bs_rm 7 0 0 177) s m args below meth c s.heap [] 0 0 Q (F0 m 22 ls [.ref a]) := by
    intro ls hl
    refine lv_iconst (v := 1) hx hb dModel_check_22 (by decide) ?_
    refine lv_goto (tgt := 27) hx hb dModel_check_23 (by decide) ?_
    exact J27 ls 1 (by first | exact Or.inl (by decide) | exact Or.inr ⟨rfl, h26⟩) (lv_sub hl [0, 1, 2] rfl)
  refine lv_if_ne (tgt := 22) hx hb dModel_check_6 (by decide) (fun c38 => ?_) (fun c38 => ?_)
  · exact J22 ls  (lv_sub hl [0, 1, 2] rfl)
  · refine lv_iload_n hx hb dModel_check_9 rfl (lv_at hl 2 rfl) ?_
    refine lv_iconst (v := (-1)) hx hb dModel_check_10 (by decide) ?_
    have J26 : ∀ (ls : Array Slot), (vp_in x1 (κ 0) ∧ (x2 = -1 ∨ vp_in x2 (κ 2))) → lv_has ls 4 [(0, .ref a), (1, .int x1), (2, .int x2)] → W p l e (bs_rm 7 0 0 177) s m args below meth c s.heap [] 0 0 Q (F0 m 26 ls [.ref a]) := by
      intro ls h26 hl
      refine lv_iconst (v := 0) hx hb dModel_check_26 (by decide) ?_
      exact J27 ls 0 (by first | exact Or.inl (by decide) | exact Or.inr ⟨rfl, h26⟩) (lv_sub hl [0, 1, 2] rfl)
    refine lv_icmp_eq (tgt := 26) hx hb dModel_check_11 (by decide) (fun c42 => ?_) (fun c42 => ?_)
    · exact J26 ls (by first | exact ⟨hr1 (by assumption), Or.inl (by assumption)⟩ | exact ⟨hr1 (by assumption), Or.inr (hr40 (by assumption))⟩) (lv_sub hl [0, 1, 2] rfl)
    · refine lv_aload_n hx hb dModel_check_14 rfl (lv_at hl 0 rfl) ?_
      refine lv_iload_n hx hb dModel_check_15 rfl (lv_at hl 2 rfl) ?_
      refine pu_Vi (rest := [.ref a]) S hC (m_noType l γ a B Z κ b mn ν τ σ F nu hT x2 ) meModel_noType qw_0ba745738d ⟨Nat.le_of_ble_eq_true rfl, Nat.le_of_ble_eq_true rfl⟩ (md_rv hC hM) hM rfl hl.1 rfl (Nat.le_of_ble_eq_true rfl) dModel_check_16 ⟨Nat.zero_le _, Nat.zero_le _⟩ (fun r43 hr43 => ?_)
      refine lv_if_eq (tgt := 26) hx hb dModel_check_19 (by decide) (fun c44 => ?_) (fun c44 => ?_)
      · exact J26 ls (by first | exact ⟨hr1 (by assumption), Or.inl (by assumption)⟩ | exact ⟨hr1 (by assumption), Or.inr (hr43 (by assumption))⟩) (lv_sub hl [0, 1, 2] rfl)
      · exact J22 ls  (lv_sub hl [0, 1, 2] rfl)
theorem qw_90495fa5dd : (Cond.methodLink R_Model 93 yModel_newType) ∈ bs_W0 := bs_in (in_tables_1_5 (List.mem_of_getElem? (i := 147) rfl)) rfl
theorem qw_e91042951e : (Cond.methodLink R_Model 275 yModel_constantFault) ∈ bs_W0 := bs_in (in_tables_1_6 (List.mem_of_getElem? (i := 199) rfl)) rfl
set_option maxHeartbeats 4000000 in
set_option maxRecDepth 100000 in
theorem m_type (l : Launch) (γ : gE) (a : Nat) (B : Nat → Nat) (Z : Nat → Prop) (κ b mn : Nat → Nat) (ν : Nat → Int32) (τ : Nat → Nat → Int32) (σ : Nat → Int32) (F : Nat → Nat → Int32) (nu : Nat → Int64) (hT : ST κ b mn ν τ) (x1 : Int32) (hZ : SZ F) (hF : FD σ) (hG : GD F nu) : MU l yModel_type bModel_type 13 (some .int) 7 177 0 0 [.ref a, .int x1] γ Z (MD γ a B Z ν τ σ F nu) (mQi (fun r H => ∃ (κ' : Nat → Nat) (cd : Int32), (κ' 5 = κ 5 ∧ κ' 0 = κ 0 ∧ κ' 1 = κ 1) ∧ MI γ a B Z κ' cd H) Z) := by
  refine mu_openI (by decide) (Nat.le_of_ble_eq_true rfl) ?_
  intro p e s m args below meth c ls Q S hnm hC hA hM hE hl
  have hS : va_S Z s.heap s.heap [] := va_S.rf
  obtain ⟨hx, hb, hml, hown, hW⟩ := id S
  obtain ⟨⟨hs0, hs1, hs2, hs3, hs4, hs5, hs6⟩, ⟨hv6, hv8, hv21, hv24, hv30, hv31⟩, hTR, hTY, hOB, hNM⟩ := id hT
  have hl : lv_has ls 13 [(0, .ref a), (1, .int x1)] := hl
  refine lv_aload_n hx hb dModel_type_0 rfl (lv_at hl 0 rfl) ?_
  refine lv_aload_n hx hb dModel_type_1 rfl (lv_at hl 0 rfl) ?_
  refine lv_iload_n hx hb dModel_type_2 rfl (lv_at hl 1 rfl) ?_
  refine pu_Vi (rest := [.ref a]) S hC (m_noNode l γ a B Z κ b mn ν τ σ F nu hT x1 ) meModel_noNode qw_c926675227 ⟨Nat.le_of_ble_eq_true rfl, Nat.le_of_ble_eq_true rfl⟩ (md_rv hC hM) hM rfl hl.1 rfl (Nat.le_of_ble_eq_true rfl) dModel_type_3 ⟨Nat.zero_le _, Nat.zero_le _⟩ (fun r1 hr1 => ?_)
  have J14 : ∀ (ls : Array Slot) (t0_14 : Int32), (0 < t0_14 ∨ (t0_14 = 0 ∧ vp_in x1 (κ 0))) → lv_has ls 13 [(0, .ref a), (1, .int x1)] → W p l e (bs_rm 7 0 0 177) s m args below meth c s.heap [] 0 0 Q (F0 m 14 ls [.int t0_14, .ref a]) := by
    intro ls t0_14 ht0_14 hl
    refine md_pD S hC hM hS 0 rfl (by decide) rfl qw_53e275eed6 rfl (by decide +kernel) dModel_type_14 (fun H locs hM hS => ?_)
    obtain ⟨σ84, eσ84⟩ : ∃ z : Nat → Int32, z = upd σ 0 t0_14 := ⟨_, rfl⟩
    rw [← eσ84] at hM
    have hF : FD σ84 := hF.up eσ84 (by decide) (by decide)
    refine lv_aload_n hx hb dModel_type_17 rfl (lv_at hl 0 rfl) ?_
    refine md_gI S hC hM 0 (v := σ84 0) rfl (by decide) rfl qw_53e275eed6 dModel_type_18 ?_
    refine lv_topi (fun v85 ev85 => ?_)
    refine lv_if_le (tgt := 26) hx hb dModel_type_21 (by decide) (fun c86 => ?_) (fun c86 => ?_)
    · have hx1 : vp_in x1 (κ 0) := cd_0 eσ84 ev85 (by assumption) ht0_14
      refine lv_aload_n hx hb dModel_type_26 rfl (lv_at hl 0 rfl) ?_
      refine md_gI S hC hM 1 (v := σ84 1) rfl (by decide) rfl qw_d4a57461ea dModel_type_27 ?_
      refine lv_topi (fun v87 ev87 => ?_)
      refine lv_istore_n (lv' := [(2, .int v87), (0, .ref a), (1, .int x1)]) hx hb dModel_type_30 rfl hl (by decide) rfl (fun ls hl => ?_)
      refine lv_aload_n hx hb dModel_type_31 rfl (lv_at hl 1 rfl) ?_
      refine lv_aload_n hx hb dModel_type_32 rfl (lv_at hl 1 rfl) ?_
      refine md_gA S hC hM 5 (by decide) rfl qw_7e4081a75e dModel_type_33 ?_
      refine lv_iload_n hx hb dModel_type_36 rfl (lv_at hl 2 rfl) ?_
      refine md_ild S hC hM 5 3 4000 (τ 5) rfl rfl (by decide) rfl rfl (vin (by assumption) (by omega)) dModel_type_37 ?_
      refine lv_topi (fun v88 ev88 => ?_)
      refine lv_iload_n hx hb dModel_type_38 rfl (lv_at hl 2 rfl) ?_
      refine lv_iconst (v := 1) hx hb dModel_type_39 (by decide) ?_
      refine lv_isub hx hb dModel_type_40 ?_
      refine lv_topi (fun v89 ev89 => ?_)
      have hbg := bg_ok hTR hs0 hx1 ev88
      have hpm := pm_int hx1 hs0 ev89
      refine mu_Vi (rest := []) S hC (fun q h => hA q (Nat.le_trans hS.1 h)) (fun q h => h) hS (m_goThrough l γ a B Z κ b mn ν τ σ84 F nu hT v88 v89 hbg.1 (by have := vix hx1; omega) (fun k h8 h9 => by rw [hbg.2] at h8 ⊢; exact rg_ge hTR (vix hx1) h8 (by omega)) hZ hF hG) meModel_goThrough qw_fb32874592 ⟨Nat.le_of_ble_eq_true rfl, Nat.le_of_ble_eq_true rfl⟩ (md_rv hC hM) hM rfl hl.1 rfl (Nat.le_of_ble_eq_true rfl) dModel_type_41 ⟨Nat.le_refl _, Nat.le_refl _⟩ (fun r90 H locs hPO hS _ _ => ?_)
      obtain ⟨σr90, Fr90, nur90, hM, hZ, hF, hG, hgtr90⟩ := hPO
      refine lv_istore_n (lv' := [(3, .int r90), (2, .int v87), (0, .ref a), (1, .int x1)]) hx hb dModel_type_44 rfl hl (by decide) rfl (fun ls hl => ?_)
      refine lv_iload_n hx hb dModel_type_45 rfl (lv_at hl 0 rfl) ?_
      refine lv_if_le (tgt := 52) hx hb dModel_type_46 (by decide) (fun c91 => ?_) (fun c91 => ?_)
      · refine lv_aload_n hx hb dModel_type_52 rfl (lv_at hl 2 rfl) ?_
        refine md_gA S hC hM 2 (by decide) rfl qw_3471296067 dModel_type_53 ?_
        refine lv_iload_n hx hb dModel_type_56 rfl (lv_at hl 3 rfl) ?_
        refine md_ild S hC hM 2 0 4000 (τ 2) rfl rfl (by decide) rfl rfl (vin (by assumption) (by omega)) dModel_type_57 ?_
        refine lv_topi (fun v92 ev92 => ?_)
        refine lv_istore (lv' := [(4, .int v92), (3, .int r90), (2, .int v87), (0, .ref a), (1, .int x1)]) hx hb dModel_type_58 hl (by decide) rfl (fun ls hl => ?_)
        refine lv_iload hx hb dModel_type_60 (lv_at hl 0 rfl) ?_
        refine lv_bipush (v := 10) hx hb dModel_type_62 (by decide) ?_
        refine lv_icmp_ne (tgt := 132) hx hb dModel_type_64 (by decide) (fun c93 => ?_) (fun c93 => ?_)
        · refine lv_iload hx hb dModel_type_132 (lv_at hl 0 rfl) ?_
          refine lv_bipush (v := 11) hx hb dModel_type_134 (by decide) ?_
          have J163 : ∀ (ls : Array Slot), lv_has ls 13 [(0, .ref a), (1, .int x1), (2, .int v87), (3, .int r90), (4, .int v92)] → W p l e (bs_rm 7 0 0 177) s m args below meth c H locs 0 0 Q (F0 m 163 ls []) := by
            intro ls hl
            refine lv_aload_n hx hb dModel_type_163 rfl (lv_at hl 0 rfl) ?_
            refine lv_iload_n hx hb dModel_type_164 rfl (lv_at hl 1 rfl) ?_
            refine lv_bipush (v := 11) hx hb dModel_type_165 (by decide) ?_
            refine mu_Vi (rest := []) S hC (fun q h => hA q (Nat.le_trans hS.1 h)) (fun q h => h) hS (m_wrong l γ a B Z κ b mn ν τ σr90 Fr90 nur90 hT x1 11 hF) meModel_wrong qw_a6e9824456 ⟨Nat.le_of_ble_eq_true rfl, Nat.le_of_ble_eq_true rfl⟩ (md_rv hC hM) hM rfl hl.1 rfl (Nat.le_of_ble_eq_true rfl) dModel_type_167 ⟨Nat.le_refl _, Nat.le_refl _⟩ (fun r152 H locs hPO hS _ _ => ?_)
            obtain ⟨σr152, hM, hF, h0r152⟩ := hPO
            exact hE _ _ _ _ _ hS ⟨κ, _, ⟨rfl, rfl, rfl⟩, b, mn, ν, τ, σr152, Fr90, nur90, hT, hZ, hF, hG, rfl, hM⟩ dModel_type_170
          have J153 : ∀ (ls : Array Slot), (v92 = 11 ∨ v92 = 12 ∨ v92 = 13) → lv_has ls 13 [(0, .ref a), (1, .int x1), (2, .int v87), (3, .int r90), (4, .int v92)] → W p l e (bs_rm 7 0 0 177) s m args below meth c H locs 0 0 Q (F0 m 153 ls []) := by
            intro ls h153 hl
            refine lv_aload_n hx hb dModel_type_153 rfl (lv_at hl 0 rfl) ?_
            refine md_gA S hC hM 4 (by decide) rfl qw_a8caa30de3 dModel_type_154 ?_
            refine lv_iload_n hx hb dModel_type_157 rfl (lv_at hl 1 rfl) ?_
            refine md_ild S hC hM 4 2 4000 (τ 4) rfl rfl (by decide) rfl rfl (vin (by assumption) (by omega)) dModel_type_158 ?_
            refine lv_topi (fun v153 ev153 => ?_)
            refine lv_iconst (v := 2) hx hb dModel_type_159 (by decide) ?_
            refine lv_icmp_eq (tgt := 171) hx hb dModel_type_160 (by decide) (fun c154 => ?_) (fun c154 => ?_)
            · have hm2 := mn_eq2 hTR hx1 ev153 (by assumption)
              refine lv_aload_n hx hb dModel_type_171 rfl (lv_at hl 0 rfl) ?_
              refine md_gA S hC hM 3 (by decide) rfl qw_9fb851a5fa dModel_type_172 ?_
              refine lv_iload_n hx hb dModel_type_175 rfl (lv_at hl 1 rfl) ?_
              refine md_ild S hC hM 3 1 4000 (τ 3) rfl rfl (by decide) rfl rfl (vin (by assumption) (by omega)) dModel_type_176 ?_
              refine lv_topi (fun v155 ev155 => ?_)
              refine lv_iload hx hb dModel_type_177 (lv_at hl 4 rfl) ?_
              refine lv_bipush (v := 11) hx hb dModel_type_179 (by decide) ?_
              have J189 : ∀ (ls : Array Slot) (t0_189 : Int32), lv_has ls 13 [(0, .ref a), (1, .int x1), (2, .int v87), (3, .int r90), (4, .int v92)] → W p l e (bs_rm 7 0 0 177) s m args below meth c H locs 0 0 Q (F0 m 189 ls [.int t0_189, .int v155]) := by
                intro ls t0_189 hl
                refine lv_icmp_eq (tgt := 199) hx hb dModel_type_189 (by decide) (fun c207 => ?_) (fun c207 => ?_)
                · refine lv_aload_n hx hb dModel_type_199 rfl (lv_at hl 0 rfl) ?_
                  refine lv_iload_n hx hb dModel_type_200 rfl (lv_at hl 1 rfl) ?_
                  refine lv_iconst (v := 1) hx hb dModel_type_201 (by decide) ?_
                  have hpr208 : vp_in x1 (κ 0) := (vin (by assumption) (by omega))
                  have hjr208 : vp_in 1 (mn x1.toNatClampNeg) := (vp1 (by omega) (by omega))
                  refine pu_Vi (rest := []) S hC (m_child l γ a B Z κ b mn ν τ σr90 Fr90 nur90 hT x1 1 hpr208 hjr208) meModel_child qw_a66d450e0a ⟨Nat.le_of_ble_eq_true rfl, Nat.le_of_ble_eq_true rfl⟩ (md_rv hC hM) hM rfl hl.1 rfl (Nat.le_of_ble_eq_true rfl) dModel_type_202 ⟨Nat.zero_le _, Nat.zero_le _⟩ (fun r208 hr208 => ?_)
                  obtain ⟨hir208, hltr208, hxr208⟩ := ch_in hTR hs0 hpr208 hjr208 hr208
                  refine lv_istore (lv' := [(5, .int r208), (0, .ref a), (1, .int x1), (2, .int v87), (3, .int r90), (4, .int v92)]) hx hb dModel_type_205 hl (by decide) rfl (fun ls hl => ?_)
                  refine lv_aload_n hx hb dModel_type_207 rfl (lv_at hl 1 rfl) ?_
                  refine lv_iload_n hx hb dModel_type_208 rfl (lv_at hl 2 rfl) ?_
                  refine lv_iconst (v := 0) hx hb dModel_type_209 (by decide) ?_
                  have hpr209 : vp_in x1 (κ 0) := (vin (by assumption) (by omega))
                  have hjr209 : vp_in 0 (mn x1.toNatClampNeg) := (vp0 (by omega) (by omega))
                  refine pu_Vi (rest := []) S hC (m_child l γ a B Z κ b mn ν τ σr90 Fr90 nur90 hT x1 0 hpr209 hjr209) meModel_child qw_a66d450e0a ⟨Nat.le_of_ble_eq_true rfl, Nat.le_of_ble_eq_true rfl⟩ (md_rv hC hM) hM rfl hl.1 rfl (Nat.le_of_ble_eq_true rfl) dModel_type_210 ⟨Nat.zero_le _, Nat.zero_le _⟩ (fun r209 hr209 => ?_)
                  obtain ⟨hir209, hltr209, hxr209⟩ := ch_in hTR hs0 hpr209 hjr209 hr209
                  refine lv_istore (lv' := [(6, .int r209), (5, .int r208), (0, .ref a), (1, .int x1), (2, .int v87), (3, .int r90), (4, .int v92)]) hx hb dModel_type_213 hl (by decide) rfl (fun ls hl => ?_)
                  refine lv_aload_n hx hb dModel_type_215 rfl (lv_at hl 2 rfl) ?_
                  refine md_gA S hC hM 9 (by decide) rfl qw_a119aeeca0 dModel_type_216 ?_
                  refine lv_iload hx hb dModel_type_219 (lv_at hl 1 rfl) ?_
                  refine md_ild S hC hM 9 5 10000 (Fr90 9) rfl rfl (by decide) rfl rfl (vin (by assumption) (by omega)) dModel_type_221 ?_
                  refine lv_topi (fun v210 ev210 => ?_)
                  refine lv_iconst (v := 2) hx hb dModel_type_222 (by decide) ?_
                  have J237 : ∀ (ls : Array Slot), lv_has ls 13 [(0, .ref a), (1, .int x1), (2, .int v87), (3, .int r90), (4, .int v92), (5, .int r208), (6, .int r209)] → W p l e (bs_rm 7 0 0 177) s m args below meth c H locs 0 0 Q (F0 m 237 ls []) := by
                    intro ls hl
                    refine lv_aload_n hx hb dModel_type_237 rfl (lv_at hl 0 rfl) ?_
                    refine lv_iload_n hx hb dModel_type_238 rfl (lv_at hl 1 rfl) ?_
                    refine lv_iconst (v := 3) hx hb dModel_type_239 (by decide) ?_
                    refine mu_Vi (rest := []) S hC (fun q h => hA q (Nat.le_trans hS.1 h)) (fun q h => h) hS (m_wrong l γ a B Z κ b mn ν τ σr90 Fr90 nur90 hT x1 3 hF) meModel_wrong qw_a6e9824456 ⟨Nat.le_of_ble_eq_true rfl, Nat.le_of_ble_eq_true rfl⟩ (md_rv hC hM) hM rfl hl.1 rfl (Nat.le_of_ble_eq_true rfl) dModel_type_240 ⟨Nat.le_refl _, Nat.le_refl _⟩ (fun r256 H locs hPO hS _ _ => ?_)
                    obtain ⟨σr256, hM, hF, h0r256⟩ := hPO
                    exact hE _ _ _ _ _ hS ⟨κ, _, ⟨rfl, rfl, rfl⟩, b, mn, ν, τ, σr256, Fr90, nur90, hT, hZ, hF, hG, rfl, hM⟩ dModel_type_243
                  refine lv_icmp_ne (tgt := 237) hx hb dModel_type_223 (by decide) (fun c257 => ?_) (fun c257 => ?_)
                  · exact J237 ls  (lv_sub hl [2, 3, 4, 5, 6, 1, 0] rfl)
                  · refine lv_aload_n hx hb dModel_type_226 rfl (lv_at hl 2 rfl) ?_
                    refine md_gA S hC hM 9 (by decide) rfl qw_a119aeeca0 dModel_type_227 ?_
                    refine lv_iload hx hb dModel_type_230 (lv_at hl 0 rfl) ?_
                    refine md_ild S hC hM 9 5 10000 (Fr90 9) rfl rfl (by decide) rfl rfl (vin (by assumption) (by omega)) dModel_type_232 ?_
                    refine lv_topi (fun v258 ev258 => ?_)
                    refine lv_iconst (v := 2) hx hb dModel_type_233 (by decide) ?_
                    refine lv_icmp_eq (tgt := 244) hx hb dModel_type_234 (by decide) (fun c259 => ?_) (fun c259 => ?_)
                    · refine lv_aload_n hx hb dModel_type_244 rfl (lv_at hl 2 rfl) ?_
                      refine md_gA S hC hM 11 (by decide) rfl qw_88b9028ba7 dModel_type_245 ?_
                      refine lv_iload hx hb dModel_type_248 (lv_at hl 1 rfl) ?_
                      refine md_zld S hC hM 11 7 10000 (Fr90 11) rfl rfl (by decide) rfl rfl (vin (by assumption) (by omega)) dModel_type_250 ?_
                      refine lv_topi (fun v260 ev260 => ?_)
                      have J264 : ∀ (ls : Array Slot), lv_has ls 13 [(0, .ref a), (1, .int x1), (2, .int v87), (3, .int r90), (4, .int v92), (5, .int r208), (6, .int r209)] → W p l e (bs_rm 7 0 0 177) s m args below meth c H locs 0 0 Q (F0 m 264 ls []) := by
                        intro ls hl
                        refine lv_aload_n hx hb dModel_type_264 rfl (lv_at hl 0 rfl) ?_
                        refine lv_iload_n hx hb dModel_type_265 rfl (lv_at hl 1 rfl) ?_
                        refine mu_Vi (rest := []) S hC (fun q h => hA q (Nat.le_trans hS.1 h)) (fun q h => h) hS (m_constantFault l γ a B Z κ b mn ν τ σr90 Fr90 nur90 hT x1 hF) meModel_constantFault qw_e91042951e ⟨Nat.le_of_ble_eq_true rfl, Nat.le_of_ble_eq_true rfl⟩ (md_rv hC hM) hM rfl hl.1 rfl (Nat.le_of_ble_eq_true rfl) dModel_type_266 ⟨Nat.le_refl _, Nat.le_refl _⟩ (fun r301 H locs hPO hS _ _ => ?_)
                        obtain ⟨σr301, hM, hF, h0r301⟩ := hPO
                        exact hE _ _ _ _ _ hS ⟨κ, _, ⟨rfl, rfl, rfl⟩, b, mn, ν, τ, σr301, Fr90, nur90, hT, hZ, hF, hG, rfl, hM⟩ dModel_type_269
                      refine lv_if_eq (tgt := 264) hx hb dModel_type_251 (by decide) (fun c302 => ?_) (fun c302 => ?_)
                      · exact J264 ls  (lv_sub hl [2, 3, 4, 5, 6, 1, 0] rfl)
                      · refine lv_aload_n hx hb dModel_type_254 rfl (lv_at hl 2 rfl) ?_
                        refine md_gA S hC hM 11 (by decide) rfl qw_88b9028ba7 dModel_type_255 ?_
                        refine lv_iload hx hb dModel_type_258 (lv_at hl 0 rfl) ?_
                        refine md_zld S hC hM 11 7 10000 (Fr90 11) rfl rfl (by decide) rfl rfl (vin (by assumption) (by omega)) dModel_type_260 ?_
                        refine lv_topi (fun v303 ev303 => ?_)
                        refine lv_if_ne (tgt := 270) hx hb dModel_type_261 (by decide) (fun c304 => ?_) (fun c304 => ?_)
                        · have hba := ty_gk hTR hs0 hx1 hbg.2 hpm (hgtr90 (Int32.not_lt.mpr (by assumption))) hjr208 hxr208 (ev210.symm.trans (by assumption))
                          have hbb := ty_gk hTR hs0 hx1 hbg.2 hpm (hgtr90 (Int32.not_lt.mpr (by assumption))) hjr209 hxr209 (ev258.symm.trans (by assumption))
                          refine lv_aload_n hx hb dModel_type_270 rfl (lv_at hl 2 rfl) ?_
                          refine md_gA S hC hM 13 (by decide) rfl qw_7b809afc8c dModel_type_271 ?_
                          refine lv_iload hx hb dModel_type_274 (lv_at hl 1 rfl) ?_
                          refine md_lld S hC hM (vin (by assumption) (by omega)) dModel_type_276 ?_
                          refine lv_topl (fun v305 ev305 => ?_)
                          have ev305 : v305 = nur90 r208.toNatClampNeg := ev305
                          refine lv_lstore (lv' := [(7, .long v305), (6, .int r209), (5, .int r208), (0, .ref a), (1, .int x1), (2, .int v87), (3, .int r90), (4, .int v92)]) hx hb dModel_type_277 hl (by decide) rfl (fun ls hl => ?_)
                          refine lv_aload_n hx hb dModel_type_279 rfl (lv_at hl 3 rfl) ?_
                          refine md_gA S hC hM 13 (by decide) rfl qw_7b809afc8c dModel_type_280 ?_
                          refine lv_iload hx hb dModel_type_283 (lv_at hl 1 rfl) ?_
                          refine md_lld S hC hM (vin (by assumption) (by omega)) dModel_type_285 ?_
                          refine lv_topl (fun v306 ev306 => ?_)
                          have ev306 : v306 = nur90 r209.toNatClampNeg := ev306
                          refine lv_lstore (lv' := [(9, .long v306), (7, .long v305), (6, .int r209), (5, .int r208), (0, .ref a), (1, .int x1), (2, .int v87), (3, .int r90), (4, .int v92)]) hx hb dModel_type_286 hl (by decide) rfl (fun ls hl => ?_)
                          rw [← ev305] at hba
                          rw [← ev306] at hbb
                          refine lv_iload hx hb dModel_type_288 (lv_at hl 8 rfl) ?_
                          refine lv_bipush (v := 11) hx hb dModel_type_290 (by decide) ?_
                          have J311 : ∀ (ls : Array Slot), lv_has ls 13 [(0, .ref a), (1, .int x1), (2, .int v87), (3, .int r90), (4, .int v92), (5, .int r208), (6, .int r209), (7, .long v305), (9, .long v306)] → W p l e (bs_rm 7 0 0 177) s m args below meth c H locs 0 0 Q (F0 m 311 ls []) := by
                            intro ls hl
                            refine lv_iload hx hb dModel_type_311 (lv_at hl 4 rfl) ?_
                            refine lv_bipush (v := 12) hx hb dModel_type_313 (by decide) ?_
                            have J346 : ∀ (ls : Array Slot) (t0_346 : Int64), ((v92 = 12 ∧ t0_346 = v306 - v305 + 1) ∨ (v92 = 13 ∧ t0_346 = v305 - v306 + 1) ∨ (¬ v92 = 12 ∧ ¬ v92 = 13)) → lv_has ls 13 [(0, .ref a), (1, .int x1), (2, .int v87), (3, .int r90), (4, .int v92), (5, .int r208), (6, .int r209), (7, .long v305), (9, .long v306)] → W p l e (bs_rm 7 0 0 177) s m args below meth c H locs 0 0 Q (F0 m 346 ls [.long t0_346]) := by
                              intro ls t0_346 ht0_346 hl
                              refine lv_lstore (lv' := [(11, .long t0_346), (0, .ref a), (1, .int x1), (2, .int v87), (3, .int r90), (4, .int v92), (5, .int r208), (6, .int r209), (7, .long v305), (9, .long v306)]) hx hb dModel_type_346 hl (by decide) rfl (fun ls hl => ?_)
                              refine lv_lload hx hb dModel_type_348 (lv_at hl 0 rfl) ?_
                              refine lv_ldc2 (v := 64) hx hb hown (hW _ qw_3f44df6941) dModel_type_350 ?_
                              refine W.lcmp hx hb dModel_type_353 ?_
                              refine lv_topi (fun v371 ev371 => ?_)
                              refine lv_if_le (tgt := 364) hx hb dModel_type_354 (by decide) (fun c372 => ?_) (fun c372 => ?_)
                              · have h64 : t0_346.toInt ≤ 64 := c_le64 ev371 (by assumption)
                                refine lv_iload hx hb dModel_type_364 (lv_at hl 5 rfl) ?_
                                refine lv_bipush (v := 11) hx hb dModel_type_366 (by decide) ?_
                                have J400 : ∀ (ls : Array Slot), (v92 ≤ 11 ∨ (1 ≤ t0_346.toInt ∧ 0 ≤ v305.toInt ∧ 0 ≤ v306.toInt)) → lv_has ls 13 [(0, .ref a), (1, .int x1), (2, .int v87), (3, .int r90), (4, .int v92), (5, .int r208), (6, .int r209), (7, .long v305), (9, .long v306), (11, .long t0_346)] → W p l e (bs_rm 7 0 0 177) s m args below meth c H locs 0 0 Q (F0 m 400 ls []) := by
                                  intro ls h400 hl
                                  refine lv_aload_n hx hb dModel_type_400 rfl (lv_at hl 0 rfl) ?_
                                  refine md_gI S hC hM 21 (v := nI (κ 2)) hv21 (by decide) rfl qw_c82bee9e97 dModel_type_401 ?_
                                  refine lv_topi (fun v394 ev394 => ?_)
                                  refine lv_sipush (v := 1000) hx hb dModel_type_404 (by decide) ?_
                                  refine lv_icmp_ne (tgt := 422) hx hb dModel_type_407 (by decide) (fun c395 => ?_) (fun c395 => ?_)
                                  · have hN2 : κ 2 < 1000 := ne_lt ev394 (by assumption) rfl hs2
                                    refine lv_aload_n hx hb dModel_type_422 rfl (lv_at hl 0 rfl) ?_
                                    refine lv_aload_n hx hb dModel_type_423 rfl (lv_at hl 0 rfl) ?_
                                    refine md_gA S hC hM 5 (by decide) rfl qw_7e4081a75e dModel_type_424 ?_
                                    refine lv_iload_n hx hb dModel_type_427 rfl (lv_at hl 1 rfl) ?_
                                    refine md_ild S hC hM 5 3 4000 (τ 5) rfl rfl (by decide) rfl rfl (vin (by assumption) (by omega)) dModel_type_428 ?_
                                    refine lv_topi (fun v396 ev396 => ?_)
                                    refine lv_iload_n hx hb dModel_type_429 rfl (lv_at hl 1 rfl) ?_
                                    refine lv_iconst (v := 1) hx hb dModel_type_430 (by decide) ?_
                                    refine lv_isub hx hb dModel_type_431 ?_
                                    refine lv_topi (fun v397 ev397 => ?_)
                                    have hbg2 := bg_ok hTR hs0 hx1 ev396
                                    have hpw : v89 = v397 := ev89.trans ev397.symm
                                    have hpm2 := pm_int hx1 hs0 ev397
                                    refine mu_Vv (rest := []) S hC (fun q h => hA q (Nat.le_trans hS.1 h)) (fun q h => h) hS (m_keep l γ a B Z κ b mn ν τ σr90 Fr90 nur90 hT v396 v397 hbg2.1 (by have := vix hx1; omega) hZ hG (fun j h7 h8 h9 => hgtr90 (Int32.not_lt.mpr (by assumption)) j (by rw [hbg.2]; rw [hbg2.2] at h7; exact h7) (by rw [hpw]; exact h8) (by rw [hpw]; exact h9))) meModel_keep qw_8cce6d7b5c ⟨Nat.le_of_ble_eq_true rfl, Nat.le_of_ble_eq_true rfl⟩ (md_rv hC hM) hM rfl hl.1 rfl (Nat.le_of_ble_eq_true rfl) dModel_type_432 ⟨Nat.le_refl _, Nat.le_refl _⟩ (fun H locs hPO hS _ _ => ?_)
                                    obtain ⟨Fr398, nur398, hM, hZ, hG⟩ := hPO
                                    refine lv_aload_n hx hb dModel_type_435 rfl (lv_at hl 0 rfl) ?_
                                    refine lv_iload hx hb dModel_type_436 (lv_at hl 4 rfl) ?_
                                    refine lv_bipush (v := 11) hx hb dModel_type_438 (by decide) ?_
                                    have J448 : ∀ (ls : Array Slot) (t0_448 : Int32), ((t0_448 = 2 ∧ v92 = 11) ∨ (t0_448 = 3 ∧ ¬ v92 = 11)) → lv_has ls 13 [(0, .ref a), (1, .int x1), (2, .int v87), (3, .int r90), (4, .int v92), (5, .int r208), (6, .int r209), (7, .long v305), (9, .long v306), (11, .long t0_346)] → W p l e (bs_rm 7 0 0 177) s m args below meth c H locs 0 0 Q (F0 m 448 ls [.int t0_448, .ref a]) := by
                                      intro ls t0_448 ht0_448 hl
                                      refine lv_lload hx hb dModel_type_448 (lv_at hl 7 rfl) ?_
                                      refine lv_l2i hx hb dModel_type_450 rfl ?_
                                      refine lv_topi (fun v405 ev405 => ?_)
                                      refine lv_lload hx hb dModel_type_451 (lv_at hl 8 rfl) ?_
                                      refine lv_l2i hx hb dModel_type_453 rfl ?_
                                      refine lv_topi (fun v406 ev406 => ?_)
                                      refine lv_lload hx hb dModel_type_454 (lv_at hl 9 rfl) ?_
                                      refine lv_l2i hx hb dModel_type_456 rfl ?_
                                      refine lv_topi (fun v407 ev407 => ?_)
                                      refine lv_iload hx hb dModel_type_457 (lv_at hl 4 rfl) ?_
                                      refine lv_bipush (v := 13) hx hb dModel_type_459 (by decide) ?_
                                      have J469 : ∀ (ls : Array Slot) (t0_469 : Int32), ((t0_469 = 1 ∧ v92 = 13) ∨ (t0_469 = 0 ∧ ¬ v92 = 13)) → lv_has ls 13 [(0, .ref a), (1, .int x1), (2, .int v87), (3, .int r90), (4, .int v92), (5, .int r208), (6, .int r209), (7, .long v305), (9, .long v306), (11, .long t0_346)] → W p l e (bs_rm 7 0 0 177) s m args below meth c H locs 0 0 Q (F0 m 469 ls [.int t0_469, .int v407, .int v406, .int v405, .int t0_448, .ref a]) := by
                                        intro ls t0_469 ht0_469 hl
                                        refine mu_Vi (rest := []) S hC (fun q h => hA q (Nat.le_trans hS.1 h)) (fun q h => h) hS (m_newType l γ a B Z κ b mn ν τ σr90 Fr398 nur398 hT t0_448 v405 v406 v407 t0_469 (by omega) (ty_row ht0_448 ht0_469 h153 ht0_346 h64 h400 hba hbb ev405 ev406 ev407)) meModel_newType qw_90495fa5dd ⟨Nat.le_of_ble_eq_true rfl, Nat.le_of_ble_eq_true rfl⟩ (md_rv hC hM) hM rfl hl.1 rfl (Nat.le_of_ble_eq_true rfl) dModel_type_469 ⟨Nat.le_refl _, Nat.le_refl _⟩ (fun r410 H locs hPO hS _ _ => ?_)
                                        obtain ⟨hrr410, ν_r410, τ_r410, hM, hT_r410⟩ := hPO
                                        obtain ⟨κ_r410, hκ_r410⟩ : ∃ z : Nat → Nat, z = ku κ 2 (κ 2 + 1) := ⟨_, rfl⟩
                                        rw [← hκ_r410] at hT_r410
                                        obtain ⟨⟨hs0_r410, hs1_r410, hs2_r410, hs3_r410, hs4_r410, hs5_r410, hs6_r410⟩, ⟨hv6_r410, hv8_r410, hv21_r410, hv24_r410, hv30_r410, hv31_r410⟩, hTR_r410, hTY_r410, hOB_r410, hNM_r410⟩ := id hT_r410
                                        exact hE _ _ _ _ _ hS ⟨κ_r410, _, (by rw [hκ_r410]; exact ⟨rfl, rfl, rfl⟩), b, mn, ν_r410, τ_r410, σr90, Fr398, nur398, hT_r410, hZ, hF, hG, rfl, hM⟩ dModel_type_472
                                      refine lv_icmp_ne (tgt := 468) hx hb dModel_type_461 (by decide) (fun c411 => ?_) (fun c411 => ?_)
                                      · refine lv_iconst (v := 0) hx hb dModel_type_468 (by decide) ?_
                                        exact J469 ls 0 (by first | exact Or.inl ⟨rfl, by assumption⟩ | exact Or.inr ⟨rfl, by assumption⟩) (lv_sub hl [0, 1, 2, 3, 4, 5, 6, 7, 8, 9] rfl)
                                      · refine lv_iconst (v := 1) hx hb dModel_type_464 (by decide) ?_
                                        refine lv_goto (tgt := 469) hx hb dModel_type_465 (by decide) ?_
                                        exact J469 ls 1 (by first | exact Or.inl ⟨rfl, by assumption⟩ | exact Or.inr ⟨rfl, by assumption⟩) (lv_sub hl [0, 1, 2, 3, 4, 5, 6, 7, 8, 9] rfl)
                                    refine lv_icmp_ne (tgt := 447) hx hb dModel_type_440 (by decide) (fun c412 => ?_) (fun c412 => ?_)
                                    · refine lv_iconst (v := 3) hx hb dModel_type_447 (by decide) ?_
                                      exact J448 ls 3 (by first | exact Or.inl ⟨rfl, by assumption⟩ | exact Or.inr ⟨rfl, by assumption⟩) (lv_sub hl [0, 1, 2, 3, 4, 5, 6, 7, 8, 9] rfl)
                                    · refine lv_iconst (v := 2) hx hb dModel_type_443 (by decide) ?_
                                      refine lv_goto (tgt := 448) hx hb dModel_type_444 (by decide) ?_
                                      exact J448 ls 2 (by first | exact Or.inl ⟨rfl, by assumption⟩ | exact Or.inr ⟨rfl, by assumption⟩) (lv_sub hl [0, 1, 2, 3, 4, 5, 6, 7, 8, 9] rfl)
                                  · refine lv_aload_n hx hb dModel_type_410 rfl (lv_at hl 0 rfl) ?_
                                    refine lv_iconst (v := 2) hx hb dModel_type_411 (by decide) ?_
                                    refine md_pD S hC hM hS 0 rfl (by decide) rfl qw_53e275eed6 rfl (by decide +kernel) dModel_type_412 (fun H locs hM hS => ?_)
                                    obtain ⟨σ413, eσ413⟩ : ∃ z : Nat → Int32, z = upd σr90 0 2 := ⟨_, rfl⟩
                                    rw [← eσ413] at hM
                                    have hF : FD σ413 := hF.up eσ413 (by decide) (by decide)
                                    refine lv_aload_n hx hb dModel_type_415 rfl (lv_at hl 0 rfl) ?_
                                    refine lv_iload_n hx hb dModel_type_416 rfl (lv_at hl 2 rfl) ?_
                                    refine md_pD S hC hM hS 1 rfl (by decide) rfl qw_d4a57461ea rfl (by decide +kernel) dModel_type_417 (fun H locs hM hS => ?_)
                                    obtain ⟨σ414, eσ414⟩ : ∃ z : Nat → Int32, z = upd σ413 1 v87 := ⟨_, rfl⟩
                                    rw [← eσ414] at hM
                                    have hF : FD σ414 := hF.up eσ414 (by decide) (by decide)
                                    refine lv_iconst (v := 0) hx hb dModel_type_420 (by decide) ?_
                                    exact hE _ _ _ _ _ hS ⟨κ, _, ⟨rfl, rfl, rfl⟩, b, mn, ν, τ, σ414, Fr90, nur90, hT, hZ, hF, hG, rfl, hM⟩ dModel_type_421
                                refine lv_icmp_le (tgt := 400) hx hb dModel_type_368 (by decide) (fun c415 => ?_) (fun c415 => ?_)
                                · exact J400 ls (by first | exact Or.inl (by assumption) | exact Or.inr ⟨c_ge1 ev374 (by assumption), c_ge0 ev376 (by assumption), c_ge0 ev378 (Int32.not_lt.mpr (by assumption))⟩) (lv_sub hl [1, 2, 3, 4, 5, 6, 7, 8, 9, 0] rfl)
                                · refine lv_lload hx hb dModel_type_371 (lv_at hl 0 rfl) ?_
                                  refine lv_lconst (v := 1) hx hb dModel_type_373 (by decide) ?_
                                  refine W.lcmp hx hb dModel_type_374 ?_
                                  refine lv_topi (fun v416 ev416 => ?_)
                                  have J392 : ∀ (ls : Array Slot), lv_has ls 13 [(0, .ref a), (1, .int x1), (2, .int v87), (3, .int r90), (4, .int v92), (5, .int r208), (6, .int r209), (7, .long v305), (9, .long v306), (11, .long t0_346)] → W p l e (bs_rm 7 0 0 177) s m args below meth c H locs 0 0 Q (F0 m 392 ls []) := by
                                    intro ls hl
                                    refine lv_aload_n hx hb dModel_type_392 rfl (lv_at hl 0 rfl) ?_
                                    refine lv_iload_n hx hb dModel_type_393 rfl (lv_at hl 1 rfl) ?_
                                    refine lv_bipush (v := 6) hx hb dModel_type_394 (by decide) ?_
                                    refine mu_Vi (rest := []) S hC (fun q h => hA q (Nat.le_trans hS.1 h)) (fun q h => h) hS (m_wrong l γ a B Z κ b mn ν τ σr90 Fr90 nur90 hT x1 6 hF) meModel_wrong qw_a6e9824456 ⟨Nat.le_of_ble_eq_true rfl, Nat.le_of_ble_eq_true rfl⟩ (md_rv hC hM) hM rfl hl.1 rfl (Nat.le_of_ble_eq_true rfl) dModel_type_396 ⟨Nat.le_refl _, Nat.le_refl _⟩ (fun r423 H locs hPO hS _ _ => ?_)
                                    obtain ⟨σr423, hM, hF, h0r423⟩ := hPO
                                    exact hE _ _ _ _ _ hS ⟨κ, _, ⟨rfl, rfl, rfl⟩, b, mn, ν, τ, σr423, Fr90, nur90, hT, hZ, hF, hG, rfl, hM⟩ dModel_type_399
                                  refine lv_if_lt (tgt := 392) hx hb dModel_type_375 (by decide) (fun c424 => ?_) (fun c424 => ?_)
                                  · exact J392 ls  (lv_sub hl [1, 2, 3, 4, 5, 6, 7, 8, 9, 0] rfl)
                                  · refine lv_lload hx hb dModel_type_378 (lv_at hl 8 rfl) ?_
                                    refine lv_lconst (v := 0) hx hb dModel_type_380 (by decide) ?_
                                    refine W.lcmp hx hb dModel_type_381 ?_
                                    refine lv_topi (fun v425 ev425 => ?_)
                                    refine lv_if_lt (tgt := 392) hx hb dModel_type_382 (by decide) (fun c426 => ?_) (fun c426 => ?_)
                                    · exact J392 ls  (lv_sub hl [1, 2, 3, 4, 5, 6, 7, 8, 9, 0] rfl)
                                    · refine lv_lload hx hb dModel_type_385 (lv_at hl 9 rfl) ?_
                                      refine lv_lconst (v := 0) hx hb dModel_type_387 (by decide) ?_
                                      refine W.lcmp hx hb dModel_type_388 ?_
                                      refine lv_topi (fun v427 ev427 => ?_)
                                      refine lv_if_ge (tgt := 400) hx hb dModel_type_389 (by decide) (fun c428 => ?_) (fun c428 => ?_)
                                      · exact J400 ls (by first | exact Or.inl (by assumption) | exact Or.inr ⟨c_ge1 ev416 (by assumption), c_ge0 ev425 (by assumption), c_ge0 ev427 (Int32.not_lt.mpr (by assumption))⟩) (lv_sub hl [1, 2, 3, 4, 5, 6, 7, 8, 9, 0] rfl)
                                      · exact J392 ls  (lv_sub hl [1, 2, 3, 4, 5, 6, 7, 8, 9, 0] rfl)
                              · refine lv_aload_n hx hb dModel_type_357 rfl (lv_at hl 1 rfl) ?_
                                refine lv_iload_n hx hb dModel_type_358 rfl (lv_at hl 2 rfl) ?_
                                refine lv_iconst (v := 4) hx hb dModel_type_359 (by decide) ?_
                                refine mu_Vi (rest := []) S hC (fun q h => hA q (Nat.le_trans hS.1 h)) (fun q h => h) hS (m_wrong l γ a B Z κ b mn ν τ σr90 Fr90 nur90 hT x1 4 hF) meModel_wrong qw_a6e9824456 ⟨Nat.le_of_ble_eq_true rfl, Nat.le_of_ble_eq_true rfl⟩ (md_rv hC hM) hM rfl hl.1 rfl (Nat.le_of_ble_eq_true rfl) dModel_type_360 ⟨Nat.le_refl _, Nat.le_refl _⟩ (fun r429 H locs hPO hS _ _ => ?_)
                                obtain ⟨σr429, hM, hF, h0r429⟩ := hPO
                                exact hE _ _ _ _ _ hS ⟨κ, _, ⟨rfl, rfl, rfl⟩, b, mn, ν, τ, σr429, Fr90, nur90, hT, hZ, hF, hG, rfl, hM⟩ dModel_type_363
                            refine lv_icmp_ne (tgt := 328) hx hb dModel_type_315 (by decide) (fun c430 => ?_) (fun c430 => ?_)
                            · refine lv_iload hx hb dModel_type_328 (lv_at hl 4 rfl) ?_
                              refine lv_bipush (v := 13) hx hb dModel_type_330 (by decide) ?_
                              refine lv_icmp_ne (tgt := 345) hx hb dModel_type_332 (by decide) (fun c431 => ?_) (fun c431 => ?_)
                              · refine lv_lconst (v := 0) hx hb dModel_type_345 (by decide) ?_
                                exact J346 ls 0 (by first | exact Or.inl ⟨by assumption, by rw [e0, ev345]⟩ | exact Or.inr (Or.inl ⟨by assumption, by rw [e0, ev345]⟩) | exact Or.inr (Or.inr ⟨by assumption, by assumption⟩)) (lv_sub hl [0, 1, 2, 3, 4, 5, 6, 7, 8] rfl)
                              · refine lv_lload hx hb dModel_type_335 (lv_at hl 7 rfl) ?_
                                refine lv_lload hx hb dModel_type_337 (lv_at hl 8 rfl) ?_
                                refine lv_lsub hx hb dModel_type_339 ?_
                                refine lv_topl (fun v432 ev432 => ?_)
                                refine lv_lconst (v := 1) hx hb dModel_type_340 (by decide) ?_
                                refine lv_ladd hx hb dModel_type_341 ?_
                                refine lv_topl (fun v433 ev433 => ?_)
                                refine lv_goto (tgt := 346) hx hb dModel_type_342 (by decide) ?_
                                exact J346 ls v433 (by first | exact Or.inl ⟨by assumption, by rw [ev433, ev432]⟩ | exact Or.inr (Or.inl ⟨by assumption, by rw [ev433, ev432]⟩) | exact Or.inr (Or.inr ⟨by assumption, by assumption⟩)) (lv_sub hl [0, 1, 2, 3, 4, 5, 6, 7, 8] rfl)
                            · refine lv_lload hx hb dModel_type_318 (lv_at hl 8 rfl) ?_
                              refine lv_lload hx hb dModel_type_320 (lv_at hl 7 rfl) ?_
                              refine lv_lsub hx hb dModel_type_322 ?_
                              refine lv_topl (fun v434 ev434 => ?_)
                              refine lv_lconst (v := 1) hx hb dModel_type_323 (by decide) ?_
                              refine lv_ladd hx hb dModel_type_324 ?_
                              refine lv_topl (fun v435 ev435 => ?_)
                              refine lv_goto (tgt := 346) hx hb dModel_type_325 (by decide) ?_
                              exact J346 ls v435 (by first | exact Or.inl ⟨by assumption, by rw [ev435, ev434]⟩ | exact Or.inr (Or.inl ⟨by assumption, by rw [ev435, ev434]⟩) | exact Or.inr (Or.inr ⟨by assumption, by assumption⟩)) (lv_sub hl [0, 1, 2, 3, 4, 5, 6, 7, 8] rfl)
                          refine lv_icmp_ne (tgt := 311) hx hb dModel_type_292 (by decide) (fun c436 => ?_) (fun c436 => ?_)
                          · exact J311 ls  (lv_sub hl [4, 5, 6, 7, 8, 3, 2, 1, 0] rfl)
                          · refine lv_lload hx hb dModel_type_295 (lv_at hl 1 rfl) ?_
                            refine lv_lload hx hb dModel_type_297 (lv_at hl 0 rfl) ?_
                            refine W.lcmp hx hb dModel_type_299 ?_
                            refine lv_topi (fun v437 ev437 => ?_)
                            refine lv_if_le (tgt := 311) hx hb dModel_type_300 (by decide) (fun c438 => ?_) (fun c438 => ?_)
                            · exact J311 ls  (lv_sub hl [4, 5, 6, 7, 8, 3, 2, 1, 0] rfl)
                            · refine lv_aload_n hx hb dModel_type_303 rfl (lv_at hl 4 rfl) ?_
                              refine lv_iload_n hx hb dModel_type_304 rfl (lv_at hl 5 rfl) ?_
                              refine lv_bipush (v := 8) hx hb dModel_type_305 (by decide) ?_
                              refine mu_Vi (rest := []) S hC (fun q h => hA q (Nat.le_trans hS.1 h)) (fun q h => h) hS (m_wrong l γ a B Z κ b mn ν τ σr90 Fr90 nur90 hT x1 8 hF) meModel_wrong qw_a6e9824456 ⟨Nat.le_of_ble_eq_true rfl, Nat.le_of_ble_eq_true rfl⟩ (md_rv hC hM) hM rfl hl.1 rfl (Nat.le_of_ble_eq_true rfl) dModel_type_307 ⟨Nat.le_refl _, Nat.le_refl _⟩ (fun r439 H locs hPO hS _ _ => ?_)
                              obtain ⟨σr439, hM, hF, h0r439⟩ := hPO
                              exact hE _ _ _ _ _ hS ⟨κ, _, ⟨rfl, rfl, rfl⟩, b, mn, ν, τ, σr439, Fr90, nur90, hT, hZ, hF, hG, rfl, hM⟩ dModel_type_310
                        · exact J264 ls  (lv_sub hl [2, 3, 4, 5, 6, 1, 0] rfl)
                    · exact J237 ls  (lv_sub hl [2, 3, 4, 5, 6, 1, 0] rfl)
                · refine lv_aload_n hx hb dModel_type_192 rfl (lv_at hl 0 rfl) ?_
                  refine lv_iload_n hx hb dModel_type_193 rfl (lv_at hl 1 rfl) ?_
                  refine lv_iconst (v := 2) hx hb dModel_type_194 (by decide) ?_
                  refine mu_Vi (rest := []) S hC (fun q h => hA q (Nat.le_trans hS.1 h)) (fun q h => h) hS (m_wrong l γ a B Z κ b mn ν τ σr90 Fr90 nur90 hT x1 2 hF) meModel_wrong qw_a6e9824456 ⟨Nat.le_of_ble_eq_true rfl, Nat.le_of_ble_eq_true rfl⟩ (md_rv hC hM) hM rfl hl.1 rfl (Nat.le_of_ble_eq_true rfl) dModel_type_195 ⟨Nat.le_refl _, Nat.le_refl _⟩ (fun r440 H locs hPO hS _ _ => ?_)
                  obtain ⟨σr440, hM, hF, h0r440⟩ := hPO
                  exact hE _ _ _ _ _ hS ⟨κ, _, ⟨rfl, rfl, rfl⟩, b, mn, ν, τ, σr440, Fr90, nur90, hT, hZ, hF, hG, rfl, hM⟩ dModel_type_198
              refine lv_icmp_ne (tgt := 188) hx hb dModel_type_181 (by decide) (fun c441 => ?_) (fun c441 => ?_)
              · refine lv_iconst (v := 5) hx hb dModel_type_188 (by decide) ?_
                exact J189 ls 5 (lv_sub hl [0, 1, 2, 3, 4] rfl)
              · refine lv_iconst (v := 0) hx hb dModel_type_184 (by decide) ?_
                refine lv_goto (tgt := 189) hx hb dModel_type_185 (by decide) ?_
                exact J189 ls 0 (lv_sub hl [0, 1, 2, 3, 4] rfl)
            · exact J163 ls  (lv_sub hl [0, 1, 2, 3, 4] rfl)
          refine lv_icmp_eq (tgt := 153) hx hb dModel_type_136 (by decide) (fun c442 => ?_) (fun c442 => ?_)
          · exact J153 ls (by first | exact Or.inl (by assumption) | exact Or.inr (Or.inl (by assumption)) | exact Or.inr (Or.inr (by assumption))) (lv_sub hl [3, 4, 2, 1, 0] rfl)
          · refine lv_iload hx hb dModel_type_139 (lv_at hl 0 rfl) ?_
            refine lv_bipush (v := 12) hx hb dModel_type_141 (by decide) ?_
            refine lv_icmp_eq (tgt := 153) hx hb dModel_type_143 (by decide) (fun c443 => ?_) (fun c443 => ?_)
            · exact J153 ls (by first | exact Or.inl (by assumption) | exact Or.inr (Or.inl (by assumption)) | exact Or.inr (Or.inr (by assumption))) (lv_sub hl [3, 4, 2, 1, 0] rfl)
            · refine lv_iload hx hb dModel_type_146 (lv_at hl 0 rfl) ?_
              refine lv_bipush (v := 13) hx hb dModel_type_148 (by decide) ?_
              refine lv_icmp_ne (tgt := 163) hx hb dModel_type_150 (by decide) (fun c444 => ?_) (fun c444 => ?_)
              · exact J163 ls  (lv_sub hl [3, 4, 2, 1, 0] rfl)
              · exact J153 ls (by first | exact Or.inl (by assumption) | exact Or.inr (Or.inl (by assumption)) | exact Or.inr (Or.inr (by assumption))) (lv_sub hl [3, 4, 2, 1, 0] rfl)
        · refine lv_aload_n hx hb dModel_type_67 rfl (lv_at hl 3 rfl) ?_
          refine md_gA S hC hM 4 (by decide) rfl qw_a8caa30de3 dModel_type_68 ?_
          refine lv_iload_n hx hb dModel_type_71 rfl (lv_at hl 4 rfl) ?_
          refine md_ild S hC hM 4 2 4000 (τ 4) rfl rfl (by decide) rfl rfl (vin (by assumption) (by omega)) dModel_type_72 ?_
          refine lv_topi (fun v445 ev445 => ?_)
          refine lv_if_le (tgt := 84) hx hb dModel_type_73 (by decide) (fun c446 => ?_) (fun c446 => ?_)
          · refine lv_aload_n hx hb dModel_type_84 rfl (lv_at hl 3 rfl) ?_
            refine lv_aload_n hx hb dModel_type_85 rfl (lv_at hl 3 rfl) ?_
            refine md_gA S hC hM 3 (by decide) rfl qw_9fb851a5fa dModel_type_86 ?_
            refine lv_iload_n hx hb dModel_type_89 rfl (lv_at hl 4 rfl) ?_
            refine md_ild S hC hM 3 1 4000 (τ 3) rfl rfl (by decide) rfl rfl (vin (by assumption) (by omega)) dModel_type_90 ?_
            refine lv_topi (fun v447 ev447 => ?_)
            refine mu_Vv (rest := []) S hC (fun q h => hA q (Nat.le_trans hS.1 h)) (fun q h => h) hS (m_find l γ a B Z κ b mn ν τ σr90 Fr90 nur90 hT v447 ) meModel_find qw_ece0c598e8 ⟨Nat.le_of_ble_eq_true rfl, Nat.le_of_ble_eq_true rfl⟩ (md_rv hC hM) hM rfl hl.1 rfl (Nat.le_of_ble_eq_true rfl) dModel_type_91 ⟨Nat.le_refl _, Nat.le_refl _⟩ (fun H locs hPO hS _ _ => ?_)
            obtain ⟨σr448, hM, hF⟩ := hPO
            refine lv_aload_n hx hb dModel_type_94 rfl (lv_at hl 3 rfl) ?_
            refine md_gI S hC hM 32 (v := σr448 32) rfl (by decide) rfl qw_9d5e299446 dModel_type_95 ?_
            refine lv_topi (fun v449 ev449 => ?_)
            refine lv_iconst (v := 5) hx hb dModel_type_98 (by decide) ?_
            refine lv_icmp_ne (tgt := 111) hx hb dModel_type_99 (by decide) (fun c450 => ?_) (fun c450 => ?_)
            · refine lv_aload_n hx hb dModel_type_111 rfl (lv_at hl 3 rfl) ?_
              refine md_gI S hC hM 32 (v := σr448 32) rfl (by decide) rfl qw_9d5e299446 dModel_type_112 ?_
              refine lv_topi (fun v451 ev451 => ?_)
              refine lv_if_ne (tgt := 125) hx hb dModel_type_115 (by decide) (fun c452 => ?_) (fun c452 => ?_)
              · refine lv_aload_n hx hb dModel_type_125 rfl (lv_at hl 3 rfl) ?_
                refine lv_iload_n hx hb dModel_type_126 rfl (lv_at hl 4 rfl) ?_
                refine lv_iconst (v := 2) hx hb dModel_type_127 (by decide) ?_
                refine mu_Vi (rest := []) S hC (fun q h => hA q (Nat.le_trans hS.1 h)) (fun q h => h) hS (m_wrong l γ a B Z κ b mn ν τ σr448 Fr90 nur90 hT x1 2 hF) meModel_wrong qw_a6e9824456 ⟨Nat.le_of_ble_eq_true rfl, Nat.le_of_ble_eq_true rfl⟩ (md_rv hC hM) hM rfl hl.1 rfl (Nat.le_of_ble_eq_true rfl) dModel_type_128 ⟨Nat.le_refl _, Nat.le_refl _⟩ (fun r453 H locs hPO hS _ _ => ?_)
                obtain ⟨σr453, hM, hF, h0r453⟩ := hPO
                exact hE _ _ _ _ _ hS ⟨κ, _, ⟨rfl, rfl, rfl⟩, b, mn, ν, τ, σr453, Fr90, nur90, hT, hZ, hF, hG, rfl, hM⟩ dModel_type_131
              · refine lv_aload_n hx hb dModel_type_118 rfl (lv_at hl 3 rfl) ?_
                refine md_gI S hC hM 33 (v := σr448 33) rfl (by decide) rfl qw_c60a40a4a7 dModel_type_119 ?_
                refine lv_topi (fun v454 ev454 => ?_)
                refine lv_goto (tgt := 131) hx hb dModel_type_122 (by decide) ?_
                exact hE _ _ _ _ _ hS ⟨κ, _, ⟨rfl, rfl, rfl⟩, b, mn, ν, τ, σr448, Fr90, nur90, hT, hZ, hF, hG, rfl, hM⟩ dModel_type_131
            · refine lv_aload_n hx hb dModel_type_102 rfl (lv_at hl 3 rfl) ?_
              refine lv_iload_n hx hb dModel_type_103 rfl (lv_at hl 4 rfl) ?_
              refine lv_iconst (v := 1) hx hb dModel_type_104 (by decide) ?_
              refine mu_Vi (rest := []) S hC (fun q h => hA q (Nat.le_trans hS.1 h)) (fun q h => h) hS (m_wrong l γ a B Z κ b mn ν τ σr448 Fr90 nur90 hT x1 1 hF) meModel_wrong qw_a6e9824456 ⟨Nat.le_of_ble_eq_true rfl, Nat.le_of_ble_eq_true rfl⟩ (md_rv hC hM) hM rfl hl.1 rfl (Nat.le_of_ble_eq_true rfl) dModel_type_105 ⟨Nat.le_refl _, Nat.le_refl _⟩ (fun r455 H locs hPO hS _ _ => ?_)
              obtain ⟨σr455, hM, hF, h0r455⟩ := hPO
              refine lv_goto (tgt := 131) hx hb dModel_type_108 (by decide) ?_
              exact hE _ _ _ _ _ hS ⟨κ, _, ⟨rfl, rfl, rfl⟩, b, mn, ν, τ, σr455, Fr90, nur90, hT, hZ, hF, hG, rfl, hM⟩ dModel_type_131
          · refine lv_aload_n hx hb dModel_type_76 rfl (lv_at hl 3 rfl) ?_
            refine lv_iload_n hx hb dModel_type_77 rfl (lv_at hl 4 rfl) ?_
            refine lv_bipush (v := 11) hx hb dModel_type_78 (by decide) ?_
            refine mu_Vi (rest := []) S hC (fun q h => hA q (Nat.le_trans hS.1 h)) (fun q h => h) hS (m_wrong l γ a B Z κ b mn ν τ σr90 Fr90 nur90 hT x1 11 hF) meModel_wrong qw_a6e9824456 ⟨Nat.le_of_ble_eq_true rfl, Nat.le_of_ble_eq_true rfl⟩ (md_rv hC hM) hM rfl hl.1 rfl (Nat.le_of_ble_eq_true rfl) dModel_type_80 ⟨Nat.le_refl _, Nat.le_refl _⟩ (fun r456 H locs hPO hS _ _ => ?_)
            obtain ⟨σr456, hM, hF, h0r456⟩ := hPO
            exact hE _ _ _ _ _ hS ⟨κ, _, ⟨rfl, rfl, rfl⟩, b, mn, ν, τ, σr456, Fr90, nur90, hT, hZ, hF, hG, rfl, hM⟩ dModel_type_83
      · refine lv_iload_n hx hb dModel_type_49 rfl (lv_at hl 0 rfl) ?_
        refine lv_ineg hx hb dModel_type_50 ?_
        refine lv_topi (fun v457 ev457 => ?_)
        exact hE _ _ _ _ _ hS ⟨κ, _, ⟨rfl, rfl, rfl⟩, b, mn, ν, τ, σr90, Fr90, nur90, hT, hZ, hF, hG, rfl, hM⟩ dModel_type_51
    · refine lv_iconst (v := 0) hx hb dModel_type_24 (by decide) ?_
      exact hE _ _ _ _ _ hS ⟨κ, _, ⟨rfl, rfl, rfl⟩, b, mn, ν, τ, σ84, F, nu, hT, hZ, hF, hG, rfl, hM⟩ dModel_type_25
  refine lv_if_eq (tgt := 13) hx hb dModel_type_6 (by decide) (fun c458 => ?_) (fun c458 => ?_)
  · refine lv_iconst (v := 0) hx hb dModel_type_13 (by decide) ?_
    exact J14 ls 0 (by first | exact Or.inl (by decide) | exact Or.inr ⟨rfl, hr1 (by assumption)⟩) (lv_sub hl [0, 1] rfl)
  · refine lv_iconst (v := 1) hx hb dModel_type_9 (by decide) ?_
    refine lv_goto (tgt := 14) hx hb dModel_type_10 (by decide) ?_
    exact J14 ls 1 (by first | exact Or.inl (by decide) | exact Or.inr ⟨rfl, hr1 (by assumption)⟩) (lv_sub hl [0, 1] rfl)
