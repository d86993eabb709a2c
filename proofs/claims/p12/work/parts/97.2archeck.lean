theorem qw_fb32874592 : (Cond.methodLink R_Model 269 yModel_goThrough) ∈ bs_W0 := bs_in (in_tables_1_6 (List.mem_of_getElem? (i := 51) rfl)) rfl
theorem qw_17a2ee8d21 : (Cond.methodLink R_Model 291 yModel_fits) ∈ bs_W0 := bs_in (in_tables_1_6 (List.mem_of_getElem? (i := 235) rfl)) rfl
theorem qw_8cce6d7b5c : (Cond.methodLink R_Model 278 yModel_keep) ∈ bs_W0 := bs_in (in_tables_1_6 (List.mem_of_getElem? (i := 207) rfl)) rfl
set_option maxHeartbeats 4000000 in
set_option maxRecDepth 100000 in
theorem m_check (l : Launch) (γ : gE) (a : Nat) (B : Nat → Nat) (Z : Nat → Prop) (κ b mn : Nat → Nat) (ν : Nat → Int32) (τ : Nat → Nat → Int32) (σ : Nat → Int32) (F : Nat → Nat → Int32) (nu : Nat → Int64) (hT : ST κ b mn ν τ) (x1 : Int32) (x2 : Int32) (hZ : SZ F) (hF : FD σ) (hG : GD F nu) : MU l yModel_check bModel_check 4 (some .int) 7 177 0 0 [.ref a, .int x1, .int x2] γ Z (MD γ a B Z ν τ σ F nu) (mQi (fun r H => ∃ (κ' : Nat → Nat) (cd : Int32), (κ' 5 = κ 5 ∧ κ' 0 = κ 0 ∧ κ' 1 = κ 1) ∧ MI γ a B Z κ' cd H) Z) := by
  refine mu_openI (by decide) (Nat.le_of_ble_eq_true rfl) ?_
  intro p e s m args below meth c ls Q S hnm hC hA hM hE hl
  have hS : va_S Z s.heap s.heap [] := va_S.rf
  obtain ⟨hx, hb, hml, hown, hW⟩ := id S
  obtain ⟨⟨hs0, hs1, hs2, hs3, hs4, hs5, hs6⟩, ⟨hv6, hv8, hv21, hv24, hv30, hv31⟩, hTR, hTY, hOB, hNM⟩ := id hT
  have hl : lv_has ls 4 [(0, .ref a), (1, .int x1), (2, .int x2)] := hl
  refine lv_aload_n hx hb dModel_check_0 rfl (lv_at hl 0 rfl) ?_
  refine lv_aload_n hx hb dModel_check_1 rfl (lv_at hl 0 rfl) ?_
  refine lv_iload_n hx hb dModel_check_2 rfl (lv_at hl 1 rfl) ?_
  refine pu_Vi (rest := [.ref a]) S hC (m_noNode l γ a B Z κ b mn ν τ σ F nu hT x1 ) meModel_noNode qw_c926675227 ⟨Nat.le_of_ble_eq_true rfl, Nat.le_of_ble_eq_true rfl⟩ (md_rv hC hM) hM rfl hl.1 rfl (Nat.le_of_ble_eq_true rfl) dModel_check_3 ⟨Nat.zero_le _, Nat.zero_le _⟩ (fun r1 hr1 => ?_)
  have J27 : ∀ (ls : Array Slot) (t0_27 : Int32), (0 < t0_27 ∨ (t0_27 = 0 ∧ vp_in x1 (κ 0) ∧ (x2 = -1 ∨ vp_in x2 (κ 2)))) → lv_has ls 4 [(0, .ref a), (1, .int x1), (2, .int x2)] → W p l e (bs_rm 7 0 0 177) s m args below meth c s.heap [] 0 0 Q (F0 m 27 ls [.int t0_27, .ref a]) := by
    intro ls t0_27 ht0_27 hl
    refine md_pD S hC hM hS 0 rfl (by decide) rfl qw_53e275eed6 rfl (by decide +kernel) dModel_check_27 (fun H locs hM hS => ?_)
    obtain ⟨σ19, eσ19⟩ : ∃ z : Nat → Int32, z = upd σ 0 t0_27 := ⟨_, rfl⟩
    rw [← eσ19] at hM
    have hF : FD σ19 := hF.up eσ19 (by decide) (by decide)
    refine lv_aload_n hx hb dModel_check_30 rfl (lv_at hl 0 rfl) ?_
    refine md_gI S hC hM 0 (v := σ19 0) rfl (by decide) rfl qw_53e275eed6 dModel_check_31 ?_
    refine lv_topi (fun v20 ev20 => ?_)
    refine lv_if_le (tgt := 39) hx hb dModel_check_34 (by decide) (fun c21 => ?_) (fun c21 => ?_)
    · obtain ⟨hx1, hx2⟩ := cd_0 eσ19 ev20 (by assumption) ht0_27
      refine lv_aload_n hx hb dModel_check_39 rfl (lv_at hl 0 rfl) ?_
      refine lv_aload_n hx hb dModel_check_40 rfl (lv_at hl 0 rfl) ?_
      refine md_gA S hC hM 5 (by decide) rfl qw_7e4081a75e dModel_check_41 ?_
      refine lv_iload_n hx hb dModel_check_44 rfl (lv_at hl 1 rfl) ?_
      refine md_ild S hC hM 5 3 4000 (τ 5) rfl rfl (by decide) rfl rfl (vin (by assumption) (by omega)) dModel_check_45 ?_
      refine lv_topi (fun v22 ev22 => ?_)
      refine lv_iload_n hx hb dModel_check_46 rfl (lv_at hl 1 rfl) ?_
      have hbg := bg_ok hTR hs0 hx1 ev22
      refine mu_Vi (rest := []) S hC (fun q h => hA q (Nat.le_trans hS.1 h)) (fun q h => h) hS (m_goThrough l γ a B Z κ b mn ν τ σ19 F nu hT v22 x1 hbg.1 (x_int hx1) (fun k h8 h9 => by rw [hbg.2] at h8 ⊢; exact rg_ge hTR (vix hx1) h8 (by rw [vin_int hx1] at h9; omega)) hZ hF hG) meModel_goThrough qw_fb32874592 ⟨Nat.le_of_ble_eq_true rfl, Nat.le_of_ble_eq_true rfl⟩ (md_rv hC hM) hM rfl hl.1 rfl (Nat.le_of_ble_eq_true rfl) dModel_check_47 ⟨Nat.le_refl _, Nat.le_refl _⟩ (fun r23 H locs hPO hS _ _ => ?_)
      obtain ⟨σr23, Fr23, nur23, hM, hZ, hF, hG, hgtr23⟩ := hPO
      refine lv_istore_n (lv' := [(3, .int r23), (0, .ref a), (1, .int x1), (2, .int x2)]) hx hb dModel_check_50 rfl hl (by decide) rfl (fun ls hl => ?_)
      refine lv_iload_n hx hb dModel_check_51 rfl (lv_at hl 0 rfl) ?_
      refine lv_if_le (tgt := 58) hx hb dModel_check_52 (by decide) (fun c24 => ?_) (fun c24 => ?_)
      · refine lv_iload_n hx hb dModel_check_58 rfl (lv_at hl 3 rfl) ?_
        refine lv_iconst (v := (-1)) hx hb dModel_check_59 (by decide) ?_
        have J73 : ∀ (ls : Array Slot) (t0_73 : Int32), lv_has ls 4 [(0, .ref a), (1, .int x1), (2, .int x2), (3, .int r23)] → W p l e (bs_rm 7 0 0 177) s m args below meth c H locs 0 0 Q (F0 m 73 ls [.int t0_73]) := by
          intro ls t0_73 hl
          refine lv_istore_n (lv' := [(3, .int t0_73), (0, .ref a), (1, .int x1), (2, .int x2)]) hx hb dModel_check_73 rfl hl (by decide) rfl (fun ls hl => ?_)
          refine lv_iload_n hx hb dModel_check_74 rfl (lv_at hl 0 rfl) ?_
          refine lv_if_le (tgt := 85) hx hb dModel_check_75 (by decide) (fun c31 => ?_) (fun c31 => ?_)
          · refine lv_aload_n hx hb dModel_check_85 rfl (lv_at hl 1 rfl) ?_
            refine lv_aload_n hx hb dModel_check_86 rfl (lv_at hl 1 rfl) ?_
            refine md_gA S hC hM 5 (by decide) rfl qw_7e4081a75e dModel_check_87 ?_
            refine lv_iload_n hx hb dModel_check_90 rfl (lv_at hl 2 rfl) ?_
            refine md_ild S hC hM 5 3 4000 (τ 5) rfl rfl (by decide) rfl rfl (vin (by assumption) (by omega)) dModel_check_91 ?_
            refine lv_topi (fun v32 ev32 => ?_)
            refine lv_iload_n hx hb dModel_check_92 rfl (lv_at hl 2 rfl) ?_
            have hbg2 := bg_ok hTR hs0 hx1 ev32
            refine mu_Vv (rest := []) S hC (fun q h => hA q (Nat.le_trans hS.1 h)) (fun q h => h) hS (m_keep l γ a B Z κ b mn ν τ σr23 Fr23 nur23 hT v32 x1 hbg2.1 (x_int hx1) hZ hG (fun j h7 h8 h9 => hgtr23 (Int32.not_lt.mpr (by assumption)) j (by rw [hbg.2]; rw [hbg2.2] at h7; exact h7) h8 h9)) meModel_keep qw_8cce6d7b5c ⟨Nat.le_of_ble_eq_true rfl, Nat.le_of_ble_eq_true rfl⟩ (md_rv hC hM) hM rfl hl.1 rfl (Nat.le_of_ble_eq_true rfl) dModel_check_93 ⟨Nat.le_refl _, Nat.le_refl _⟩ (fun H locs hPO hS _ _ => ?_)
            obtain ⟨Fr33, nur33, hM, hZ, hG⟩ := hPO
            refine lv_iconst (v := 0) hx hb dModel_check_96 (by decide) ?_
            exact hE _ _ _ _ _ hS ⟨κ, _, ⟨rfl, rfl, rfl⟩, b, mn, ν, τ, σr23, Fr33, nur33, hT, hZ, hF, hG, rfl, hM⟩ dModel_check_97
          · refine lv_aload_n hx hb dModel_check_78 rfl (lv_at hl 1 rfl) ?_
            refine lv_iload_n hx hb dModel_check_79 rfl (lv_at hl 2 rfl) ?_
            refine lv_iload_n hx hb dModel_check_80 rfl (lv_at hl 0 rfl) ?_
            refine mu_Vi (rest := []) S hC (fun q h => hA q (Nat.le_trans hS.1 h)) (fun q h => h) hS (m_wrong l γ a B Z κ b mn ν τ σr23 Fr23 nur23 hT x1 t0_73 hF) meModel_wrong qw_a6e9824456 ⟨Nat.le_of_ble_eq_true rfl, Nat.le_of_ble_eq_true rfl⟩ (md_rv hC hM) hM rfl hl.1 rfl (Nat.le_of_ble_eq_true rfl) dModel_check_81 ⟨Nat.le_refl _, Nat.le_refl _⟩ (fun r34 H locs hPO hS _ _ => ?_)
            obtain ⟨σr34, hM, hF, h0r34⟩ := hPO
            exact hE _ _ _ _ _ hS ⟨κ, _, ⟨rfl, rfl, rfl⟩, b, mn, ν, τ, σr34, Fr23, nur23, hT, hZ, hF, hG, rfl, hM⟩ dModel_check_84
        refine lv_icmp_ne (tgt := 67) hx hb dModel_check_60 (by decide) (fun c35 => ?_) (fun c35 => ?_)
        · have hx2b := hx2.resolve_left (by assumption)
          refine lv_aload_n hx hb dModel_check_67 rfl (lv_at hl 1 rfl) ?_
          refine lv_iload_n hx hb dModel_check_68 rfl (lv_at hl 2 rfl) ?_
          refine lv_iload_n hx hb dModel_check_69 rfl (lv_at hl 3 rfl) ?_
          refine pu_Vi (rest := []) S hC (m_fits l γ a B Z κ b mn ν τ σr23 Fr23 nur23 hT x1 x2 (vin (by assumption) (by omega)) (vin hx2b (by omega))) meModel_fits qw_17a2ee8d21 ⟨Nat.le_of_ble_eq_true rfl, Nat.le_of_ble_eq_true rfl⟩ (md_rv hC hM) hM rfl hl.1 rfl (Nat.le_of_ble_eq_true rfl) dModel_check_70 ⟨Nat.zero_le _, Nat.zero_le _⟩ (fun r36 hr36 => ?_)
          exact J73 ls r36 (lv_sub hl [1, 2, 3, 0] rfl)
        · refine lv_iconst (v := 0) hx hb dModel_check_63 (by decide) ?_
          refine lv_goto (tgt := 73) hx hb dModel_check_64 (by decide) ?_
          exact J73 ls 0 (lv_sub hl [1, 2, 3, 0] rfl)
      · refine lv_iload_n hx hb dModel_check_55 rfl (lv_at hl 0 rfl) ?_
        refine lv_ineg hx hb dModel_check_56 ?_
        refine lv_topi (fun v37 ev37 => ?_)
        exact hE _ _ _ _ _ hS ⟨κ, _, ⟨rfl, rfl, rfl⟩, b, mn, ν, τ, σr23, Fr23, nur23, hT, hZ, hF, hG, rfl, hM⟩ dModel_check_57
    · refine lv_iconst (v := 0) hx hb dModel_check_37 (by decide) ?_
      exact hE _ _ _ _ _ hS ⟨κ, _, ⟨rfl, rfl, rfl⟩, b, mn, ν, τ, σ19, F, nu, hT, hZ, hF, hG, rfl, hM⟩ dModel_check_38
  have J22 : ∀ (ls : Array Slot), lv_has ls 4 [(0, .ref a), (1, .int x1), (2, .int x2)] → W p l e (bs_rm 7 0 0 177) s m args below meth c s.heap [] 0 0 Q (F0 m 22 ls [.ref a]) := by
    intro ls hl
    refine lv_iconst (v := 1) hx hb dModel_check_22 (by decide) ?_
    refine lv_goto (tgt := 27) hx hb dModel_check_23 (by decide) ?_
    exact J27 ls 1 (by first | exact Or.inl (by decide) | exact Or.inr ⟨rfl, h26⟩) (lv_sub hl [0, 1, 2] rfl)
  refine lv_if_ne (tgt := 22) hx hb dModel_check_6 (by decide) (fun c38 => ?_) (fun c38 => ?_)
  · exact J22 ls  (lv_sub hl [0, 1, 2] rfl)
  · refine lv_iload_n hx hb dModel_check_9 rfl (lv_at hl 2 rfl) ?_
    refine lv_iconst (v := (-1)) hx hb dModel_check_10 (by decide) ?_
    have J26 : ∀ (ls : Array Slot), (vp_in x1 (κ 0) ∧ (x2 = -1 ∨ vp_in x2 (κ 2))) → lv_has ls 4 [(0, .ref a), (1, .int x1), (2, .int x2)] → W p l e (bs_rm 7 0 0 177) s m args below meth c s.heap [] 0 0 Q (F0 m 26 ls [.ref a]) := by
      intro ls h26 hl
      refine lv_iconst (v := 0) hx hb dModel_check_26 (by decide) ?_
      exact J27 ls 0 (by first | exact Or.inl (by decide) | exact Or.inr ⟨rfl, h26⟩) (lv_sub hl [0, 1, 2] rfl)
    refine lv_icmp_eq (tgt := 26) hx hb dModel_check_11 (by decide) (fun c42 => ?_) (fun c42 => ?_)
    · exact J26 ls (by first | exact ⟨hr1 (by assumption), Or.inl (by assumption)⟩ | exact ⟨hr1 (by assumption), Or.inr (hr40 (by assumption))⟩) (lv_sub hl [0, 1, 2] rfl)
    · refine lv_aload_n hx hb dModel_check_14 rfl (lv_at hl 0 rfl) ?_
      refine lv_iload_n hx hb dModel_check_15 rfl (lv_at hl 2 rfl) ?_
      refine pu_Vi (rest := [.ref a]) S hC (m_noType l γ a B Z κ b mn ν τ σ F nu hT x2 ) meModel_noType qw_0ba745738d ⟨Nat.le_of_ble_eq_true rfl, Nat.le_of_ble_eq_true rfl⟩ (md_rv hC hM) hM rfl hl.1 rfl (Nat.le_of_ble_eq_true rfl) dModel_check_16 ⟨Nat.zero_le _, Nat.zero_le _⟩ (fun r43 hr43 => ?_)
      refine lv_if_eq (tgt := 26) hx hb dModel_check_19 (by decide) (fun c44 => ?_) (fun c44 => ?_)
      · exact J26 ls (by first | exact ⟨hr1 (by assumption), Or.inl (by assumption)⟩ | exact ⟨hr1 (by assumption), Or.inr (hr43 (by assumption))⟩) (lv_sub hl [0, 1, 2] rfl)
      · exact J22 ls  (lv_sub hl [0, 1, 2] rfl)
theorem qw_90495fa5dd : (Cond.methodLink R_Model 93 yModel_newType) ∈ bs_W0 := bs_in (in_tables_1_5 (List.mem_of_getElem? (i := 147) rfl)) rfl
theorem qw_e91042951e : (Cond.methodLink R_Model 275 yModel_constantFault) ∈ bs_W0 := bs_in (in_tables_1_6 (List.mem_of_getElem? (i := 203) rfl)) rfl
set_option maxHeartbeats 4000000 in
set_option maxRecDepth 100000 in
theorem m_type (l : Launch) (γ : gE) (a : Nat) (B : Nat → Nat) (Z : Nat → Prop) (κ b mn : Nat → Nat) (ν : Nat → Int32) (τ : Nat → Nat → Int32) (σ : Nat → Int32) (F : Nat → Nat → Int32) (nu : Nat → Int64) (hT : ST κ b mn ν τ) (x1 : Int32) (hZ : SZ F) (hF : FD σ) (hG : GD F nu) : MU l yModel_type bModel_type 13 (some .int) 7 177 0 0 [.ref a, .int x1] γ Z (MD γ a B Z ν τ σ F nu) (mQi (fun r H => ∃ (κ' : Nat → Nat) (cd : Int32), (κ' 5 = κ 5 ∧ κ' 0 = κ 0 ∧ κ' 1 = κ 1) ∧ MI γ a B Z κ' cd H) Z) := by
  refine mu_openI (by decide) (Nat.le_of_ble_eq_true rfl) ?_
  intro p e s m args below meth c ls Q S hnm hC hA hM hE hl
  have hS : va_S Z s.heap s.heap [] := va_S.rf
  obtain ⟨hx, hb, hml, hown, hW⟩ := id S
  obtain ⟨⟨hs0, hs1, hs2, hs3, hs4, hs5, hs6⟩, ⟨hv6, hv8, hv21, hv24, hv30, hv31⟩, hTR, hTY, hOB, hNM⟩ := id hT
  have hl : lv_has ls 13 [(0, .ref a), (1, .int x1)] := hl
  refine lv_aload_n hx hb dModel_type_0 rfl (lv_at hl 0 rfl) ?_
  refine lv_aload_n hx hb dModel_type_1 rfl (lv_at hl 0 rfl) ?_
  refine lv_iload_n hx hb dModel_type_2 rfl (lv_at hl 1 rfl) ?_
  refine pu_Vi (rest := [.ref a]) S hC (m_noNode l γ a B Z κ b mn ν τ σ F nu hT x1 ) meModel_noNode qw_c926675227 ⟨Nat.le_of_ble_eq_true rfl, Nat.le_of_ble_eq_true rfl⟩ (md_rv hC hM) hM rfl hl.1 rfl (Nat.le_of_ble_eq_true rfl) dModel_type_3 ⟨Nat.zero_le _, Nat.zero_le _⟩ (fun r1 hr1 => ?_)
  have J14 : ∀ (ls : Array Slot) (t0_14 : Int32), (0 < t0_14 ∨ (t0_14 = 0 ∧ vp_in x1 (κ 0))) → lv_has ls 13 [(0, .ref a), (1, .int x1)] → W p l e (bs_rm 7 0 0 177) s m args below meth c s.heap [] 0 0 Q (F0 m 14 ls [.int t0_14, .ref a]) := by
    intro ls t0_14 ht0_14 hl
    refine md_pD S hC hM hS 0 rfl (by decide) rfl qw_53e275eed6 rfl (by decide +kernel) dModel_type_14 (fun H locs hM hS => ?_)
    obtain ⟨σ84, eσ84⟩ : ∃ z : Nat → Int32, z = upd σ 0 t0_14 := ⟨_, rfl⟩
    rw [← eσ84] at hM
    have hF : FD σ84 := hF.up eσ84 (by decide) (by decide)
    refine lv_aload_n hx hb dModel_type_17 rfl (lv_at hl 0 rfl) ?_
    refine md_gI S hC hM 0 (v := σ84 0) rfl (by decide) rfl qw_53e275eed6 dModel_type_18 ?_
    refine lv_topi (fun v85 ev85 => ?_)
    refine lv_if_le (tgt := 26) hx hb dModel_type_21 (by decide) (fun c86 => ?_) (fun c86 => ?_)
    · have hx1 : vp_in x1 (κ 0) := cd_0 eσ84 ev85 (by assumption) ht0_14
      refine lv_aload_n hx hb dModel_type_26 rfl (lv_at hl 0 rfl) ?_
      refine md_gI S hC hM 1 (v := σ84 1) rfl (by decide) rfl qw_d4a57461ea dModel_type_27 ?_
      refine lv_topi (fun v87 ev87 => ?_)
      refine lv_istore_n (lv' := [(2, .int v87), (0, .ref a), (1, .int x1)]) hx hb dModel_type_30 rfl hl (by decide) rfl (fun ls hl => ?_)
      refine lv_aload_n hx hb dModel_type_31 rfl (lv_at hl 1 rfl) ?_
      refine lv_aload_n hx hb dModel_type_32 rfl (lv_at hl 1 rfl) ?_
      refine md_gA S hC hM 5 (by decide) rfl qw_7e4081a75e dModel_type_33 ?_
      refine lv_iload_n hx hb dModel_type_36 rfl (lv_at hl 2 rfl) ?_
      refine md_ild S hC hM 5 3 4000 (τ 5) rfl rfl (by decide) rfl rfl (vin (by assumption) (by omega)) dModel_type_37 ?_
      refine lv_topi (fun v88 ev88 => ?_)
      refine lv_iload_n hx hb dModel_type_38 rfl (lv_at hl 2 rfl) ?_
      refine lv_iconst (v := 1) hx hb dModel_type_39 (by decide) ?_
      refine lv_isub hx hb dModel_type_40 ?_
      refine lv_topi (fun v89 ev89 => ?_)
      have hbg := bg_ok hTR hs0 hx1 ev88
      have hpm := pm_int hx1 hs0 ev89
      refine mu_Vi (rest := []) S hC (fun q h => hA q (Nat.le_trans hS.1 h)) (fun q h => h) hS (m_goThrough l γ a B Z κ b mn ν τ σ84 F nu hT v88 v89 hbg.1 (by have := vix hx1; omega) (fun k h8 h9 => by rw [hbg.2] at h8 ⊢; exact rg_ge hTR (vix hx1) h8 (by omega)) hZ hF hG) meModel_goThrough qw_fb32874592 ⟨Nat.le_of_ble_eq_true rfl, Nat.le_of_ble_eq_true rfl⟩ (md_rv hC hM) hM rfl hl.1 rfl (Nat.le_of_ble_eq_true rfl) dModel_type_41 ⟨Nat.le_refl _, Nat.le_refl _⟩ (fun r90 H locs hPO hS _ _ => ?_)
      obtain ⟨σr90, Fr90, nur90, hM, hZ, hF, hG, hgtr90⟩ := hPO
      refine lv_istore_n (lv' := [(3, .int r90), (2, .int v87), (0, .ref a), (1, .int x1)]) hx hb dModel_type_44 rfl hl (by decide) rfl (fun ls hl => ?_)
      refine lv_iload_n hx hb dModel_type_45 rfl (lv_at hl 0 rfl) ?_
      refine lv_if_le (tgt := 52) hx hb dModel_type_46 (by decide) (fun c91 => ?_) (fun c91 => ?_)
      · refine lv_aload_n hx hb dModel_type_52 rfl (lv_at hl 2 rfl) ?_
        refine md_gA S hC hM 2 (by decide) rfl qw_3471296067 dModel_type_53 ?_
        refine lv_iload_n hx hb dModel_type_56 rfl (lv_at hl 3 rfl) ?_
        refine md_ild S hC hM 2 0 4000 (τ 2) rfl rfl (by decide) rfl rfl (vin (by assumption) (by omega)) dModel_type_57 ?_
        refine lv_topi (fun v92 ev92 => ?_)
        refine lv_istore (lv' := [(4, .int v92), (3, .int r90), (2, .int v87), (0, .ref a), (1, .int x1)]) hx hb dModel_type_58 hl (by decide) rfl (fun ls hl => ?_)
        refine lv_iload hx hb dModel_type_60 (lv_at hl 0 rfl) ?_
        refine lv_bipush (v := 10) hx hb dModel_type_62 (by decide) ?_
        refine lv_icmp_ne (tgt := 132) hx hb dModel_type_64 (by decide) (fun c93 => ?_) (fun c93 => ?_)
        · refine lv_iload hx hb dModel_type_132 (lv_at hl 0 rfl) ?_
          refine lv_bipush (v := 11) hx hb dModel_type_134 (by decide) ?_
          have J163 : ∀ (ls : Array Slot), lv_has ls 13 [(0, .ref a), (1, .int x1), (2, .int v87), (3, .int r90), (4, .int v92)] → W p l e (bs_rm 7 0 0 177) s m args below meth c H locs 0 0 Q (F0 m 163 ls []) := by
            intro ls hl
            refine lv_aload_n hx hb dModel_type_163 rfl (lv_at hl 0 rfl) ?_
            refine lv_iload_n hx hb dModel_type_164 rfl (lv_at hl 1 rfl) ?_
            refine lv_bipush (v := 11) hx hb dModel_type_165 (by decide) ?_
            refine mu_Vi (rest := []) S hC (fun q h => hA q (Nat.le_trans hS.1 h)) (fun q h => h) hS (m_wrong l γ a B Z κ b mn ν τ σr90 Fr90 nur90 hT x1 11 hF) meModel_wrong qw_a6e9824456 ⟨Nat.le_of_ble_eq_true rfl, Nat.le_of_ble_eq_true rfl⟩ (md_rv hC hM) hM rfl hl.1 rfl (Nat.le_of_ble_eq_true rfl) dModel_type_167 ⟨Nat.le_refl _, Nat.le_refl _⟩ (fun r152 H locs hPO hS _ _ => ?_)
            obtain ⟨σr152, hM, hF, h0r152⟩ := hPO
            exact hE _ _ _ _ _ hS ⟨κ, _, ⟨rfl, rfl, rfl⟩, b, mn, ν, τ, σr152, Fr90, nur90, hT, hZ, hF, hG, rfl, hM⟩ dModel_type_170
          have J153 : ∀ (ls : Array Slot), (v92 = 11 ∨ v92 = 12 ∨ v92 = 13) → lv_has ls 13 [(0, .ref a), (1, .int x1), (2, .int v87), (3, .int r90), (4, .int v92)] → W p l e (bs_rm 7 0 0 177) s m args below meth c H locs 0 0 Q (F0 m 153 ls []) := by
            intro ls h153 hl
            refine lv_aload_n hx hb dModel_type_153 rfl (lv_at hl 0 rfl) ?_
            refine md_gA S hC hM 4 (by decide) rfl qw_a8caa30de3 dModel_type_154 ?_
            refine lv_iload_n hx hb dModel_type_157 rfl (lv_at hl 1 rfl) ?_
            refine md_ild S hC hM 4 2 4000 (τ 4) rfl rfl (by decide) rfl rfl (vin (by assumption) (by omega)) dModel_type_158 ?_
            refine lv_topi (fun v153 ev153 => ?_)
            refine lv_iconst (v := 2) hx hb dModel_type_159 (by decide) ?_
            refine lv_icmp_eq (tgt := 171) hx hb dModel_type_160 (by decide) (fun c154 => ?_) (fun c154 => ?_)
            · have hm2 := mn_eq2 hTR hx1 ev153 (by assumption)
              refine lv_aload_n hx hb dModel_type_171 rfl (lv_at hl 0 rfl) ?_
              refine md_gA S hC hM 3 (by decide) rfl qw_9fb851a5fa dModel_type_172 ?_
              refine lv_iload_n hx hb dModel_type_175 rfl (lv_at hl 1 rfl) ?_
              refine md_ild S hC hM 3 1 4000 (τ 3) rfl rfl (by decide) rfl rfl (vin (by assumption) (by omega)) dModel_type_176 ?_
              refine lv_topi (fun v155 ev155 => ?_)
              refine lv_iload hx hb dModel_type_177 (lv_at hl 4 rfl) ?_
              refine lv_bipush (v := 11) hx hb dModel_type_179 (by decide) ?_
              have J189 : ∀ (ls : Array Slot) (t0_189 : Int32), lv_has ls 13 [(0, .ref a), (1, .int x1), (2, .int v87), (3, .int r90), (4, .int v92)] → W p l e (bs_rm 7 0 0 177) s m args below meth c H locs 0 0 Q (F0 m 189 ls [.int t0_189, .int v155]) := by
                intro ls t0_189 hl
                refine lv_icmp_eq (tgt := 199) hx hb dModel_type_189 (by decide) (fun c207 => ?_) (fun c207 => ?_)
                · refine lv_aload_n hx hb dModel_type_199 rfl (lv_at hl 0 rfl) ?_
                  refine lv_iload_n hx hb dModel_type_200 rfl (lv_at hl 1 rfl) ?_
                  refine lv_iconst (v := 1) hx hb dModel_type_201 (by decide) ?_
                  have hpr208 : vp_in x1 (κ 0) := (vin (by assumption) (by omega))
                  have hjr208 : vp_in 1 (mn x1.toNatClampNeg) := (vp1 (by omega) (by omega))
                  refine pu_Vi (rest := []) S hC (m_child l γ a B Z κ b mn ν τ σr90 Fr90 nur90 hT x1 1 hpr208 hjr208) meModel_child qw_a66d450e0a ⟨Nat.le_of_ble_eq_true rfl, Nat.le_of_ble_eq_true rfl⟩ (md_rv hC hM) hM rfl hl.1 rfl (Nat.le_of_ble_eq_true rfl) dModel_type_202 ⟨Nat.zero_le _, Nat.zero_le _⟩ (fun r208 hr208 => ?_)
                  obtain ⟨hir208, hltr208, hxr208⟩ := ch_in hTR hs0 hpr208 hjr208 hr208
                  refine lv_istore (lv' := [(5, .int r208), (0, .ref a), (1, .int x1), (2, .int v87), (3, .int r90), (4, .int v92)]) hx hb dModel_type_205 hl (by decide) rfl (fun ls hl => ?_)
                  refine lv_aload_n hx hb dModel_type_207 rfl (lv_at hl 1 rfl) ?_
                  refine lv_iload_n hx hb dModel_type_208 rfl (lv_at hl 2 rfl) ?_
                  refine lv_iconst (v := 0) hx hb dModel_type_209 (by decide) ?_
                  have hpr209 : vp_in x1 (κ 0) := (vin (by assumption) (by omega))
                  have hjr209 : vp_in 0 (mn x1.toNatClampNeg) := (vp0 (by omega) (by omega))
                  refine pu_Vi (rest := []) S hC (m_child l γ a B Z κ b mn ν τ σr90 Fr90 nur90 hT x1 0 hpr209 hjr209) meModel_child qw_a66d450e0a ⟨Nat.le_of_ble_eq_true rfl, Nat.le_of_ble_eq_true rfl⟩ (md_rv hC hM) hM rfl hl.1 rfl (Nat.le_of_ble_eq_true rfl) dModel_type_210 ⟨Nat.zero_le _, Nat.zero_le _⟩ (fun r209 hr209 => ?_)
                  obtain ⟨hir209, hltr209, hxr209⟩ := ch_in hTR hs0 hpr209 hjr209 hr209
                  refine lv_istore (lv' := [(6, .int r209), (5, .int r208), (0, .ref a), (1, .int x1), (2, .int v87), (3, .int r90), (4, .int v92)]) hx hb dModel_type_213 hl (by decide) rfl (fun ls hl => ?_)
                  refine lv_aload_n hx hb dModel_type_215 rfl (lv_at hl 2 rfl) ?_
                  refine md_gA S hC hM 9 (by decide) rfl qw_a119aeeca0 dModel_type_216 ?_
                  refine lv_iload hx hb dModel_type_219 (lv_at hl 1 rfl) ?_
                  refine md_ild S hC hM 9 5 10000 (Fr90 9) rfl rfl (by decide) rfl rfl (vin (by assumption) (by omega)) dModel_type_221 ?_
                  refine lv_topi (fun v210 ev210 => ?_)
                  refine lv_iconst (v := 2) hx hb dModel_type_222 (by decide) ?_
                  have J237 : ∀ (ls : Array Slot), lv_has ls 13 [(0, .ref a), (1, .int x1), (2, .int v87), (3, .int r90), (4, .int v92), (5, .int r208), (6, .int r209)] → W p l e (bs_rm 7 0 0 177) s m args below meth c H locs 0 0 Q (F0 m 237 ls []) := by
                    intro ls hl
                    refine lv_aload_n hx hb dModel_type_237 rfl (lv_at hl 0 rfl) ?_
                    refine lv_iload_n hx hb dModel_type_238 rfl (lv_at hl 1 rfl) ?_
                    refine lv_iconst (v := 3) hx hb dModel_type_239 (by decide) ?_
                    refine mu_Vi (rest := []) S hC (fun q h => hA q (Nat.le_trans hS.1 h)) (fun q h => h) hS (m_wrong l γ a B Z κ b mn ν τ σr90 Fr90 nur90 hT x1 3 hF) meModel_wrong qw_a6e9824456 ⟨Nat.le_of_ble_eq_true rfl, Nat.le_of_ble_eq_true rfl⟩ (md_rv hC hM) hM rfl hl.1 rfl (Nat.le_of_ble_eq_true rfl) dModel_type_240 ⟨Nat.le_refl _, Nat.le_refl _⟩ (fun r256 H locs hPO hS _ _ => ?_)
                    obtain ⟨σr256, hM, hF, h0r256⟩ := hPO
                    exact hE _ _ _ _ _ hS ⟨κ, _, ⟨rfl, rfl, rfl⟩, b, mn, ν, τ, σr256, Fr90, nur90, hT, hZ, hF, hG, rfl, hM⟩ dModel_type_243
                  refine lv_icmp_ne (tgt := 237) hx hb dModel_type_223 (by decide) (fun c257 => ?_) (fun c257 => ?_)
                  · exact J237 ls  (lv_sub hl [2, 3, 4, 5, 6, 1, 0] rfl)
                  · refine lv_aload_n hx hb dModel_type_226 rfl (lv_at hl 2 rfl) ?_
                    refine md_gA S hC hM 9 (by decide) rfl qw_a119aeeca0 dModel_type_227 ?_
                    refine lv_iload hx hb dModel_type_230 (lv_at hl 0 rfl) ?_
                    refine md_ild S hC hM 9 5 10000 (Fr90 9) rfl rfl (by decide) rfl rfl (vin (by assumption) (by omega)) dModel_type_232 ?_
                    refine lv_topi (fun v258 ev258 => ?_)
                    refine lv_iconst (v := 2) hx hb dModel_type_233 (by decide) ?_
                    refine lv_icmp_eq (tgt := 244) hx hb dModel_type_234 (by decide) (fun c259 => ?_) (fun c259 => ?_)
                    · refine lv_aload_n hx hb dModel_type_244 rfl (lv_at hl 2 rfl) ?_
                      refine md_gA S hC hM 11 (by decide) rfl qw_88b9028ba7 dModel_type_245 ?_
                      refine lv_iload hx hb dModel_type_248 (lv_at hl 1 rfl) ?_
                      refine md_zld S hC hM 11 7 10000 (Fr90 11) rfl rfl (by decide) rfl rfl (vin (by assumption) (by omega)) dModel_type_250 ?_
                      refine lv_topi (fun v260 ev260 => ?_)
                      have J264 : ∀ (ls : Array Slot), lv_has ls 13 [(0, .ref a), (1, .int x1), (2, .int v87), (3, .int r90), (4, .int v92), (5, .int r208), (6, .int r209)] → W p l e (bs_rm 7 0 0 177) s m args below meth c H locs 0 0 Q (F0 m 264 ls []) := by
                        intro ls hl
                        refine lv_aload_n hx hb dModel_type_264 rfl (lv_at hl 0 rfl) ?_
                        refine lv_iload_n hx hb dModel_type_265 rfl (lv_at hl 1 rfl) ?_
                        refine mu_Vi (rest := []) S hC (fun q h => hA q (Nat.le_trans hS.1 h)) (fun q h => h) hS (m_constantFault l γ a B Z κ b mn ν τ σr90 Fr90 nur90 hT x1 hF) meModel_constantFault qw_e91042951e ⟨Nat.le_of_ble_eq_true rfl, Nat.le_of_ble_eq_true rfl⟩ (md_rv hC hM) hM rfl hl.1 rfl (Nat.le_of_ble_eq_true rfl) dModel_type_266 ⟨Nat.le_refl _, Nat.le_refl _⟩ (fun r301 H locs hPO hS _ _ => ?_)
                        obtain ⟨σr301, hM, hF, h0r301⟩ := hPO
                        exact hE _ _ _ _ _ hS ⟨κ, _, ⟨rfl, rfl, rfl⟩, b, mn, ν, τ, σr301, Fr90, nur90, hT, hZ, hF, hG, rfl, hM⟩ dModel_type_269
                      refine lv_if_eq (tgt := 264) hx hb dModel_type_251 (by decide) (fun c302 => ?_) (fun c302 => ?_)
                      · exact J264 ls  (lv_sub hl [2, 3, 4, 5, 6, 1, 0] rfl)
                      · refine lv_aload_n hx hb dModel_type_254 rfl (lv_at hl 2 rfl) ?_
                        refine md_gA S hC hM 11 (by decide) rfl qw_88b9028ba7 dModel_type_255 ?_
                        refine lv_iload hx hb dModel_type_258 (lv_at hl 0 rfl) ?_
                        refine md_zld S hC hM 11 7 10000 (Fr90 11) rfl rfl (by decide) rfl rfl (vin (by assumption) (by omega)) dModel_type_260 ?_
                        refine lv_topi (fun v303 ev303 => ?_)
                        refine lv_if_ne (tgt := 270) hx hb dModel_type_261 (by decide) (fun c304 => ?_) (fun c304 => ?_)
                        · have hba := ty_gk hTR hs0 hx1 hbg.2 hpm (hgtr90 (Int32.not_lt.mpr (by assumption))) hjr208 hxr208 (ev210.symm.trans (by assumption))
                          have hbb := ty_gk hTR hs0 hx1 hbg.2 hpm (hgtr90 (Int32.not_lt.mpr (by assumption))) hjr209 hxr209 (ev258.symm.trans (by assumption))
                          refine lv_aload_n hx hb dModel_type_270 rfl (lv_at hl 2 rfl) ?_
                          refine md_gA S hC hM 13 (by decide) rfl qw_7b809afc8c dModel_type_271 ?_
                          refine lv_iload hx hb dModel_type_274 (lv_at hl 1 rfl) ?_
                          refine md_lld S hC hM (vin (by assumption) (by omega)) dModel_type_276 ?_
                          refine lv_topl (fun v305 ev305 => ?_)
                          have ev305 : v305 = nur90 r208.toNatClampNeg := ev305
                          refine lv_lstore (lv' := [(7, .long v305), (6, .int r209), (5, .int r208), (0, .ref a), (1, .int x1), (2, .int v87), (3, .int r90), (4, .int v92)]) hx hb dModel_type_277 hl (by decide) rfl (fun ls hl => ?_)
                          refine lv_aload_n hx hb dModel_type_279 rfl (lv_at hl 3 rfl) ?_
                          refine md_gA S hC hM 13 (by decide) rfl qw_7b809afc8c dModel_type_280 ?_
                          refine lv_iload hx hb dModel_type_283 (lv_at hl 1 rfl) ?_
                          refine md_lld S hC hM (vin (by assumption) (by omega)) dModel_type_285 ?_
                          refine lv_topl (fun v306 ev306 => ?_)
                          have ev306 : v306 = nur90 r209.toNatClampNeg := ev306
                          refine lv_lstore (lv' := [(9, .long v306), (7, .long v305), (6, .int r209), (5, .int r208), (0, .ref a), (1, .int x1), (2, .int v87), (3, .int r90), (4, .int v92)]) hx hb dModel_type_286 hl (by decide) rfl (fun ls hl => ?_)
                          rw [← ev305] at hba
                          rw [← ev306] at hbb
                          refine lv_iload hx hb dModel_type_288 (lv_at hl 8 rfl) ?_
                          refine lv_bipush (v := 11) hx hb dModel_type_290 (by decide) ?_
                          have J311 : ∀ (ls : Array Slot), lv_has ls 13 [(0, .ref a), (1, .int x1), (2, .int v87), (3, .int r90), (4, .int v92), (5, .int r208), (6, .int r209), (7, .long v305), (9, .long v306)] → W p l e (bs_rm 7 0 0 177) s m args below meth c H locs 0 0 Q (F0 m 311 ls []) := by
                            intro ls hl
                            refine lv_iload hx hb dModel_type_311 (lv_at hl 4 rfl) ?_
                            refine lv_bipush (v := 12) hx hb dModel_type_313 (by decide) ?_
                            have J346 : ∀ (ls : Array Slot) (t0_346 : Int64), ((v92 = 12 ∧ t0_346 = v306 - v305 + 1) ∨ (v92 = 13 ∧ t0_346 = v305 - v306 + 1) ∨ (¬ v92 = 12 ∧ ¬ v92 = 13)) → lv_has ls 13 [(0, .ref a), (1, .int x1), (2, .int v87), (3, .int r90), (4, .int v92), (5, .int r208), (6, .int r209), (7, .long v305), (9, .long v306)] → W p l e (bs_rm 7 0 0 177) s m args below meth c H locs 0 0 Q (F0 m 346 ls [.long t0_346]) := by
                              intro ls t0_346 ht0_346 hl
                              refine lv_lstore (lv' := [(11, .long t0_346), (0, .ref a), (1, .int x1), (2, .int v87), (3, .int r90), (4, .int v92), (5, .int r208), (6, .int r209), (7, .long v305), (9, .long v306)]) hx hb dModel_type_346 hl (by decide) rfl (fun ls hl => ?_)
                              refine lv_lload hx hb dModel_type_348 (lv_at hl 0 rfl) ?_
                              refine lv_ldc2 (v := 64) hx hb hown (hW _ qw_3f44df6941) dModel_type_350 ?_
                              refine W.lcmp hx hb dModel_type_353 ?_
                              refine lv_topi (fun v371 ev371 => ?_)
                              refine lv_if_le (tgt := 364) hx hb dModel_type_354 (by decide) (fun c372 => ?_) (fun c372 => ?_)
                              · have h64 : t0_346.toInt ≤ 64 := c_le64 ev371 (by assumption)
                                refine lv_iload hx hb dModel_type_364 (lv_at hl 5 rfl) ?_
                                refine lv_bipush (v := 11) hx hb dModel_type_366 (by decide) ?_
                                have J400 : ∀ (ls : Array Slot), (v92 ≤ 11 ∨ (1 ≤ t0_346.toInt ∧ 0 ≤ v305.toInt ∧ 0 ≤ v306.toInt)) → lv_has ls 13 [(0, .ref a), (1, .int x1), (2, .int v87), (3, .int r90), (4, .int v92), (5, .int r208), (6, .int r209), (7, .long v305), (9, .long v306), (11, .long t0_346)] → W p l e (bs_rm 7 0 0 177) s m args below meth c H locs 0 0 Q (F0 m 400 ls []) := by
                                  intro ls h400 hl
                                  refine lv_aload_n hx hb dModel_type_400 rfl (lv_at hl 0 rfl) ?_
                                  refine md_gI S hC hM 21 (v := nI (κ 2)) hv21 (by decide) rfl qw_c82bee9e97 dModel_type_401 ?_
                                  refine lv_topi (fun v394 ev394 => ?_)
                                  refine lv_sipush (v := 1000) hx hb dModel_type_404 (by decide) ?_
                                  refine lv_icmp_ne (tgt := 422) hx hb dModel_type_407 (by decide) (fun c395 => ?_) (fun c395 => ?_)
                                  · have hN2 : κ 2 < 1000 := ne_lt ev394 (by assumption) rfl hs2
                                    refine lv_aload_n hx hb dModel_type_422 rfl (lv_at hl 0 rfl) ?_
                                    refine lv_aload_n hx hb dModel_type_423 rfl (lv_at hl 0 rfl) ?_
                                    refine md_gA S hC hM 5 (by decide) rfl qw_7e4081a75e dModel_type_424 ?_
                                    refine lv_iload_n hx hb dModel_type_427 rfl (lv_at hl 1 rfl) ?_
                                    refine md_ild S hC hM 5 3 4000 (τ 5) rfl rfl (by decide) rfl rfl (vin (by assumption) (by omega)) dModel_type_428 ?_
                                    refine lv_topi (fun v396 ev396 => ?_)
                                    refine lv_iload_n hx hb dModel_type_429 rfl (lv_at hl 1 rfl) ?_
                                    refine lv_iconst (v := 1) hx hb dModel_type_430 (by decide) ?_
                                    refine lv_isub hx hb dModel_type_431 ?_
                                    refine lv_topi (fun v397 ev397 => ?_)
                                    have hbg2 := bg_ok hTR hs0 hx1 ev396
                                    have hpw : v89 = v397 := ev89.trans ev397.symm
                                    have hpm2 := pm_int hx1 hs0 ev397
                                    refine mu_Vv (rest := []) S hC (fun q h => hA q (Nat.le_trans hS.1 h)) (fun q h => h) hS (m_keep l γ a B Z κ b mn ν τ σr90 Fr90 nur90 hT v396 v397 hbg2.1 (by have := vix hx1; omega) hZ hG (fun j h7 h8 h9 => hgtr90 (Int32.not_lt.mpr (by assumption)) j (by rw [hbg.2]; rw [hbg2.2] at h7; exact h7) (by rw [hpw]; exact h8) (by rw [hpw]; exact h9))) meModel_keep qw_8cce6d7b5c ⟨Nat.le_of_ble_eq_true rfl, Nat.le_of_ble_eq_true rfl⟩ (md_rv hC hM) hM rfl hl.1 rfl (Nat.le_of_ble_eq_true rfl) dModel_type_432 ⟨Nat.le_refl _, Nat.le_refl _⟩ (fun H locs hPO hS _ _ => ?_)
                                    obtain ⟨Fr398, nur398, hM, hZ, hG⟩ := hPO
                                    refine lv_aload_n hx hb dModel_type_435 rfl (lv_at hl 0 rfl) ?_
                                    refine lv_iload hx hb dModel_type_436 (lv_at hl 4 rfl) ?_
                                    refine lv_bipush (v := 11) hx hb dModel_type_438 (by decide) ?_
                                    have J448 : ∀ (ls : Array Slot) (t0_448 : Int32), ((t0_448 = 2 ∧ v92 = 11) ∨ (t0_448 = 3 ∧ ¬ v92 = 11)) → lv_has ls 13 [(0, .ref a), (1, .int x1), (2, .int v87), (3, .int r90), (4, .int v92), (5, .int r208), (6, .int r209), (7, .long v305), (9, .long v306), (11, .long t0_346)] → W p l e (bs_rm 7 0 0 177) s m args below meth c H locs 0 0 Q (F0 m 448 ls [.int t0_448, .ref a]) := by
                                      intro ls t0_448 ht0_448 hl
                                      refine lv_lload hx hb dModel_type_448 (lv_at hl 7 rfl) ?_
                                      refine lv_l2i hx hb dModel_type_450 rfl ?_
                                      refine lv_topi (fun v405 ev405 => ?_)
                                      refine lv_lload hx hb dModel_type_451 (lv_at hl 8 rfl) ?_
                                      refine lv_l2i hx hb dModel_type_453 rfl ?_
                                      refine lv_topi (fun v406 ev406 => ?_)
                                      refine lv_lload hx hb dModel_type_454 (lv_at hl 9 rfl) ?_
                                      refine lv_l2i hx hb dModel_type_456 rfl ?_
                                      refine lv_topi (fun v407 ev407 => ?_)
                                      refine lv_iload hx hb dModel_type_457 (lv_at hl 4 rfl) ?_
                                      refine lv_bipush (v := 13) hx hb dModel_type_459 (by decide) ?_
                                      have J469 : ∀ (ls : Array Slot) (t0_469 : Int32), ((t0_469 = 1 ∧ v92 = 13) ∨ (t0_469 = 0 ∧ ¬ v92 = 13)) → lv_has ls 13 [(0, .ref a), (1, .int x1), (2, .int v87), (3, .int r90), (4, .int v92), (5, .int r208), (6, .int r209), (7, .long v305), (9, .long v306), (11, .long t0_346)] → W p l e (bs_rm 7 0 0 177) s m args below meth c H locs 0 0 Q (F0 m 469 ls [.int t0_469, .int v407, .int v406, .int v405, .int t0_448, .ref a]) := by
                                        intro ls t0_469 ht0_469 hl
                                        refine mu_Vi (rest := []) S hC (fun q h => hA q (Nat.le_trans hS.1 h)) (fun q h => h) hS (m_newType l γ a B Z κ b mn ν τ σr90 Fr398 nur398 hT t0_448 v405 v406 v407 t0_469 (by omega) (ty_row ht0_448 ht0_469 h153 ht0_346 h64 h400 hba hbb ev405 ev406 ev407)) meModel_newType qw_90495fa5dd ⟨Nat.le_of_ble_eq_true rfl, Nat.le_of_ble_eq_true rfl⟩ (md_rv hC hM) hM rfl hl.1 rfl (Nat.le_of_ble_eq_true rfl) dModel_type_469 ⟨Nat.le_refl _, Nat.le_refl _⟩ (fun r410 H locs hPO hS _ _ => ?_)
                                        obtain ⟨hrr410, ν_r410, τ_r410, hM, hT_r410⟩ := hPO
                                        obtain ⟨κ_r410, hκ_r410⟩ : ∃ z : Nat → Nat, z = ku κ 2 (κ 2 + 1) := ⟨_, rfl⟩
                                        rw [← hκ_r410] at hT_r410
                                        obtain ⟨⟨hs0_r410, hs1_r410, hs2_r410, hs3_r410, hs4_r410, hs5_r410, hs6_r410⟩, ⟨hv6_r410, hv8_r410, hv21_r410, hv24_r410, hv30_r410, hv31_r410⟩, hTR_r410, hTY_r410, hOB_r410, hNM_r410⟩ := id hT_r410
                                        exact hE _ _ _ _ _ hS ⟨κ_r410, _, (by rw [hκ_r410]; exact ⟨rfl, rfl, rfl⟩), b, mn, ν_r410, τ_r410, σr90, Fr398, nur398, hT_r410, hZ, hF, hG, rfl, hM⟩ dModel_type_472
                                      refine lv_icmp_ne (tgt := 468) hx hb dModel_type_461 (by decide) (fun c411 => ?_) (fun c411 => ?_)
                                      · refine lv_iconst (v := 0) hx hb dModel_type_468 (by decide) ?_
                                        exact J469 ls 0 (by first | exact Or.inl ⟨rfl, by assumption⟩ | exact Or.inr ⟨rfl, by assumption⟩) (lv_sub hl [0, 1, 2, 3, 4, 5, 6, 7, 8, 9] rfl)
                                      · refine lv_iconst (v := 1) hx hb dModel_type_464 (by decide) ?_
                                        refine lv_goto (tgt := 469) hx hb dModel_type_465 (by decide) ?_
                                        exact J469 ls 1 (by first | exact Or.inl ⟨rfl, by assumption⟩ | exact Or.inr ⟨rfl, by assumption⟩) (lv_sub hl [0, 1, 2, 3, 4, 5, 6, 7, 8, 9] rfl)
                                    refine lv_icmp_ne (tgt := 447) hx hb dModel_type_440 (by decide) (fun c412 => ?_) (fun c412 => ?_)
                                    · refine lv_iconst (v := 3) hx hb dModel_type_447 (by decide) ?_
                                      exact J448 ls 3 (by first | exact Or.inl ⟨rfl, by assumption⟩ | exact Or.inr ⟨rfl, by assumption⟩) (lv_sub hl [0, 1, 2, 3, 4, 5, 6, 7, 8, 9] rfl)
                                    · refine lv_iconst (v := 2) hx hb dModel_type_443 (by decide) ?_
                                      refine lv_goto (tgt := 448) hx hb dModel_type_444 (by decide) ?_
                                      exact J448 ls 2 (by first | exact Or.inl ⟨rfl, by assumption⟩ | exact Or.inr ⟨rfl, by assumption⟩) (lv_sub hl [0, 1, 2, 3, 4, 5, 6, 7, 8, 9] rfl)
                                  · refine lv_aload_n hx hb dModel_type_410 rfl (lv_at hl 0 rfl) ?_
                                    refine lv_iconst (v := 2) hx hb dModel_type_411 (by decide) ?_
                                    refine md_pD S hC hM hS 0 rfl (by decide) rfl qw_53e275eed6 rfl (by decide +kernel) dModel_type_412 (fun H locs hM hS => ?_)
                                    obtain ⟨σ413, eσ413⟩ : ∃ z : Nat → Int32, z = upd σr90 0 2 := ⟨_, rfl⟩
                                    rw [← eσ413] at hM
                                    have hF : FD σ413 := hF.up eσ413 (by decide) (by decide)
                                    refine lv_aload_n hx hb dModel_type_415 rfl (lv_at hl 0 rfl) ?_
                                    refine lv_iload_n hx hb dModel_type_416 rfl (lv_at hl 2 rfl) ?_
                                    refine md_pD S hC hM hS 1 rfl (by decide) rfl qw_d4a57461ea rfl (by decide +kernel) dModel_type_417 (fun H locs hM hS => ?_)
                                    obtain ⟨σ414, eσ414⟩ : ∃ z : Nat → Int32, z = upd σ413 1 v87 := ⟨_, rfl⟩
                                    rw [← eσ414] at hM
                                    have hF : FD σ414 := hF.up eσ414 (by decide) (by decide)
                                    refine lv_iconst (v := 0) hx hb dModel_type_420 (by decide) ?_
                                    exact hE _ _ _ _ _ hS ⟨κ, _, ⟨rfl, rfl, rfl⟩, b, mn, ν, τ, σ414, Fr90, nur90, hT, hZ, hF, hG, rfl, hM⟩ dModel_type_421
                                refine lv_icmp_le (tgt := 400) hx hb dModel_type_368 (by decide) (fun c415 => ?_) (fun c415 => ?_)
                                · exact J400 ls (by first | exact Or.inl (by assumption) | exact Or.inr ⟨c_ge1 ev374 (by assumption), c_ge0 ev376 (by assumption), c_ge0 ev378 (Int32.not_lt.mpr (by assumption))⟩) (lv_sub hl [1, 2, 3, 4, 5, 6, 7, 8, 9, 0] rfl)
                                · refine lv_lload hx hb dModel_type_371 (lv_at hl 0 rfl) ?_
                                  refine lv_lconst (v := 1) hx hb dModel_type_373 (by decide) ?_
                                  refine W.lcmp hx hb dModel_type_374 ?_
                                  refine lv_topi (fun v416 ev416 => ?_)
                                  have J392 : ∀ (ls : Array Slot), lv_has ls 13 [(0, .ref a), (1, .int x1), (2, .int v87), (3, .int r90), (4, .int v92), (5, .int r208), (6, .int r209), (7, .long v305), (9, .long v306), (11, .long t0_346)] → W p l e (bs_rm 7 0 0 177) s m args below meth c H locs 0 0 Q (F0 m 392 ls []) := by
                                    intro ls hl
                                    refine lv_aload_n hx hb dModel_type_392 rfl (lv_at hl 0 rfl) ?_
                                    refine lv_iload_n hx hb dModel_type_393 rfl (lv_at hl 1 rfl) ?_
                                    refine lv_bipush (v := 6) hx hb dModel_type_394 (by decide) ?_
                                    refine mu_Vi (rest := []) S hC (fun q h => hA q (Nat.le_trans hS.1 h)) (fun q h => h) hS (m_wrong l γ a B Z κ b mn ν τ σr90 Fr90 nur90 hT x1 6 hF) meModel_wrong qw_a6e9824456 ⟨Nat.le_of_ble_eq_true rfl, Nat.le_of_ble_eq_true rfl⟩ (md_rv hC hM) hM rfl hl.1 rfl (Nat.le_of_ble_eq_true rfl) dModel_type_396 ⟨Nat.le_refl _, Nat.le_refl _⟩ (fun r423 H locs hPO hS _ _ => ?_)
                                    obtain ⟨σr423, hM, hF, h0r423⟩ := hPO
                                    exact hE _ _ _ _ _ hS ⟨κ, _, ⟨rfl, rfl, rfl⟩, b, mn, ν, τ, σr423, Fr90, nur90, hT, hZ, hF, hG, rfl, hM⟩ dModel_type_399
                                  refine lv_if_lt (tgt := 392) hx hb dModel_type_375 (by decide) (fun c424 => ?_) (fun c424 => ?_)
                                  · exact J392 ls  (lv_sub hl [1, 2, 3, 4, 5, 6, 7, 8, 9, 0] rfl)
                                  · refine lv_lload hx hb dModel_type_378 (lv_at hl 8 rfl) ?_
                                    refine lv_lconst (v := 0) hx hb dModel_type_380 (by decide) ?_
                                    refine W.lcmp hx hb dModel_type_381 ?_
                                    refine lv_topi (fun v425 ev425 => ?_)
                                    refine lv_if_lt (tgt := 392) hx hb dModel_type_382 (by decide) (fun c426 => ?_) (fun c426 => ?_)
                                    · exact J392 ls  (lv_sub hl [1, 2, 3, 4, 5, 6, 7, 8, 9, 0] rfl)
                                    · refine lv_lload hx hb dModel_type_385 (lv_at hl 9 rfl) ?_
                                      refine lv_lconst (v := 0) hx hb dModel_type_387 (by decide) ?_
                                      refine W.lcmp hx hb dModel_type_388 ?_
                                      refine lv_topi (fun v427 ev427 => ?_)
                                      refine lv_if_ge (tgt := 400) hx hb dModel_type_389 (by decide) (fun c428 => ?_) (fun c428 => ?_)
                                      · exact J400 ls (by first | exact Or.inl (by assumption) | exact Or.inr ⟨c_ge1 ev416 (by assumption), c_ge0 ev425 (by assumption), c_ge0 ev427 (Int32.not_lt.mpr (by assumption))⟩) (lv_sub hl [1, 2, 3, 4, 5, 6, 7, 8, 9, 0] rfl)
                                      · exact J392 ls  (lv_sub hl [1, 2, 3, 4, 5, 6, 7, 8, 9, 0] rfl)
                              · refine lv_aload_n hx hb dModel_type_357 rfl (lv_at hl 1 rfl) ?_
                                refine lv_iload_n hx hb dModel_type_358 rfl (lv_at hl 2 rfl) ?_
                                refine lv_iconst (v := 4) hx hb dModel_type_359 (by decide) ?_
                                refine mu_Vi (rest := []) S hC (fun q h => hA q (Nat.le_trans hS.1 h)) (fun q h => h) hS (m_wrong l γ a B Z κ b mn ν τ σr90 Fr90 nur90 hT x1 4 hF) meModel_wrong qw_a6e9824456 ⟨Nat.le_of_ble_eq_true rfl, Nat.le_of_ble_eq_true rfl⟩ (md_rv hC hM) hM rfl hl.1 rfl (Nat.le_of_ble_eq_true rfl) dModel_type_360 ⟨Nat.le_refl _, Nat.le_refl _⟩ (fun r429 H locs hPO hS _ _ => ?_)
                                obtain ⟨σr429, hM, hF, h0r429⟩ := hPO
                                exact hE _ _ _ _ _ hS ⟨κ, _, ⟨rfl, rfl, rfl⟩, b, mn, ν, τ, σr429, Fr90, nur90, hT, hZ, hF, hG, rfl, hM⟩ dModel_type_363
                            refine lv_icmp_ne (tgt := 328) hx hb dModel_type_315 (by decide) (fun c430 => ?_) (fun c430 => ?_)
                            · refine lv_iload hx hb dModel_type_328 (lv_at hl 4 rfl) ?_
                              refine lv_bipush (v := 13) hx hb dModel_type_330 (by decide) ?_
                              refine lv_icmp_ne (tgt := 345) hx hb dModel_type_332 (by decide) (fun c431 => ?_) (fun c431 => ?_)
                              · refine lv_lconst (v := 0) hx hb dModel_type_345 (by decide) ?_
                                exact J346 ls 0 (by first | exact Or.inl ⟨by assumption, by rw [e0, ev345]⟩ | exact Or.inr (Or.inl ⟨by assumption, by rw [e0, ev345]⟩) | exact Or.inr (Or.inr ⟨by assumption, by assumption⟩)) (lv_sub hl [0, 1, 2, 3, 4, 5, 6, 7, 8] rfl)
                              · refine lv_lload hx hb dModel_type_335 (lv_at hl 7 rfl) ?_
                                refine lv_lload hx hb dModel_type_337 (lv_at hl 8 rfl) ?_
                                refine lv_lsub hx hb dModel_type_339 ?_
                                refine lv_topl (fun v432 ev432 => ?_)
                                refine lv_lconst (v := 1) hx hb dModel_type_340 (by decide) ?_
                                refine lv_ladd hx hb dModel_type_341 ?_
                                refine lv_topl (fun v433 ev433 => ?_)
                                refine lv_goto (tgt := 346) hx hb dModel_type_342 (by decide) ?_
                                exact J346 ls v433 (by first | exact Or.inl ⟨by assumption, by rw [ev433, ev432]⟩ | exact Or.inr (Or.inl ⟨by assumption, by rw [ev433, ev432]⟩) | exact Or.inr (Or.inr ⟨by assumption, by assumption⟩)) (lv_sub hl [0, 1, 2, 3, 4, 5, 6, 7, 8] rfl)
                            · refine lv_lload hx hb dModel_type_318 (lv_at hl 8 rfl) ?_
                              refine lv_lload hx hb dModel_type_320 (lv_at hl 7 rfl) ?_
                              refine lv_lsub hx hb dModel_type_322 ?_
                              refine lv_topl (fun v434 ev434 => ?_)
                              refine lv_lconst (v := 1) hx hb dModel_type_323 (by decide) ?_
                              refine lv_ladd hx hb dModel_type_324 ?_
                              refine lv_topl (fun v435 ev435 => ?_)
                              refine lv_goto (tgt := 346) hx hb dModel_type_325 (by decide) ?_
                              exact J346 ls v435 (by first | exact Or.inl ⟨by assumption, by rw [ev435, ev434]⟩ | exact Or.inr (Or.inl ⟨by assumption, by rw [ev435, ev434]⟩) | exact Or.inr (Or.inr ⟨by assumption, by assumption⟩)) (lv_sub hl [0, 1, 2, 3, 4, 5, 6, 7, 8] rfl)
                          refine lv_icmp_ne (tgt := 311) hx hb dModel_type_292 (by decide) (fun c436 => ?_) (fun c436 => ?_)
                          · exact J311 ls  (lv_sub hl [4, 5, 6, 7, 8, 3, 2, 1, 0] rfl)
                          · refine lv_lload hx hb dModel_type_295 (lv_at hl 1 rfl) ?_
                            refine lv_lload hx hb dModel_type_297 (lv_at hl 0 rfl) ?_
                            refine W.lcmp hx hb dModel_type_299 ?_
                            refine lv_topi (fun v437 ev437 => ?_)
                            refine lv_if_le (tgt := 311) hx hb dModel_type_300 (by decide) (fun c438 => ?_) (fun c438 => ?_)
                            · exact J311 ls  (lv_sub hl [4, 5, 6, 7, 8, 3, 2, 1, 0] rfl)
                            · refine lv_aload_n hx hb dModel_type_303 rfl (lv_at hl 4 rfl) ?_
                              refine lv_iload_n hx hb dModel_type_304 rfl (lv_at hl 5 rfl) ?_
                              refine lv_bipush (v := 8) hx hb dModel_type_305 (by decide) ?_
                              refine mu_Vi (rest := []) S hC (fun q h => hA q (Nat.le_trans hS.1 h)) (fun q h => h) hS (m_wrong l γ a B Z κ b mn ν τ σr90 Fr90 nur90 hT x1 8 hF) meModel_wrong qw_a6e9824456 ⟨Nat.le_of_ble_eq_true rfl, Nat.le_of_ble_eq_true rfl⟩ (md_rv hC hM) hM rfl hl.1 rfl (Nat.le_of_ble_eq_true rfl) dModel_type_307 ⟨Nat.le_refl _, Nat.le_refl _⟩ (fun r439 H locs hPO hS _ _ => ?_)
                              obtain ⟨σr439, hM, hF, h0r439⟩ := hPO
                              exact hE _ _ _ _ _ hS ⟨κ, _, ⟨rfl, rfl, rfl⟩, b, mn, ν, τ, σr439, Fr90, nur90, hT, hZ, hF, hG, rfl, hM⟩ dModel_type_310
                        · exact J264 ls  (lv_sub hl [2, 3, 4, 5, 6, 1, 0] rfl)
                    · exact J237 ls  (lv_sub hl [2, 3, 4, 5, 6, 1, 0] rfl)
                · refine lv_aload_n hx hb dModel_type_192 rfl (lv_at hl 0 rfl) ?_
                  refine lv_iload_n hx hb dModel_type_193 rfl (lv_at hl 1 rfl) ?_
                  refine lv_iconst (v := 2) hx hb dModel_type_194 (by decide) ?_
                  refine mu_Vi (rest := []) S hC (fun q h => hA q (Nat.le_trans hS.1 h)) (fun q h => h) hS (m_wrong l γ a B Z κ b mn ν τ σr90 Fr90 nur90 hT x1 2 hF) meModel_wrong qw_a6e9824456 ⟨Nat.le_of_ble_eq_true rfl, Nat.le_of_ble_eq_true rfl⟩ (md_rv hC hM) hM rfl hl.1 rfl (Nat.le_of_ble_eq_true rfl) dModel_type_195 ⟨Nat.le_refl _, Nat.le_refl _⟩ (fun r440 H locs hPO hS _ _ => ?_)
                  obtain ⟨σr440, hM, hF, h0r440⟩ := hPO
                  exact hE _ _ _ _ _ hS ⟨κ, _, ⟨rfl, rfl, rfl⟩, b, mn, ν, τ, σr440, Fr90, nur90, hT, hZ, hF, hG, rfl, hM⟩ dModel_type_198
              refine lv_icmp_ne (tgt := 188) hx hb dModel_type_181 (by decide) (fun c441 => ?_) (fun c441 => ?_)
              · refine lv_iconst (v := 5) hx hb dModel_type_188 (by decide) ?_
                exact J189 ls 5 (lv_sub hl [0, 1, 2, 3, 4] rfl)
              · refine lv_iconst (v := 0) hx hb dModel_type_184 (by decide) ?_
                refine lv_goto (tgt := 189) hx hb dModel_type_185 (by decide) ?_
                exact J189 ls 0 (lv_sub hl [0, 1, 2, 3, 4] rfl)
            · exact J163 ls  (lv_sub hl [0, 1, 2, 3, 4] rfl)
          refine lv_icmp_eq (tgt := 153) hx hb dModel_type_136 (by decide) (fun c442 => ?_) (fun c442 => ?_)
          · exact J153 ls (by first | exact Or.inl (by assumption) | exact Or.inr (Or.inl (by assumption)) | exact Or.inr (Or.inr (by assumption))) (lv_sub hl [3, 4, 2, 1, 0] rfl)
          · refine lv_iload hx hb dModel_type_139 (lv_at hl 0 rfl) ?_
            refine lv_bipush (v := 12) hx hb dModel_type_141 (by decide) ?_
            refine lv_icmp_eq (tgt := 153) hx hb dModel_type_143 (by decide) (fun c443 => ?_) (fun c443 => ?_)
            · exact J153 ls (by first | exact Or.inl (by assumption) | exact Or.inr (Or.inl (by assumption)) | exact Or.inr (Or.inr (by assumption))) (lv_sub hl [3, 4, 2, 1, 0] rfl)
            · refine lv_iload hx hb dModel_type_146 (lv_at hl 0 rfl) ?_
              refine lv_bipush (v := 13) hx hb dModel_type_148 (by decide) ?_
              refine lv_icmp_ne (tgt := 163) hx hb dModel_type_150 (by decide) (fun c444 => ?_) (fun c444 => ?_)
              · exact J163 ls  (lv_sub hl [3, 4, 2, 1, 0] rfl)
              · exact J153 ls (by first | exact Or.inl (by assumption) | exact Or.inr (Or.inl (by assumption)) | exact Or.inr (Or.inr (by assumption))) (lv_sub hl [3, 4, 2, 1, 0] rfl)
        · refine lv_aload_n hx hb dModel_type_67 rfl (lv_at hl 3 rfl) ?_
          refine md_gA S hC hM 4 (by decide) rfl qw_a8caa30de3 dModel_type_68 ?_
          refine lv_iload_n hx hb dModel_type_71 rfl (lv_at hl 4 rfl) ?_
          refine md_ild S hC hM 4 2 4000 (τ 4) rfl rfl (by decide) rfl rfl (vin (by assumption) (by omega)) dModel_type_72 ?_
          refine lv_topi (fun v445 ev445 => ?_)
          refine lv_if_le (tgt := 84) hx hb dModel_type_73 (by decide) (fun c446 => ?_) (fun c446 => ?_)
          · refine lv_aload_n hx hb dModel_type_84 rfl (lv_at hl 3 rfl) ?_
            refine lv_aload_n hx hb dModel_type_85 rfl (lv_at hl 3 rfl) ?_
            refine md_gA S hC hM 3 (by decide) rfl qw_9fb851a5fa dModel_type_86 ?_
            refine lv_iload_n hx hb dModel_type_89 rfl (lv_at hl 4 rfl) ?_
            refine md_ild S hC hM 3 1 4000 (τ 3) rfl rfl (by decide) rfl rfl (vin (by assumption) (by omega)) dModel_type_90 ?_
            refine lv_topi (fun v447 ev447 => ?_)
            refine mu_Vv (rest := []) S hC (fun q h => hA q (Nat.le_trans hS.1 h)) (fun q h => h) hS (m_find l γ a B Z κ b mn ν τ σr90 Fr90 nur90 hT v447 ) meModel_find qw_ece0c598e8 ⟨Nat.le_of_ble_eq_true rfl, Nat.le_of_ble_eq_true rfl⟩ (md_rv hC hM) hM rfl hl.1 rfl (Nat.le_of_ble_eq_true rfl) dModel_type_91 ⟨Nat.le_refl _, Nat.le_refl _⟩ (fun H locs hPO hS _ _ => ?_)
            obtain ⟨σr448, hM, hF⟩ := hPO
            refine lv_aload_n hx hb dModel_type_94 rfl (lv_at hl 3 rfl) ?_
            refine md_gI S hC hM 32 (v := σr448 32) rfl (by decide) rfl qw_9d5e299446 dModel_type_95 ?_
            refine lv_topi (fun v449 ev449 => ?_)
            refine lv_iconst (v := 5) hx hb dModel_type_98 (by decide) ?_
            refine lv_icmp_ne (tgt := 111) hx hb dModel_type_99 (by decide) (fun c450 => ?_) (fun c450 => ?_)
            · refine lv_aload_n hx hb dModel_type_111 rfl (lv_at hl 3 rfl) ?_
              refine md_gI S hC hM 32 (v := σr448 32) rfl (by decide) rfl qw_9d5e299446 dModel_type_112 ?_
              refine lv_topi (fun v451 ev451 => ?_)
              refine lv_if_ne (tgt := 125) hx hb dModel_type_115 (by decide) (fun c452 => ?_) (fun c452 => ?_)
              · refine lv_aload_n hx hb dModel_type_125 rfl (lv_at hl 3 rfl) ?_
                refine lv_iload_n hx hb dModel_type_126 rfl (lv_at hl 4 rfl) ?_
                refine lv_iconst (v := 2) hx hb dModel_type_127 (by decide) ?_
                refine mu_Vi (rest := []) S hC (fun q h => hA q (Nat.le_trans hS.1 h)) (fun q h => h) hS (m_wrong l γ a B Z κ b mn ν τ σr448 Fr90 nur90 hT x1 2 hF) meModel_wrong qw_a6e9824456 ⟨Nat.le_of_ble_eq_true rfl, Nat.le_of_ble_eq_true rfl⟩ (md_rv hC hM) hM rfl hl.1 rfl (Nat.le_of_ble_eq_true rfl) dModel_type_128 ⟨Nat.le_refl _, Nat.le_refl _⟩ (fun r453 H locs hPO hS _ _ => ?_)
                obtain ⟨σr453, hM, hF, h0r453⟩ := hPO
                exact hE _ _ _ _ _ hS ⟨κ, _, ⟨rfl, rfl, rfl⟩, b, mn, ν, τ, σr453, Fr90, nur90, hT, hZ, hF, hG, rfl, hM⟩ dModel_type_131
              · refine lv_aload_n hx hb dModel_type_118 rfl (lv_at hl 3 rfl) ?_
                refine md_gI S hC hM 33 (v := σr448 33) rfl (by decide) rfl qw_c60a40a4a7 dModel_type_119 ?_
                refine lv_topi (fun v454 ev454 => ?_)
                refine lv_goto (tgt := 131) hx hb dModel_type_122 (by decide) ?_
                exact hE _ _ _ _ _ hS ⟨κ, _, ⟨rfl, rfl, rfl⟩, b, mn, ν, τ, σr448, Fr90, nur90, hT, hZ, hF, hG, rfl, hM⟩ dModel_type_131
            · refine lv_aload_n hx hb dModel_type_102 rfl (lv_at hl 3 rfl) ?_
              refine lv_iload_n hx hb dModel_type_103 rfl (lv_at hl 4 rfl) ?_
              refine lv_iconst (v := 1) hx hb dModel_type_104 (by decide) ?_
              refine mu_Vi (rest := []) S hC (fun q h => hA q (Nat.le_trans hS.1 h)) (fun q h => h) hS (m_wrong l γ a B Z κ b mn ν τ σr448 Fr90 nur90 hT x1 1 hF) meModel_wrong qw_a6e9824456 ⟨Nat.le_of_ble_eq_true rfl, Nat.le_of_ble_eq_true rfl⟩ (md_rv hC hM) hM rfl hl.1 rfl (Nat.le_of_ble_eq_true rfl) dModel_type_105 ⟨Nat.le_refl _, Nat.le_refl _⟩ (fun r455 H locs hPO hS _ _ => ?_)
              obtain ⟨σr455, hM, hF, h0r455⟩ := hPO
              refine lv_goto (tgt := 131) hx hb dModel_type_108 (by decide) ?_
              exact hE _ _ _ _ _ hS ⟨κ, _, ⟨rfl, rfl, rfl⟩, b, mn, ν, τ, σr455, Fr90, nur90, hT, hZ, hF, hG, rfl, hM⟩ dModel_type_131
          · refine lv_aload_n hx hb dModel_type_76 rfl (lv_at hl 3 rfl) ?_
            refine lv_iload_n hx hb dModel_type_77 rfl (lv_at hl 4 rfl) ?_
            refine lv_bipush (v := 11) hx hb dModel_type_78 (by decide) ?_
            refine mu_Vi (rest := []) S hC (fun q h => hA q (Nat.le_trans hS.1 h)) (fun q h => h) hS (m_wrong l γ a B Z κ b mn ν τ σr90 Fr90 nur90 hT x1 11 hF) meModel_wrong qw_a6e9824456 ⟨Nat.le_of_ble_eq_true rfl, Nat.le_of_ble_eq_true rfl⟩ (md_rv hC hM) hM rfl hl.1 rfl (Nat.le_of_ble_eq_true rfl) dModel_type_80 ⟨Nat.le_refl _, Nat.le_refl _⟩ (fun r456 H locs hPO hS _ _ => ?_)
            obtain ⟨σr456, hM, hF, h0r456⟩ := hPO
            exact hE _ _ _ _ _ hS ⟨κ, _, ⟨rfl, rfl, rfl⟩, b, mn, ν, τ, σr456, Fr90, nur90, hT, hZ, hF, hG, rfl, hM⟩ dModel_type_83
      · refine lv_iload_n hx hb dModel_type_49 rfl (lv_at hl 0 rfl) ?_
        refine lv_ineg hx hb dModel_type_50 ?_
        refine lv_topi (fun v457 ev457 => ?_)
        exact hE _ _ _ _ _ hS ⟨κ, _, ⟨rfl, rfl, rfl⟩, b, mn, ν, τ, σr90, Fr90, nur90, hT, hZ, hF, hG, rfl, hM⟩ dModel_type_51
    · refine lv_iconst (v := 0) hx hb dModel_type_24 (by decide) ?_
      exact hE _ _ _ _ _ hS ⟨κ, _, ⟨rfl, rfl, rfl⟩, b, mn, ν, τ, σ84, F, nu, hT, hZ, hF, hG, rfl, hM⟩ dModel_type_25
  refine lv_if_eq (tgt := 13) hx hb dModel_type_6 (by decide) (fun c458 => ?_) (fun c458 => ?_)
  · refine lv_iconst (v := 0) hx hb dModel_type_13 (by decide) ?_
    exact J14 ls 0 (by first | exact Or.inl (by decide) | exact Or.inr ⟨rfl, hr1 (by assumption)⟩) (lv_sub hl [0, 1] rfl)
  · refine lv_iconst (v := 1) hx hb dModel_type_9 (by decide) ?_
    refine lv_goto (tgt := 14) hx hb dModel_type_10 (by decide) ?_
    exact J14 ls 1 (by first | exact Or.inl (by decide) | exact Or.inr ⟨rfl, hr1 (by assumption)⟩) (lv_sub hl [0, 1] rfl)
theorem qw_07c5ec0f25 : (Cond.methodLink R_Model 111 yModel_goodName) ∈ bs_W0 := bs_in (in_tables_1_6 (List.mem_of_getElem? (i := 28) rfl)) rfl
theorem qw_52fabcdf69 : (Cond.methodLink R_Model 281 yModel_hasHere) ∈ bs_W0 := bs_in (in_tables_1_6 (List.mem_of_getElem? (i := 215) rfl)) rfl
theorem qw_8127fdf1ea : (Cond.methodLink R_Model 284 yModel_name) ∈ bs_W0 := bs_in (in_tables_1_6 (List.mem_of_getElem? (i := 219) rfl)) rfl
set_option maxHeartbeats 4000000 in
set_option maxRecDepth 100000 in
theorem m_subtype (l : Launch) (γ : gE) (a : Nat) (B : Nat → Nat) (Z : Nat → Prop) (κ b mn : Nat → Nat) (ν : Nat → Int32) (τ : Nat → Nat → Int32) (σ : Nat → Int32) (F : Nat → Nat → Int32) (nu : Nat → Int64) (hT : ST κ b mn ν τ) (x1 : Int32) (x2 : Int32) (hZ : SZ F) (hF : FD σ) (hG : GD F nu) : MU l yModel_subtype bModel_subtype 3 (some .int) 1 24 0 0 [.ref a, .int x1, .int x2] γ Z (MD γ a B Z ν τ σ F nu) (mQi (fun r H => ∃ (κ' : Nat → Nat) (cd : Int32), (κ' 5 = κ 5 ∧ κ' 0 = κ 0 ∧ κ' 1 = κ 1) ∧ MI γ a B Z κ' cd H) Z) := by
  refine mu_openI (by decide) (Nat.le_of_ble_eq_true rfl) ?_
  intro p e s m args below meth c ls Q S hnm hC hA hM hE hl
  have hS : va_S Z s.heap s.heap [] := va_S.rf
  obtain ⟨hx, hb, hml, hown, hW⟩ := id S
  obtain ⟨⟨hs0, hs1, hs2, hs3, hs4, hs5, hs6⟩, ⟨hv6, hv8, hv21, hv24, hv30, hv31⟩, hTR, hTY, hOB, hNM⟩ := id hT
  have hl : lv_has ls 3 [(0, .ref a), (1, .int x1), (2, .int x2)] := hl
  refine lv_aload_n hx hb dModel_subtype_0 rfl (lv_at hl 0 rfl) ?_
  refine lv_aload_n hx hb dModel_subtype_1 rfl (lv_at hl 0 rfl) ?_
  refine lv_iload_n hx hb dModel_subtype_2 rfl (lv_at hl 2 rfl) ?_
  refine pu_Vi (rest := [.ref a]) S hC (m_noType l γ a B Z κ b mn ν τ σ F nu hT x2 ) meModel_noType qw_0ba745738d ⟨Nat.le_of_ble_eq_true rfl, Nat.le_of_ble_eq_true rfl⟩ (md_rv hC hM) hM rfl hl.1 rfl (Nat.le_of_ble_eq_true rfl) dModel_subtype_3 ⟨Nat.zero_le _, Nat.zero_le _⟩ (fun r1 hr1 => ?_)
  have J25 : ∀ (ls : Array Slot) (t0_25 : Int32), (0 < t0_25 ∨ (t0_25 = 0 ∧ vp_in x2 (κ 2))) → lv_has ls 3 [(0, .ref a), (1, .int x1), (2, .int x2)] → W p l e (bs_rm 1 0 0 24) s m args below meth c s.heap [] 0 0 Q (F0 m 25 ls [.int t0_25, .ref a]) := by
    intro ls t0_25 ht0_25 hl
    refine md_pD S hC hM hS 0 rfl (by decide) rfl qw_53e275eed6 rfl (by decide +kernel) dModel_subtype_25 (fun H locs hM hS => ?_)
    obtain ⟨σ18, eσ18⟩ : ∃ z : Nat → Int32, z = upd σ 0 t0_25 := ⟨_, rfl⟩
    rw [← eσ18] at hM
    have hF : FD σ18 := hF.up eσ18 (by decide) (by decide)
    refine lv_aload_n hx hb dModel_subtype_28 rfl (lv_at hl 0 rfl) ?_
    refine md_gI S hC hM 0 (v := σ18 0) rfl (by decide) rfl qw_53e275eed6 dModel_subtype_29 ?_
    refine lv_topi (fun v19 ev19 => ?_)
    refine lv_if_le (tgt := 37) hx hb dModel_subtype_32 (by decide) (fun c20 => ?_) (fun c20 => ?_)
    · have hx2 : vp_in x2 (κ 2) := cd_0 eσ18 ev19 (by assumption) ht0_25
      refine lv_aload_n hx hb dModel_subtype_37 rfl (lv_at hl 0 rfl) ?_
      refine lv_iload_n hx hb dModel_subtype_38 rfl (lv_at hl 1 rfl) ?_
      refine pu_Vi (rest := []) S hC (m_hasHere l γ a B Z κ b mn ν τ σ18 F nu hT x1 ) meModel_hasHere qw_52fabcdf69 ⟨Nat.le_of_ble_eq_true rfl, Nat.le_of_ble_eq_true rfl⟩ (md_rv hC hM) hM rfl hl.1 rfl (Nat.le_of_ble_eq_true rfl) dModel_subtype_39 ⟨Nat.zero_le _, Nat.zero_le _⟩ (fun r21 hr21 => ?_)
      refine lv_if_eq (tgt := 53) hx hb dModel_subtype_42 (by decide) (fun c22 => ?_) (fun c22 => ?_)
      · refine lv_aload_n hx hb dModel_subtype_53 rfl (lv_at hl 0 rfl) ?_
        refine lv_aload_n hx hb dModel_subtype_54 rfl (lv_at hl 0 rfl) ?_
        refine md_gI S hC hM 30 (v := nI (κ 4)) hv30 (by decide) rfl qw_8d5d48b583 dModel_subtype_55 ?_
        refine lv_topi (fun v23 ev23 => ?_)
        refine lv_sipush (v := 3000) hx hb dModel_subtype_58 (by decide) ?_
        have J69 : ∀ (ls : Array Slot) (t0_69 : Int32), (0 < t0_69 ∨ (t0_69 = 0 ∧ κ 4 < 3000)) → lv_has ls 3 [(0, .ref a), (1, .int x1), (2, .int x2)] → W p l e (bs_rm 1 0 0 24) s m args below meth c H locs 0 0 Q (F0 m 69 ls [.int t0_69, .ref a]) := by
          intro ls t0_69 ht0_69 hl
          refine md_pD S hC hM hS 0 rfl (by decide) rfl qw_53e275eed6 rfl (by decide +kernel) dModel_subtype_69 (fun H locs hM hS => ?_)
          obtain ⟨σ30, eσ30⟩ : ∃ z : Nat → Int32, z = upd σ18 0 t0_69 := ⟨_, rfl⟩
          rw [← eσ30] at hM
          have hF : FD σ30 := hF.up eσ30 (by decide) (by decide)
          refine lv_aload_n hx hb dModel_subtype_72 rfl (lv_at hl 0 rfl) ?_
          refine md_gI S hC hM 0 (v := σ30 0) rfl (by decide) rfl qw_53e275eed6 dModel_subtype_73 ?_
          refine lv_topi (fun v31 ev31 => ?_)
          refine lv_if_le (tgt := 81) hx hb dModel_subtype_76 (by decide) (fun c32 => ?_) (fun c32 => ?_)
          · have hN4 : κ 4 < 3000 := cd_0 eσ30 ev31 (by assumption) ht0_69
            refine lv_aload_n hx hb dModel_subtype_81 rfl (lv_at hl 0 rfl) ?_
            refine lv_iconst (v := (-1)) hx hb dModel_subtype_82 (by decide) ?_
            refine md_pD S hC hM hS 1 rfl (by decide) rfl qw_d4a57461ea rfl (by decide +kernel) dModel_subtype_83 (fun H locs hM hS => ?_)
            obtain ⟨σ33, eσ33⟩ : ∃ z : Nat → Int32, z = upd σ30 1 (-1) := ⟨_, rfl⟩
            rw [← eσ33] at hM
            have hF : FD σ33 := hF.up eσ33 (by decide) (by decide)
            refine lv_aload_n hx hb dModel_subtype_86 rfl (lv_at hl 0 rfl) ?_
            refine lv_iload_n hx hb dModel_subtype_87 rfl (lv_at hl 1 rfl) ?_
            refine lv_iconst (v := 0) hx hb dModel_subtype_88 (by decide) ?_
            refine lv_iload_n hx hb dModel_subtype_89 rfl (lv_at hl 2 rfl) ?_
            refine lv_iconst (v := 0) hx hb dModel_subtype_90 (by decide) ?_
            refine mu_Vv (rest := []) S hC (fun q h => hA q (Nat.le_trans hS.1 h)) (fun q h => h) hS (m_name l γ a B Z κ b mn ν τ σ33 F nu hT x1 0 x2 0 (by omega) ⟨fun h9 => absurd h9 (by decide), fun h9 => absurd h9 (by decide), fun h9 => absurd h9 (by decide)⟩) meModel_name qw_8127fdf1ea ⟨Nat.le_of_ble_eq_true rfl, Nat.le_of_ble_eq_true rfl⟩ (md_rv hC hM) hM rfl hl.1 rfl (Nat.le_of_ble_eq_true rfl) dModel_subtype_91 ⟨Nat.le_refl _, Nat.le_refl _⟩ (fun H locs hPO hS _ _ => ?_)
            obtain ⟨ν_r34, τ_r34, hM, hT_r34⟩ := hPO
            obtain ⟨κ_r34, hκ_r34⟩ : ∃ z : Nat → Nat, z = ku κ 4 (κ 4 + 1) := ⟨_, rfl⟩
            rw [← hκ_r34] at hT_r34
            obtain ⟨⟨hs0_r34, hs1_r34, hs2_r34, hs3_r34, hs4_r34, hs5_r34, hs6_r34⟩, ⟨hv6_r34, hv8_r34, hv21_r34, hv24_r34, hv30_r34, hv31_r34⟩, hTR_r34, hTY_r34, hOB_r34, hNM_r34⟩ := id hT_r34
            refine lv_iconst (v := 0) hx hb dModel_subtype_94 (by decide) ?_
            exact hE _ _ _ _ _ hS ⟨κ_r34, _, (by rw [hκ_r34]; exact ⟨rfl, rfl, rfl⟩), b, mn, ν_r34, τ_r34, σ33, F, nu, hT_r34, hZ, hF, hG, rfl, hM⟩ dModel_subtype_95
          · refine lv_iconst (v := 0) hx hb dModel_subtype_79 (by decide) ?_
            exact hE _ _ _ _ _ hS ⟨κ, _, ⟨rfl, rfl, rfl⟩, b, mn, ν, τ, σ30, F, nu, hT, hZ, hF, hG, rfl, hM⟩ dModel_subtype_80
        refine lv_icmp_ne (tgt := 68) hx hb dModel_subtype_61 (by decide) (fun c35 => ?_) (fun c35 => ?_)
        · refine lv_iconst (v := 0) hx hb dModel_subtype_68 (by decide) ?_
          exact J69 ls 0 (by first | exact Or.inl (by decide) | exact Or.inr ⟨rfl, ne_lt ev23 (by assumption) rfl hs4⟩) (lv_sub hl [0, 1, 2] rfl)
        · refine lv_iconst (v := 3) hx hb dModel_subtype_64 (by decide) ?_
          refine lv_goto (tgt := 69) hx hb dModel_subtype_65 (by decide) ?_
          exact J69 ls 3 (by first | exact Or.inl (by decide) | exact Or.inr ⟨rfl, ne_lt ev23 (by assumption) rfl hs4⟩) (lv_sub hl [0, 1, 2] rfl)
      · refine lv_aload_n hx hb dModel_subtype_45 rfl (lv_at hl 0 rfl) ?_
        refine lv_iconst (v := (-1)) hx hb dModel_subtype_46 (by decide) ?_
        refine lv_bipush (v := 7) hx hb dModel_subtype_47 (by decide) ?_
        refine mu_Vi (rest := []) S hC (fun q h => hA q (Nat.le_trans hS.1 h)) (fun q h => h) hS (m_wrong l γ a B Z κ b mn ν τ σ18 F nu hT (-1) 7 hF) meModel_wrong qw_a6e9824456 ⟨Nat.le_of_ble_eq_true rfl, Nat.le_of_ble_eq_true rfl⟩ (md_rv hC hM) hM rfl hl.1 rfl (Nat.le_of_ble_eq_true rfl) dModel_subtype_49 ⟨Nat.le_refl _, Nat.le_refl _⟩ (fun r36 H locs hPO hS _ _ => ?_)
        obtain ⟨σr36, hM, hF, h0r36⟩ := hPO
        exact hE _ _ _ _ _ hS ⟨κ, _, ⟨rfl, rfl, rfl⟩, b, mn, ν, τ, σr36, F, nu, hT, hZ, hF, hG, rfl, hM⟩ dModel_subtype_52
    · refine lv_iconst (v := 0) hx hb dModel_subtype_35 (by decide) ?_
      exact hE _ _ _ _ _ hS ⟨κ, _, ⟨rfl, rfl, rfl⟩, b, mn, ν, τ, σ18, F, nu, hT, hZ, hF, hG, rfl, hM⟩ dModel_subtype_36
  refine lv_if_eq (tgt := 13) hx hb dModel_subtype_6 (by decide) (fun c37 => ?_) (fun c37 => ?_)
  · refine lv_iload_n hx hb dModel_subtype_13 rfl (lv_at hl 1 rfl) ?_
    refine pu_Si (rest := [.ref a]) S hC (m_goodName l γ _ x1) meModel_goodName qw_07c5ec0f25 ⟨Nat.le_of_ble_eq_true rfl, Nat.le_of_ble_eq_true rfl⟩ hM rfl hl.1 rfl (Nat.le_of_ble_eq_true rfl) dModel_subtype_14 ⟨Nat.zero_le _, Nat.zero_le _⟩ (fun r38 hr38 => ?_)
    refine lv_if_ne (tgt := 24) hx hb dModel_subtype_17 (by decide) (fun c39 => ?_) (fun c39 => ?_)
    · refine lv_iconst (v := 0) hx hb dModel_subtype_24 (by decide) ?_
      exact J25 ls 0 (by first | exact Or.inl (by decide) | exact Or.inr ⟨rfl, hr1 (by assumption)⟩) (lv_sub hl [0, 1, 2] rfl)
    · refine lv_iconst (v := 2) hx hb dModel_subtype_20 (by decide) ?_
      refine lv_goto (tgt := 25) hx hb dModel_subtype_21 (by decide) ?_
      exact J25 ls 2 (by first | exact Or.inl (by decide) | exact Or.inr ⟨rfl, hr1 (by assumption)⟩) (lv_sub hl [0, 1, 2] rfl)
  · refine lv_iconst (v := 1) hx hb dModel_subtype_9 (by decide) ?_
    refine lv_goto (tgt := 25) hx hb dModel_subtype_10 (by decide) ?_
    exact J25 ls 1 (by first | exact Or.inl (by decide) | exact Or.inr ⟨rfl, hr1 (by assumption)⟩) (lv_sub hl [0, 1, 2] rfl)
theorem qw_5c346c7fc8 : (Cond.fieldLink R_Model 294 R_Model "objects" "I") ∈ bs_W0 := bs_in (in_tables_1_5 (List.mem_of_getElem? (i := 177) rfl)) rfl
set_option maxHeartbeats 4000000 in
set_option maxRecDepth 100000 in
theorem m_declare (l : Launch) (γ : gE) (a : Nat) (B : Nat → Nat) (Z : Nat → Prop) (κ b mn : Nat → Nat) (ν : Nat → Int32) (τ : Nat → Nat → Int32) (σ : Nat → Int32) (F : Nat → Nat → Int32) (nu : Nat → Int64) (hT : ST κ b mn ν τ) (x1 : Int32) (x2 : Int32) (x3 : Int32) (x4 : Int32) (hZ : SZ F) (hF : FD σ) (hG : GD F nu) : MU l yModel_declare bModel_declare 7 (some .int) 7 177 0 0 [.ref a, .int x1, .int x2, .int x3, .int x4] γ Z (MD γ a B Z ν τ σ F nu) (mQi (fun r H => ∃ (κ' : Nat → Nat) (cd : Int32), (κ' 5 = κ 5 ∧ κ' 0 = κ 0 ∧ κ' 1 = κ 1) ∧ MI γ a B Z κ' cd H) Z) := by
  refine mu_openI (by decide) (Nat.le_of_ble_eq_true rfl) ?_
  intro p e s m args below meth c ls Q S hnm hC hA hM hE hl
  have hS : va_S Z s.heap s.heap [] := va_S.rf
  obtain ⟨hx, hb, hml, hown, hW⟩ := id S
  obtain ⟨⟨hs0, hs1, hs2, hs3, hs4, hs5, hs6⟩, ⟨hv6, hv8, hv21, hv24, hv30, hv31⟩, hTR, hTY, hOB, hNM⟩ := id hT
  have hl : lv_has ls 7 [(0, .ref a), (1, .int x1), (2, .int x2), (3, .int x3), (4, .int x4)] := hl
  refine lv_aload_n hx hb dModel_declare_0 rfl (lv_at hl 0 rfl) ?_
  refine lv_aload_n hx hb dModel_declare_1 rfl (lv_at hl 0 rfl) ?_
  refine lv_iload_n hx hb dModel_declare_2 rfl (lv_at hl 3 rfl) ?_
  refine pu_Vi (rest := [.ref a]) S hC (m_noType l γ a B Z κ b mn ν τ σ F nu hT x3 ) meModel_noType qw_0ba745738d ⟨Nat.le_of_ble_eq_true rfl, Nat.le_of_ble_eq_true rfl⟩ (md_rv hC hM) hM rfl hl.1 rfl (Nat.le_of_ble_eq_true rfl) dModel_declare_3 ⟨Nat.zero_le _, Nat.zero_le _⟩ (fun r1 hr1 => ?_)
  have J47 : ∀ (ls : Array Slot) (t0_47 : Int32), (0 < t0_47 ∨ (t0_47 = 0 ∧ vp_in x3 (κ 2) ∧ (x1 = 0 → vp_in x4 (κ 0)))) → lv_has ls 7 [(0, .ref a), (1, .int x1), (2, .int x2), (3, .int x3), (4, .int x4)] → W p l e (bs_rm 7 0 0 177) s m args below meth c s.heap [] 0 0 Q (F0 m 47 ls [.int t0_47, .ref a]) := by
    intro ls t0_47 ht0_47 hl
    refine md_pD S hC hM hS 0 rfl (by decide) rfl qw_53e275eed6 rfl (by decide +kernel) dModel_declare_47 (fun H locs hM hS => ?_)
    obtain ⟨σ57, eσ57⟩ : ∃ z : Nat → Int32, z = upd σ 0 t0_47 := ⟨_, rfl⟩
    rw [← eσ57] at hM
    have hF : FD σ57 := hF.up eσ57 (by decide) (by decide)
    refine lv_aload_n hx hb dModel_declare_50 rfl (lv_at hl 0 rfl) ?_
    refine md_gI S hC hM 0 (v := σ57 0) rfl (by decide) rfl qw_53e275eed6 dModel_declare_51 ?_
    refine lv_topi (fun v58 ev58 => ?_)
    refine lv_if_le (tgt := 59) hx hb dModel_declare_54 (by decide) (fun c59 => ?_) (fun c59 => ?_)
    · obtain ⟨hx3, hx40⟩ := cd_0 eσ57 ev58 (by assumption) ht0_47
      refine lv_aload_n hx hb dModel_declare_59 rfl (lv_at hl 0 rfl) ?_
      refine md_gI S hC hM 1 (v := σ57 1) rfl (by decide) rfl qw_d4a57461ea dModel_declare_60 ?_
      refine lv_topi (fun v60 ev60 => ?_)
      refine lv_istore (lv' := [(5, .int v60), (0, .ref a), (1, .int x1), (2, .int x2), (3, .int x3), (4, .int x4)]) hx hb dModel_declare_63 hl (by decide) rfl (fun ls hl => ?_)
      refine lv_iload_n hx hb dModel_declare_65 rfl (lv_at hl 2 rfl) ?_
      have J141 : ∀ (ls : Array Slot) (H : Heap) (locs : List Loc) (σ_141 : Nat → Int32) (F_141 : Nat → Nat → Int32) (nu_141 : Nat → Int64), MD γ a B Z ν τ σ_141 F_141 nu_141 H → va_S Z s.heap H locs → (FD σ_141) → (GD F_141 nu_141) → (SZ F_141) → (x1 = 0 → vp_in x4 (κ 0) ∧ ∀ j : Nat, b x4.toNatClampNeg ≤ j → (j : Int) ≤ x4.toInt → ¬ hid τ b j x4.toNatClampNeg → GK j F_141 nu_141) → lv_has ls 7 [(0, .ref a), (1, .int x1), (2, .int x2), (3, .int x3), (4, .int x4), (5, .int v60)] → W p l e (bs_rm 7 0 0 177) s m args below meth c H locs 0 0 Q (F0 m 141 ls []) := by
        intro ls H locs σ_141 F_141 nu_141 hM hS hF hG hZ hdc hl
        refine lv_aload_n hx hb dModel_declare_141 rfl (lv_at hl 0 rfl) ?_
        refine lv_iload_n hx hb dModel_declare_142 rfl (lv_at hl 2 rfl) ?_
        refine pu_Vi (rest := []) S hC (m_hasHere l γ a B Z κ b mn ν τ σ_141 F_141 nu_141 hT x2 ) meModel_hasHere qw_52fabcdf69 ⟨Nat.le_of_ble_eq_true rfl, Nat.le_of_ble_eq_true rfl⟩ (md_rv hC hM) hM rfl hl.1 rfl (Nat.le_of_ble_eq_true rfl) dModel_declare_143 ⟨Nat.zero_le _, Nat.zero_le _⟩ (fun r104 hr104 => ?_)
        refine lv_if_eq (tgt := 157) hx hb dModel_declare_146 (by decide) (fun c105 => ?_) (fun c105 => ?_)
        · refine lv_aload_n hx hb dModel_declare_157 rfl (lv_at hl 0 rfl) ?_
          refine md_gI S hC hM 24 (v := nI (κ 3)) hv24 (by decide) rfl qw_5c346c7fc8 dModel_declare_158 ?_
          refine lv_topi (fun v106 ev106 => ?_)
          refine lv_sipush (v := 2000) hx hb dModel_declare_161 (by decide) ?_
          have J177 : ∀ (ls : Array Slot), lv_has ls 7 [(0, .ref a), (1, .int x1), (2, .int x2), (3, .int x3), (4, .int x4), (5, .int v60)] → W p l e (bs_rm 7 0 0 177) s m args below meth c H locs 0 0 Q (F0 m 177 ls []) := by
            intro ls hl
            refine lv_aload_n hx hb dModel_declare_177 rfl (lv_at hl 0 rfl) ?_
            refine lv_iconst (v := 3) hx hb dModel_declare_178 (by decide) ?_
            refine md_pD S hC hM hS 0 rfl (by decide) rfl qw_53e275eed6 rfl (by decide +kernel) dModel_declare_179 (fun H locs hM hS => ?_)
            obtain ⟨σ134, eσ134⟩ : ∃ z : Nat → Int32, z = upd σ_141 0 3 := ⟨_, rfl⟩
            rw [← eσ134] at hM
            have hF : FD σ134 := hF.up eσ134 (by decide) (by decide)
            refine lv_aload_n hx hb dModel_declare_182 rfl (lv_at hl 0 rfl) ?_
            refine lv_iload hx hb dModel_declare_183 (lv_at hl 5 rfl) ?_
            refine md_pD S hC hM hS 1 rfl (by decide) rfl qw_d4a57461ea rfl (by decide +kernel) dModel_declare_185 (fun H locs hM hS => ?_)
            obtain ⟨σ135, eσ135⟩ : ∃ z : Nat → Int32, z = upd σ134 1 v60 := ⟨_, rfl⟩
            rw [← eσ135] at hM
            have hF : FD σ135 := hF.up eσ135 (by decide) (by decide)
            refine lv_iconst (v := 0) hx hb dModel_declare_188 (by decide) ?_
            exact hE _ _ _ _ _ hS ⟨κ, _, ⟨rfl, rfl, rfl⟩, b, mn, ν, τ, σ135, F_141, nu_141, hT, hZ, hF, hG, rfl, hM⟩ dModel_declare_189
          refine lv_icmp_eq (tgt := 177) hx hb dModel_declare_164 (by decide) (fun c136 => ?_) (fun c136 => ?_)
          · exact J177 ls  (lv_sub hl [0, 1, 2, 3, 4, 5] rfl)
          · refine lv_aload_n hx hb dModel_declare_167 rfl (lv_at hl 0 rfl) ?_
            refine md_gI S hC hM 30 (v := nI (κ 4)) hv30 (by decide) rfl qw_8d5d48b583 dModel_declare_168 ?_
            refine lv_topi (fun v137 ev137 => ?_)
            refine lv_sipush (v := 3000) hx hb dModel_declare_171 (by decide) ?_
            refine lv_icmp_ne (tgt := 190) hx hb dModel_declare_174 (by decide) (fun c138 => ?_) (fun c138 => ?_)
            · have hN3 : κ 3 < 2000 := ne_lt ev106 (by assumption) rfl hs3
              have hN4 : κ 4 < 3000 := ne_lt ev137 (by assumption) rfl hs4
              refine lv_aload_n hx hb dModel_declare_190 rfl (lv_at hl 0 rfl) ?_
              refine lv_iconst (v := (-1)) hx hb dModel_declare_191 (by decide) ?_
              refine md_pD S hC hM hS 1 rfl (by decide) rfl qw_d4a57461ea rfl (by decide +kernel) dModel_declare_192 (fun H locs hM hS => ?_)
              obtain ⟨σ139, eσ139⟩ : ∃ z : Nat → Int32, z = upd σ_141 1 (-1) := ⟨_, rfl⟩
              rw [← eσ139] at hM
              have hF : FD σ139 := hF.up eσ139 (by decide) (by decide)
              refine lv_aload_n hx hb dModel_declare_195 rfl (lv_at hl 0 rfl) ?_
              refine md_gA S hC hM 22 (by decide) rfl qw_50c5849686 dModel_declare_196 ?_
              refine lv_aload_n hx hb dModel_declare_199 rfl (lv_at hl 0 rfl) ?_
              refine md_gI S hC hM 24 (v := nI (κ 3)) hv24 (by decide) rfl qw_5c346c7fc8 dModel_declare_200 ?_
              refine lv_topi (fun v140 ev140 => ?_)
              refine lv_iload_n hx hb dModel_declare_203 rfl (lv_at hl 1 rfl) ?_
              refine md_istS S hC hM hS 22 17 2000 rfl rfl (by decide) rfl rfl (vin_of ev140 (by omega) (by omega)) dModel_declare_204 (fun H locs hM hS => ?_)
              obtain ⟨τ142, eτ142⟩ : ∃ z : Nat → Nat → Int32, z = Au τ 22 v140.toNatClampNeg x1 := ⟨_, rfl⟩
              rw [← eτ142] at hM
              refine lv_aload_n hx hb dModel_declare_205 rfl (lv_at hl 0 rfl) ?_
              refine md_gA S hC hM 23 (by decide) rfl qw_bd9bcb35cb dModel_declare_206 ?_
              refine lv_aload_n hx hb dModel_declare_209 rfl (lv_at hl 0 rfl) ?_
              refine md_gI S hC hM 24 (v := nI (κ 3)) hv24 (by decide) rfl qw_5c346c7fc8 dModel_declare_210 ?_
              refine lv_topi (fun v143 ev143 => ?_)
              refine lv_iload_n hx hb dModel_declare_213 rfl (lv_at hl 3 rfl) ?_
              refine md_istS S hC hM hS 23 18 2000 rfl rfl (by decide) rfl rfl (vin_of ev143 (by omega) (by omega)) dModel_declare_214 (fun H locs hM hS => ?_)
              obtain ⟨τ145, eτ145⟩ : ∃ z : Nat → Nat → Int32, z = Au τ142 23 v143.toNatClampNeg x3 := ⟨_, rfl⟩
              rw [← eτ145] at hM
              have hτ2 : τ145 2 = τ 2 := (by rw [eτ145, eτ142]; rfl)
              have hT_o146 : ST κ b mn ν τ145 := ob_st hT eτ142 eτ145 (vin hx3 (by omega))
              obtain ⟨⟨hs0_o146, hs1_o146, hs2_o146, hs3_o146, hs4_o146, hs5_o146, hs6_o146⟩, ⟨hv6_o146, hv8_o146, hv21_o146, hv24_o146, hv30_o146, hv31_o146⟩, hTR_o146, hTY_o146, hOB_o146, hNM_o146⟩ := id hT_o146
              refine lv_iload_n hx hb dModel_declare_215 rfl (lv_at hl 1 rfl) ?_
              have J246 : ∀ (ls : Array Slot) (H : Heap) (locs : List Loc) (F_246 : Nat → Nat → Int32) (nu_246 : Nat → Int64), MD γ a B Z ν τ145 σ139 F_246 nu_246 H → va_S Z s.heap H locs → (GD F_246 nu_246) → (SZ F_246) → lv_has ls 7 [(0, .ref a), (1, .int x1), (2, .int x2), (3, .int x3), (4, .int x4), (5, .int v60)] → W p l e (bs_rm 7 0 0 177) s m args below meth c H locs 0 0 Q (F0 m 246 ls []) := by
                intro ls H locs F_246 nu_246 hM hS hG hZ hl
                refine lv_aload_n hx hb dModel_declare_246 rfl (lv_at hl 0 rfl) ?_
                refine lv_iload_n hx hb dModel_declare_247 rfl (lv_at hl 2 rfl) ?_
                refine lv_iconst (v := 1) hx hb dModel_declare_248 (by decide) ?_
                refine lv_aload_n hx hb dModel_declare_249 rfl (lv_at hl 0 rfl) ?_
                refine md_gI S hC hM 24 (v := nI (κ 3)) hv24_o146 (by decide) rfl qw_5c346c7fc8 dModel_declare_250 ?_
                refine lv_topi (fun v161 ev161 => ?_)
                refine lv_iconst (v := 0) hx hb dModel_declare_253 (by decide) ?_
                refine mu_Vv (rest := []) S hC (fun q h => hA q (Nat.le_trans hS.1 h)) (fun q h => h) hS (m_name l γ a B Z κ b mn ν τ145 σ139 F_246 nu_246 hT_o146 x2 1 v161 0 (by omega) ⟨fun _ => ⟨_, hN3, ev161⟩, fun h9 => absurd h9 (by decide), fun h9 => absurd h9 (by decide)⟩) meModel_name qw_8127fdf1ea ⟨Nat.le_of_ble_eq_true rfl, Nat.le_of_ble_eq_true rfl⟩ (md_rv hC hM) hM rfl hl.1 rfl (Nat.le_of_ble_eq_true rfl) dModel_declare_254 ⟨Nat.le_refl _, Nat.le_refl _⟩ (fun H locs hPO hS _ _ => ?_)
                obtain ⟨ν_r162, τ_r162, hM, hT_r162⟩ := hPO
                obtain ⟨κ_r162, hκ_r162⟩ : ∃ z : Nat → Nat, z = ku κ 4 (κ 4 + 1) := ⟨_, rfl⟩
                rw [← hκ_r162] at hT_r162
                obtain ⟨⟨hs0_r162, hs1_r162, hs2_r162, hs3_r162, hs4_r162, hs5_r162, hs6_r162⟩, ⟨hv6_r162, hv8_r162, hv21_r162, hv24_r162, hv30_r162, hv31_r162⟩, hTR_r162, hTY_r162, hOB_r162, hNM_r162⟩ := id hT_r162
                have hk3_r162 : κ_r162 3 = κ 3 := (by rw [hκ_r162]; rfl)
                refine lv_aload_n hx hb dModel_declare_257 rfl (lv_at hl 0 rfl) ?_
                refine lv_dup hx hb dModel_declare_258 rfl ?_
                refine md_gI S hC hM 24 (v := nI (κ_r162 3)) hv24_r162 (by decide) rfl qw_5c346c7fc8 dModel_declare_259 ?_
                refine lv_topi (fun v163 ev163 => ?_)
                refine lv_iconst (v := 1) hx hb dModel_declare_262 (by decide) ?_
                refine lv_iadd hx hb dModel_declare_263 ?_
                refine lv_topi (fun v164 ev164 => ?_)
                refine md_pS S hC hM hS 24 rfl (by decide) rfl qw_5c346c7fc8 rfl (by decide +kernel) dModel_declare_264 (fun H locs hM hS => ?_)
                obtain ⟨ν166, eν166⟩ : ∃ z : Nat → Int32, z = upd ν_r162 24 v164 := ⟨_, rfl⟩
                rw [← eν166] at hM
                refine lv_aload_n hx hb dModel_declare_267 rfl (lv_at hl 0 rfl) ?_
                refine md_gI S hC hM 24 (v := ν166 24) rfl (by decide) rfl qw_5c346c7fc8 dModel_declare_268 ?_
                refine lv_topi (fun v167 ev167 => ?_)
                refine lv_iconst (v := 1) hx hb dModel_declare_271 (by decide) ?_
                refine lv_isub hx hb dModel_declare_272 ?_
                refine lv_topi (fun v168 ev168 => ?_)
                exact hE _ _ _ _ _ hS ⟨ku κ_r162 3 (κ_r162 3 + 1), _, (by show κ_r162 5 = κ 5 ∧ κ_r162 0 = κ 0 ∧ κ_r162 1 = κ 1; rw [hκ_r162]; exact ⟨rfl, rfl, rfl⟩), b, mn, ν166, τ_r162, σ139, F_246, nu_246, st_3 hT_r162 (by omega) eν166 (inc_n ev163 ev164), hZ, hF, hG, rfl, hM⟩ dModel_declare_273
              refine lv_if_ne (tgt := 246) hx hb dModel_declare_216 (by decide) (fun c169 => ?_) (fun c169 => ?_)
              · exact J246 ls _ _ F_141 nu_141 hM hS hG hZ (lv_sub hl [0, 1, 2, 3, 4, 5] rfl)
              · refine lv_aload_n hx hb dModel_declare_219 rfl (lv_at hl 0 rfl) ?_
                refine lv_iload hx hb dModel_declare_220 (lv_at hl 4 rfl) ?_
                refine lv_sipush (v := 8000) hx hb dModel_declare_222 (by decide) ?_
                refine lv_aload_n hx hb dModel_declare_225 rfl (lv_at hl 0 rfl) ?_
                refine md_gI S hC hM 24 (v := nI (κ 3)) hv24_o146 (by decide) rfl qw_5c346c7fc8 dModel_declare_226 ?_
                refine lv_topi (fun v170 ev170 => ?_)
                refine lv_iadd hx hb dModel_declare_229 ?_
                refine lv_topi (fun v171 ev171 => ?_)
                obtain ⟨hx4, hgj⟩ := hdc (by assumption)
                have h8 := vin8 (vin_of ev170 hN3 (by omega)) ev171
                have hgk4 : GK x4.toNatClampNeg F_141 nu_141 := hgj _ (hTR.1 _ (vix hx4)).2 (by rw [vin_int hx4]; exact Int.le_refl _) hid_self
                refine mu_Vv (rest := []) S hC (fun q h => hA q (Nat.le_trans hS.1 h)) (fun q h => h) hS (m_copy l γ a B Z κ b mn ν τ145 σ139 F_141 nu_141 hT_o146 x4 v171 (vin (by assumption) (by omega)) h8.1) meModel_copy qw_7581103c83 ⟨Nat.le_of_ble_eq_true rfl, Nat.le_of_ble_eq_true rfl⟩ (md_rv hC hM) hM rfl hl.1 rfl (Nat.le_of_ble_eq_true rfl) dModel_declare_230 ⟨Nat.le_refl _, Nat.le_refl _⟩ (fun H locs hPO hS _ _ => ?_)
                obtain ⟨Fr172, nur172, hM, hqr172⟩ := hPO
                have hgj : ∀ j : Nat, b x4.toNatClampNeg ≤ j → (j : Int) ≤ x4.toInt → ¬ hid τ b j x4.toNatClampNeg → GK j Fr172 nur172 := (fun j h6 h7 h9 => (SL.slt hqr172).gk (by rw [h8.2]; have := vix hx4; have := vin_int hx4; omega) (hgj j h6 h7 h9))
                have hG : GD Fr172 nur172 := hG.cp hqr172 hgk4
                have hZ : SZ Fr172 := hZ.slt hqr172 (hZ _ (vix (vin hx4 (by omega))))
                refine lv_aload_n hx hb dModel_declare_233 rfl (lv_at hl 0 rfl) ?_
                refine lv_aload_n hx hb dModel_declare_234 rfl (lv_at hl 0 rfl) ?_
                refine md_gA S hC hM 5 (by decide) rfl qw_7e4081a75e dModel_declare_235 ?_
                refine lv_iload hx hb dModel_declare_238 (lv_at hl 4 rfl) ?_
                refine md_ild S hC hM 5 3 4000 (τ145 5) rfl rfl (by decide) rfl rfl (vin (by assumption) (by omega)) dModel_declare_240 ?_
                refine lv_topi (fun v173 ev173 => ?_)
                refine lv_iload hx hb dModel_declare_241 (lv_at hl 4 rfl) ?_
                have hbg2 := bg_ok hTR_o146 hs0_o146 hx4 ev173
                refine mu_Vv (rest := []) S hC (fun q h => hA q (Nat.le_trans hS.1 h)) (fun q h => h) hS (m_keep l γ a B Z κ b mn ν τ145 σ139 Fr172 nur172 hT_o146 v173 x4 hbg2.1 (x_int hx4) hZ hG (fun j h6 h7 h9 => hgj j (by rw [hbg2.2] at h6; exact h6) h7 (fun h5 => h9 (hid_cg hτ2 h5)))) meModel_keep qw_8cce6d7b5c ⟨Nat.le_of_ble_eq_true rfl, Nat.le_of_ble_eq_true rfl⟩ (md_rv hC hM) hM rfl hl.1 rfl (Nat.le_of_ble_eq_true rfl) dModel_declare_243 ⟨Nat.le_refl _, Nat.le_refl _⟩ (fun H locs hPO hS _ _ => ?_)
                obtain ⟨Fr174, nur174, hM, hZ, hG⟩ := hPO
                exact J246 ls _ _ Fr174 nur174 hM hS hG hZ (lv_sub hl [0, 1, 2, 3, 4, 5] rfl)
            · exact J177 ls  (lv_sub hl [0, 1, 2, 3, 4, 5] rfl)
        · refine lv_aload_n hx hb dModel_declare_149 rfl (lv_at hl 0 rfl) ?_
          refine lv_iconst (v := (-1)) hx hb dModel_declare_150 (by decide) ?_
          refine lv_bipush (v := 7) hx hb dModel_declare_151 (by decide) ?_
          refine mu_Vi (rest := []) S hC (fun q h => hA q (Nat.le_trans hS.1 h)) (fun q h => h) hS (m_wrong l γ a B Z κ b mn ν τ σ_141 F_141 nu_141 hT (-1) 7 hF) meModel_wrong qw_a6e9824456 ⟨Nat.le_of_ble_eq_true rfl, Nat.le_of_ble_eq_true rfl⟩ (md_rv hC hM) hM rfl hl.1 rfl (Nat.le_of_ble_eq_true rfl) dModel_declare_153 ⟨Nat.le_refl _, Nat.le_refl _⟩ (fun r175 H locs hPO hS _ _ => ?_)
          obtain ⟨σr175, hM, hF, h0r175⟩ := hPO
          exact hE _ _ _ _ _ hS ⟨κ, _, ⟨rfl, rfl, rfl⟩, b, mn, ν, τ, σr175, F_141, nu_141, hT, hZ, hF, hG, rfl, hM⟩ dModel_declare_156
      refine lv_if_ne (tgt := 141) hx hb dModel_declare_66 (by decide) (fun c176 => ?_) (fun c176 => ?_)
      · exact J141 ls _ _ σ57 F nu hM hS hF hG hZ (by first | exact (fun h9 => absurd h9 (by assumption)) | exact (fun _ => ⟨hx4, fun j h7 h8 h9 => hgtr63 (Int32.not_lt.mpr (by assumption)) j (by rw [hbg.2]; exact h7) h8 h9⟩)) (lv_sub hl [1, 2, 3, 4, 5, 0] rfl)
      · have hx4 := hx40 (by assumption)
        refine lv_aload_n hx hb dModel_declare_69 rfl (lv_at hl 1 rfl) ?_
        refine lv_aload_n hx hb dModel_declare_70 rfl (lv_at hl 1 rfl) ?_
        refine md_gA S hC hM 5 (by decide) rfl qw_7e4081a75e dModel_declare_71 ?_
        refine lv_iload hx hb dModel_declare_74 (lv_at hl 5 rfl) ?_
        refine md_ild S hC hM 5 3 4000 (τ 5) rfl rfl (by decide) rfl rfl (vin (by assumption) (by omega)) dModel_declare_76 ?_
        refine lv_topi (fun v177 ev177 => ?_)
        refine lv_iload hx hb dModel_declare_77 (lv_at hl 5 rfl) ?_
        have hbg := bg_ok hTR hs0 hx4 ev177
        refine mu_Vi (rest := []) S hC (fun q h => hA q (Nat.le_trans hS.1 h)) (fun q h => h) hS (m_goThrough l γ a B Z κ b mn ν τ σ57 F nu hT v177 x4 hbg.1 (x_int hx4) (fun k h8 h9 => by rw [hbg.2] at h8 ⊢; exact rg_ge hTR (vix hx4) h8 (by rw [vin_int hx4] at h9; omega)) hZ hF hG) meModel_goThrough qw_fb32874592 ⟨Nat.le_of_ble_eq_true rfl, Nat.le_of_ble_eq_true rfl⟩ (md_rv hC hM) hM rfl hl.1 rfl (Nat.le_of_ble_eq_true rfl) dModel_declare_79 ⟨Nat.le_refl _, Nat.le_refl _⟩ (fun r178 H locs hPO hS _ _ => ?_)
        obtain ⟨σr178, Fr178, nur178, hM, hZ, hF, hG, hgtr178⟩ := hPO
        refine lv_istore (lv' := [(6, .int r178), (5, .int v60), (0, .ref a), (1, .int x1), (2, .int x2), (3, .int x3), (4, .int x4)]) hx hb dModel_declare_82 hl (by decide) rfl (fun ls hl => ?_)
        refine lv_iload hx hb dModel_declare_84 (lv_at hl 0 rfl) ?_
        refine lv_if_le (tgt := 93) hx hb dModel_declare_86 (by decide) (fun c179 => ?_) (fun c179 => ?_)
        · refine lv_aload_n hx hb dModel_declare_93 rfl (lv_at hl 2 rfl) ?_
          refine lv_iload hx hb dModel_declare_94 (lv_at hl 6 rfl) ?_
          refine lv_iload_n hx hb dModel_declare_96 rfl (lv_at hl 5 rfl) ?_
          refine pu_Vi (rest := []) S hC (m_fits l γ a B Z κ b mn ν τ σr178 Fr178 nur178 hT x4 x3 (vin (by assumption) (by omega)) (vin (by assumption) (by omega))) meModel_fits qw_17a2ee8d21 ⟨Nat.le_of_ble_eq_true rfl, Nat.le_of_ble_eq_true rfl⟩ (md_rv hC hM) hM rfl hl.1 rfl (Nat.le_of_ble_eq_true rfl) dModel_declare_97 ⟨Nat.zero_le _, Nat.zero_le _⟩ (fun r180 hr180 => ?_)
          refine lv_istore (lv' := [(6, .int r180), (5, .int v60), (0, .ref a), (1, .int x1), (2, .int x2), (3, .int x3), (4, .int x4)]) hx hb dModel_declare_100 hl (by decide) rfl (fun ls hl => ?_)
          refine lv_iload hx hb dModel_declare_102 (lv_at hl 0 rfl) ?_
          refine lv_iconst (v := 3) hx hb dModel_declare_104 (by decide) ?_
          have J127 : ∀ (ls : Array Slot) (i6_127 : Int32), lv_has ls 7 [(0, .ref a), (1, .int x1), (2, .int x2), (3, .int x3), (4, .int x4), (5, .int v60), (6, .int i6_127)] → W p l e (bs_rm 7 0 0 177) s m args below meth c H locs 0 0 Q (F0 m 127 ls []) := by
            intro ls i6_127 hl
            refine lv_iload hx hb dModel_declare_127 (lv_at hl 6 rfl) ?_
            refine lv_if_le (tgt := 141) hx hb dModel_declare_129 (by decide) (fun c187 => ?_) (fun c187 => ?_)
            · exact J141 ls _ _ σr178 Fr178 nur178 hM hS hF hG hZ (by first | exact (fun h9 => absurd h9 (by assumption)) | exact (fun _ => ⟨hx4, fun j h7 h8 h9 => hgtr178 (Int32.not_lt.mpr (by assumption)) j (by rw [hbg.2]; exact h7) h8 h9⟩)) (lv_sub hl [0, 1, 2, 3, 4, 5] rfl)
            · refine lv_aload_n hx hb dModel_declare_132 rfl (lv_at hl 0 rfl) ?_
              refine lv_iload hx hb dModel_declare_133 (lv_at hl 4 rfl) ?_
              refine lv_iload hx hb dModel_declare_135 (lv_at hl 6 rfl) ?_
              refine mu_Vi (rest := []) S hC (fun q h => hA q (Nat.le_trans hS.1 h)) (fun q h => h) hS (m_wrong l γ a B Z κ b mn ν τ σr178 Fr178 nur178 hT x4 i6_127 hF) meModel_wrong qw_a6e9824456 ⟨Nat.le_of_ble_eq_true rfl, Nat.le_of_ble_eq_true rfl⟩ (md_rv hC hM) hM rfl hl.1 rfl (Nat.le_of_ble_eq_true rfl) dModel_declare_137 ⟨Nat.le_refl _, Nat.le_refl _⟩ (fun r188 H locs hPO hS _ _ => ?_)
              obtain ⟨σr188, hM, hF, h0r188⟩ := hPO
              exact hE _ _ _ _ _ hS ⟨κ, _, ⟨rfl, rfl, rfl⟩, b, mn, ν, τ, σr188, Fr178, nur178, hT, hZ, hF, hG, rfl, hM⟩ dModel_declare_140
          refine lv_icmp_eq (tgt := 127) hx hb dModel_declare_105 (by decide) (fun c189 => ?_) (fun c189 => ?_)
          · exact J127 ls r180 (lv_sub hl [2, 3, 4, 5, 6, 1, 0] rfl)
          · refine lv_iload hx hb dModel_declare_108 (lv_at hl 0 rfl) ?_
            refine lv_iconst (v := 4) hx hb dModel_declare_110 (by decide) ?_
            refine lv_icmp_eq (tgt := 127) hx hb dModel_declare_111 (by decide) (fun c190 => ?_) (fun c190 => ?_)
            · exact J127 ls r180 (lv_sub hl [2, 3, 4, 5, 6, 1, 0] rfl)
            · refine lv_aload_n hx hb dModel_declare_114 rfl (lv_at hl 2 rfl) ?_
              refine md_gA S hC hM 11 (by decide) rfl qw_88b9028ba7 dModel_declare_115 ?_
              refine lv_iload hx hb dModel_declare_118 (lv_at hl 6 rfl) ?_
              refine md_zld S hC hM 11 7 10000 (Fr178 11) rfl rfl (by decide) rfl rfl (vin (by assumption) (by omega)) dModel_declare_120 ?_
              refine lv_topi (fun v191 ev191 => ?_)
              refine lv_if_ne (tgt := 127) hx hb dModel_declare_121 (by decide) (fun c192 => ?_) (fun c192 => ?_)
              · exact J127 ls r180 (lv_sub hl [2, 3, 4, 5, 6, 1, 0] rfl)
              · refine lv_iconst (v := 5) hx hb dModel_declare_124 (by decide) ?_
                refine lv_istore (lv' := [(6, .int 5), (5, .int v60), (0, .ref a), (1, .int x1), (2, .int x2), (3, .int x3), (4, .int x4)]) hx hb dModel_declare_125 hl (by decide) rfl (fun ls hl => ?_)
                exact J127 ls 5 (lv_sub hl [2, 3, 4, 5, 6, 1, 0] rfl)
        · refine lv_iload hx hb dModel_declare_89 (lv_at hl 0 rfl) ?_
          refine lv_ineg hx hb dModel_declare_91 ?_
          refine lv_topi (fun v193 ev193 => ?_)
          exact hE _ _ _ _ _ hS ⟨κ, _, ⟨rfl, rfl, rfl⟩, b, mn, ν, τ, σr178, Fr178, nur178, hT, hZ, hF, hG, rfl, hM⟩ dModel_declare_92
    · refine lv_iconst (v := 0) hx hb dModel_declare_57 (by decide) ?_
      exact hE _ _ _ _ _ hS ⟨κ, _, ⟨rfl, rfl, rfl⟩, b, mn, ν, τ, σ57, F, nu, hT, hZ, hF, hG, rfl, hM⟩ dModel_declare_58
  have J22 : ∀ (ls : Array Slot), lv_has ls 7 [(0, .ref a), (1, .int x1), (2, .int x2), (3, .int x3), (4, .int x4)] → W p l e (bs_rm 7 0 0 177) s m args below meth c s.heap [] 0 0 Q (F0 m 22 ls [.ref a]) := by
    intro ls hl
    refine lv_iconst (v := 1) hx hb dModel_declare_22 (by decide) ?_
    refine lv_goto (tgt := 47) hx hb dModel_declare_23 (by decide) ?_
    exact J47 ls 1 (by first | exact Or.inl (by decide) | exact Or.inr ⟨rfl, h26⟩) (lv_sub hl [0, 1, 2, 3, 4] rfl)
  refine lv_if_ne (tgt := 22) hx hb dModel_declare_6 (by decide) (fun c194 => ?_) (fun c194 => ?_)
  · exact J22 ls  (lv_sub hl [0, 1, 2, 3, 4] rfl)
  · refine lv_iload_n hx hb dModel_declare_9 rfl (lv_at hl 1 rfl) ?_
    have J26 : ∀ (ls : Array Slot), (vp_in x3 (κ 2) ∧ (x1 = 0 → vp_in x4 (κ 0))) → lv_has ls 7 [(0, .ref a), (1, .int x1), (2, .int x2), (3, .int x3), (4, .int x4)] → W p l e (bs_rm 7 0 0 177) s m args below meth c s.heap [] 0 0 Q (F0 m 26 ls [.ref a]) := by
      intro ls h26 hl
      refine lv_iload_n hx hb dModel_declare_26 rfl (lv_at hl 1 rfl) ?_
      have J42 : ∀ (ls : Array Slot), lv_has ls 7 [(0, .ref a), (1, .int x1), (2, .int x2), (3, .int x3), (4, .int x4)] → W p l e (bs_rm 7 0 0 177) s m args below meth c s.heap [] 0 0 Q (F0 m 42 ls [.ref a]) := by
        intro ls hl
        refine lv_iconst (v := 2) hx hb dModel_declare_42 (by decide) ?_
        refine lv_goto (tgt := 47) hx hb dModel_declare_43 (by decide) ?_
        exact J47 ls 2 (by first | exact Or.inl (by decide) | exact Or.inr ⟨rfl, h26⟩) (lv_sub hl [0, 1, 2, 3, 4] rfl)
      refine lv_if_lt (tgt := 42) hx hb dModel_declare_27 (by decide) (fun c206 => ?_) (fun c206 => ?_)
      · exact J42 ls  (lv_sub hl [0, 1, 2, 3, 4] rfl)
      · refine lv_iload_n hx hb dModel_declare_30 rfl (lv_at hl 1 rfl) ?_
        refine lv_iconst (v := 2) hx hb dModel_declare_31 (by decide) ?_
        refine lv_icmp_gt (tgt := 42) hx hb dModel_declare_32 (by decide) (fun c207 => ?_) (fun c207 => ?_)
        · exact J42 ls  (lv_sub hl [0, 1, 2, 3, 4] rfl)
        · refine lv_iload_n hx hb dModel_declare_35 rfl (lv_at hl 2 rfl) ?_
          refine pu_Si (rest := [.ref a]) S hC (m_goodName l γ _ x2) meModel_goodName qw_07c5ec0f25 ⟨Nat.le_of_ble_eq_true rfl, Nat.le_of_ble_eq_true rfl⟩ hM rfl hl.1 rfl (Nat.le_of_ble_eq_true rfl) dModel_declare_36 ⟨Nat.zero_le _, Nat.zero_le _⟩ (fun r208 hr208 => ?_)
          refine lv_if_ne (tgt := 46) hx hb dModel_declare_39 (by decide) (fun c209 => ?_) (fun c209 => ?_)
          · refine lv_iconst (v := 0) hx hb dModel_declare_46 (by decide) ?_
            exact J47 ls 0 (by first | exact Or.inl (by decide) | exact Or.inr ⟨rfl, h26⟩) (lv_sub hl [0, 1, 2, 3, 4] rfl)
          · exact J42 ls  (lv_sub hl [0, 1, 2, 3, 4] rfl)
    refine lv_if_ne (tgt := 26) hx hb dModel_declare_10 (by decide) (fun c210 => ?_) (fun c210 => ?_)
    · exact J26 ls (by first | exact ⟨hr1 (by assumption), fun h9 => absurd h9 (by assumption)⟩ | exact ⟨hr1 (by assumption), fun _ => hr196 (by assumption)⟩) (lv_sub hl [0, 1, 2, 3, 4] rfl)
    · refine lv_aload_n hx hb dModel_declare_13 rfl (lv_at hl 0 rfl) ?_
      refine lv_iload hx hb dModel_declare_14 (lv_at hl 4 rfl) ?_
      refine pu_Vi (rest := [.ref a]) S hC (m_noNode l γ a B Z κ b mn ν τ σ F nu hT x4 ) meModel_noNode qw_c926675227 ⟨Nat.le_of_ble_eq_true rfl, Nat.le_of_ble_eq_true rfl⟩ (md_rv hC hM) hM rfl hl.1 rfl (Nat.le_of_ble_eq_true rfl) dModel_declare_16 ⟨Nat.zero_le _, Nat.zero_le _⟩ (fun r211 hr211 => ?_)
      refine lv_if_eq (tgt := 26) hx hb dModel_declare_19 (by decide) (fun c212 => ?_) (fun c212 => ?_)
      · exact J26 ls (by first | exact ⟨hr1 (by assumption), fun h9 => absurd h9 (by assumption)⟩ | exact ⟨hr1 (by assumption), fun _ => hr211 (by assumption)⟩) (lv_sub hl [0, 1, 2, 3, 4] rfl)
      · exact J22 ls  (lv_sub hl [0, 1, 2, 3, 4] rfl)
set_option maxHeartbeats 4000000 in
set_option maxRecDepth 100000 in
theorem m_enumeration (l : Launch) (γ : gE) (a : Nat) (B : Nat → Nat) (Z : Nat → Prop) (κ b mn : Nat → Nat) (ν : Nat → Int32) (τ : Nat → Nat → Int32) (σ : Nat → Int32) (F : Nat → Nat → Int32) (nu : Nat → Int64) (hT : ST κ b mn ν τ) (x1 : Int32) (hZ : SZ F) (hF : FD σ) (hG : GD F nu) : MU l yModel_enumeration bModel_enumeration 7 (some .int) 1 25 0 0 [.ref a, .int x1] γ Z (MD γ a B Z ν τ σ F nu) (mQi (fun r H => ∃ (κ' : Nat → Nat) (cd : Int32), (κ' 5 = κ 5 ∧ κ' 0 = κ 0 ∧ κ' 1 = κ 1) ∧ MI γ a B Z κ' cd H) Z) := by
  refine mu_openI (by decide) (Nat.le_of_ble_eq_true rfl) ?_
  intro p e s m args below meth c ls Q S hnm hC hA hM hE hl
  have hS : va_S Z s.heap s.heap [] := va_S.rf
  obtain ⟨hx, hb, hml, hown, hW⟩ := id S
  obtain ⟨⟨hs0, hs1, hs2, hs3, hs4, hs5, hs6⟩, ⟨hv6, hv8, hv21, hv24, hv30, hv31⟩, hTR, hTY, hOB, hNM⟩ := id hT
  have hl : lv_has ls 7 [(0, .ref a), (1, .int x1)] := hl
  refine lv_aload_n hx hb dModel_enumeration_0 rfl (lv_at hl 0 rfl) ?_
  refine lv_aload_n hx hb dModel_enumeration_1 rfl (lv_at hl 0 rfl) ?_
  refine lv_iload_n hx hb dModel_enumeration_2 rfl (lv_at hl 1 rfl) ?_
  refine pu_Vi (rest := [.ref a]) S hC (m_noNode l γ a B Z κ b mn ν τ σ F nu hT x1 ) meModel_noNode qw_c926675227 ⟨Nat.le_of_ble_eq_true rfl, Nat.le_of_ble_eq_true rfl⟩ (md_rv hC hM) hM rfl hl.1 rfl (Nat.le_of_ble_eq_true rfl) dModel_enumeration_3 ⟨Nat.zero_le _, Nat.zero_le _⟩ (fun r1 hr1 => ?_)
  have J14 : ∀ (ls : Array Slot) (t0_14 : Int32), (0 < t0_14 ∨ (t0_14 = 0 ∧ vp_in x1 (κ 0))) → lv_has ls 7 [(0, .ref a), (1, .int x1)] → W p l e (bs_rm 1 0 0 25) s m args below meth c s.heap [] 0 0 Q (F0 m 14 ls [.int t0_14, .ref a]) := by
    intro ls t0_14 ht0_14 hl
    refine md_pD S hC hM hS 0 rfl (by decide) rfl qw_53e275eed6 rfl (by decide +kernel) dModel_enumeration_14 (fun H locs hM hS => ?_)
    obtain ⟨σ64, eσ64⟩ : ∃ z : Nat → Int32, z = upd σ 0 t0_14 := ⟨_, rfl⟩
    rw [← eσ64] at hM
    have hF : FD σ64 := hF.up eσ64 (by decide) (by decide)
    refine lv_aload_n hx hb dModel_enumeration_17 rfl (lv_at hl 0 rfl) ?_
    refine md_gI S hC hM 0 (v := σ64 0) rfl (by decide) rfl qw_53e275eed6 dModel_enumeration_18 ?_
    refine lv_topi (fun v65 ev65 => ?_)
    refine lv_if_le (tgt := 26) hx hb dModel_enumeration_21 (by decide) (fun c66 => ?_) (fun c66 => ?_)
    · have hx1 : vp_in x1 (κ 0) := cd_0 eσ64 ev65 (by assumption) ht0_14
      refine lv_aload_n hx hb dModel_enumeration_26 rfl (lv_at hl 0 rfl) ?_
      refine md_gA S hC hM 4 (by decide) rfl qw_a8caa30de3 dModel_enumeration_27 ?_
      refine lv_iload_n hx hb dModel_enumeration_30 rfl (lv_at hl 1 rfl) ?_
      refine md_ild S hC hM 4 2 4000 (τ 4) rfl rfl (by decide) rfl rfl (vin (by assumption) (by omega)) dModel_enumeration_31 ?_
      refine lv_topi (fun v67 ev67 => ?_)
      refine lv_istore_n (lv' := [(2, .int v67), (0, .ref a), (1, .int x1)]) hx hb dModel_enumeration_32 rfl hl (by decide) rfl (fun ls hl => ?_)
      obtain ⟨hn2, hmx⟩ := mn_of hTR hx1 ev67
      refine lv_aload_n hx hb dModel_enumeration_33 rfl (lv_at hl 1 rfl) ?_
      refine md_gA S hC hM 2 (by decide) rfl qw_3471296067 dModel_enumeration_34 ?_
      refine lv_iload_n hx hb dModel_enumeration_37 rfl (lv_at hl 2 rfl) ?_
      refine md_ild S hC hM 2 0 4000 (τ 2) rfl rfl (by decide) rfl rfl (vin (by assumption) (by omega)) dModel_enumeration_38 ?_
      refine lv_topi (fun v68 ev68 => ?_)
      refine lv_bipush (v := 53) hx hb dModel_enumeration_39 (by decide) ?_
      have J60 : ∀ (ls : Array Slot) (t0_60 : Int32), (t0_60 = 0 ∨ mn x1.toNatClampNeg ≤ 64) → lv_has ls 7 [(0, .ref a), (1, .int x1), (2, .int v67)] → W p l e (bs_rm 1 0 0 25) s m args below meth c H locs 0 0 Q (F0 m 60 ls [.int t0_60]) := by
        intro ls t0_60 ht0_60 hl
        refine lv_istore_n (lv' := [(3, .int t0_60), (0, .ref a), (1, .int x1), (2, .int v67)]) hx hb dModel_enumeration_60 rfl hl (by decide) rfl (fun ls hl => ?_)
        refine lv_iconst (v := 0) hx hb dModel_enumeration_61 (by decide) ?_
        refine lv_istore (lv' := [(4, .int 0), (3, .int t0_60), (0, .ref a), (1, .int x1), (2, .int v67)]) hx hb dModel_enumeration_62 hl (by decide) rfl (fun ls hl => ?_)
        have J64 : ∀ (N64 : Nat) (ls : Array Slot) (i4_64 : Int32) (i3_64 : Int32), (¬ i4_64 < 0) → (i3_64 = 0 ∨ mn x1.toNatClampNeg ≤ 64) → (2147483647 - i4_64.toInt).toNat = N64 → lv_has ls 7 [(0, .ref a), (1, .int x1), (2, .int v67), (3, .int i3_64), (4, .int i4_64)] → W p l e (bs_rm 1 0 0 25) s m args below meth c H locs 0 0 Q (F0 m 64 ls []) := by
          intro N64
          induction N64 using Nat.strongRecOn with
          | ind N64 ih64 =>
            intro ls i4_64 i3_64 hi4_64 hi3_64 hm64 hl
            refine lv_iload hx hb dModel_enumeration_64 (lv_at hl 4 rfl) ?_
            refine lv_iload_n hx hb dModel_enumeration_66 rfl (lv_at hl 2 rfl) ?_
            have J117 : ∀ (ls : Array Slot), lv_has ls 7 [(0, .ref a), (1, .int x1), (2, .int v67), (3, .int i3_64), (4, .int i4_64)] → W p l e (bs_rm 1 0 0 25) s m args below meth c H locs 0 0 Q (F0 m 117 ls []) := by
              intro ls hl
              refine lv_iload_n hx hb dModel_enumeration_117 rfl (lv_at hl 3 rfl) ?_
              refine lv_if_ne (tgt := 129) hx hb dModel_enumeration_118 (by decide) (fun c178 => ?_) (fun c178 => ?_)
              · have h64 : mn x1.toNatClampNeg ≤ 64 := hi3_64.resolve_left (by assumption)
                refine lv_aload_n hx hb dModel_enumeration_129 rfl (lv_at hl 0 rfl) ?_
                refine lv_aload_n hx hb dModel_enumeration_130 rfl (lv_at hl 0 rfl) ?_
                refine md_gA S hC hM 3 (by decide) rfl qw_9fb851a5fa dModel_enumeration_131 ?_
                refine lv_iload_n hx hb dModel_enumeration_134 rfl (lv_at hl 1 rfl) ?_
                refine md_ild S hC hM 3 1 4000 (τ 3) rfl rfl (by decide) rfl rfl (vin (by assumption) (by omega)) dModel_enumeration_135 ?_
                refine lv_topi (fun v179 ev179 => ?_)
                refine pu_Vi (rest := []) S hC (m_hasHere l γ a B Z κ b mn ν τ σ64 F nu hT v179 ) meModel_hasHere qw_52fabcdf69 ⟨Nat.le_of_ble_eq_true rfl, Nat.le_of_ble_eq_true rfl⟩ (md_rv hC hM) hM rfl hl.1 rfl (Nat.le_of_ble_eq_true rfl) dModel_enumeration_136 ⟨Nat.zero_le _, Nat.zero_le _⟩ (fun r180 hr180 => ?_)
                refine lv_if_eq (tgt := 150) hx hb dModel_enumeration_139 (by decide) (fun c181 => ?_) (fun c181 => ?_)
                · refine lv_iload_n hx hb dModel_enumeration_150 rfl (lv_at hl 1 rfl) ?_
                  refine lv_iload_n hx hb dModel_enumeration_151 rfl (lv_at hl 2 rfl) ?_
                  refine lv_isub hx hb dModel_enumeration_152 ?_
                  refine lv_topi (fun v182 ev182 => ?_)
                  refine lv_istore (lv' := [(4, .int v182), (0, .ref a), (1, .int x1), (2, .int v67), (3, .int i3_64)]) hx hb dModel_enumeration_153 hl (by decide) rfl (fun ls hl => ?_)
                  have J155 : ∀ (N155 : Nat) (ls : Array Slot) (H : Heap) (locs : List Loc) (σ_155 : Nat → Int32) (F_155 : Nat → Nat → Int32) (nu_155 : Nat → Int64) (i4_155 : Int32), MD γ a B Z ν τ σ_155 F_155 nu_155 H → va_S Z s.heap H locs → (FD σ_155) → (GD F_155 nu_155) → (SZ F_155) → (¬ i4_155 < 0) → (2147483647 - i4_155.toInt).toNat = N155 → lv_has ls 7 [(0, .ref a), (1, .int x1), (2, .int v67), (3, .int i3_64), (4, .int i4_155)] → W p l e (bs_rm 1 0 0 25) s m args below meth c H locs 0 0 Q (F0 m 155 ls []) := by
                    intro N155
                    induction N155 using Nat.strongRecOn with
                    | ind N155 ih155 =>
                      intro ls H locs σ_155 F_155 nu_155 i4_155 hM hS hF hG hZ hi4_155 hm155 hl
                      refine lv_iload hx hb dModel_enumeration_155 (lv_at hl 4 rfl) ?_
                      refine lv_iload_n hx hb dModel_enumeration_157 rfl (lv_at hl 1 rfl) ?_
                      refine lv_icmp_ge (tgt := 265) hx hb dModel_enumeration_158 (by decide) (fun c183 => ?_) (fun c183 => ?_)
                      · refine lv_aload_n hx hb dModel_enumeration_265 rfl (lv_at hl 0 rfl) ?_
                        refine lv_aload_n hx hb dModel_enumeration_266 rfl (lv_at hl 0 rfl) ?_
                        refine md_gI S hC hM 21 (v := nI (κ 2)) hv21 (by decide) rfl qw_c82bee9e97 dModel_enumeration_267 ?_
                        refine lv_topi (fun v184 ev184 => ?_)
                        refine lv_sipush (v := 1000) hx hb dModel_enumeration_270 (by decide) ?_
                        have J295 : ∀ (ls : Array Slot) (t0_295 : Int32), (0 < t0_295 ∨ (t0_295 = 0 ∧ κ 2 < 1000 ∧ κ 4 + mn x1.toNatClampNeg + 1 ≤ 3000)) → lv_has ls 7 [(0, .ref a), (1, .int x1), (2, .int v67), (3, .int i3_64), (4, .int i4_155)] → W p l e (bs_rm 1 0 0 25) s m args below meth c H locs 0 0 Q (F0 m 295 ls [.int t0_295, .ref a]) := by
                          intro ls t0_295 ht0_295 hl
                          refine md_pD S hC hM hS 0 rfl (by decide) rfl qw_53e275eed6 rfl (by decide +kernel) dModel_enumeration_295 (fun H locs hM hS => ?_)
                          obtain ⟨σ204, eσ204⟩ : ∃ z : Nat → Int32, z = upd σ_155 0 t0_295 := ⟨_, rfl⟩
                          rw [← eσ204] at hM
                          have hF : FD σ204 := hF.up eσ204 (by decide) (by decide)
                          refine lv_aload_n hx hb dModel_enumeration_298 rfl (lv_at hl 0 rfl) ?_
                          refine md_gI S hC hM 0 (v := σ204 0) rfl (by decide) rfl qw_53e275eed6 dModel_enumeration_299 ?_
                          refine lv_topi (fun v205 ev205 => ?_)
                          refine lv_if_le (tgt := 307) hx hb dModel_enumeration_302 (by decide) (fun c206 => ?_) (fun c206 => ?_)
                          · obtain ⟨hN2, hN4⟩ := cd_0 eσ204 ev205 (by assumption) ht0_295
                            refine lv_aload_n hx hb dModel_enumeration_307 rfl (lv_at hl 0 rfl) ?_
                            refine lv_iconst (v := (-1)) hx hb dModel_enumeration_308 (by decide) ?_
                            refine md_pD S hC hM hS 1 rfl (by decide) rfl qw_d4a57461ea rfl (by decide +kernel) dModel_enumeration_309 (fun H locs hM hS => ?_)
                            obtain ⟨σ207, eσ207⟩ : ∃ z : Nat → Int32, z = upd σ204 1 (-1) := ⟨_, rfl⟩
                            rw [← eσ207] at hM
                            have hF : FD σ207 := hF.up eσ207 (by decide) (by decide)
                            refine lv_aload_n hx hb dModel_enumeration_312 rfl (lv_at hl 0 rfl) ?_
                            refine lv_iconst (v := 4) hx hb dModel_enumeration_313 (by decide) ?_
                            refine lv_iconst (v := 0) hx hb dModel_enumeration_314 (by decide) ?_
                            refine lv_iload_n hx hb dModel_enumeration_315 rfl (lv_at hl 2 rfl) ?_
                            refine lv_iconst (v := 1) hx hb dModel_enumeration_316 (by decide) ?_
                            refine lv_isub hx hb dModel_enumeration_317 ?_
                            refine lv_topi (fun v208 ev208 => ?_)
                            refine lv_iload_n hx hb dModel_enumeration_318 rfl (lv_at hl 2 rfl) ?_
                            refine lv_iconst (v := 0) hx hb dModel_enumeration_319 (by decide) ?_
                            refine mu_Vi (rest := []) S hC (fun q h => hA q (Nat.le_trans hS.1 h)) (fun q h => h) hS (m_newType l γ a B Z κ b mn ν τ σ207 F_155 nu_155 hT 4 0 v208 v67 0 (by omega) (fun h9 => absurd h9 (by decide))) meModel_newType qw_90495fa5dd ⟨Nat.le_of_ble_eq_true rfl, Nat.le_of_ble_eq_true rfl⟩ (md_rv hC hM) hM rfl hl.1 rfl (Nat.le_of_ble_eq_true rfl) dModel_enumeration_320 ⟨Nat.le_refl _, Nat.le_refl _⟩ (fun r209 H locs hPO hS _ _ => ?_)
                            obtain ⟨hrr209, ν_r209, τ_r209, hM, hT_r209⟩ := hPO
                            obtain ⟨κ_r209, hκ_r209⟩ : ∃ z : Nat → Nat, z = ku κ 2 (κ 2 + 1) := ⟨_, rfl⟩
                            rw [← hκ_r209] at hT_r209
                            obtain ⟨⟨hs0_r209, hs1_r209, hs2_r209, hs3_r209, hs4_r209, hs5_r209, hs6_r209⟩, ⟨hv6_r209, hv8_r209, hv21_r209, hv24_r209, hv30_r209, hv31_r209⟩, hTR_r209, hTY_r209, hOB_r209, hNM_r209⟩ := id hT_r209
                            have hk4_r209 : κ_r209 4 = κ 4 := (by rw [hκ_r209]; rfl)
                            have hk5_r209 : κ_r209 5 = κ 5 := (by rw [hκ_r209]; rfl)
                            have hk0_r209 : κ_r209 0 = κ 0 := (by rw [hκ_r209]; rfl)
                            have hk1_r209 : κ_r209 1 = κ 1 := (by rw [hκ_r209]; rfl)
                            refine lv_istore (lv' := [(4, .int r209), (0, .ref a), (1, .int x1), (2, .int v67), (3, .int i3_64)]) hx hb dModel_enumeration_323 hl (by decide) rfl (fun ls hl => ?_)
                            refine lv_aload_n hx hb dModel_enumeration_325 rfl (lv_at hl 1 rfl) ?_
                            refine lv_aload_n hx hb dModel_enumeration_326 rfl (lv_at hl 1 rfl) ?_
                            refine md_gA S hC hM 3 (by decide) rfl qw_9fb851a5fa dModel_enumeration_327 ?_
                            refine lv_iload_n hx hb dModel_enumeration_330 rfl (lv_at hl 2 rfl) ?_
                            refine md_ild S hC hM 3 1 4000 (τ_r209 3) rfl rfl (by decide) rfl rfl (vin (by assumption) (by omega)) dModel_enumeration_331 ?_
                            refine lv_topi (fun v210 ev210 => ?_)
                            refine lv_iconst (v := 0) hx hb dModel_enumeration_332 (by decide) ?_
                            refine lv_iload hx hb dModel_enumeration_333 (lv_at hl 0 rfl) ?_
                            refine lv_iconst (v := 0) hx hb dModel_enumeration_335 (by decide) ?_
                            refine mu_Vv (rest := []) S hC (fun q h => hA q (Nat.le_trans hS.1 h)) (fun q h => h) hS (m_name l γ a B Z κ_r209 b mn ν_r209 τ_r209 σ207 F_155 nu_155 hT_r209 v210 0 r209 0 (by omega) ⟨fun h9 => absurd h9 (by decide), fun h9 => absurd h9 (by decide), fun h9 => absurd h9 (by decide)⟩) meModel_name qw_8127fdf1ea ⟨Nat.le_of_ble_eq_true rfl, Nat.le_of_ble_eq_true rfl⟩ (md_rv hC hM) hM rfl hl.1 rfl (Nat.le_of_ble_eq_true rfl) dModel_enumeration_336 ⟨Nat.le_refl _, Nat.le_refl _⟩ (fun H locs hPO hS _ _ => ?_)
                            obtain ⟨ν_r211, τ_r211, hM, hT_r211⟩ := hPO
                            obtain ⟨κ_r211, hκ_r211⟩ : ∃ z : Nat → Nat, z = ku κ_r209 4 (κ_r209 4 + 1) := ⟨_, rfl⟩
                            rw [← hκ_r211] at hT_r211
                            obtain ⟨⟨hs0_r211, hs1_r211, hs2_r211, hs3_r211, hs4_r211, hs5_r211, hs6_r211⟩, ⟨hv6_r211, hv8_r211, hv21_r211, hv24_r211, hv30_r211, hv31_r211⟩, hTR_r211, hTY_r211, hOB_r211, hNM_r211⟩ := id hT_r211
                            have hk4_r211 : κ_r211 4 = κ_r209 4 + 1 := (by rw [hκ_r211]; rfl)
                            have hk5_r211 : κ_r211 5 = κ_r209 5 := (by rw [hκ_r211]; rfl)
                            have hk0_r211 : κ_r211 0 = κ_r209 0 := (by rw [hκ_r211]; rfl)
                            have hk1_r211 : κ_r211 1 = κ_r209 1 := (by rw [hκ_r211]; rfl)
                            refine lv_iconst (v := 0) hx hb dModel_enumeration_339 (by decide) ?_
                            refine lv_istore (lv' := [(5, .int 0), (4, .int r209), (0, .ref a), (1, .int x1), (2, .int v67), (3, .int i3_64)]) hx hb dModel_enumeration_340 hl (by decide) rfl (fun ls hl => ?_)
                            have J342 : ∀ (N342 : Nat) (ls : Array Slot) (H : Heap) (locs : List Loc) (κ_342 : Nat → Nat) (b_342 : Nat → Nat) (mn_342 : Nat → Nat) (ν_342 : Nat → Int32) (τ_342 : Nat → Nat → Int32) (i5_342 : Int32), MD γ a B Z ν_342 τ_342 σ207 F_155 nu_155 H → va_S Z s.heap H locs → ST κ_342 b_342 mn_342 ν_342 τ_342 → (¬ i5_342 < 0) → (κ_342 4 + mn x1.toNatClampNeg ≤ 3000 + i5_342.toNatClampNeg) → (κ_342 5 = κ 5 ∧ κ_342 0 = κ 0 ∧ κ_342 1 = κ 1) → (2147483647 - i5_342.toInt).toNat = N342 → lv_has ls 7 [(0, .ref a), (1, .int x1), (2, .int v67), (3, .int i3_64), (4, .int r209), (5, .int i5_342)] → W p l e (bs_rm 1 0 0 25) s m args below meth c H locs 0 0 Q (F0 m 342 ls []) := by
                              intro N342
                              induction N342 using Nat.strongRecOn with
                              | ind N342 ih342 =>
                                intro ls H locs κ_342 b_342 mn_342 ν_342 τ_342 i5_342 hM hS hT_342 hi5_342 hk4 hk5 hm342 hl
                                obtain ⟨⟨hs0_342, hs1_342, hs2_342, hs3_342, hs4_342, hs5_342, hs6_342⟩, ⟨hv6_342, hv8_342, hv21_342, hv24_342, hv30_342, hv31_342⟩, hTR_342, hTY_342, hOB_342, hNM_342⟩ := id hT_342
                                refine lv_iload hx hb dModel_enumeration_342 (lv_at hl 5 rfl) ?_
                                refine lv_iload_n hx hb dModel_enumeration_344 rfl (lv_at hl 2 rfl) ?_
                                refine lv_icmp_ge (tgt := 374) hx hb dModel_enumeration_345 (by decide) (fun c212 => ?_) (fun c212 => ?_)
                                · refine lv_iload hx hb dModel_enumeration_374 (lv_at hl 4 rfl) ?_
                                  exact hE _ _ _ _ _ hS ⟨κ_342, _, hk5, b_342, mn_342, ν_342, τ_342, σ207, F_155, nu_155, hT_342, hZ, hF, hG, rfl, hM⟩ dModel_enumeration_376
                                · have hj5 : vp_in i5_342 (mn x1.toNatClampNeg) := vcmp (by assumption) hn2 (by assumption) (by omega)
                                  refine lv_aload_n hx hb dModel_enumeration_348 rfl (lv_at hl 0 rfl) ?_
                                  refine lv_aload_n hx hb dModel_enumeration_349 rfl (lv_at hl 0 rfl) ?_
                                  refine md_gA S hC hM 3 (by decide) rfl qw_9fb851a5fa dModel_enumeration_350 ?_
                                  refine lv_iload_n hx hb dModel_enumeration_353 rfl (lv_at hl 1 rfl) ?_
                                  refine lv_iload_n hx hb dModel_enumeration_354 rfl (lv_at hl 2 rfl) ?_
                                  refine lv_isub hx hb dModel_enumeration_355 ?_
                                  refine lv_topi (fun v213 ev213 => ?_)
                                  refine lv_iload hx hb dModel_enumeration_356 (lv_at hl 5 rfl) ?_
                                  refine lv_iadd hx hb dModel_enumeration_358 ?_
                                  refine lv_topi (fun v214 ev214 => ?_)
                                  refine md_ild S hC hM 3 1 4000 (τ_342 3) rfl rfl (by decide) rfl rfl (en_ix hTR hs0 hx1 hn2 ev213 hj5 ev214) dModel_enumeration_359 ?_
                                  refine lv_topi (fun v215 ev215 => ?_)
                                  refine lv_iconst (v := 2) hx hb dModel_enumeration_360 (by decide) ?_
                                  refine lv_iload hx hb dModel_enumeration_361 (lv_at hl 4 rfl) ?_
                                  refine lv_iload hx hb dModel_enumeration_363 (lv_at hl 5 rfl) ?_
                                  refine mu_Vv (rest := []) S hC (fun q h => hA q (Nat.le_trans hS.1 h)) (fun q h => h) hS (m_name l γ a B Z κ_342 b_342 mn_342 ν_342 τ_342 σ207 F_155 nu_155 hT_342 v215 2 r209 i5_342 (by have := vix hj5; omega) ⟨fun h9 => absurd h9 (by decide), fun _ => ⟨_, hs2, hrr209⟩, fun h9 => absurd h9 (by decide)⟩) meModel_name qw_8127fdf1ea ⟨Nat.le_of_ble_eq_true rfl, Nat.le_of_ble_eq_true rfl⟩ (md_rv hC hM) hM rfl hl.1 rfl (Nat.le_of_ble_eq_true rfl) dModel_enumeration_365 ⟨Nat.le_refl _, Nat.le_refl _⟩ (fun H locs hPO hS _ _ => ?_)
                                  obtain ⟨ν_r216, τ_r216, hM, hT_r216⟩ := hPO
                                  obtain ⟨κ_r216, hκ_r216⟩ : ∃ z : Nat → Nat, z = ku κ_342 4 (κ_342 4 + 1) := ⟨_, rfl⟩
                                  rw [← hκ_r216] at hT_r216
                                  obtain ⟨⟨hs0_r216, hs1_r216, hs2_r216, hs3_r216, hs4_r216, hs5_r216, hs6_r216⟩, ⟨hv6_r216, hv8_r216, hv21_r216, hv24_r216, hv30_r216, hv31_r216⟩, hTR_r216, hTY_r216, hOB_r216, hNM_r216⟩ := id hT_r216
                                  have hk4_r216 : κ_r216 4 = κ_342 4 + 1 := (by rw [hκ_r216]; rfl)
                                  have hk5_r216 : κ_r216 5 = κ_342 5 := (by rw [hκ_r216]; rfl)
                                  have hk0_r216 : κ_r216 0 = κ_342 0 := (by rw [hκ_r216]; rfl)
                                  have hk1_r216 : κ_r216 1 = κ_342 1 := (by rw [hκ_r216]; rfl)
                                  obtain ⟨v217, ev217⟩ : ∃ y : Int32, y = i5_342 + 1 := ⟨_, rfl⟩
                                  refine lv_iinc (v := v217) (lv' := [(5, .int v217), (0, .ref a), (1, .int x1), (2, .int v67), (3, .int i3_64), (4, .int r209)]) hx hb dModel_enumeration_368 hl (k := 5) rfl (by rw [ev217]; rfl) (by decide) rfl (fun ls hl => ?_)
                                  refine lv_goto (tgt := 342) hx hb dModel_enumeration_371 (by decide) ?_
                                  exact ih342 _ (by have q1 : i5_342.toInt < 2147483647 := (by first | assumption | exact (mu_up (k := i5_342) (by assumption)).2); have q2 := mu_lt q1; rw [← ev217] at q2; omega) ls _ _ κ_r216 b_342 mn_342 ν_r216 τ_r216 v217 hM hS hT_r216 (by first | decide | exact nn_inc (by assumption) (by assumption) (by assumption)) (by rw [(ix_inc hj5 hmx ev217).1]; omega) (by omega) rfl (lv_sub hl [1, 2, 3, 4, 5, 0] rfl)
                            exact J342 _ ls _ _ κ_r211 b mn ν_r211 τ_r211 0 hM hS hT_r211 (by first | decide | exact nn_inc (by assumption) (by assumption) (by assumption)) (by show _ ≤ 3000 + 0; omega) (by omega) rfl (lv_sub hl [2, 3, 4, 5, 1, 0] rfl)
                          · refine lv_iconst (v := 0) hx hb dModel_enumeration_305 (by decide) ?_
                            exact hE _ _ _ _ _ hS ⟨κ, _, ⟨rfl, rfl, rfl⟩, b, mn, ν, τ, σ204, F_155, nu_155, hT, hZ, hF, hG, rfl, hM⟩ dModel_enumeration_306
                        have J290 : ∀ (ls : Array Slot), lv_has ls 7 [(0, .ref a), (1, .int x1), (2, .int v67), (3, .int i3_64), (4, .int i4_155)] → W p l e (bs_rm 1 0 0 25) s m args below meth c H locs 0 0 Q (F0 m 290 ls [.ref a]) := by
                          intro ls hl
                          refine lv_iconst (v := 2) hx hb dModel_enumeration_290 (by decide) ?_
                          refine lv_goto (tgt := 295) hx hb dModel_enumeration_291 (by decide) ?_
                          exact J295 ls 2 (by first | exact Or.inl (by decide) | exact Or.inr ⟨rfl, ne_lt ev184 (by assumption) rfl hs2, en_le ev186 hn2 ev187 ev188 (by assumption) (by omega) (by omega)⟩) (lv_sub hl [0, 1, 2, 3, 4] rfl)
                        refine lv_icmp_eq (tgt := 290) hx hb dModel_enumeration_273 (by decide) (fun c218 => ?_) (fun c218 => ?_)
                        · exact J290 ls  (lv_sub hl [0, 1, 2, 3, 4] rfl)
                        · refine lv_aload_n hx hb dModel_enumeration_276 rfl (lv_at hl 0 rfl) ?_
                          refine md_gI S hC hM 30 (v := nI (κ 4)) hv30 (by decide) rfl qw_8d5d48b583 dModel_enumeration_277 ?_
                          refine lv_topi (fun v219 ev219 => ?_)
                          refine lv_iload_n hx hb dModel_enumeration_280 rfl (lv_at hl 2 rfl) ?_
                          refine lv_iadd hx hb dModel_enumeration_281 ?_
                          refine lv_topi (fun v220 ev220 => ?_)
                          refine lv_iconst (v := 1) hx hb dModel_enumeration_282 (by decide) ?_
                          refine lv_iadd hx hb dModel_enumeration_283 ?_
                          refine lv_topi (fun v221 ev221 => ?_)
                          refine lv_sipush (v := 3000) hx hb dModel_enumeration_284 (by decide) ?_
                          refine lv_icmp_le (tgt := 294) hx hb dModel_enumeration_287 (by decide) (fun c222 => ?_) (fun c222 => ?_)
                          · refine lv_iconst (v := 0) hx hb dModel_enumeration_294 (by decide) ?_
                            exact J295 ls 0 (by first | exact Or.inl (by decide) | exact Or.inr ⟨rfl, ne_lt ev184 (by assumption) rfl hs2, en_le ev219 hn2 ev220 ev221 (by assumption) (by omega) (by omega)⟩) (lv_sub hl [0, 1, 2, 3, 4] rfl)
                          · exact J290 ls  (lv_sub hl [0, 1, 2, 3, 4] rfl)
                      · have hin4 : vp_in i4_155 (κ 0) := vin (vcmp (by assumption) (vnI hx1) (by assumption) (by have := vix hx1; omega)) (Nat.le_of_lt (vix hx1))
                        refine lv_aload_n hx hb dModel_enumeration_161 rfl (lv_at hl 0 rfl) ?_
                        refine lv_aload_n hx hb dModel_enumeration_162 rfl (lv_at hl 0 rfl) ?_
                        refine md_gA S hC hM 3 (by decide) rfl qw_9fb851a5fa dModel_enumeration_163 ?_
                        refine lv_iload hx hb dModel_enumeration_166 (lv_at hl 4 rfl) ?_
                        refine md_ild S hC hM 3 1 4000 (τ 3) rfl rfl (by decide) rfl rfl (vin (by assumption) (by omega)) dModel_enumeration_168 ?_
                        refine lv_topi (fun v223 ev223 => ?_)
                        refine pu_Vi (rest := []) S hC (m_hasHere l γ a B Z κ b mn ν τ σ_155 F_155 nu_155 hT v223 ) meModel_hasHere qw_52fabcdf69 ⟨Nat.le_of_ble_eq_true rfl, Nat.le_of_ble_eq_true rfl⟩ (md_rv hC hM) hM rfl hl.1 rfl (Nat.le_of_ble_eq_true rfl) dModel_enumeration_169 ⟨Nat.zero_le _, Nat.zero_le _⟩ (fun r224 hr224 => ?_)
                        have J196 : ∀ (ls : Array Slot) (t0_196 : Int32), lv_has ls 7 [(0, .ref a), (1, .int x1), (2, .int v67), (3, .int i3_64), (4, .int i4_155)] → W p l e (bs_rm 1 0 0 25) s m args below meth c H locs 0 0 Q (F0 m 196 ls [.int t0_196]) := by
                          intro ls t0_196 hl
                          refine lv_istore (lv' := [(5, .int t0_196), (0, .ref a), (1, .int x1), (2, .int v67), (3, .int i3_64), (4, .int i4_155)]) hx hb dModel_enumeration_196 hl (by decide) rfl (fun ls hl => ?_)
                          refine lv_iload_n hx hb dModel_enumeration_198 rfl (lv_at hl 2 rfl) ?_
                          refine lv_iload_n hx hb dModel_enumeration_199 rfl (lv_at hl 3 rfl) ?_
                          refine lv_isub hx hb dModel_enumeration_200 ?_
                          refine lv_topi (fun v239 ev239 => ?_)
                          refine lv_istore (lv' := [(6, .int v239), (5, .int t0_196), (0, .ref a), (1, .int x1), (2, .int v67), (3, .int i3_64), (4, .int i4_155)]) hx hb dModel_enumeration_201 hl (by decide) rfl (fun ls hl => ?_)
                          have J203 : ∀ (N203 : Nat) (ls : Array Slot) (i6_203 : Int32) (i5_203 : Int32), (¬ i6_203 < 0) → (2147483647 - i6_203.toInt).toNat = N203 → lv_has ls 7 [(0, .ref a), (1, .int x1), (2, .int v67), (3, .int i3_64), (4, .int i4_155), (5, .int i5_203), (6, .int i6_203)] → W p l e (bs_rm 1 0 0 25) s m args below meth c H locs 0 0 Q (F0 m 203 ls []) := by
                            intro N203
                            induction N203 using Nat.strongRecOn with
                            | ind N203 ih203 =>
                              intro ls i6_203 i5_203 hi6_203 hm203 hl
                              refine lv_iload hx hb dModel_enumeration_203 (lv_at hl 6 rfl) ?_
                              refine lv_iload hx hb dModel_enumeration_205 (lv_at hl 4 rfl) ?_
                              refine lv_icmp_ge (tgt := 245) hx hb dModel_enumeration_207 (by decide) (fun c240 => ?_) (fun c240 => ?_)
                              · refine lv_iload hx hb dModel_enumeration_245 (lv_at hl 5 rfl) ?_
                                refine lv_if_eq (tgt := 259) hx hb dModel_enumeration_247 (by decide) (fun c241 => ?_) (fun c241 => ?_)
                                · obtain ⟨v242, ev242⟩ : ∃ y : Int32, y = i4_155 + 1 := ⟨_, rfl⟩
                                  refine lv_iinc (v := v242) (lv' := [(4, .int v242), (0, .ref a), (1, .int x1), (2, .int v67), (3, .int i3_64), (5, .int i5_203), (6, .int i6_203)]) hx hb dModel_enumeration_259 hl (k := 4) rfl (by rw [ev242]; rfl) (by decide) rfl (fun ls hl => ?_)
                                  refine lv_goto (tgt := 155) hx hb dModel_enumeration_262 (by decide) ?_
                                  exact ih155 _ (by have q1 : i4_155.toInt < 2147483647 := (by first | assumption | exact (mu_up (k := i4_155) (by assumption)).2); have q2 := mu_lt q1; rw [← ev242] at q2; omega) ls _ _ σ_155 F_155 nu_155 v242 hM hS hF hG hZ (by first | exact (sub_nn hTR hs0 hx1 hn2 ev242).1 | exact nn_inc (by assumption) (by assumption) (by assumption)) rfl (lv_sub hl [1, 2, 3, 4, 0] rfl)
                                · refine lv_aload_n hx hb dModel_enumeration_250 rfl (lv_at hl 0 rfl) ?_
                                  refine lv_iload hx hb dModel_enumeration_251 (lv_at hl 4 rfl) ?_
                                  refine lv_bipush (v := 7) hx hb dModel_enumeration_253 (by decide) ?_
                                  refine mu_Vi (rest := []) S hC (fun q h => hA q (Nat.le_trans hS.1 h)) (fun q h => h) hS (m_wrong l γ a B Z κ b mn ν τ σ_155 F_155 nu_155 hT i4_155 7 hF) meModel_wrong qw_a6e9824456 ⟨Nat.le_of_ble_eq_true rfl, Nat.le_of_ble_eq_true rfl⟩ (md_rv hC hM) hM rfl hl.1 rfl (Nat.le_of_ble_eq_true rfl) dModel_enumeration_255 ⟨Nat.le_refl _, Nat.le_refl _⟩ (fun r243 H locs hPO hS _ _ => ?_)
                                  obtain ⟨σr243, hM, hF, h0r243⟩ := hPO
                                  exact hE _ _ _ _ _ hS ⟨κ, _, ⟨rfl, rfl, rfl⟩, b, mn, ν, τ, σr243, F_155, nu_155, hT, hZ, hF, hG, rfl, hM⟩ dModel_enumeration_258
                              · have hin6 : vp_in i6_203 (κ 0) := vin (vcmp (by assumption) (vnI hin4) (by assumption) (by have := vix hin4; omega)) (Nat.le_of_lt (vix hin4))
                                refine lv_iload hx hb dModel_enumeration_210 (lv_at hl 5 rfl) ?_
                                have J237 : ∀ (ls : Array Slot) (t0_237 : Int32), lv_has ls 7 [(0, .ref a), (1, .int x1), (2, .int v67), (3, .int i3_64), (4, .int i4_155), (5, .int i5_203), (6, .int i6_203)] → W p l e (bs_rm 1 0 0 25) s m args below meth c H locs 0 0 Q (F0 m 237 ls [.int t0_237]) := by
                                  intro ls t0_237 hl
                                  refine lv_istore (lv' := [(5, .int t0_237), (0, .ref a), (1, .int x1), (2, .int v67), (3, .int i3_64), (4, .int i4_155), (6, .int i6_203)]) hx hb dModel_enumeration_237 hl (by decide) rfl (fun ls hl => ?_)
                                  obtain ⟨v249, ev249⟩ : ∃ y : Int32, y = i6_203 + 1 := ⟨_, rfl⟩
                                  refine lv_iinc (v := v249) (lv' := [(6, .int v249), (5, .int t0_237), (0, .ref a), (1, .int x1), (2, .int v67), (3, .int i3_64), (4, .int i4_155)]) hx hb dModel_enumeration_239 hl (k := 6) rfl (by rw [ev249]; rfl) (by decide) rfl (fun ls hl => ?_)
                                  refine lv_goto (tgt := 203) hx hb dModel_enumeration_242 (by decide) ?_
                                  exact ih203 _ (by have q1 : i6_203.toInt < 2147483647 := (by first | assumption | exact (mu_up (k := i6_203) (by assumption)).2); have q2 := mu_lt q1; rw [← ev249] at q2; omega) ls v249 t0_237 (by first | exact (sub_nn hTR hs0 hx1 hn2 ev249).1 | exact nn_inc (by assumption) (by assumption) (by assumption)) rfl (lv_sub hl [2, 3, 4, 5, 6, 1, 0] rfl)
                                have J232 : ∀ (ls : Array Slot), lv_has ls 7 [(0, .ref a), (1, .int x1), (2, .int v67), (3, .int i3_64), (4, .int i4_155), (5, .int i5_203), (6, .int i6_203)] → W p l e (bs_rm 1 0 0 25) s m args below meth c H locs 0 0 Q (F0 m 232 ls []) := by
                                  intro ls hl
                                  refine lv_iconst (v := 1) hx hb dModel_enumeration_232 (by decide) ?_
                                  refine lv_goto (tgt := 237) hx hb dModel_enumeration_233 (by decide) ?_
                                  exact J237 ls 1 (lv_sub hl [0, 1, 2, 3, 4, 5, 6] rfl)
                                refine lv_if_ne (tgt := 232) hx hb dModel_enumeration_212 (by decide) (fun c250 => ?_) (fun c250 => ?_)
                                · exact J232 ls  (lv_sub hl [0, 1, 2, 3, 4, 5, 6] rfl)
                                · refine lv_aload_n hx hb dModel_enumeration_215 rfl (lv_at hl 0 rfl) ?_
                                  refine md_gA S hC hM 3 (by decide) rfl qw_9fb851a5fa dModel_enumeration_216 ?_
                                  refine lv_iload hx hb dModel_enumeration_219 (lv_at hl 6 rfl) ?_
                                  refine md_ild S hC hM 3 1 4000 (τ 3) rfl rfl (by decide) rfl rfl (vin (by assumption) (by omega)) dModel_enumeration_221 ?_
                                  refine lv_topi (fun v251 ev251 => ?_)
                                  refine lv_aload_n hx hb dModel_enumeration_222 rfl (lv_at hl 0 rfl) ?_
                                  refine md_gA S hC hM 3 (by decide) rfl qw_9fb851a5fa dModel_enumeration_223 ?_
                                  refine lv_iload hx hb dModel_enumeration_226 (lv_at hl 4 rfl) ?_
                                  refine md_ild S hC hM 3 1 4000 (τ 3) rfl rfl (by decide) rfl rfl (vin (by assumption) (by omega)) dModel_enumeration_228 ?_
                                  refine lv_topi (fun v252 ev252 => ?_)
                                  refine lv_icmp_ne (tgt := 236) hx hb dModel_enumeration_229 (by decide) (fun c253 => ?_) (fun c253 => ?_)
                                  · refine lv_iconst (v := 0) hx hb dModel_enumeration_236 (by decide) ?_
                                    exact J237 ls 0 (lv_sub hl [0, 1, 2, 3, 4, 5, 6] rfl)
                                  · exact J232 ls  (lv_sub hl [0, 1, 2, 3, 4, 5, 6] rfl)
                          exact J203 _ ls v239 t0_196 (by first | exact (sub_nn hTR hs0 hx1 hn2 ev239).1 | exact nn_inc (by assumption) (by assumption) (by assumption)) rfl (lv_sub hl [2, 3, 4, 5, 6, 1, 0] rfl)
                        have J191 : ∀ (ls : Array Slot), lv_has ls 7 [(0, .ref a), (1, .int x1), (2, .int v67), (3, .int i3_64), (4, .int i4_155)] → W p l e (bs_rm 1 0 0 25) s m args below meth c H locs 0 0 Q (F0 m 191 ls []) := by
                          intro ls hl
                          refine lv_iconst (v := 1) hx hb dModel_enumeration_191 (by decide) ?_
                          refine lv_goto (tgt := 196) hx hb dModel_enumeration_192 (by decide) ?_
                          exact J196 ls 1 (lv_sub hl [0, 1, 2, 3, 4] rfl)
                        refine lv_if_ne (tgt := 191) hx hb dModel_enumeration_172 (by decide) (fun c254 => ?_) (fun c254 => ?_)
                        · exact J191 ls  (lv_sub hl [0, 1, 2, 3, 4] rfl)
                        · refine lv_aload_n hx hb dModel_enumeration_175 rfl (lv_at hl 0 rfl) ?_
                          refine md_gA S hC hM 3 (by decide) rfl qw_9fb851a5fa dModel_enumeration_176 ?_
                          refine lv_iload hx hb dModel_enumeration_179 (lv_at hl 4 rfl) ?_
                          refine md_ild S hC hM 3 1 4000 (τ 3) rfl rfl (by decide) rfl rfl (vin (by assumption) (by omega)) dModel_enumeration_181 ?_
                          refine lv_topi (fun v255 ev255 => ?_)
                          refine lv_aload_n hx hb dModel_enumeration_182 rfl (lv_at hl 0 rfl) ?_
                          refine md_gA S hC hM 3 (by decide) rfl qw_9fb851a5fa dModel_enumeration_183 ?_
                          refine lv_iload_n hx hb dModel_enumeration_186 rfl (lv_at hl 1 rfl) ?_
                          refine md_ild S hC hM 3 1 4000 (τ 3) rfl rfl (by decide) rfl rfl (vin (by assumption) (by omega)) dModel_enumeration_187 ?_
                          refine lv_topi (fun v256 ev256 => ?_)
                          refine lv_icmp_ne (tgt := 195) hx hb dModel_enumeration_188 (by decide) (fun c257 => ?_) (fun c257 => ?_)
                          · refine lv_iconst (v := 0) hx hb dModel_enumeration_195 (by decide) ?_
                            exact J196 ls 0 (lv_sub hl [0, 1, 2, 3, 4] rfl)
                          · exact J191 ls  (lv_sub hl [0, 1, 2, 3, 4] rfl)
                  exact J155 _ ls _ _ σ64 F nu v182 hM hS hF hG hZ (by first | exact (sub_nn hTR hs0 hx1 hn2 ev182).1 | exact nn_inc (by assumption) (by assumption) (by assumption)) rfl (lv_sub hl [1, 2, 3, 4, 0] rfl)
                · refine lv_aload_n hx hb dModel_enumeration_142 rfl (lv_at hl 0 rfl) ?_
                  refine lv_iload_n hx hb dModel_enumeration_143 rfl (lv_at hl 1 rfl) ?_
                  refine lv_bipush (v := 7) hx hb dModel_enumeration_144 (by decide) ?_
                  refine mu_Vi (rest := []) S hC (fun q h => hA q (Nat.le_trans hS.1 h)) (fun q h => h) hS (m_wrong l γ a B Z κ b mn ν τ σ64 F nu hT x1 7 hF) meModel_wrong qw_a6e9824456 ⟨Nat.le_of_ble_eq_true rfl, Nat.le_of_ble_eq_true rfl⟩ (md_rv hC hM) hM rfl hl.1 rfl (Nat.le_of_ble_eq_true rfl) dModel_enumeration_146 ⟨Nat.le_refl _, Nat.le_refl _⟩ (fun r258 H locs hPO hS _ _ => ?_)
                  obtain ⟨σr258, hM, hF, h0r258⟩ := hPO
                  exact hE _ _ _ _ _ hS ⟨κ, _, ⟨rfl, rfl, rfl⟩, b, mn, ν, τ, σr258, F, nu, hT, hZ, hF, hG, rfl, hM⟩ dModel_enumeration_149
              · refine lv_aload_n hx hb dModel_enumeration_121 rfl (lv_at hl 0 rfl) ?_
                refine lv_iload_n hx hb dModel_enumeration_122 rfl (lv_at hl 1 rfl) ?_
                refine lv_bipush (v := 11) hx hb dModel_enumeration_123 (by decide) ?_
                refine mu_Vi (rest := []) S hC (fun q h => hA q (Nat.le_trans hS.1 h)) (fun q h => h) hS (m_wrong l γ a B Z κ b mn ν τ σ64 F nu hT x1 11 hF) meModel_wrong qw_a6e9824456 ⟨Nat.le_of_ble_eq_true rfl, Nat.le_of_ble_eq_true rfl⟩ (md_rv hC hM) hM rfl hl.1 rfl (Nat.le_of_ble_eq_true rfl) dModel_enumeration_125 ⟨Nat.le_refl _, Nat.le_refl _⟩ (fun r259 H locs hPO hS _ _ => ?_)
                obtain ⟨σr259, hM, hF, h0r259⟩ := hPO
                exact hE _ _ _ _ _ hS ⟨κ, _, ⟨rfl, rfl, rfl⟩, b, mn, ν, τ, σr259, F, nu, hT, hZ, hF, hG, rfl, hM⟩ dModel_enumeration_128
            refine lv_icmp_ge (tgt := 117) hx hb dModel_enumeration_67 (by decide) (fun c260 => ?_) (fun c260 => ?_)
            · exact J117 ls  (lv_sub hl [0, 1, 2, 3, 4] rfl)
            · refine lv_iload_n hx hb dModel_enumeration_70 rfl (lv_at hl 3 rfl) ?_
              refine lv_if_eq (tgt := 117) hx hb dModel_enumeration_71 (by decide) (fun c261 => ?_) (fun c261 => ?_)
              · exact J117 ls  (lv_sub hl [0, 1, 2, 3, 4] rfl)
              · have hj4 : vp_in i4_64 (mn x1.toNatClampNeg) := vcmp (by assumption) hn2 (by assumption) (by omega)
                refine lv_aload_n hx hb dModel_enumeration_74 rfl (lv_at hl 0 rfl) ?_
                refine md_gA S hC hM 2 (by decide) rfl qw_3471296067 dModel_enumeration_75 ?_
                refine lv_aload_n hx hb dModel_enumeration_78 rfl (lv_at hl 0 rfl) ?_
                refine lv_iload_n hx hb dModel_enumeration_79 rfl (lv_at hl 1 rfl) ?_
                refine lv_iload hx hb dModel_enumeration_80 (lv_at hl 4 rfl) ?_
                have hpr262 : vp_in x1 (κ 0) := (vin (by assumption) (by omega))
                have hjr262 : vp_in i4_64 (mn x1.toNatClampNeg) := (by assumption)
                refine pu_Vi (rest := [.ref (B 2)]) S hC (m_child l γ a B Z κ b mn ν τ σ64 F nu hT x1 i4_64 hpr262 hjr262) meModel_child qw_a66d450e0a ⟨Nat.le_of_ble_eq_true rfl, Nat.le_of_ble_eq_true rfl⟩ (md_rv hC hM) hM rfl hl.1 rfl (Nat.le_of_ble_eq_true rfl) dModel_enumeration_82 ⟨Nat.zero_le _, Nat.zero_le _⟩ (fun r262 hr262 => ?_)
                obtain ⟨hir262, hltr262, hxr262⟩ := ch_in hTR hs0 hpr262 hjr262 hr262
                refine md_ild S hC hM 2 0 4000 (τ 2) rfl rfl (by decide) rfl rfl (vin (by assumption) (by omega)) dModel_enumeration_85 ?_
                refine lv_topi (fun v263 ev263 => ?_)
                refine lv_iconst (v := 1) hx hb dModel_enumeration_86 (by decide) ?_
                have J110 : ∀ (ls : Array Slot) (t0_110 : Int32), (t0_110 = 0 ∨ mn x1.toNatClampNeg ≤ 64) → lv_has ls 7 [(0, .ref a), (1, .int x1), (2, .int v67), (3, .int i3_64), (4, .int i4_64)] → W p l e (bs_rm 1 0 0 25) s m args below meth c H locs 0 0 Q (F0 m 110 ls [.int t0_110]) := by
                  intro ls t0_110 ht0_110 hl
                  refine lv_istore_n (lv' := [(3, .int t0_110), (0, .ref a), (1, .int x1), (2, .int v67), (4, .int i4_64)]) hx hb dModel_enumeration_110 rfl hl (by decide) rfl (fun ls hl => ?_)
                  obtain ⟨v269, ev269⟩ : ∃ y : Int32, y = i4_64 + 1 := ⟨_, rfl⟩
                  refine lv_iinc (v := v269) (lv' := [(4, .int v269), (3, .int t0_110), (0, .ref a), (1, .int x1), (2, .int v67)]) hx hb dModel_enumeration_111 hl (k := 4) rfl (by rw [ev269]; rfl) (by decide) rfl (fun ls hl => ?_)
                  refine lv_goto (tgt := 64) hx hb dModel_enumeration_114 (by decide) ?_
                  exact ih64 _ (by have q1 : i4_64.toInt < 2147483647 := (by first | assumption | exact (mu_up (k := i4_64) (by assumption)).2); have q2 := mu_lt q1; rw [← ev269] at q2; omega) ls v269 t0_110 (by first | decide | exact nn_inc (by assumption) (by assumption) (by assumption)) (by first | assumption | exact Or.inl rfl) rfl (lv_sub hl [2, 3, 4, 1, 0] rfl)
                have J109 : ∀ (ls : Array Slot), lv_has ls 7 [(0, .ref a), (1, .int x1), (2, .int v67), (3, .int i3_64), (4, .int i4_64)] → W p l e (bs_rm 1 0 0 25) s m args below meth c H locs 0 0 Q (F0 m 109 ls []) := by
                  intro ls hl
                  refine lv_iconst (v := 0) hx hb dModel_enumeration_109 (by decide) ?_
                  exact J110 ls 0 (by first | exact Or.inl rfl | exact Or.inr (hi3_64.resolve_left (by assumption))) (lv_sub hl [0, 1, 2, 3, 4] rfl)
                refine lv_icmp_ne (tgt := 109) hx hb dModel_enumeration_87 (by decide) (fun c270 => ?_) (fun c270 => ?_)
                · exact J109 ls  (lv_sub hl [0, 1, 2, 3, 4] rfl)
                · refine lv_aload_n hx hb dModel_enumeration_90 rfl (lv_at hl 0 rfl) ?_
                  refine md_gA S hC hM 4 (by decide) rfl qw_a8caa30de3 dModel_enumeration_91 ?_
                  refine lv_aload_n hx hb dModel_enumeration_94 rfl (lv_at hl 0 rfl) ?_
                  refine lv_iload_n hx hb dModel_enumeration_95 rfl (lv_at hl 1 rfl) ?_
                  refine lv_iload hx hb dModel_enumeration_96 (lv_at hl 4 rfl) ?_
                  have hpr271 : vp_in x1 (κ 0) := (vin (by assumption) (by omega))
                  have hjr271 : vp_in i4_64 (mn x1.toNatClampNeg) := (by assumption)
                  refine pu_Vi (rest := [.ref (B 4)]) S hC (m_child l γ a B Z κ b mn ν τ σ64 F nu hT x1 i4_64 hpr271 hjr271) meModel_child qw_a66d450e0a ⟨Nat.le_of_ble_eq_true rfl, Nat.le_of_ble_eq_true rfl⟩ (md_rv hC hM) hM rfl hl.1 rfl (Nat.le_of_ble_eq_true rfl) dModel_enumeration_98 ⟨Nat.zero_le _, Nat.zero_le _⟩ (fun r271 hr271 => ?_)
                  obtain ⟨hir271, hltr271, hxr271⟩ := ch_in hTR hs0 hpr271 hjr271 hr271
                  refine md_ild S hC hM 4 2 4000 (τ 4) rfl rfl (by decide) rfl rfl (vin (by assumption) (by omega)) dModel_enumeration_101 ?_
                  refine lv_topi (fun v272 ev272 => ?_)
                  refine lv_if_ne (tgt := 109) hx hb dModel_enumeration_102 (by decide) (fun c273 => ?_) (fun c273 => ?_)
                  · exact J109 ls  (lv_sub hl [0, 1, 2, 3, 4] rfl)
                  · refine lv_iconst (v := 1) hx hb dModel_enumeration_105 (by decide) ?_
                    refine lv_goto (tgt := 110) hx hb dModel_enumeration_106 (by decide) ?_
                    exact J110 ls 1 (by first | exact Or.inl rfl | exact Or.inr (hi3_64.resolve_left (by assumption))) (lv_sub hl [0, 1, 2, 3, 4] rfl)
        exact J64 _ ls 0 t0_60 (by first | decide | exact nn_inc (by assumption) (by assumption) (by assumption)) (by first | assumption | exact Or.inl rfl) rfl (lv_sub hl [2, 3, 4, 1, 0] rfl)
      have J59 : ∀ (ls : Array Slot), lv_has ls 7 [(0, .ref a), (1, .int x1), (2, .int v67)] → W p l e (bs_rm 1 0 0 25) s m args below meth c H locs 0 0 Q (F0 m 59 ls []) := by
        intro ls hl
        refine lv_iconst (v := 0) hx hb dModel_enumeration_59 (by decide) ?_
        exact J60 ls 0 (by first | exact Or.inl rfl | exact Or.inr (lr_64 hn2 (by omega) (by assumption))) (lv_sub hl [0, 1, 2] rfl)
      refine lv_icmp_ne (tgt := 59) hx hb dModel_enumeration_41 (by decide) (fun c274 => ?_) (fun c274 => ?_)
      · exact J59 ls  (lv_sub hl [1, 2, 0] rfl)
      · refine lv_iload_n hx hb dModel_enumeration_44 rfl (lv_at hl 0 rfl) ?_
        refine lv_iconst (v := 1) hx hb dModel_enumeration_45 (by decide) ?_
        refine lv_icmp_lt (tgt := 59) hx hb dModel_enumeration_46 (by decide) (fun c275 => ?_) (fun c275 => ?_)
        · exact J59 ls  (lv_sub hl [1, 2, 0] rfl)
        · refine lv_iload_n hx hb dModel_enumeration_49 rfl (lv_at hl 0 rfl) ?_
          refine lv_bipush (v := 64) hx hb dModel_enumeration_50 (by decide) ?_
          refine lv_icmp_gt (tgt := 59) hx hb dModel_enumeration_52 (by decide) (fun c276 => ?_) (fun c276 => ?_)
          · exact J59 ls  (lv_sub hl [1, 2, 0] rfl)
          · refine lv_iconst (v := 1) hx hb dModel_enumeration_55 (by decide) ?_
            refine lv_goto (tgt := 60) hx hb dModel_enumeration_56 (by decide) ?_
            exact J60 ls 1 (by first | exact Or.inl rfl | exact Or.inr (lr_64 hn2 (by omega) (by assumption))) (lv_sub hl [1, 2, 0] rfl)
    · refine lv_iconst (v := 0) hx hb dModel_enumeration_24 (by decide) ?_
      exact hE _ _ _ _ _ hS ⟨κ, _, ⟨rfl, rfl, rfl⟩, b, mn, ν, τ, σ64, F, nu, hT, hZ, hF, hG, rfl, hM⟩ dModel_enumeration_25
  refine lv_if_eq (tgt := 13) hx hb dModel_enumeration_6 (by decide) (fun c277 => ?_) (fun c277 => ?_)
  · refine lv_iconst (v := 0) hx hb dModel_enumeration_13 (by decide) ?_
    exact J14 ls 0 (by first | exact Or.inl (by decide) | exact Or.inr ⟨rfl, hr1 (by assumption)⟩) (lv_sub hl [0, 1] rfl)
  · refine lv_iconst (v := 1) hx hb dModel_enumeration_9 (by decide) ?_
    refine lv_goto (tgt := 14) hx hb dModel_enumeration_10 (by decide) ?_
    exact J14 ls 1 (by first | exact Or.inl (by decide) | exact Or.inr ⟨rfl, hr1 (by assumption)⟩) (lv_sub hl [0, 1] rfl)
