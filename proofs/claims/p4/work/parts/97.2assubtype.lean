theorem qw_07c5ec0f25 : (Cond.methodLink R_Model 111 yModel_goodName) ∈ bs_W0 := bs_in (in_tables_1_6 (List.mem_of_getElem? (i := 28) rfl)) rfl
theorem qw_52fabcdf69 : (Cond.methodLink R_Model 281 yModel_hasHere) ∈ bs_W0 := bs_in (in_tables_1_6 (List.mem_of_getElem? (i := 215) rfl)) rfl
theorem qw_8127fdf1ea : (Cond.methodLink R_Model 284 yModel_name) ∈ bs_W0 := bs_in (in_tables_1_6 (List.mem_of_getElem? (i := 219) rfl)) rfl
set_option maxHeartbeats 4000000 in
set_option maxRecDepth 100000 in
theorem m_subtype (l : Launch) (γ : gE) (a : Nat) (B : Nat → Nat) (Z : Nat → Prop) (κ b mn : Nat → Nat) (ν : Nat → Int32) (τ : Nat → Nat → Int32) (σ : Nat → Int32) (F : Nat → Nat → Int32) (nu : Nat → Int64) (hT : ST κ b mn ν τ) (x1 : Int32) (x2 : Int32) (hZ : SZ F) (hF : FD σ) (hG : GD F nu) : MU l yModel_subtype bModel_subtype 3 (some .int) 1 24 0 0 [.ref a, .int x1, .int x2] γ Z (MD γ a B Z ν τ σ F nu) (mQi (fun r H => ∃ (κ' : Nat → Nat) (cd : Int32), κ' 5 = κ 5 ∧ MI γ a B Z κ' cd H) Z) := by
  refine mu_openI (by decide) (Nat.le_of_ble_eq_true rfl) ?_
  intro p e s m args below meth c ls Q S hnm hC hA hM hE hl
  have hS : va_S Z s.heap s.heap [] := va_S.rf
  obtain ⟨hx, hb, hml, hown, hW⟩ := id S
  obtain ⟨⟨hs0, hs1, hs2, hs3, hs4, hs5, hs6⟩, ⟨hv6, hv8, hv21, hv24, hv30, hv31⟩, hTR, hTY, hOB, hNM⟩ := id hT
  have hl : lv_has ls 3 [(0, .ref a), (1, .int x1), (2, .int x2)] := hl
  refine lv_aload_n hx hb dModel_subtype_0 rfl (lv_at hl 0 rfl) ?_
  refine lv_aload_n hx hb dModel_subtype_1 rfl (lv_at hl 0 rfl) ?_
  refine lv_iload_n hx hb dModel_subtype_2 rfl (lv_at hl 2 rfl) ?_
  refine pu_Vi (rest := [.ref a]) S hC (m_noType l γ a B Z κ b mn ν τ σ F nu hT x2 ) meModel_noType qw_0ba745738d ⟨Nat.le_of_ble_eq_true rfl, Nat.le_of_ble_eq_true rfl⟩ (md_rv hC hM) hM rfl hl.1 rfl (Nat.le_of_ble_eq_true rfl) dModel_subtype_3 ⟨Nat.zero_le _, Nat.zero_le _⟩ (fun r1 hr1 => ?_)
  have J25 : ∀ (ls : Array Slot) (t0_25 : Int32), (0 < t0_25 ∨ (t0_25 = 0 ∧ vp_in x2 (κ 2))) → lv_has ls 3 [(0, .ref a), (1, .int x1), (2, .int x2)] → W p l e (bs_rm 1 0 0 24) s m args below meth c s.heap [] 0 0 Q (F0 m 25 ls [.int t0_25, .ref a]) := by
    intro ls t0_25 ht0_25 hl
    refine md_pD S hC hM hS 0 rfl (by decide) rfl qw_53e275eed6 rfl (by decide +kernel) dModel_subtype_25 (fun H locs hM hS => ?_)
    obtain ⟨σ18, eσ18⟩ : ∃ z : Nat → Int32, z = upd σ 0 t0_25 := ⟨_, rfl⟩
    rw [← eσ18] at hM
    have hF : FD σ18 := hF.up eσ18 (by decide) (by decide)
    refine lv_aload_n hx hb dModel_subtype_28 rfl (lv_at hl 0 rfl) ?_
    refine md_gI S hC hM 0 (v := σ18 0) rfl (by decide) rfl qw_53e275eed6 dModel_subtype_29 ?_
    refine lv_topi (fun v19 ev19 => ?_)
    refine lv_if_le (tgt := 37) hx hb dModel_subtype_32 (by decide) (fun c20 => ?_) (fun c20 => ?_)
    · have hx2 : vp_in x2 (κ 2) := cd_0 eσ18 ev19 (by assumption) ht0_25
      refine lv_aload_n hx hb dModel_subtype_37 rfl (lv_at hl 0 rfl) ?_
      refine lv_iload_n hx hb dModel_subtype_38 rfl (lv_at hl 1 rfl) ?_
      refine pu_Vi (rest := []) S hC (m_hasHere l γ a B Z κ b mn ν τ σ18 F nu hT x1 ) meModel_hasHere qw_52fabcdf69 ⟨Nat.le_of_ble_eq_true rfl, Nat.le_of_ble_eq_true rfl⟩ (md_rv hC hM) hM rfl hl.1 rfl (Nat.le_of_ble_eq_true rfl) dModel_subtype_39 ⟨Nat.zero_le _, Nat.zero_le _⟩ (fun r21 hr21 => ?_)
      refine lv_if_eq (tgt := 53) hx hb dModel_subtype_42 (by decide) (fun c22 => ?_) (fun c22 => ?_)
      · refine lv_aload_n hx hb dModel_subtype_53 rfl (lv_at hl 0 rfl) ?_
        refine lv_aload_n hx hb dModel_subtype_54 rfl (lv_at hl 0 rfl) ?_
        refine md_gI S hC hM 30 (v := nI (κ 4)) hv30 (by decide) rfl qw_8d5d48b583 dModel_subtype_55 ?_
        refine lv_topi (fun v23 ev23 => ?_)
        refine lv_sipush (v := 3000) hx hb dModel_subtype_58 (by decide) ?_
        have J69 : ∀ (ls : Array Slot) (t0_69 : Int32), (0 < t0_69 ∨ (t0_69 = 0 ∧ κ 4 < 3000)) → lv_has ls 3 [(0, .ref a), (1, .int x1), (2, .int x2)] → W p l e (bs_rm 1 0 0 24) s m args below meth c H locs 0 0 Q (F0 m 69 ls [.int t0_69, .ref a]) := by
          intro ls t0_69 ht0_69 hl
          refine md_pD S hC hM hS 0 rfl (by decide) rfl qw_53e275eed6 rfl (by decide +kernel) dModel_subtype_69 (fun H locs hM hS => ?_)
          obtain ⟨σ30, eσ30⟩ : ∃ z : Nat → Int32, z = upd σ18 0 t0_69 := ⟨_, rfl⟩
          rw [← eσ30] at hM
          have hF : FD σ30 := hF.up eσ30 (by decide) (by decide)
          refine lv_aload_n hx hb dModel_subtype_72 rfl (lv_at hl 0 rfl) ?_
          refine md_gI S hC hM 0 (v := σ30 0) rfl (by decide) rfl qw_53e275eed6 dModel_subtype_73 ?_
          refine lv_topi (fun v31 ev31 => ?_)
          refine lv_if_le (tgt := 81) hx hb dModel_subtype_76 (by decide) (fun c32 => ?_) (fun c32 => ?_)
          · have hN4 : κ 4 < 3000 := cd_0 eσ30 ev31 (by assumption) ht0_69
            refine lv_aload_n hx hb dModel_subtype_81 rfl (lv_at hl 0 rfl) ?_
            refine lv_iconst (v := (-1)) hx hb dModel_subtype_82 (by decide) ?_
            refine md_pD S hC hM hS 1 rfl (by decide) rfl qw_d4a57461ea rfl (by decide +kernel) dModel_subtype_83 (fun H locs hM hS => ?_)
            obtain ⟨σ33, eσ33⟩ : ∃ z : Nat → Int32, z = upd σ30 1 (-1) := ⟨_, rfl⟩
            rw [← eσ33] at hM
            have hF : FD σ33 := hF.up eσ33 (by decide) (by decide)
            refine lv_aload_n hx hb dModel_subtype_86 rfl (lv_at hl 0 rfl) ?_
            refine lv_iload_n hx hb dModel_subtype_87 rfl (lv_at hl 1 rfl) ?_
            refine lv_iconst (v := 0) hx hb dModel_subtype_88 (by decide) ?_
            refine lv_iload_n hx hb dModel_subtype_89 rfl (lv_at hl 2 rfl) ?_
            refine lv_iconst (v := 0) hx hb dModel_subtype_90 (by decide) ?_
            refine mu_Vv (rest := []) S hC (fun q h => hA q (Nat.le_trans hS.1 h)) (fun q h => h) hS (m_name l γ a B Z κ b mn ν τ σ33 F nu hT x1 0 x2 0 (by omega) ⟨fun h9 => absurd h9 (by decide), fun h9 => absurd h9 (by decide), fun h9 => absurd h9 (by decide)⟩) meModel_name qw_8127fdf1ea ⟨Nat.le_of_ble_eq_true rfl, Nat.le_of_ble_eq_true rfl⟩ (md_rv hC hM) hM rfl hl.1 rfl (Nat.le_of_ble_eq_true rfl) dModel_subtype_91 ⟨Nat.le_refl _, Nat.le_refl _⟩ (fun H locs hPO hS _ _ => ?_)
            obtain ⟨ν_r34, τ_r34, hM, hT_r34⟩ := hPO
            obtain ⟨κ_r34, hκ_r34⟩ : ∃ z : Nat → Nat, z = ku κ 4 (κ 4 + 1) := ⟨_, rfl⟩
            rw [← hκ_r34] at hT_r34
            obtain ⟨⟨hs0_r34, hs1_r34, hs2_r34, hs3_r34, hs4_r34, hs5_r34, hs6_r34⟩, ⟨hv6_r34, hv8_r34, hv21_r34, hv24_r34, hv30_r34, hv31_r34⟩, hTR_r34, hTY_r34, hOB_r34, hNM_r34⟩ := id hT_r34
            refine lv_iconst (v := 0) hx hb dModel_subtype_94 (by decide) ?_
            exact hE _ _ _ _ _ hS ⟨κ_r34, _, (by rw [hκ_r34]; rfl), b, mn, ν_r34, τ_r34, σ33, F, nu, hT_r34, hZ, hF, hG, rfl, hM⟩ dModel_subtype_95
          · refine lv_iconst (v := 0) hx hb dModel_subtype_79 (by decide) ?_
            exact hE _ _ _ _ _ hS ⟨κ, _, rfl, b, mn, ν, τ, σ30, F, nu, hT, hZ, hF, hG, rfl, hM⟩ dModel_subtype_80
        refine lv_icmp_ne (tgt := 68) hx hb dModel_subtype_61 (by decide) (fun c35 => ?_) (fun c35 => ?_)
        · refine lv_iconst (v := 0) hx hb dModel_subtype_68 (by decide) ?_
          exact J69 ls 0 (by first | exact Or.inl (by decide) | exact Or.inr ⟨rfl, ne_lt ev23 (by assumption) rfl hs4⟩) (lv_sub hl [0, 1, 2] rfl)
        · refine lv_iconst (v := 3) hx hb dModel_subtype_64 (by decide) ?_
          refine lv_goto (tgt := 69) hx hb dModel_subtype_65 (by decide) ?_
          exact J69 ls 3 (by first | exact Or.inl (by decide) | exact Or.inr ⟨rfl, ne_lt ev23 (by assumption) rfl hs4⟩) (lv_sub hl [0, 1, 2] rfl)
      · refine lv_aload_n hx hb dModel_subtype_45 rfl (lv_at hl 0 rfl) ?_
        refine lv_iconst (v := (-1)) hx hb dModel_subtype_46 (by decide) ?_
        refine lv_bipush (v := 7) hx hb dModel_subtype_47 (by decide) ?_
        refine mu_Vi (rest := []) S hC (fun q h => hA q (Nat.le_trans hS.1 h)) (fun q h => h) hS (m_wrong l γ a B Z κ b mn ν τ σ18 F nu hT (-1) 7 hF) meModel_wrong qw_a6e9824456 ⟨Nat.le_of_ble_eq_true rfl, Nat.le_of_ble_eq_true rfl⟩ (md_rv hC hM) hM rfl hl.1 rfl (Nat.le_of_ble_eq_true rfl) dModel_subtype_49 ⟨Nat.le_refl _, Nat.le_refl _⟩ (fun r36 H locs hPO hS _ _ => ?_)
        obtain ⟨σr36, hM, hF, h0r36⟩ := hPO
        exact hE _ _ _ _ _ hS ⟨κ, _, rfl, b, mn, ν, τ, σr36, F, nu, hT, hZ, hF, hG, rfl, hM⟩ dModel_subtype_52
    · refine lv_iconst (v := 0) hx hb dModel_subtype_35 (by decide) ?_
      exact hE _ _ _ _ _ hS ⟨κ, _, rfl, b, mn, ν, τ, σ18, F, nu, hT, hZ, hF, hG, rfl, hM⟩ dModel_subtype_36
  refine lv_if_eq (tgt := 13) hx hb dModel_subtype_6 (by decide) (fun c37 => ?_) (fun c37 => ?_)
  · refine lv_iload_n hx hb dModel_subtype_13 rfl (lv_at hl 1 rfl) ?_
    refine pu_Si (rest := [.ref a]) S hC (m_goodName l γ _ x1) meModel_goodName qw_07c5ec0f25 ⟨Nat.le_of_ble_eq_true rfl, Nat.le_of_ble_eq_true rfl⟩ hM rfl hl.1 rfl (Nat.le_of_ble_eq_true rfl) dModel_subtype_14 ⟨Nat.zero_le _, Nat.zero_le _⟩ (fun r38 hr38 => ?_)
    refine lv_if_ne (tgt := 24) hx hb dModel_subtype_17 (by decide) (fun c39 => ?_) (fun c39 => ?_)
    · refine lv_iconst (v := 0) hx hb dModel_subtype_24 (by decide) ?_
      exact J25 ls 0 (by first | exact Or.inl (by decide) | exact Or.inr ⟨rfl, hr1 (by assumption)⟩) (lv_sub hl [0, 1, 2] rfl)
    · refine lv_iconst (v := 2) hx hb dModel_subtype_20 (by decide) ?_
      refine lv_goto (tgt := 25) hx hb dModel_subtype_21 (by decide) ?_
      exact J25 ls 2 (by first | exact Or.inl (by decide) | exact Or.inr ⟨rfl, hr1 (by assumption)⟩) (lv_sub hl [0, 1, 2] rfl)
  · refine lv_iconst (v := 1) hx hb dModel_subtype_9 (by decide) ?_
    refine lv_goto (tgt := 25) hx hb dModel_subtype_10 (by decide) ?_
    exact J25 ls 1 (by first | exact Or.inl (by decide) | exact Or.inr ⟨rfl, hr1 (by assumption)⟩) (lv_sub hl [0, 1, 2] rfl)
