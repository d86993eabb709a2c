theorem qw_07c5ec0f25 : (Cond.methodLink R_Model 111 yModel_goodName) ∈ bs_W0 := bs_in (in_tables_1_6 (List.mem_of_getElem? (i := 24) rfl)) rfl
theorem qw_52fabcdf69 : (Cond.methodLink R_Model 281 yModel_hasHere) ∈ bs_W0 := bs_in (in_tables_1_6 (List.mem_of_getElem? (i := 211) rfl)) rfl
theorem qw_8127fdf1ea : (Cond.methodLink R_Model 284 yModel_name) ∈ bs_W0 := bs_in (in_tables_1_6 (List.mem_of_getElem? (i := 215) rfl)) rfl
set_option maxHeartbeats 4000000 in
set_option maxRecDepth 100000 in
theorem m_subtype (l : Launch) (γ : gE) (a : Nat) (B : Nat → Nat) (Z : Nat → Prop) (κ b mn : Nat → Nat) (ν : Nat → Int32) (τ : Nat → Nat → Int32) (σ : Nat → Int32) (F : Nat → Nat → Int32) (nu : Nat → Int64) (hT : ST κ b mn ν τ) (x1 : Int32) (x2 : Int32) (hZ : SZ F) (hF : FD σ) (hG : GD F nu) : MU l yModel_subtype bModel_subtype 3 (some .int) 1 24 0 0 [.ref a, .int x1, .int x2] γ Z (MD γ a B Z ν τ σ F nu) (mQi (fun r H => ∃ (κ' : Nat → Nat) (cd : Int32), (κ' 5 = κ 5 ∧ κ' 0 = κ 0 ∧ κ' 1 = κ 1) ∧ MI γ a B Z κ' cd H) Z) := by
  refine mu_openI (by decide) (Nat.le_of_ble_eq_true rfl) ?_
  intro p e s m args below meth c ls Q S hnm hC hA hM hE hl
  have hS : va_S Z s.heap s.heap [] := va_S.rf
  obtain ⟨hx, hb, hml, hown, hW⟩ := id S
  obtain ⟨⟨hs0, hs1, hs2, hs3, hs4, hs5, hs6⟩, ⟨hv6, hv8, hv21, hv24, hv30, hv31⟩, hTR, hTY, hOB, hNM⟩ := id hT
  have hl : lv_has ls 3 [(0, .ref a), (1, .int x1), (2, .int x2)] := hl
  refine lv_aload_n hx hb dModel_subtype_0 rfl (lv_at hl 0 rfl) ?_
  refine lv_aload_n hx hb dModel_subtype_1 rfl (lv_at hl 0 rfl) ?_
  refine lv_iload_n hx hb dModel_subtype_2 rfl (lv_at hl 2 rfl) ?_
  refine pu_Vi (rest := [.ref a]) S hC (m_noType l γ a B Z κ b mn ν τ σ F nu hT x2 ) meModel_noType qw_0ba745738d ⟨Nat.le_of_ble_eq_true rfl, Nat.le_of_ble_eq_true rfl⟩ (md_rv hC hM) hM rfl hl.1 rfl (Nat.le_of_ble_eq_true rfl) dModel_subtype_3 ⟨Nat.zero_le _, Nat.zero_le _⟩ (fun r1 hr1 => ?_)
  have J25 : ∀ (ls : Array Slot) (t0_25 : Int32), (0 < t0_25 ∨ (t0_25 = 0 ∧ vp_in x2 (κ 2))) → lv_has ls 3 [(0, .ref a), (1, .int x1), (2, .int x2)] → W p l e (bs_rm 1 0 0 24) s m args below meth c s.heap [] 0 0 Q (F0 m 25 ls [.int t0_25, .ref a]) := by
    intro ls t0_25 ht0_25 hl
    refine md_pD S hC hM hS 0 rfl (by decide) rfl qw_53e275eed6 rfl (by decide +kernel) dModel_subtype_25 (fun H locs hM hS => ?_)
    obtain ⟨σ18, eσ18⟩ : ∃ z : Nat → Int32, z = upd σ 0 t0_25 := ⟨_, rfl⟩
    rw [← eσ18] at hM
    have hF : FD σ18 := hF.up eσ18 (by decide) (by decide)
    refine lv_aload_n hx hb dModel_subtype_28 rfl (lv_at hl 0 rfl) ?_
    refine md_gI S hC hM 0 (v := σ18 0) rfl (by decide) rfl qw_53e275eed6 dModel_subtype_29 ?_
    refine lv_topi (fun v19 ev19 => ?_)
    refine lv_if_le (tgt := 37) hx hb dModel_subtype_32 (by decide) (fun c20 => ?_) (fun c20 => ?_)
    · have hx2 : vp_in x2 (κ 2) := cd_0 eσ18 ev19 (by assumption) ht0_25
      refine lv_aload_n hx hb dModel_subtype_37 rfl (lv_at hl 0 rfl) ?_
      refine lv_iload_n hx hb dModel_subtype_38 rfl (lv_at hl 1 rfl) ?_
      refine pu_Vi (rest := []) S hC (m_hasHere l γ a B Z κ b mn ν τ σ18 F nu hT x1 ) meModel_hasHere qw_52fabcdf69 ⟨Nat.le_of_ble_eq_true rfl, Nat.le_of_ble_eq_true rfl⟩ (md_rv hC hM) hM rfl hl.1 rfl (Nat.le_of_ble_eq_true rfl) dModel_subtype_39 ⟨Nat.zero_le _, Nat.zero_le _⟩ (fun r21 hr21 => ?_)
      refine lv_if_eq (tgt := 53) hx hb dModel_subtype_42 (by decide) (fun c22 => ?_) (fun c22 => ?_)
      · refine lv_aload_n hx hb dModel_subtype_53 rfl (lv_at hl 0 rfl) ?_
        refine lv_aload_n hx hb dModel_subtype_54 rfl (lv_at hl 0 rfl) ?_
        refine md_gI S hC hM 30 (v := nI (κ 4)) hv30 (by decide) rfl qw_8d5d48b583 dModel_subtype_55 ?_
        refine lv_topi (fun v23 ev23 => ?_)
        refine lv_sipush (v := 3000) hx hb dModel_subtype_58 (by decide) ?_
        have J69 : ∀ (ls : Array Slot) (t0_69 : Int32), (0 < t0_69 ∨ (t0_69 = 0 ∧ κ 4 < 3000)) → lv_has ls 3 [(0, .ref a), (1, .int x1), (2, .int x2)] → W p l e (bs_rm 1 0 0 24) s m args below meth c H locs 0 0 Q (F0 m 69 ls [.int t0_69, .ref a]) := by
          intro ls t0_69 ht0_69 hl
          refine md_pD S hC hM hS 0 rfl (by decide) rfl qw_53e275eed6 rfl (by decide +kernel) dModel_subtype_69 (fun H locs hM hS => ?_)
          obtain ⟨σ30, eσ30⟩ : ∃ z : Nat → Int32, z = upd σ18 0 t0_69 := ⟨_, rfl⟩
          rw [← eσ30] at hM
          have hF : FD σ30 := hF.up eσ30 (by decide) (by decide)
          refine lv_aload_n hx hb dModel_subtype_72 rfl (lv_at hl 0 rfl) ?_
          refine md_gI S hC hM 0 (v := σ30 0) rfl (by decide) rfl qw_53e275eed6 dModel_subtype_73 ?_
          refine lv_topi (fun v31 ev31 => ?_)
          refine lv_if_le (tgt := 81) hx hb dModel_subtype_76 (by decide) (fun c32 => ?_) (fun c32 => ?_)
          · have hN4 : κ 4 < 3000 := cd_0 eσ30 ev31 (by assumption) ht0_69
            refine lv_aload_n hx hb dModel_subtype_81 rfl (lv_at hl 0 rfl) ?_
            refine lv_iconst (v := (-1)) hx hb dModel_subtype_82 (by decide) ?_
            refine md_pD S hC hM hS 1 rfl (by decide) rfl qw_d4a57461ea rfl (by decide +kernel) dModel_subtype_83 (fun H locs hM hS => ?_)
            obtain ⟨σ33, eσ33⟩ : ∃ z : Nat → Int32, z = upd σ30 1 (-1) := ⟨_, rfl⟩
            rw [← eσ33] at hM
            have hF : FD σ33 := hF.up eσ33 (by decide) (by decide)
            refine lv_aload_n hx hb dModel_subtype_86 rfl (lv_at hl 0 rfl) ?_
            refine lv_iload_n hx hb dModel_subtype_87 rfl (lv_at hl 1 rfl) ?_
            refine lv_iconst (v := 0) hx hb dModel_subtype_88 (by decide) ?_
            refine lv_iload_n hx hb dModel_subtype_89 rfl (lv_at hl 2 rfl) ?_
            refine lv_iconst (v := 0) hx hb dModel_subtype_90 (by decide) ?_
            refine mu_Vv (rest := []) S hC (fun q h => hA q (Nat.le_trans hS.1 h)) (fun q h => h) hS (m_name l γ a B Z κ b mn ν τ σ33 F nu hT x1 0 x2 0 (by omega) ⟨fun h9 => absurd h9 (by decide), fun h9 => absurd h9 (by decide), fun h9 => absurd h9 (by decide)⟩) meModel_name qw_8127fdf1ea ⟨Nat.le_of_ble_eq_true rfl, Nat.le_of_ble_eq_true rfl⟩ (md_rv hC hM) hM rfl hl.1 rfl (Nat.le_of_ble_eq_true rfl) dModel_subtype_91 ⟨Nat.le_refl _, Nat.le_refl _⟩ (fun H locs hPO hS _ _ => ?_)
            obtain ⟨ν_r34, τ_r34, hM, hT_r34⟩ := hPO
            obtain ⟨κ_r34, hκ_r34⟩ : ∃ z : Nat → Nat, z = ku κ 4 (κ 4 + 1) := ⟨_, rfl⟩
            rw [← hκ_r34] at hT_r34
            obtain ⟨⟨hs0_r34, hs1_r34, hs2_r34, hs3_r34, hs4_r34, hs5_r34, hs6_r34⟩, ⟨hv6_r34, hv8_r34, hv21_r34, hv24_r34, hv30_r34, hv31_r34⟩, hTR_r34, hTY_r34, hOB_r34, hNM_r34⟩ := id hT_r34
            refine lv_iconst (v := 0) hx hb dModel_subtype_94 (by decide) ?_
            exact hE _ _ _ _ _ hS ⟨κ_r34, _, (by rw [hκ_r34]; exact ⟨rfl, rfl, rfl⟩), b, mn, ν_r34, τ_r34, σ33, F, nu, hT_r34, hZ, hF, hG, rfl, hM⟩ dModel_subtype_95
          · refine lv_iconst (v := 0) hx hb dModel_subtype_79 (by decide) ?_
            exact hE _ _ _ _ _ hS ⟨κ, _, ⟨rfl, rfl, rfl⟩, b, mn, ν, τ, σ30, F, nu, hT, hZ, hF, hG, rfl, hM⟩ dModel_subtype_80
        refine lv_icmp_ne (tgt := 68) hx hb dModel_subtype_61 (by decide) (fun c35 => ?_) (fun c35 => ?_)
        · refine lv_iconst (v := 0) hx hb dModel_subtype_68 (by decide) ?_
          exact J69 ls 0 (by first | exact Or.inl (by decide) | exact Or.inr ⟨rfl, ne_lt ev23 (by assumption) rfl hs4⟩) (lv_sub hl [0, 1, 2] rfl)
        · refine lv_iconst (v := 3) hx hb dModel_subtype_64 (by decide) ?_
          refine lv_goto (tgt := 69) hx hb dModel_subtype_65 (by decide) ?_
          exact J69 ls 3 (by first | exact Or.inl (by decide) | exact Or.inr ⟨rfl, ne_lt ev23 (by assumption) rfl hs4⟩) (lv_sub hl [0, 1, 2] rfl)
      · refine lv_aload_n hx hb dModel_subtype_45 rfl (lv_at hl 0 rfl) ?_
        refine lv_iconst (v := (-1)) hx hb dModel_subtype_46 (by decide) ?_
        refine lv_bipush (v := 7) hx hb dModel_subtype_47 (by decide) ?_
        refine mu_Vi (rest := []) S hC (fun q h => hA q (Nat.le_trans hS.1 h)) (fun q h => h) hS (m_wrong l γ a B Z κ b mn ν τ σ18 F nu hT (-1) 7 hF) meModel_wrong qw_a6e9824456 ⟨Nat.le_of_ble_eq_true rfl, Nat.le_of_ble_eq_true rfl⟩ (md_rv hC hM) hM rfl hl.1 rfl (Nat.le_of_ble_eq_true rfl) dModel_subtype_49 ⟨Nat.le_refl _, Nat.le_refl _⟩ (fun r36 H locs hPO hS _ _ => ?_)
        obtain ⟨σr36, hM, hF, h0r36⟩ := hPO
        exact hE _ _ _ _ _ hS ⟨κ, _, ⟨rfl, rfl, rfl⟩, b, mn, ν, τ, σr36, F, nu, hT, hZ, hF, hG, rfl, hM⟩ dModel_subtype_52
    · refine lv_iconst (v := 0) hx hb dModel_subtype_35 (by decide) ?_
      exact hE _ _ _ _ _ hS ⟨κ, _, ⟨rfl, rfl, rfl⟩, b, mn, ν, τ, σ18, F, nu, hT, hZ, hF, hG, rfl, hM⟩ dModel_subtype_36
  refine lv_if_eq (tgt := 13) hx hb dModel_subtype_6 (by decide) (fun c37 => ?_) (fun c37 => ?_)
  · refine lv_iload_n hx hb dModel_subtype_13 rfl (lv_at hl 1 rfl) ?_
    refine pu_Si (rest := [.ref a]) S hC (m_goodName l γ _ x1) meModel_goodName qw_07c5ec0f25 ⟨Nat.le_of_ble_eq_true rfl, Nat.le_of_ble_eq_true rfl⟩ hM rfl hl.1 rfl (Nat.le_of_ble_eq_true rfl) dModel_subtype_14 ⟨Nat.zero_le _, Nat.zero_le _⟩ (fun r38 hr38 => ?_)
    refine lv_if_ne (tgt := 24) hx hb dModel_subtype_17 (by decide) (fun c39 => ?_) (fun c39 => ?_)
    · refine lv_iconst (v := 0) hx hb dModel_subtype_24 (by decide) ?_
      exact J25 ls 0 (by first | exact Or.inl (by decide) | exact Or.inr ⟨rfl, hr1 (by assumption)⟩) (lv_sub hl [0, 1, 2] rfl)
    · refine lv_iconst (v := 2) hx hb dModel_subtype_20 (by decide) ?_
      refine lv_goto (tgt := 25) hx hb dModel_subtype_21 (by decide) ?_
      exact J25 ls 2 (by first | exact Or.inl (by decide) | exact Or.inr ⟨rfl, hr1 (by assumption)⟩) (lv_sub hl [0, 1, 2] rfl)
  · refine lv_iconst (v := 1) hx hb dModel_subtype_9 (by decide) ?_
    refine lv_goto (tgt := 25) hx hb dModel_subtype_10 (by decide) ?_
    exact J25 ls 1 (by first | exact Or.inl (by decide) | exact Or.inr ⟨rfl, hr1 (by assumption)⟩) (lv_sub hl [0, 1, 2] rfl)
theorem qw_5c346c7fc8 : (Cond.fieldLink R_Model 294 R_Model "objects" "I") ∈ bs_W0 := bs_in (in_tables_1_5 (List.mem_of_getElem? (i := 177) rfl)) rfl
set_option maxHeartbeats 4000000 in
set_option maxRecDepth 100000 in
theorem m_declare (l : Launch) (γ : gE) (a : Nat) (B : Nat → Nat) (Z : Nat → Prop) (κ b mn : Nat → Nat) (ν : Nat → Int32) (τ : Nat → Nat → Int32) (σ : Nat → Int32) (F : Nat → Nat → Int32) (nu : Nat → Int64) (hT : ST κ b mn ν τ) (x1 : Int32) (x2 : Int32) (x3 : Int32) (x4 : Int32) (hZ : SZ F) (hF : FD σ) (hG : GD F nu) : MU l yModel_declare bModel_declare 7 (some .int) 7 177 0 0 [.ref a, .int x1, .int x2, .int x3, .int x4] γ Z (MD γ a B Z ν τ σ F nu) (mQi (fun r H => ∃ (κ' : Nat → Nat) (cd : Int32), (κ' 5 = κ 5 ∧ κ' 0 = κ 0 ∧ κ' 1 = κ 1) ∧ MI γ a B Z κ' cd H) Z) := by
  refine mu_openI (by decide) (Nat.le_of_ble_eq_true rfl) ?_
  intro p e s m args below meth c ls Q S hnm hC hA hM hE hl
  have hS : va_S Z s.heap s.heap [] := va_S.rf
  obtain ⟨hx, hb, hml, hown, hW⟩ := id S
  obtain ⟨⟨hs0, hs1, hs2, hs3, hs4, hs5, hs6⟩, ⟨hv6, hv8, hv21, hv24, hv30, hv31⟩, hTR, hTY, hOB, hNM⟩ := id hT
  have hl : lv_has ls 7 [(0, .ref a), (1, .int x1), (2, .int x2), (3, .int x3), (4, .int x4)] := hl
  refine lv_aload_n hx hb dModel_declare_0 rfl (lv_at hl 0 rfl) ?_
  refine lv_aload_n hx hb dModel_declare_1 rfl (lv_at hl 0 rfl) ?_
  refine lv_iload_n hx hb dModel_declare_2 rfl (lv_at hl 3 rfl) ?_
  refine pu_Vi (rest := [.ref a]) S hC (m_noType l γ a B Z κ b mn ν τ σ F nu hT x3 ) meModel_noType qw_0ba745738d ⟨Nat.le_of_ble_eq_true rfl, Nat.le_of_ble_eq_true rfl⟩ (md_rv hC hM) hM rfl hl.1 rfl (Nat.le_of_ble_eq_true rfl) dModel_declare_3 ⟨Nat.zero_le _, Nat.zero_le _⟩ (fun r1 hr1 => ?_)
  have J47 : ∀ (ls : Array Slot) (t0_47 : Int32), (0 < t0_47 ∨ (t0_47 = 0 ∧ vp_in x3 (κ 2) ∧ (x1 = 0 → vp_in x4 (κ 0)))) → lv_has ls 7 [(0, .ref a), (1, .int x1), (2, .int x2), (3, .int x3), (4, .int x4)] → W p l e (bs_rm 7 0 0 177) s m args below meth c s.heap [] 0 0 Q (F0 m 47 ls [.int t0_47, .ref a]) := by
    intro ls t0_47 ht0_47 hl
    refine md_pD S hC hM hS 0 rfl (by decide) rfl qw_53e275eed6 rfl (by decide +kernel) dModel_declare_47 (fun H locs hM hS => ?_)
    obtain ⟨σ57, eσ57⟩ : ∃ z : Nat → Int32, z = upd σ 0 t0_47 := ⟨_, rfl⟩
    rw [← eσ57] at hM
    have hF : FD σ57 := hF.up eσ57 (by decide) (by decide)
    refine lv_aload_n hx hb dModel_declare_50 rfl (lv_at hl 0 rfl) ?_
    refine md_gI S hC hM 0 (v := σ57 0) rfl (by decide) rfl qw_53e275eed6 dModel_declare_51 ?_
    refine lv_topi (fun v58 ev58 => ?_)
    refine lv_if_le (tgt := 59) hx hb dModel_declare_54 (by decide) (fun c59 => ?_) (fun c59 => ?_)
    · obtain ⟨hx3, hx40⟩ := cd_0 eσ57 ev58 (by assumption) ht0_47
      refine lv_aload_n hx hb dModel_declare_59 rfl (lv_at hl 0 rfl) ?_
      refine md_gI S hC hM 1 (v := σ57 1) rfl (by decide) rfl qw_d4a57461ea dModel_declare_60 ?_
      refine lv_topi (fun v60 ev60 => ?_)
      refine lv_istore (lv' := [(5, .int v60), (0, .ref a), (1, .int x1), (2, .int x2), (3, .int x3), (4, .int x4)]) hx hb dModel_declare_63 hl (by decide) rfl (fun ls hl => ?_)
      refine lv_iload_n hx hb dModel_declare_65 rfl (lv_at hl 2 rfl) ?_
      have J141 : ∀ (ls : Array Slot) (H : Heap) (locs : List Loc) (σ_141 : Nat → Int32) (F_141 : Nat → Nat → Int32) (nu_141 : Nat → Int64), MD γ a B Z ν τ σ_141 F_141 nu_141 H → va_S Z s.heap H locs → (FD σ_141) → (GD F_141 nu_141) → (SZ F_141) → (x1 = 0 → vp_in x4 (κ 0) ∧ ∀ j : Nat, b x4.toNatClampNeg ≤ j → (j : Int) ≤ x4.toInt → ¬ hid τ b j x4.toNatClampNeg → GK j F_141 nu_141) → lv_has ls 7 [(0, .ref a), (1, .int x1), (2, .int x2), (3, .int x3), (4, .int x4), (5, .int v60)] → W p l e (bs_rm 7 0 0 177) s m args below meth c H locs 0 0 Q (F0 m 141 ls []) := by
        intro ls H locs σ_141 F_141 nu_141 hM hS hF hG hZ hdc hl
        refine lv_aload_n hx hb dModel_declare_141 rfl (lv_at hl 0 rfl) ?_
        refine lv_iload_n hx hb dModel_declare_142 rfl (lv_at hl 2 rfl) ?_
        refine pu_Vi (rest := []) S hC (m_hasHere l γ a B Z κ b mn ν τ σ_141 F_141 nu_141 hT x2 ) meModel_hasHere qw_52fabcdf69 ⟨Nat.le_of_ble_eq_true rfl, Nat.le_of_ble_eq_true rfl⟩ (md_rv hC hM) hM rfl hl.1 rfl (Nat.le_of_ble_eq_true rfl) dModel_declare_143 ⟨Nat.zero_le _, Nat.zero_le _⟩ (fun r104 hr104 => ?_)
        refine lv_if_eq (tgt := 157) hx hb dModel_declare_146 (by decide) (fun c105 => ?_) (fun c105 => ?_)
        · refine lv_aload_n hx hb dModel_declare_157 rfl (lv_at hl 0 rfl) ?_
          refine md_gI S hC hM 24 (v := nI (κ 3)) hv24 (by decide) rfl qw_5c346c7fc8 dModel_declare_158 ?_
          refine lv_topi (fun v106 ev106 => ?_)
          refine lv_sipush (v := 2000) hx hb dModel_declare_161 (by decide) ?_
          have J177 : ∀ (ls : Array Slot), lv_has ls 7 [(0, .ref a), (1, .int x1), (2, .int x2), (3, .int x3), (4, .int x4), (5, .int v60)] → W p l e (bs_rm 7 0 0 177) s m args below meth c H locs 0 0 Q (F0 m 177 ls []) := by
            intro ls hl
            refine lv_aload_n hx hb dModel_declare_177 rfl (lv_at hl 0 rfl) ?_
            refine lv_iconst (v := 3) hx hb dModel_declare_178 (by decide) ?_
            refine md_pD S hC hM hS 0 rfl (by decide) rfl qw_53e275eed6 rfl (by decide +kernel) dModel_declare_179 (fun H locs hM hS => ?_)
            obtain ⟨σ134, eσ134⟩ : ∃ z : Nat → Int32, z = upd σ_141 0 3 := ⟨_, rfl⟩
            rw [← eσ134] at hM
            have hF : FD σ134 := hF.up eσ134 (by decide) (by decide)
            refine lv_aload_n hx hb dModel_declare_182 rfl (lv_at hl 0 rfl) ?_
            refine lv_iload hx hb dModel_declare_183 (lv_at hl 5 rfl) ?_
            refine md_pD S hC hM hS 1 rfl (by decide) rfl qw_d4a57461ea rfl (by decide +kernel) dModel_declare_185 (fun H locs hM hS => ?_)
            obtain ⟨σ135, eσ135⟩ : ∃ z : Nat → Int32, z = upd σ134 1 v60 := ⟨_, rfl⟩
            rw [← eσ135] at hM
            have hF : FD σ135 := hF.up eσ135 (by decide) (by decide)
            refine lv_iconst (v := 0) hx hb dModel_declare_188 (by decide) ?_
            exact hE _ _ _ _ _ hS ⟨κ, _, ⟨rfl, rfl, rfl⟩, b, mn, ν, τ, σ135, F_141, nu_141, hT, hZ, hF, hG, rfl, hM⟩ dModel_declare_189
          refine lv_icmp_eq (tgt := 177) hx hb dModel_declare_164 (by decide) (fun c136 => ?_) (fun c136 => ?_)
          · exact J177 ls  (lv_sub hl [0, 1, 2, 3, 4, 5] rfl)
          · refine lv_aload_n hx hb dModel_declare_167 rfl (lv_at hl 0 rfl) ?_
            refine md_gI S hC hM 30 (v := nI (κ 4)) hv30 (by decide) rfl qw_8d5d48b583 dModel_declare_168 ?_
            refine lv_topi (fun v137 ev137 => ?_)
            refine lv_sipush (v := 3000) hx hb dModel_declare_171 (by decide) ?_
            refine lv_icmp_ne (tgt := 190) hx hb dModel_declare_174 (by decide) (fun c138 => ?_) (fun c138 => ?_)
            · have hN3 : κ 3 < 2000 := ne_lt ev106 (by assumption) rfl hs3
              have hN4 : κ 4 < 3000 := ne_lt ev137 (by assumption) rfl hs4
              refine lv_aload_n hx hb dModel_declare_190 rfl (lv_at hl 0 rfl) ?_
              refine lv_iconst (v := (-1)) hx hb dModel_declare_191 (by decide) ?_
              refine md_pD S hC hM hS 1 rfl (by decide) rfl qw_d4a57461ea rfl (by decide +kernel) dModel_declare_192 (fun H locs hM hS => ?_)
              obtain ⟨σ139, eσ139⟩ : ∃ z : Nat → Int32, z = upd σ_141 1 (-1) := ⟨_, rfl⟩
              rw [← eσ139] at hM
              have hF : FD σ139 := hF.up eσ139 (by decide) (by decide)
              refine lv_aload_n hx hb dModel_declare_195 rfl (lv_at hl 0 rfl) ?_
              refine md_gA S hC hM 22 (by decide) rfl qw_50c5849686 dModel_declare_196 ?_
              refine lv_aload_n hx hb dModel_declare_199 rfl (lv_at hl 0 rfl) ?_
              refine md_gI S hC hM 24 (v := nI (κ 3)) hv24 (by decide) rfl qw_5c346c7fc8 dModel_declare_200 ?_
              refine lv_topi (fun v140 ev140 => ?_)
              refine lv_iload_n hx hb dModel_declare_203 rfl (lv_at hl 1 rfl) ?_
              refine md_istS S hC hM hS 22 17 2000 rfl rfl (by decide) rfl rfl (vin_of ev140 (by omega) (by omega)) dModel_declare_204 (fun H locs hM hS => ?_)
              obtain ⟨τ142, eτ142⟩ : ∃ z : Nat → Nat → Int32, z = Au τ 22 v140.toNatClampNeg x1 := ⟨_, rfl⟩
              rw [← eτ142] at hM
              refine lv_aload_n hx hb dModel_declare_205 rfl (lv_at hl 0 rfl) ?_
              refine md_gA S hC hM 23 (by decide) rfl qw_bd9bcb35cb dModel_declare_206 ?_
              refine lv_aload_n hx hb dModel_declare_209 rfl (lv_at hl 0 rfl) ?_
              refine md_gI S hC hM 24 (v := nI (κ 3)) hv24 (by decide) rfl qw_5c346c7fc8 dModel_declare_210 ?_
              refine lv_topi (fun v143 ev143 => ?_)
              refine lv_iload_n hx hb dModel_declare_213 rfl (lv_at hl 3 rfl) ?_
              refine md_istS S hC hM hS 23 18 2000 rfl rfl (by decide) rfl rfl (vin_of ev143 (by omega) (by omega)) dModel_declare_214 (fun H locs hM hS => ?_)
              obtain ⟨τ145, eτ145⟩ : ∃ z : Nat → Nat → Int32, z = Au τ142 23 v143.toNatClampNeg x3 := ⟨_, rfl⟩
              rw [← eτ145] at hM
              have hτ2 : τ145 2 = τ 2 := (by rw [eτ145, eτ142]; rfl)
              have hT_o146 : ST κ b mn ν τ145 := ob_st hT eτ142 eτ145 (vin hx3 (by omega))
              obtain ⟨⟨hs0_o146, hs1_o146, hs2_o146, hs3_o146, hs4_o146, hs5_o146, hs6_o146⟩, ⟨hv6_o146, hv8_o146, hv21_o146, hv24_o146, hv30_o146, hv31_o146⟩, hTR_o146, hTY_o146, hOB_o146, hNM_o146⟩ := id hT_o146
              refine lv_iload_n hx hb dModel_declare_215 rfl (lv_at hl 1 rfl) ?_
              have J246 : ∀ (ls : Array Slot) (H : Heap) (locs : List Loc) (F_246 : Nat → Nat → Int32) (nu_246 : Nat → Int64), MD γ a B Z ν τ145 σ139 F_246 nu_246 H → va_S Z s.heap H locs → (GD F_246 nu_246) → (SZ F_246) → lv_has ls 7 [(0, .ref a), (1, .int x1), (2, .int x2), (3, .int x3), (4, .int x4), (5, .int v60)] → W p l e (bs_rm 7 0 0 177) s m args below meth c H locs 0 0 Q (F0 m 246 ls []) := by
                intro ls H locs F_246 nu_246 hM hS hG hZ hl
                refine lv_aload_n hx hb dModel_declare_246 rfl (lv_at hl 0 rfl) ?_
                refine lv_iload_n hx hb dModel_declare_247 rfl (lv_at hl 2 rfl) ?_
                refine lv_iconst (v := 1) hx hb dModel_declare_248 (by decide) ?_
                refine lv_aload_n hx hb dModel_declare_249 rfl (lv_at hl 0 rfl) ?_
                refine md_gI S hC hM 24 (v := nI (κ 3)) hv24_o146 (by decide) rfl qw_5c346c7fc8 dModel_declare_250 ?_
                refine lv_topi (fun v161 ev161 => ?_)
                refine lv_iconst (v := 0) hx hb dModel_declare_253 (by decide) ?_
                refine mu_Vv (rest := []) S hC (fun q h => hA q (Nat.le_trans hS.1 h)) (fun q h => h) hS (m_name l γ a B Z κ b mn ν τ145 σ139 F_246 nu_246 hT_o146 x2 1 v161 0 (by omega) ⟨fun _ => ⟨_, hN3, ev161⟩, fun h9 => absurd h9 (by decide), fun h9 => absurd h9 (by decide)⟩) meModel_name qw_8127fdf1ea ⟨Nat.le_of_ble_eq_true rfl, Nat.le_of_ble_eq_true rfl⟩ (md_rv hC hM) hM rfl hl.1 rfl (Nat.le_of_ble_eq_true rfl) dModel_declare_254 ⟨Nat.le_refl _, Nat.le_refl _⟩ (fun H locs hPO hS _ _ => ?_)
                obtain ⟨ν_r162, τ_r162, hM, hT_r162⟩ := hPO
                obtain ⟨κ_r162, hκ_r162⟩ : ∃ z : Nat → Nat, z = ku κ 4 (κ 4 + 1) := ⟨_, rfl⟩
                rw [← hκ_r162] at hT_r162
                obtain ⟨⟨hs0_r162, hs1_r162, hs2_r162, hs3_r162, hs4_r162, hs5_r162, hs6_r162⟩, ⟨hv6_r162, hv8_r162, hv21_r162, hv24_r162, hv30_r162, hv31_r162⟩, hTR_r162, hTY_r162, hOB_r162, hNM_r162⟩ := id hT_r162
                have hk3_r162 : κ_r162 3 = κ 3 := (by rw [hκ_r162]; rfl)
                refine lv_aload_n hx hb dModel_declare_257 rfl (lv_at hl 0 rfl) ?_
                refine lv_dup hx hb dModel_declare_258 rfl ?_
                refine md_gI S hC hM 24 (v := nI (κ_r162 3)) hv24_r162 (by decide) rfl qw_5c346c7fc8 dModel_declare_259 ?_
                refine lv_topi (fun v163 ev163 => ?_)
                refine lv_iconst (v := 1) hx hb dModel_declare_262 (by decide) ?_
                refine lv_iadd hx hb dModel_declare_263 ?_
                refine lv_topi (fun v164 ev164 => ?_)
                refine md_pS S hC hM hS 24 rfl (by decide) rfl qw_5c346c7fc8 rfl (by decide +kernel) dModel_declare_264 (fun H locs hM hS => ?_)
                obtain ⟨ν166, eν166⟩ : ∃ z : Nat → Int32, z = upd ν_r162 24 v164 := ⟨_, rfl⟩
                rw [← eν166] at hM
                refine lv_aload_n hx hb dModel_declare_267 rfl (lv_at hl 0 rfl) ?_
                refine md_gI S hC hM 24 (v := ν166 24) rfl (by decide) rfl qw_5c346c7fc8 dModel_declare_268 ?_
                refine lv_topi (fun v167 ev167 => ?_)
                refine lv_iconst (v := 1) hx hb dModel_declare_271 (by decide) ?_
                refine lv_isub hx hb dModel_declare_272 ?_
                refine lv_topi (fun v168 ev168 => ?_)
                exact hE _ _ _ _ _ hS ⟨ku κ_r162 3 (κ_r162 3 + 1), _, (by show κ_r162 5 = κ 5 ∧ κ_r162 0 = κ 0 ∧ κ_r162 1 = κ 1; rw [hκ_r162]; exact ⟨rfl, rfl, rfl⟩), b, mn, ν166, τ_r162, σ139, F_246, nu_246, st_3 hT_r162 (by omega) eν166 (inc_n ev163 ev164), hZ, hF, hG, rfl, hM⟩ dModel_declare_273
              refine lv_if_ne (tgt := 246) hx hb dModel_declare_216 (by decide) (fun c169 => ?_) (fun c169 => ?_)
              · exact J246 ls _ _ F_141 nu_141 hM hS hG hZ (lv_sub hl [0, 1, 2, 3, 4, 5] rfl)
              · refine lv_aload_n hx hb dModel_declare_219 rfl (lv_at hl 0 rfl) ?_
                refine lv_iload hx hb dModel_declare_220 (lv_at hl 4 rfl) ?_
                refine lv_sipush (v := 8000) hx hb dModel_declare_222 (by decide) ?_
                refine lv_aload_n hx hb dModel_declare_225 rfl (lv_at hl 0 rfl) ?_
                refine md_gI S hC hM 24 (v := nI (κ 3)) hv24_o146 (by decide) rfl qw_5c346c7fc8 dModel_declare_226 ?_
                refine lv_topi (fun v170 ev170 => ?_)
                refine lv_iadd hx hb dModel_declare_229 ?_
                refine lv_topi (fun v171 ev171 => ?_)
                obtain ⟨hx4, hgj⟩ := hdc (by assumption)
                have h8 := vin8 (vin_of ev170 hN3 (by omega)) ev171
                have hgk4 : GK x4.toNatClampNeg F_141 nu_141 := hgj _ (hTR.1 _ (vix hx4)).2 (by rw [vin_int hx4]; exact Int.le_refl _) hid_self
                refine mu_Vv (rest := []) S hC (fun q h => hA q (Nat.le_trans hS.1 h)) (fun q h => h) hS (m_copy l γ a B Z κ b mn ν τ145 σ139 F_141 nu_141 hT_o146 x4 v171 (vin (by assumption) (by omega)) h8.1) meModel_copy qw_7581103c83 ⟨Nat.le_of_ble_eq_true rfl, Nat.le_of_ble_eq_true rfl⟩ (md_rv hC hM) hM rfl hl.1 rfl (Nat.le_of_ble_eq_true rfl) dModel_declare_230 ⟨Nat.le_refl _, Nat.le_refl _⟩ (fun H locs hPO hS _ _ => ?_)
                obtain ⟨Fr172, nur172, hM, hqr172⟩ := hPO
                have hgj : ∀ j : Nat, b x4.toNatClampNeg ≤ j → (j : Int) ≤ x4.toInt → ¬ hid τ b j x4.toNatClampNeg → GK j Fr172 nur172 := (fun j h6 h7 h9 => (SL.slt hqr172).gk (by rw [h8.2]; have := vix hx4; have := vin_int hx4; omega) (hgj j h6 h7 h9))
                have hG : GD Fr172 nur172 := hG.cp hqr172 hgk4
                have hZ : SZ Fr172 := hZ.slt hqr172 (hZ _ (vix (vin hx4 (by omega))))
                refine lv_aload_n hx hb dModel_declare_233 rfl (lv_at hl 0 rfl) ?_
                refine lv_aload_n hx hb dModel_declare_234 rfl (lv_at hl 0 rfl) ?_
                refine md_gA S hC hM 5 (by decide) rfl qw_7e4081a75e dModel_declare_235 ?_
                refine lv_iload hx hb dModel_declare_238 (lv_at hl 4 rfl) ?_
                refine md_ild S hC hM 5 3 4000 (τ145 5) rfl rfl (by decide) rfl rfl (vin (by assumption) (by omega)) dModel_declare_240 ?_
                refine lv_topi (fun v173 ev173 => ?_)
                refine lv_iload hx hb dModel_declare_241 (lv_at hl 4 rfl) ?_
                have hbg2 := bg_ok hTR_o146 hs0_o146 hx4 ev173
                refine mu_Vv (rest := []) S hC (fun q h => hA q (Nat.le_trans hS.1 h)) (fun q h => h) hS (m_keep l γ a B Z κ b mn ν τ145 σ139 Fr172 nur172 hT_o146 v173 x4 hbg2.1 (x_int hx4) hZ hG (fun j h6 h7 h9 => hgj j (by rw [hbg2.2] at h6; exact h6) h7 (fun h5 => h9 (hid_cg hτ2 h5)))) meModel_keep qw_8cce6d7b5c ⟨Nat.le_of_ble_eq_true rfl, Nat.le_of_ble_eq_true rfl⟩ (md_rv hC hM) hM rfl hl.1 rfl (Nat.le_of_ble_eq_true rfl) dModel_declare_243 ⟨Nat.le_refl _, Nat.le_refl _⟩ (fun H locs hPO hS _ _ => ?_)
                obtain ⟨Fr174, nur174, hM, hZ, hG⟩ := hPO
                exact J246 ls _ _ Fr174 nur174 hM hS hG hZ (lv_sub hl [0, 1, 2, 3, 4, 5] rfl)
            · exact J177 ls  (lv_sub hl [0, 1, 2, 3, 4, 5] rfl)
        · refine lv_aload_n hx hb dModel_declare_149 rfl (lv_at hl 0 rfl) ?_
          refine lv_iconst (v := (-1)) hx hb dModel_declare_150 (by decide) ?_
          refine lv_bipush (v := 7) hx hb dModel_declare_151 (by decide) ?_
          refine mu_Vi (rest := []) S hC (fun q h => hA q (Nat.le_trans hS.1 h)) (fun q h => h) hS (m_wrong l γ a B Z κ b mn ν τ σ_141 F_141 nu_141 hT (-1) 7 hF) meModel_wrong qw_a6e9824456 ⟨Nat.le_of_ble_eq_true rfl, Nat.le_of_ble_eq_true rfl⟩ (md_rv hC hM) hM rfl hl.1 rfl (Nat.le_of_ble_eq_true rfl) dModel_declare_153 ⟨Nat.le_refl _, Nat.le_refl _⟩ (fun r175 H locs hPO hS _ _ => ?_)
          obtain ⟨σr175, hM, hF, h0r175⟩ := hPO
          exact hE _ _ _ _ _ hS ⟨κ, _, ⟨rfl, rfl, rfl⟩, b, mn, ν, τ, σr175, F_141, nu_141, hT, hZ, hF, hG, rfl, hM⟩ dModel_declare_156
      refine lv_if_ne (tgt := 141) hx hb dModel_declare_66 (by decide) (fun c176 => ?_) (fun c176 => ?_)
      · exact J141 ls _ _ σ57 F nu hM hS hF hG hZ (by first | exact (fun h9 => absurd h9 (by assumption)) | exact (fun _ => ⟨hx4, fun j h7 h8 h9 => hgtr63 (Int32.not_lt.mpr (by assumption)) j (by rw [hbg.2]; exact h7) h8 h9⟩)) (lv_sub hl [1, 2, 3, 4, 5, 0] rfl)
      · have hx4 := hx40 (by assumption)
        refine lv_aload_n hx hb dModel_declare_69 rfl (lv_at hl 1 rfl) ?_
        refine lv_aload_n hx hb dModel_declare_70 rfl (lv_at hl 1 rfl) ?_
        refine md_gA S hC hM 5 (by decide) rfl qw_7e4081a75e dModel_declare_71 ?_
        refine lv_iload hx hb dModel_declare_74 (lv_at hl 5 rfl) ?_
        refine md_ild S hC hM 5 3 4000 (τ 5) rfl rfl (by decide) rfl rfl (vin (by assumption) (by omega)) dModel_declare_76 ?_
        refine lv_topi (fun v177 ev177 => ?_)
        refine lv_iload hx hb dModel_declare_77 (lv_at hl 5 rfl) ?_
        have hbg := bg_ok hTR hs0 hx4 ev177
        refine mu_Vi (rest := []) S hC (fun q h => hA q (Nat.le_trans hS.1 h)) (fun q h => h) hS (m_goThrough l γ a B Z κ b mn ν τ σ57 F nu hT v177 x4 hbg.1 (x_int hx4) (fun k h8 h9 => by rw [hbg.2] at h8 ⊢; exact rg_ge hTR (vix hx4) h8 (by rw [vin_int hx4] at h9; omega)) hZ hF hG) meModel_goThrough qw_fb32874592 ⟨Nat.le_of_ble_eq_true rfl, Nat.le_of_ble_eq_true rfl⟩ (md_rv hC hM) hM rfl hl.1 rfl (Nat.le_of_ble_eq_true rfl) dModel_declare_79 ⟨Nat.le_refl _, Nat.le_refl _⟩ (fun r178 H locs hPO hS _ _ => ?_)
        obtain ⟨σr178, Fr178, nur178, hM, hZ, hF, hG, hgtr178⟩ := hPO
        refine lv_istore (lv' := [(6, .int r178), (5, .int v60), (0, .ref a), (1, .int x1), (2, .int x2), (3, .int x3), (4, .int x4)]) hx hb dModel_declare_82 hl (by decide) rfl (fun ls hl => ?_)
        refine lv_iload hx hb dModel_declare_84 (lv_at hl 0 rfl) ?_
        refine lv_if_le (tgt := 93) hx hb dModel_declare_86 (by decide) (fun c179 => ?_) (fun c179 => ?_)
        · refine lv_aload_n hx hb dModel_declare_93 rfl (lv_at hl 2 rfl) ?_
          refine lv_iload hx hb dModel_declare_94 (lv_at hl 6 rfl) ?_
          refine lv_iload_n hx hb dModel_declare_96 rfl (lv_at hl 5 rfl) ?_
          refine pu_Vi (rest := []) S hC (m_fits l γ a B Z κ b mn ν τ σr178 Fr178 nur178 hT x4 x3 (vin (by assumption) (by omega)) (vin (by assumption) (by omega))) meModel_fits qw_17a2ee8d21 ⟨Nat.le_of_ble_eq_true rfl, Nat.le_of_ble_eq_true rfl⟩ (md_rv hC hM) hM rfl hl.1 rfl (Nat.le_of_ble_eq_true rfl) dModel_declare_97 ⟨Nat.zero_le _, Nat.zero_le _⟩ (fun r180 hr180 => ?_)
          refine lv_istore (lv' := [(6, .int r180), (5, .int v60), (0, .ref a), (1, .int x1), (2, .int x2), (3, .int x3), (4, .int x4)]) hx hb dModel_declare_100 hl (by decide) rfl (fun ls hl => ?_)
          refine lv_iload hx hb dModel_declare_102 (lv_at hl 0 rfl) ?_
          refine lv_iconst (v := 3) hx hb dModel_declare_104 (by decide) ?_
          have J127 : ∀ (ls : Array Slot) (i6_127 : Int32), lv_has ls 7 [(0, .ref a), (1, .int x1), (2, .int x2), (3, .int x3), (4, .int x4), (5, .int v60), (6, .int i6_127)] → W p l e (bs_rm 7 0 0 177) s m args below meth c H locs 0 0 Q (F0 m 127 ls []) := by
            intro ls i6_127 hl
            refine lv_iload hx hb dModel_declare_127 (lv_at hl 6 rfl) ?_
            refine lv_if_le (tgt := 141) hx hb dModel_declare_129 (by decide) (fun c187 => ?_) (fun c187 => ?_)
            · exact J141 ls _ _ σr178 Fr178 nur178 hM hS hF hG hZ (by first | exact (fun h9 => absurd h9 (by assumption)) | exact (fun _ => ⟨hx4, fun j h7 h8 h9 => hgtr178 (Int32.not_lt.mpr (by assumption)) j (by rw [hbg.2]; exact h7) h8 h9⟩)) (lv_sub hl [0, 1, 2, 3, 4, 5] rfl)
            · refine lv_aload_n hx hb dModel_declare_132 rfl (lv_at hl 0 rfl) ?_
              refine lv_iload hx hb dModel_declare_133 (lv_at hl 4 rfl) ?_
              refine lv_iload hx hb dModel_declare_135 (lv_at hl 6 rfl) ?_
              refine mu_Vi (rest := []) S hC (fun q h => hA q (Nat.le_trans hS.1 h)) (fun q h => h) hS (m_wrong l γ a B Z κ b mn ν τ σr178 Fr178 nur178 hT x4 i6_127 hF) meModel_wrong qw_a6e9824456 ⟨Nat.le_of_ble_eq_true rfl, Nat.le_of_ble_eq_true rfl⟩ (md_rv hC hM) hM rfl hl.1 rfl (Nat.le_of_ble_eq_true rfl) dModel_declare_137 ⟨Nat.le_refl _, Nat.le_refl _⟩ (fun r188 H locs hPO hS _ _ => ?_)
              obtain ⟨σr188, hM, hF, h0r188⟩ := hPO
              exact hE _ _ _ _ _ hS ⟨κ, _, ⟨rfl, rfl, rfl⟩, b, mn, ν, τ, σr188, Fr178, nur178, hT, hZ, hF, hG, rfl, hM⟩ dModel_declare_140
          refine lv_icmp_eq (tgt := 127) hx hb dModel_declare_105 (by decide) (fun c189 => ?_) (fun c189 => ?_)
          · exact J127 ls r180 (lv_sub hl [2, 3, 4, 5, 6, 1, 0] rfl)
          · refine lv_iload hx hb dModel_declare_108 (lv_at hl 0 rfl) ?_
            refine lv_iconst (v := 4) hx hb dModel_declare_110 (by decide) ?_
            refine lv_icmp_eq (tgt := 127) hx hb dModel_declare_111 (by decide) (fun c190 => ?_) (fun c190 => ?_)
            · exact J127 ls r180 (lv_sub hl [2, 3, 4, 5, 6, 1, 0] rfl)
            · refine lv_aload_n hx hb dModel_declare_114 rfl (lv_at hl 2 rfl) ?_
              refine md_gA S hC hM 11 (by decide) rfl qw_88b9028ba7 dModel_declare_115 ?_
              refine lv_iload hx hb dModel_declare_118 (lv_at hl 6 rfl) ?_
              refine md_zld S hC hM 11 7 10000 (Fr178 11) rfl rfl (by decide) rfl rfl (vin (by assumption) (by omega)) dModel_declare_120 ?_
              refine lv_topi (fun v191 ev191 => ?_)
              refine lv_if_ne (tgt := 127) hx hb dModel_declare_121 (by decide) (fun c192 => ?_) (fun c192 => ?_)
              · exact J127 ls r180 (lv_sub hl [2, 3, 4, 5, 6, 1, 0] rfl)
              · refine lv_iconst (v := 5) hx hb dModel_declare_124 (by decide) ?_
                refine lv_istore (lv' := [(6, .int 5), (5, .int v60), (0, .ref a), (1, .int x1), (2, .int x2), (3, .int x3), (4, .int x4)]) hx hb dModel_declare_125 hl (by decide) rfl (fun ls hl => ?_)
                exact J127 ls 5 (lv_sub hl [2, 3, 4, 5, 6, 1, 0] rfl)
        · refine lv_iload hx hb dModel_declare_89 (lv_at hl 0 rfl) ?_
          refine lv_ineg hx hb dModel_declare_91 ?_
          refine lv_topi (fun v193 ev193 => ?_)
          exact hE _ _ _ _ _ hS ⟨κ, _, ⟨rfl, rfl, rfl⟩, b, mn, ν, τ, σr178, Fr178, nur178, hT, hZ, hF, hG, rfl, hM⟩ dModel_declare_92
    · refine lv_iconst (v := 0) hx hb dModel_declare_57 (by decide) ?_
      exact hE _ _ _ _ _ hS ⟨κ, _, ⟨rfl, rfl, rfl⟩, b, mn, ν, τ, σ57, F, nu, hT, hZ, hF, hG, rfl, hM⟩ dModel_declare_58
  have J22 : ∀ (ls : Array Slot), lv_has ls 7 [(0, .ref a), (1, .int x1), (2, .int x2), (3, .int x3), (4, .int x4)] → W p l e (bs_rm 7 0 0 177) s m args below meth c s.heap [] 0 0 Q (F0 m 22 ls [.ref a]) := by
    intro ls hl
    refine lv_iconst (v := 1) hx hb dModel_declare_22 (by decide) ?_
    refine lv_goto (tgt := 47) hx hb dModel_declare_23 (by decide) ?_
    exact J47 ls 1 (by first | exact Or.inl (by decide) | exact Or.inr ⟨rfl, h26⟩) (lv_sub hl [0, 1, 2, 3, 4] rfl)
  refine lv_if_ne (tgt := 22) hx hb dModel_declare_6 (by decide) (fun c194 => ?_) (fun c194 => ?_)
  · exact J22 ls  (lv_sub hl [0, 1, 2, 3, 4] rfl)
  · refine lv_iload_n hx hb dModel_declare_9 rfl (lv_at hl 1 rfl) ?_
    have J26 : ∀ (ls : Array Slot), (vp_in x3 (κ 2) ∧ (x1 = 0 → vp_in x4 (κ 0))) → lv_has ls 7 [(0, .ref a), (1, .int x1), (2, .int x2), (3, .int x3), (4, .int x4)] → W p l e (bs_rm 7 0 0 177) s m args below meth c s.heap [] 0 0 Q (F0 m 26 ls [.ref a]) := by
      intro ls h26 hl
      refine lv_iload_n hx hb dModel_declare_26 rfl (lv_at hl 1 rfl) ?_
      have J42 : ∀ (ls : Array Slot), lv_has ls 7 [(0, .ref a), (1, .int x1), (2, .int x2), (3, .int x3), (4, .int x4)] → W p l e (bs_rm 7 0 0 177) s m args below meth c s.heap [] 0 0 Q (F0 m 42 ls [.ref a]) := by
        intro ls hl
        refine lv_iconst (v := 2) hx hb dModel_declare_42 (by decide) ?_
        refine lv_goto (tgt := 47) hx hb dModel_declare_43 (by decide) ?_
        exact J47 ls 2 (by first | exact Or.inl (by decide) | exact Or.inr ⟨rfl, h26⟩) (lv_sub hl [0, 1, 2, 3, 4] rfl)
      refine lv_if_lt (tgt := 42) hx hb dModel_declare_27 (by decide) (fun c206 => ?_) (fun c206 => ?_)
      · exact J42 ls  (lv_sub hl [0, 1, 2, 3, 4] rfl)
      · refine lv_iload_n hx hb dModel_declare_30 rfl (lv_at hl 1 rfl) ?_
        refine lv_iconst (v := 2) hx hb dModel_declare_31 (by decide) ?_
        refine lv_icmp_gt (tgt := 42) hx hb dModel_declare_32 (by decide) (fun c207 => ?_) (fun c207 => ?_)
        · exact J42 ls  (lv_sub hl [0, 1, 2, 3, 4] rfl)
        · refine lv_iload_n hx hb dModel_declare_35 rfl (lv_at hl 2 rfl) ?_
          refine pu_Si (rest := [.ref a]) S hC (m_goodName l γ _ x2) meModel_goodName qw_07c5ec0f25 ⟨Nat.le_of_ble_eq_true rfl, Nat.le_of_ble_eq_true rfl⟩ hM rfl hl.1 rfl (Nat.le_of_ble_eq_true rfl) dModel_declare_36 ⟨Nat.zero_le _, Nat.zero_le _⟩ (fun r208 hr208 => ?_)
          refine lv_if_ne (tgt := 46) hx hb dModel_declare_39 (by decide) (fun c209 => ?_) (fun c209 => ?_)
          · refine lv_iconst (v := 0) hx hb dModel_declare_46 (by decide) ?_
            exact J47 ls 0 (by first | exact Or.inl (by decide) | exact Or.inr ⟨rfl, h26⟩) (lv_sub hl [0, 1, 2, 3, 4] rfl)
          · exact J42 ls  (lv_sub hl [0, 1, 2, 3, 4] rfl)
    refine lv_if_ne (tgt := 26) hx hb dModel_declare_10 (by decide) (fun c210 => ?_) (fun c210 => ?_)
    · exact J26 ls (by first | exact ⟨hr1 (by assumption), fun h9 => absurd h9 (by assumption)⟩ | exact ⟨hr1 (by assumption), fun _ => hr196 (by assumption)⟩) (lv_sub hl [0, 1, 2, 3, 4] rfl)
    · refine lv_aload_n hx hb dModel_declare_13 rfl (lv_at hl 0 rfl) ?_
      refine lv_iload hx hb dModel_declare_14 (lv_at hl 4 rfl) ?_
      refine pu_Vi (rest := [.ref a]) S hC (m_noNode l γ a B Z κ b mn ν τ σ F nu hT x4 ) meModel_noNode qw_c926675227 ⟨Nat.le_of_ble_eq_true rfl, Nat.le_of_ble_eq_true rfl⟩ (md_rv hC hM) hM rfl hl.1 rfl (Nat.le_of_ble_eq_true rfl) dModel_declare_16 ⟨Nat.zero_le _, Nat.zero_le _⟩ (fun r211 hr211 => ?_)
      refine lv_if_eq (tgt := 26) hx hb dModel_declare_19 (by decide) (fun c212 => ?_) (fun c212 => ?_)
      · exact J26 ls (by first | exact ⟨hr1 (by assumption), fun h9 => absurd h9 (by assumption)⟩ | exact ⟨hr1 (by assumption), fun _ => hr211 (by assumption)⟩) (lv_sub hl [0, 1, 2, 3, 4] rfl)
      · exact J22 ls  (lv_sub hl [0, 1, 2, 3, 4] rfl)
