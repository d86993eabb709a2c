theorem qw_53e275eed6 : (Cond.fieldLink R_Model 99 R_Model "code" "I") ∈ bs_W0 := bs_in (in_tables_1_5 (List.mem_of_getElem? (i := 153) rfl)) rfl
theorem qw_0b242dc29a : (Cond.fieldLink R_Model 108 R_Model "rootCount" "I") ∈ bs_W0 := bs_in (in_tables_1_5 (List.mem_of_getElem? (i := 161) rfl)) rfl
set_option maxHeartbeats 4000000 in
set_option maxRecDepth 100000 in
theorem m_clear (l : Launch) (γ : gE) (a : Nat) (B : Nat → Nat) (Z : Nat → Prop) (κ b mn : Nat → Nat) (ν : Nat → Int32) (τ : Nat → Nat → Int32) (σ : Nat → Int32) (F : Nat → Nat → Int32) (nu : Nat → Int64) (hT : ST κ b mn ν τ)  (hZ : SZ F) (hF : FD σ) (hG : GD F nu) : MU l yModel_clear bModel_clear 2 (some .int) 0 0 0 0 [.ref a] γ Z (MD γ a B Z ν τ σ F nu) (mQi (fun r H => r = nI (κ 0) ∧ ∃ cd : Int32, MI γ a B Z (ku (ku κ 0 0) 1 0) cd H) Z) := by
  refine mu_openI (by decide) (Nat.le_of_ble_eq_true rfl) ?_
  intro p e s m args below meth c ls Q S hnm hC hA hM hE hl
  have hS : va_S Z s.heap s.heap [] := va_S.rf
  obtain ⟨hx, hb, hml, hown, hW⟩ := id S
  obtain ⟨⟨hs0, hs1, hs2, hs3, hs4, hs5, hs6⟩, ⟨hv6, hv8, hv21, hv24, hv30, hv31⟩, hTR, hTY, hOB, hNM⟩ := id hT
  have hl : lv_has ls 2 [(0, .ref a)] := hl
  refine lv_aload_n hx hb dModel_clear_0 rfl (lv_at hl 0 rfl) ?_
  refine lv_iconst (v := 0) hx hb dModel_clear_1 (by decide) ?_
  refine md_pD S hC hM hS 0 rfl (by decide) rfl qw_53e275eed6 rfl (by decide +kernel) dModel_clear_2 (fun H locs hM hS => ?_)
  obtain ⟨σ1, eσ1⟩ : ∃ z : Nat → Int32, z = upd σ 0 0 := ⟨_, rfl⟩
  rw [← eσ1] at hM
  have hF : FD σ1 := hF.up eσ1 (by decide) (by decide)
  refine lv_aload_n hx hb dModel_clear_5 rfl (lv_at hl 0 rfl) ?_
  refine md_gI S hC hM 6 (v := nI (κ 0)) hv6 (by decide) rfl qw_f42008621b dModel_clear_6 ?_
  refine lv_topi (fun v2 ev2 => ?_)
  refine lv_istore_n (lv' := [(1, .int v2), (0, .ref a)]) hx hb dModel_clear_9 rfl hl (by decide) rfl (fun ls hl => ?_)
  refine lv_aload_n hx hb dModel_clear_10 rfl (lv_at hl 1 rfl) ?_
  refine lv_iconst (v := 0) hx hb dModel_clear_11 (by decide) ?_
  refine md_pS S hC hM hS 6 rfl (by decide) rfl qw_f42008621b rfl (by decide +kernel) dModel_clear_12 (fun H locs hM hS => ?_)
  obtain ⟨ν4, eν4⟩ : ∃ z : Nat → Int32, z = upd ν 6 0 := ⟨_, rfl⟩
  rw [← eν4] at hM
  refine lv_aload_n hx hb dModel_clear_15 rfl (lv_at hl 1 rfl) ?_
  refine lv_iconst (v := 0) hx hb dModel_clear_16 (by decide) ?_
  refine md_pS S hC hM hS 8 rfl (by decide) rfl qw_0b242dc29a rfl (by decide +kernel) dModel_clear_17 (fun H locs hM hS => ?_)
  obtain ⟨ν6, eν6⟩ : ∃ z : Nat → Int32, z = upd ν4 8 0 := ⟨_, rfl⟩
  rw [← eν6] at hM
  refine lv_iload_n hx hb dModel_clear_20 rfl (lv_at hl 0 rfl) ?_
  exact hE _ _ _ _ _ hS ⟨by assumption, _, b, mn, ν6, τ, σ1, F, nu, st_cl hT eν4 eν6, hZ, hF, hG, rfl, hM⟩ dModel_clear_21
set_option maxHeartbeats 4000000 in
set_option maxRecDepth 100000 in
theorem m_place (l : Launch) (γ : gE) (a : Nat) (B : Nat → Nat) (Z : Nat → Prop) (κ b mn : Nat → Nat) (ν : Nat → Int32) (τ : Nat → Nat → Int32) (σ : Nat → Int32) (F : Nat → Nat → Int32) (nu : Nat → Int64) (hT : ST κ b mn ν τ)  (hZ : SZ F) (hF : FD σ) (hG : GD F nu) : MU l yModel_place bModel_place 1 (some .int) 0 0 0 0 [.ref a] γ Z (MD γ a B Z ν τ σ F nu) (mQi (fun r H => ∃ (κ' : Nat → Nat) (cd : Int32), (κ' 5 = κ 5 ∧ κ' 0 = κ 0 ∧ κ' 1 = κ 1) ∧ MI γ a B Z κ' cd H) Z) := by
  refine mu_openI (by decide) (Nat.le_of_ble_eq_true rfl) ?_
  intro p e s m args below meth c ls Q S hnm hC hA hM hE hl
  have hS : va_S Z s.heap s.heap [] := va_S.rf
  obtain ⟨hx, hb, hml, hown, hW⟩ := id S
  obtain ⟨⟨hs0, hs1, hs2, hs3, hs4, hs5, hs6⟩, ⟨hv6, hv8, hv21, hv24, hv30, hv31⟩, hTR, hTY, hOB, hNM⟩ := id hT
  have hl : lv_has ls 1 [(0, .ref a)] := hl
  refine lv_aload_n hx hb dModel_place_0 rfl (lv_at hl 0 rfl) ?_
  refine lv_iconst (v := 0) hx hb dModel_place_1 (by decide) ?_
  refine md_pD S hC hM hS 0 rfl (by decide) rfl qw_53e275eed6 rfl (by decide +kernel) dModel_place_2 (fun H locs hM hS => ?_)
  obtain ⟨σ1, eσ1⟩ : ∃ z : Nat → Int32, z = upd σ 0 0 := ⟨_, rfl⟩
  rw [← eσ1] at hM
  have hF : FD σ1 := hF.up eσ1 (by decide) (by decide)
  refine lv_aload_n hx hb dModel_place_5 rfl (lv_at hl 0 rfl) ?_
  refine md_gI S hC hM 1 (v := σ1 1) rfl (by decide) rfl qw_d4a57461ea dModel_place_6 ?_
  refine lv_topi (fun v2 ev2 => ?_)
  exact hE _ _ _ _ _ hS ⟨κ, _, ⟨rfl, rfl, rfl⟩, b, mn, ν, τ, σ1, F, nu, hT, hZ, hF, hG, rfl, hM⟩ dModel_place_9
theorem qw_0ba745738d : (Cond.methodLink R_Model 288 yModel_noType) ∈ bs_W0 := bs_in (in_tables_1_6 (List.mem_of_getElem? (i := 223) rfl)) rfl
set_option maxHeartbeats 4000000 in
set_option maxRecDepth 100000 in
theorem m_typeOf (l : Launch) (γ : gE) (a : Nat) (B : Nat → Nat) (Z : Nat → Prop) (κ b mn : Nat → Nat) (ν : Nat → Int32) (τ : Nat → Nat → Int32) (σ : Nat → Int32) (F : Nat → Nat → Int32) (nu : Nat → Int64) (hT : ST κ b mn ν τ) (x1 : Int32) (x2 : Int32) (hZ : SZ F) (hF : FD σ) (hG : GD F nu) : MU l yModel_typeOf bModel_typeOf 3 (some .int) 1 21 0 0 [.ref a, .int x1, .int x2] γ Z (MD γ a B Z ν τ σ F nu) (mQi (fun r H => ∃ (κ' : Nat → Nat) (cd : Int32), (κ' 5 = κ 5 ∧ κ' 0 = κ 0 ∧ κ' 1 = κ 1) ∧ MI γ a B Z κ' cd H) Z) := by
  refine mu_openI (by decide) (Nat.le_of_ble_eq_true rfl) ?_
  intro p e s m args below meth c ls Q S hnm hC hA hM hE hl
  have hS : va_S Z s.heap s.heap [] := va_S.rf
  obtain ⟨hx, hb, hml, hown, hW⟩ := id S
  obtain ⟨⟨hs0, hs1, hs2, hs3, hs4, hs5, hs6⟩, ⟨hv6, hv8, hv21, hv24, hv30, hv31⟩, hTR, hTY, hOB, hNM⟩ := id hT
  have hl : lv_has ls 3 [(0, .ref a), (1, .int x1), (2, .int x2)] := hl
  refine lv_aload_n hx hb dModel_typeOf_0 rfl (lv_at hl 0 rfl) ?_
  refine lv_aload_n hx hb dModel_typeOf_1 rfl (lv_at hl 0 rfl) ?_
  refine lv_iload_n hx hb dModel_typeOf_2 rfl (lv_at hl 1 rfl) ?_
  refine pu_Vi (rest := [.ref a]) S hC (m_noType l γ a B Z κ b mn ν τ σ F nu hT x1 ) meModel_noType qw_0ba745738d ⟨Nat.le_of_ble_eq_true rfl, Nat.le_of_ble_eq_true rfl⟩ (md_rv hC hM) hM rfl hl.1 rfl (Nat.le_of_ble_eq_true rfl) dModel_typeOf_3 ⟨Nat.zero_le _, Nat.zero_le _⟩ (fun r1 hr1 => ?_)
  have J23 : ∀ (ls : Array Slot) (t0_23 : Int32), (0 < t0_23 ∨ (t0_23 = 0 ∧ vp_in x1 (κ 2))) → lv_has ls 3 [(0, .ref a), (1, .int x1), (2, .int x2)] → W p l e (bs_rm 1 0 0 21) s m args below meth c s.heap [] 0 0 Q (F0 m 23 ls [.int t0_23, .ref a]) := by
    intro ls t0_23 ht0_23 hl
    refine md_pD S hC hM hS 0 rfl (by decide) rfl qw_53e275eed6 rfl (by decide +kernel) dModel_typeOf_23 (fun H locs hM hS => ?_)
    obtain ⟨σ18, eσ18⟩ : ∃ z : Nat → Int32, z = upd σ 0 t0_23 := ⟨_, rfl⟩
    rw [← eσ18] at hM
    have hF : FD σ18 := hF.up eσ18 (by decide) (by decide)
    refine lv_aload_n hx hb dModel_typeOf_26 rfl (lv_at hl 0 rfl) ?_
    refine md_gI S hC hM 0 (v := σ18 0) rfl (by decide) rfl qw_53e275eed6 dModel_typeOf_27 ?_
    refine lv_topi (fun v19 ev19 => ?_)
    refine lv_if_le (tgt := 35) hx hb dModel_typeOf_30 (by decide) (fun c20 => ?_) (fun c20 => ?_)
    · have hx1 : vp_in x1 (κ 2) := cd_0 eσ18 ev19 (by assumption) ht0_23
      refine lv_iload_n hx hb dModel_typeOf_35 rfl (lv_at hl 2 rfl) ?_
      refine lv_if_ne (tgt := 48) hx hb dModel_typeOf_36 (by decide) (fun c21 => ?_) (fun c21 => ?_)
      · refine lv_iload_n hx hb dModel_typeOf_48 rfl (lv_at hl 2 rfl) ?_
        refine lv_iconst (v := 1) hx hb dModel_typeOf_49 (by decide) ?_
        refine lv_icmp_ne (tgt := 62) hx hb dModel_typeOf_50 (by decide) (fun c22 => ?_) (fun c22 => ?_)
        · refine lv_iload_n hx hb dModel_typeOf_62 rfl (lv_at hl 2 rfl) ?_
          refine lv_iconst (v := 2) hx hb dModel_typeOf_63 (by decide) ?_
          refine lv_icmp_ne (tgt := 76) hx hb dModel_typeOf_64 (by decide) (fun c23 => ?_) (fun c23 => ?_)
          · refine lv_iload_n hx hb dModel_typeOf_76 rfl (lv_at hl 2 rfl) ?_
            refine lv_iconst (v := 3) hx hb dModel_typeOf_77 (by decide) ?_
            refine lv_icmp_ne (tgt := 90) hx hb dModel_typeOf_78 (by decide) (fun c24 => ?_) (fun c24 => ?_)
            · refine lv_aload_n hx hb dModel_typeOf_90 rfl (lv_at hl 0 rfl) ?_
              refine md_gA S hC hM 20 (by decide) rfl qw_1579022aeb dModel_typeOf_91 ?_
              refine lv_iload_n hx hb dModel_typeOf_94 rfl (lv_at hl 1 rfl) ?_
              refine md_zld S hC hM 20 16 1000 (τ 20) rfl rfl (by decide) rfl rfl (vin (by assumption) (by omega)) dModel_typeOf_95 ?_
              refine lv_topi (fun v25 ev25 => ?_)
              refine lv_if_eq (tgt := 103) hx hb dModel_typeOf_96 (by decide) (fun c26 => ?_) (fun c26 => ?_)
              · refine lv_iconst (v := 0) hx hb dModel_typeOf_103 (by decide) ?_
                exact hE _ _ _ _ _ hS ⟨κ, _, ⟨rfl, rfl, rfl⟩, b, mn, ν, τ, σ18, F, nu, hT, hZ, hF, hG, rfl, hM⟩ dModel_typeOf_104
              · refine lv_iconst (v := 1) hx hb dModel_typeOf_99 (by decide) ?_
                refine lv_goto (tgt := 104) hx hb dModel_typeOf_100 (by decide) ?_
                exact hE _ _ _ _ _ hS ⟨κ, _, ⟨rfl, rfl, rfl⟩, b, mn, ν, τ, σ18, F, nu, hT, hZ, hF, hG, rfl, hM⟩ dModel_typeOf_104
            · refine lv_aload_n hx hb dModel_typeOf_81 rfl (lv_at hl 0 rfl) ?_
              refine md_gA S hC hM 19 (by decide) rfl qw_c139dbceda dModel_typeOf_82 ?_
              refine lv_iload_n hx hb dModel_typeOf_85 rfl (lv_at hl 1 rfl) ?_
              refine md_ild S hC hM 19 15 1000 (τ 19) rfl rfl (by decide) rfl rfl (vin (by assumption) (by omega)) dModel_typeOf_86 ?_
              refine lv_topi (fun v27 ev27 => ?_)
              refine lv_goto (tgt := 104) hx hb dModel_typeOf_87 (by decide) ?_
              exact hE _ _ _ _ _ hS ⟨κ, _, ⟨rfl, rfl, rfl⟩, b, mn, ν, τ, σ18, F, nu, hT, hZ, hF, hG, rfl, hM⟩ dModel_typeOf_104
          · refine lv_aload_n hx hb dModel_typeOf_67 rfl (lv_at hl 0 rfl) ?_
            refine md_gA S hC hM 18 (by decide) rfl qw_82ee92f611 dModel_typeOf_68 ?_
            refine lv_iload_n hx hb dModel_typeOf_71 rfl (lv_at hl 1 rfl) ?_
            refine md_ild S hC hM 18 14 1000 (τ 18) rfl rfl (by decide) rfl rfl (vin (by assumption) (by omega)) dModel_typeOf_72 ?_
            refine lv_topi (fun v28 ev28 => ?_)
            refine lv_goto (tgt := 104) hx hb dModel_typeOf_73 (by decide) ?_
            exact hE _ _ _ _ _ hS ⟨κ, _, ⟨rfl, rfl, rfl⟩, b, mn, ν, τ, σ18, F, nu, hT, hZ, hF, hG, rfl, hM⟩ dModel_typeOf_104
        · refine lv_aload_n hx hb dModel_typeOf_53 rfl (lv_at hl 0 rfl) ?_
          refine md_gA S hC hM 17 (by decide) rfl qw_94306de345 dModel_typeOf_54 ?_
          refine lv_iload_n hx hb dModel_typeOf_57 rfl (lv_at hl 1 rfl) ?_
          refine md_ild S hC hM 17 13 1000 (τ 17) rfl rfl (by decide) rfl rfl (vin (by assumption) (by omega)) dModel_typeOf_58 ?_
          refine lv_topi (fun v29 ev29 => ?_)
          refine lv_goto (tgt := 104) hx hb dModel_typeOf_59 (by decide) ?_
          exact hE _ _ _ _ _ hS ⟨κ, _, ⟨rfl, rfl, rfl⟩, b, mn, ν, τ, σ18, F, nu, hT, hZ, hF, hG, rfl, hM⟩ dModel_typeOf_104
      · refine lv_aload_n hx hb dModel_typeOf_39 rfl (lv_at hl 0 rfl) ?_
        refine md_gA S hC hM 16 (by decide) rfl qw_9bd8ea24bb dModel_typeOf_40 ?_
        refine lv_iload_n hx hb dModel_typeOf_43 rfl (lv_at hl 1 rfl) ?_
        refine md_ild S hC hM 16 12 1000 (τ 16) rfl rfl (by decide) rfl rfl (vin (by assumption) (by omega)) dModel_typeOf_44 ?_
        refine lv_topi (fun v30 ev30 => ?_)
        refine lv_goto (tgt := 104) hx hb dModel_typeOf_45 (by decide) ?_
        exact hE _ _ _ _ _ hS ⟨κ, _, ⟨rfl, rfl, rfl⟩, b, mn, ν, τ, σ18, F, nu, hT, hZ, hF, hG, rfl, hM⟩ dModel_typeOf_104
    · refine lv_iconst (v := 0) hx hb dModel_typeOf_33 (by decide) ?_
      exact hE _ _ _ _ _ hS ⟨κ, _, ⟨rfl, rfl, rfl⟩, b, mn, ν, τ, σ18, F, nu, hT, hZ, hF, hG, rfl, hM⟩ dModel_typeOf_34
  have J18 : ∀ (ls : Array Slot), lv_has ls 3 [(0, .ref a), (1, .int x1), (2, .int x2)] → W p l e (bs_rm 1 0 0 21) s m args below meth c s.heap [] 0 0 Q (F0 m 18 ls [.ref a]) := by
    intro ls hl
    refine lv_iconst (v := 1) hx hb dModel_typeOf_18 (by decide) ?_
    refine lv_goto (tgt := 23) hx hb dModel_typeOf_19 (by decide) ?_
    exact J23 ls 1 (by first | exact Or.inl (by decide) | exact Or.inr ⟨rfl, hr1 (by assumption)⟩) (lv_sub hl [0, 1, 2] rfl)
  refine lv_if_ne (tgt := 18) hx hb dModel_typeOf_6 (by decide) (fun c31 => ?_) (fun c31 => ?_)
  · exact J18 ls  (lv_sub hl [0, 1, 2] rfl)
  · refine lv_iload_n hx hb dModel_typeOf_9 rfl (lv_at hl 2 rfl) ?_
    refine lv_if_lt (tgt := 18) hx hb dModel_typeOf_10 (by decide) (fun c32 => ?_) (fun c32 => ?_)
    · exact J18 ls  (lv_sub hl [0, 1, 2] rfl)
    · refine lv_iload_n hx hb dModel_typeOf_13 rfl (lv_at hl 2 rfl) ?_
      refine lv_iconst (v := 4) hx hb dModel_typeOf_14 (by decide) ?_
      refine lv_icmp_le (tgt := 22) hx hb dModel_typeOf_15 (by decide) (fun c33 => ?_) (fun c33 => ?_)
      · refine lv_iconst (v := 0) hx hb dModel_typeOf_22 (by decide) ?_
        exact J23 ls 0 (by first | exact Or.inl (by decide) | exact Or.inr ⟨rfl, hr1 (by assumption)⟩) (lv_sub hl [0, 1, 2] rfl)
      · exact J18 ls  (lv_sub hl [0, 1, 2] rfl)
theorem qw_c926675227 : (Cond.methodLink R_Model 266 yModel_noNode) ∈ bs_W0 := bs_in (in_tables_1_6 (List.mem_of_getElem? (i := 43) rfl)) rfl
set_option maxHeartbeats 4000000 in
set_option maxRecDepth 100000 in
theorem m_about (l : Launch) (γ : gE) (a : Nat) (B : Nat → Nat) (Z : Nat → Prop) (κ b mn : Nat → Nat) (ν : Nat → Int32) (τ : Nat → Nat → Int32) (σ : Nat → Int32) (F : Nat → Nat → Int32) (nu : Nat → Int64) (hT : ST κ b mn ν τ) (x1 : Int32) (x2 : Int32) (hZ : SZ F) (hF : FD σ) (hG : GD F nu) : MU l yModel_about bModel_about 4 (some .int) 1 21 0 0 [.ref a, .int x1, .int x2] γ Z (MD γ a B Z ν τ σ F nu) (mQi (fun r H => ∃ (κ' : Nat → Nat) (cd : Int32), (κ' 5 = κ 5 ∧ κ' 0 = κ 0 ∧ κ' 1 = κ 1) ∧ MI γ a B Z κ' cd H) Z) := by
  refine mu_openI (by decide) (Nat.le_of_ble_eq_true rfl) ?_
  intro p e s m args below meth c ls Q S hnm hC hA hM hE hl
  have hS : va_S Z s.heap s.heap [] := va_S.rf
  obtain ⟨hx, hb, hml, hown, hW⟩ := id S
  obtain ⟨⟨hs0, hs1, hs2, hs3, hs4, hs5, hs6⟩, ⟨hv6, hv8, hv21, hv24, hv30, hv31⟩, hTR, hTY, hOB, hNM⟩ := id hT
  have hl : lv_has ls 4 [(0, .ref a), (1, .int x1), (2, .int x2)] := hl
  refine lv_aload_n hx hb dModel_about_0 rfl (lv_at hl 0 rfl) ?_
  refine lv_aload_n hx hb dModel_about_1 rfl (lv_at hl 0 rfl) ?_
  refine lv_iload_n hx hb dModel_about_2 rfl (lv_at hl 1 rfl) ?_
  refine pu_Vi (rest := [.ref a]) S hC (m_noNode l γ a B Z κ b mn ν τ σ F nu hT x1 ) meModel_noNode qw_c926675227 ⟨Nat.le_of_ble_eq_true rfl, Nat.le_of_ble_eq_true rfl⟩ (md_rv hC hM) hM rfl hl.1 rfl (Nat.le_of_ble_eq_true rfl) dModel_about_3 ⟨Nat.zero_le _, Nat.zero_le _⟩ (fun r1 hr1 => ?_)
  have J23 : ∀ (ls : Array Slot) (t0_23 : Int32), (0 < t0_23 ∨ (t0_23 = 0 ∧ vp_in x1 (κ 0))) → lv_has ls 4 [(0, .ref a), (1, .int x1), (2, .int x2)] → W p l e (bs_rm 1 0 0 21) s m args below meth c s.heap [] 0 0 Q (F0 m 23 ls [.int t0_23, .ref a]) := by
    intro ls t0_23 ht0_23 hl
    refine md_pD S hC hM hS 0 rfl (by decide) rfl qw_53e275eed6 rfl (by decide +kernel) dModel_about_23 (fun H locs hM hS => ?_)
    obtain ⟨σ19, eσ19⟩ : ∃ z : Nat → Int32, z = upd σ 0 t0_23 := ⟨_, rfl⟩
    rw [← eσ19] at hM
    have hF : FD σ19 := hF.up eσ19 (by decide) (by decide)
    refine lv_aload_n hx hb dModel_about_26 rfl (lv_at hl 0 rfl) ?_
    refine md_gI S hC hM 0 (v := σ19 0) rfl (by decide) rfl qw_53e275eed6 dModel_about_27 ?_
    refine lv_topi (fun v20 ev20 => ?_)
    refine lv_if_le (tgt := 35) hx hb dModel_about_30 (by decide) (fun c21 => ?_) (fun c21 => ?_)
    · have hx1 : vp_in x1 (κ 0) := cd_0 eσ19 ev20 (by assumption) ht0_23
      refine lv_aload_n hx hb dModel_about_35 rfl (lv_at hl 0 rfl) ?_
      refine md_gA S hC hM 15 (by decide) rfl qw_bcd494e5c6 dModel_about_36 ?_
      refine lv_iload_n hx hb dModel_about_39 rfl (lv_at hl 1 rfl) ?_
      refine md_zld S hC hM 15 11 4000 (F 15) rfl rfl (by decide) rfl rfl (vin (by assumption) (by omega)) dModel_about_40 ?_
      refine lv_topi (fun v22 ev22 => ?_)
      refine lv_if_ne (tgt := 46) hx hb dModel_about_41 (by decide) (fun c23 => ?_) (fun c23 => ?_)
      · refine lv_sipush (v := 4000) hx hb dModel_about_46 (by decide) ?_
        refine lv_iload_n hx hb dModel_about_49 rfl (lv_at hl 1 rfl) ?_
        refine lv_iadd hx hb dModel_about_50 ?_
        refine lv_topi (fun v24 ev24 => ?_)
        refine lv_istore_n (lv' := [(3, .int v24), (0, .ref a), (1, .int x1), (2, .int x2)]) hx hb dModel_about_51 rfl hl (by decide) rfl (fun ls hl => ?_)
        have h4 : vp_in v24 8000 := (vin4 (vin hx1 (by omega)) ev24).1
        refine lv_iload_n hx hb dModel_about_52 rfl (lv_at hl 3 rfl) ?_
        refine lv_if_ne (tgt := 65) hx hb dModel_about_53 (by decide) (fun c25 => ?_) (fun c25 => ?_)
        · refine lv_iload_n hx hb dModel_about_65 rfl (lv_at hl 3 rfl) ?_
          refine lv_iconst (v := 1) hx hb dModel_about_66 (by decide) ?_
          refine lv_icmp_ne (tgt := 79) hx hb dModel_about_67 (by decide) (fun c26 => ?_) (fun c26 => ?_)
          · refine lv_iload_n hx hb dModel_about_79 rfl (lv_at hl 3 rfl) ?_
            refine lv_iconst (v := 2) hx hb dModel_about_80 (by decide) ?_
            refine lv_icmp_ne (tgt := 101) hx hb dModel_about_81 (by decide) (fun c27 => ?_) (fun c27 => ?_)
            · refine lv_aload_n hx hb dModel_about_101 rfl (lv_at hl 1 rfl) ?_
              refine md_gA S hC hM 12 (by decide) rfl qw_19df235c4a dModel_about_102 ?_
              refine lv_iload_n hx hb dModel_about_105 rfl (lv_at hl 0 rfl) ?_
              refine md_ild S hC hM 12 8 10000 (F 12) rfl rfl (by decide) rfl rfl (vin (by assumption) (by omega)) dModel_about_106 ?_
              refine lv_topi (fun v28 ev28 => ?_)
              exact hE _ _ _ _ _ hS ⟨κ, _, ⟨rfl, rfl, rfl⟩, b, mn, ν, τ, σ19, F, nu, hT, hZ, hF, hG, rfl, hM⟩ dModel_about_107
            · refine lv_aload_n hx hb dModel_about_84 rfl (lv_at hl 1 rfl) ?_
              refine md_gA S hC hM 11 (by decide) rfl qw_88b9028ba7 dModel_about_85 ?_
              refine lv_iload_n hx hb dModel_about_88 rfl (lv_at hl 0 rfl) ?_
              refine md_zld S hC hM 11 7 10000 (F 11) rfl rfl (by decide) rfl rfl (vin (by assumption) (by omega)) dModel_about_89 ?_
              refine lv_topi (fun v29 ev29 => ?_)
              refine lv_if_eq (tgt := 97) hx hb dModel_about_90 (by decide) (fun c30 => ?_) (fun c30 => ?_)
              · refine lv_iconst (v := 0) hx hb dModel_about_97 (by decide) ?_
                refine lv_goto (tgt := 107) hx hb dModel_about_98 (by decide) ?_
                exact hE _ _ _ _ _ hS ⟨κ, _, ⟨rfl, rfl, rfl⟩, b, mn, ν, τ, σ19, F, nu, hT, hZ, hF, hG, rfl, hM⟩ dModel_about_107
              · refine lv_iconst (v := 1) hx hb dModel_about_93 (by decide) ?_
                refine lv_goto (tgt := 107) hx hb dModel_about_94 (by decide) ?_
                exact hE _ _ _ _ _ hS ⟨κ, _, ⟨rfl, rfl, rfl⟩, b, mn, ν, τ, σ19, F, nu, hT, hZ, hF, hG, rfl, hM⟩ dModel_about_107
          · refine lv_aload_n hx hb dModel_about_70 rfl (lv_at hl 1 rfl) ?_
            refine md_gA S hC hM 10 (by decide) rfl qw_bd0251c605 dModel_about_71 ?_
            refine lv_iload_n hx hb dModel_about_74 rfl (lv_at hl 0 rfl) ?_
            refine md_ild S hC hM 10 6 10000 (F 10) rfl rfl (by decide) rfl rfl (vin (by assumption) (by omega)) dModel_about_75 ?_
            refine lv_topi (fun v31 ev31 => ?_)
            refine lv_goto (tgt := 107) hx hb dModel_about_76 (by decide) ?_
            exact hE _ _ _ _ _ hS ⟨κ, _, ⟨rfl, rfl, rfl⟩, b, mn, ν, τ, σ19, F, nu, hT, hZ, hF, hG, rfl, hM⟩ dModel_about_107
        · refine lv_aload_n hx hb dModel_about_56 rfl (lv_at hl 1 rfl) ?_
          refine md_gA S hC hM 9 (by decide) rfl qw_a119aeeca0 dModel_about_57 ?_
          refine lv_iload_n hx hb dModel_about_60 rfl (lv_at hl 0 rfl) ?_
          refine md_ild S hC hM 9 5 10000 (F 9) rfl rfl (by decide) rfl rfl (vin (by assumption) (by omega)) dModel_about_61 ?_
          refine lv_topi (fun v32 ev32 => ?_)
          refine lv_goto (tgt := 107) hx hb dModel_about_62 (by decide) ?_
          exact hE _ _ _ _ _ hS ⟨κ, _, ⟨rfl, rfl, rfl⟩, b, mn, ν, τ, σ19, F, nu, hT, hZ, hF, hG, rfl, hM⟩ dModel_about_107
      · refine lv_iconst (v := (-1)) hx hb dModel_about_44 (by decide) ?_
        exact hE _ _ _ _ _ hS ⟨κ, _, ⟨rfl, rfl, rfl⟩, b, mn, ν, τ, σ19, F, nu, hT, hZ, hF, hG, rfl, hM⟩ dModel_about_45
    · refine lv_iconst (v := 0) hx hb dModel_about_33 (by decide) ?_
      exact hE _ _ _ _ _ hS ⟨κ, _, ⟨rfl, rfl, rfl⟩, b, mn, ν, τ, σ19, F, nu, hT, hZ, hF, hG, rfl, hM⟩ dModel_about_34
  have J18 : ∀ (ls : Array Slot), lv_has ls 4 [(0, .ref a), (1, .int x1), (2, .int x2)] → W p l e (bs_rm 1 0 0 21) s m args below meth c s.heap [] 0 0 Q (F0 m 18 ls [.ref a]) := by
    intro ls hl
    refine lv_iconst (v := 1) hx hb dModel_about_18 (by decide) ?_
    refine lv_goto (tgt := 23) hx hb dModel_about_19 (by decide) ?_
    exact J23 ls 1 (by first | exact Or.inl (by decide) | exact Or.inr ⟨rfl, hr1 (by assumption)⟩) (lv_sub hl [0, 1, 2] rfl)
  refine lv_if_ne (tgt := 18) hx hb dModel_about_6 (by decide) (fun c33 => ?_) (fun c33 => ?_)
  · exact J18 ls  (lv_sub hl [0, 1, 2] rfl)
  · refine lv_iload_n hx hb dModel_about_9 rfl (lv_at hl 2 rfl) ?_
    refine lv_if_lt (tgt := 18) hx hb dModel_about_10 (by decide) (fun c34 => ?_) (fun c34 => ?_)
    · exact J18 ls  (lv_sub hl [0, 1, 2] rfl)
    · refine lv_iload_n hx hb dModel_about_13 rfl (lv_at hl 2 rfl) ?_
      refine lv_iconst (v := 3) hx hb dModel_about_14 (by decide) ?_
      refine lv_icmp_le (tgt := 22) hx hb dModel_about_15 (by decide) (fun c35 => ?_) (fun c35 => ?_)
      · refine lv_iconst (v := 0) hx hb dModel_about_22 (by decide) ?_
        exact J23 ls 0 (by first | exact Or.inl (by decide) | exact Or.inr ⟨rfl, hr1 (by assumption)⟩) (lv_sub hl [0, 1, 2] rfl)
      · exact J18 ls  (lv_sub hl [0, 1, 2] rfl)
set_option maxHeartbeats 4000000 in
set_option maxRecDepth 100000 in
theorem m_value (l : Launch) (γ : gE) (a : Nat) (B : Nat → Nat) (Z : Nat → Prop) (κ b mn : Nat → Nat) (ν : Nat → Int32) (τ : Nat → Nat → Int32) (σ : Nat → Int32) (F : Nat → Nat → Int32) (nu : Nat → Int64) (hT : ST κ b mn ν τ) (x1 : Int32) (x2 : Int32) (hZ : SZ F) (hF : FD σ) (hG : GD F nu) : MU l yModel_value bModel_value 5 (some .int) 1 22 0 0 [.ref a, .int x1, .int x2] γ Z (MD γ a B Z ν τ σ F nu) (mQi (fun r H => ∃ (κ' : Nat → Nat) (cd : Int32), (κ' 5 = κ 5 ∧ κ' 0 = κ 0 ∧ κ' 1 = κ 1) ∧ MI γ a B Z κ' cd H) Z) := by
  refine mu_openI (by decide) (Nat.le_of_ble_eq_true rfl) ?_
  intro p e s m args below meth c ls Q S hnm hC hA hM hE hl
  have hS : va_S Z s.heap s.heap [] := va_S.rf
  obtain ⟨hx, hb, hml, hown, hW⟩ := id S
  obtain ⟨⟨hs0, hs1, hs2, hs3, hs4, hs5, hs6⟩, ⟨hv6, hv8, hv21, hv24, hv30, hv31⟩, hTR, hTY, hOB, hNM⟩ := id hT
  have hl : lv_has ls 5 [(0, .ref a), (1, .int x1), (2, .int x2)] := hl
  refine lv_aload_n hx hb dModel_value_0 rfl (lv_at hl 0 rfl) ?_
  refine lv_aload_n hx hb dModel_value_1 rfl (lv_at hl 0 rfl) ?_
  refine lv_iload_n hx hb dModel_value_2 rfl (lv_at hl 1 rfl) ?_
  refine pu_Vi (rest := [.ref a]) S hC (m_noNode l γ a B Z κ b mn ν τ σ F nu hT x1 ) meModel_noNode qw_c926675227 ⟨Nat.le_of_ble_eq_true rfl, Nat.le_of_ble_eq_true rfl⟩ (md_rv hC hM) hM rfl hl.1 rfl (Nat.le_of_ble_eq_true rfl) dModel_value_3 ⟨Nat.zero_le _, Nat.zero_le _⟩ (fun r1 hr1 => ?_)
  have J14 : ∀ (ls : Array Slot) (t0_14 : Int32), (0 < t0_14 ∨ (t0_14 = 0 ∧ vp_in x1 (κ 0))) → lv_has ls 5 [(0, .ref a), (1, .int x1), (2, .int x2)] → W p l e (bs_rm 1 0 0 22) s m args below meth c s.heap [] 0 0 Q (F0 m 14 ls [.int t0_14, .ref a]) := by
    intro ls t0_14 ht0_14 hl
    refine md_pD S hC hM hS 0 rfl (by decide) rfl qw_53e275eed6 rfl (by decide +kernel) dModel_value_14 (fun H locs hM hS => ?_)
    obtain ⟨σ26, eσ26⟩ : ∃ z : Nat → Int32, z = upd σ 0 t0_14 := ⟨_, rfl⟩
    rw [← eσ26] at hM
    have hF : FD σ26 := hF.up eσ26 (by decide) (by decide)
    refine lv_aload_n hx hb dModel_value_17 rfl (lv_at hl 0 rfl) ?_
    refine md_gI S hC hM 0 (v := σ26 0) rfl (by decide) rfl qw_53e275eed6 dModel_value_18 ?_
    refine lv_topi (fun v27 ev27 => ?_)
    refine lv_if_le (tgt := 26) hx hb dModel_value_21 (by decide) (fun c28 => ?_) (fun c28 => ?_)
    · have hx1 : vp_in x1 (κ 0) := cd_0 eσ26 ev27 (by assumption) ht0_14
      refine lv_sipush (v := 4000) hx hb dModel_value_26 (by decide) ?_
      refine lv_iload_n hx hb dModel_value_29 rfl (lv_at hl 1 rfl) ?_
      refine lv_iadd hx hb dModel_value_30 ?_
      refine lv_topi (fun v29 ev29 => ?_)
      refine lv_istore_n (lv' := [(3, .int v29), (0, .ref a), (1, .int x1), (2, .int x2)]) hx hb dModel_value_31 rfl hl (by decide) rfl (fun ls hl => ?_)
      have h4 : vp_in v29 8000 := (vin4 (vin hx1 (by omega)) ev29).1
      refine lv_aload_n hx hb dModel_value_32 rfl (lv_at hl 1 rfl) ?_
      refine md_gA S hC hM 15 (by decide) rfl qw_bcd494e5c6 dModel_value_33 ?_
      refine lv_iload_n hx hb dModel_value_36 rfl (lv_at hl 2 rfl) ?_
      refine md_zld S hC hM 15 11 4000 (F 15) rfl rfl (by decide) rfl rfl (vin (by assumption) (by omega)) dModel_value_37 ?_
      refine lv_topi (fun v30 ev30 => ?_)
      have J56 : ∀ (ls : Array Slot) (t0_56 : Int32), lv_has ls 5 [(0, .ref a), (1, .int x1), (2, .int x2), (3, .int v29)] → W p l e (bs_rm 1 0 0 22) s m args below meth c H locs 0 0 Q (F0 m 56 ls [.int t0_56]) := by
        intro ls t0_56 hl
        refine lv_istore (lv' := [(4, .int t0_56), (0, .ref a), (1, .int x1), (2, .int x2), (3, .int v29)]) hx hb dModel_value_56 hl (by decide) rfl (fun ls hl => ?_)
        refine lv_aload_n hx hb dModel_value_58 rfl (lv_at hl 1 rfl) ?_
        refine lv_iload hx hb dModel_value_59 (lv_at hl 0 rfl) ?_
        have J105 : ∀ (ls : Array Slot) (t0_105 : Int32), (0 < t0_105 ∨ (t0_105 = 0 ∧ (¬ t0_56 = 0 → vp_in x2 1000))) → lv_has ls 5 [(0, .ref a), (1, .int x1), (2, .int x2), (3, .int v29), (4, .int t0_56)] → W p l e (bs_rm 1 0 0 22) s m args below meth c H locs 0 0 Q (F0 m 105 ls [.int t0_105, .ref a]) := by
          intro ls t0_105 ht0_105 hl
          refine md_pD S hC hM hS 0 rfl (by decide) rfl qw_53e275eed6 rfl (by decide +kernel) dModel_value_105 (fun H locs hM hS => ?_)
          obtain ⟨σ64, eσ64⟩ : ∃ z : Nat → Int32, z = upd σ26 0 t0_105 := ⟨_, rfl⟩
          rw [← eσ64] at hM
          have hF : FD σ64 := hF.up eσ64 (by decide) (by decide)
          refine lv_aload_n hx hb dModel_value_108 rfl (lv_at hl 0 rfl) ?_
          refine md_gI S hC hM 0 (v := σ64 0) rfl (by decide) rfl qw_53e275eed6 dModel_value_109 ?_
          refine lv_topi (fun v65 ev65 => ?_)
          refine lv_if_le (tgt := 117) hx hb dModel_value_112 (by decide) (fun c66 => ?_) (fun c66 => ?_)
          · have hk2 : ¬ t0_56 = 0 → vp_in x2 1000 := cd_0 eσ64 ev65 (by assumption) ht0_105
            refine lv_iload hx hb dModel_value_117 (lv_at hl 4 rfl) ?_
            refine lv_if_eq (tgt := 131) hx hb dModel_value_119 (by decide) (fun c67 => ?_) (fun c67 => ?_)
            · refine lv_aload_n hx hb dModel_value_131 rfl (lv_at hl 0 rfl) ?_
              refine md_gA S hC hM 13 (by decide) rfl qw_7b809afc8c dModel_value_132 ?_
              refine lv_iload_n hx hb dModel_value_135 rfl (lv_at hl 3 rfl) ?_
              refine md_lld S hC hM (vin (by assumption) (by omega)) dModel_value_136 ?_
              refine lv_topl (fun v68 ev68 => ?_)
              have ev68 : v68 = nu v29.toNatClampNeg := ev68
              refine lv_l2i hx hb dModel_value_137 rfl ?_
              refine lv_topi (fun v69 ev69 => ?_)
              exact hE _ _ _ _ _ hS ⟨κ, _, ⟨rfl, rfl, rfl⟩, b, mn, ν, τ, σ64, F, nu, hT, hZ, hF, hG, rfl, hM⟩ dModel_value_138
            · have hx2 := hk2 (by assumption)
              refine lv_aload_n hx hb dModel_value_122 rfl (lv_at hl 0 rfl) ?_
              refine lv_iload_n hx hb dModel_value_123 rfl (lv_at hl 3 rfl) ?_
              refine lv_iload_n hx hb dModel_value_124 rfl (lv_at hl 2 rfl) ?_
              refine pu_Vi (rest := []) S hC (m_element l γ a B Z κ b mn ν τ σ64 F nu hT v29 x2 (el_in (by assumption) (by assumption) (by omega))) meModel_element qw_ceb3d87d61 ⟨Nat.le_of_ble_eq_true rfl, Nat.le_of_ble_eq_true rfl⟩ (md_rv hC hM) hM rfl hl.1 rfl (Nat.le_of_ble_eq_true rfl) dModel_value_125 ⟨Nat.zero_le _, Nat.zero_le _⟩ (fun r70 hr70 => ?_)
              refine lv_goto (tgt := 138) hx hb dModel_value_128 (by decide) ?_
              exact hE _ _ _ _ _ hS ⟨κ, _, ⟨rfl, rfl, rfl⟩, b, mn, ν, τ, σ64, F, nu, hT, hZ, hF, hG, rfl, hM⟩ dModel_value_138
          · refine lv_iconst (v := 0) hx hb dModel_value_115 (by decide) ?_
            exact hE _ _ _ _ _ hS ⟨κ, _, ⟨rfl, rfl, rfl⟩, b, mn, ν, τ, σ64, F, nu, hT, hZ, hF, hG, rfl, hM⟩ dModel_value_116
        have J82 : ∀ (ls : Array Slot), (¬ t0_56 = 0 → vp_in x2 1000) → lv_has ls 5 [(0, .ref a), (1, .int x1), (2, .int x2), (3, .int v29), (4, .int t0_56)] → W p l e (bs_rm 1 0 0 22) s m args below meth c H locs 0 0 Q (F0 m 82 ls [.ref a]) := by
          intro ls h82 hl
          refine lv_aload_n hx hb dModel_value_82 rfl (lv_at hl 0 rfl) ?_
          refine md_gA S hC hM 15 (by decide) rfl qw_bcd494e5c6 dModel_value_83 ?_
          refine lv_iload_n hx hb dModel_value_86 rfl (lv_at hl 1 rfl) ?_
          refine md_zld S hC hM 15 11 4000 (F 15) rfl rfl (by decide) rfl rfl (vin (by assumption) (by omega)) dModel_value_87 ?_
          refine lv_topi (fun v71 ev71 => ?_)
          have J100 : ∀ (ls : Array Slot), lv_has ls 5 [(0, .ref a), (1, .int x1), (2, .int x2), (3, .int v29), (4, .int t0_56)] → W p l e (bs_rm 1 0 0 22) s m args below meth c H locs 0 0 Q (F0 m 100 ls [.ref a]) := by
            intro ls hl
            refine lv_iconst (v := 2) hx hb dModel_value_100 (by decide) ?_
            refine lv_goto (tgt := 105) hx hb dModel_value_101 (by decide) ?_
            exact J105 ls 2 (by first | exact Or.inl (by decide) | exact Or.inr ⟨rfl, h82⟩) (lv_sub hl [0, 1, 2, 3, 4] rfl)
          refine lv_if_eq (tgt := 100) hx hb dModel_value_88 (by decide) (fun c75 => ?_) (fun c75 => ?_)
          · exact J100 ls  (lv_sub hl [0, 1, 2, 3, 4] rfl)
          · refine lv_aload_n hx hb dModel_value_91 rfl (lv_at hl 0 rfl) ?_
            refine md_gA S hC hM 11 (by decide) rfl qw_88b9028ba7 dModel_value_92 ?_
            refine lv_iload_n hx hb dModel_value_95 rfl (lv_at hl 3 rfl) ?_
            refine md_zld S hC hM 11 7 10000 (F 11) rfl rfl (by decide) rfl rfl (vin (by assumption) (by omega)) dModel_value_96 ?_
            refine lv_topi (fun v76 ev76 => ?_)
            refine lv_if_ne (tgt := 104) hx hb dModel_value_97 (by decide) (fun c77 => ?_) (fun c77 => ?_)
            · refine lv_iconst (v := 0) hx hb dModel_value_104 (by decide) ?_
              exact J105 ls 0 (by first | exact Or.inl (by decide) | exact Or.inr ⟨rfl, h82⟩) (lv_sub hl [0, 1, 2, 3, 4] rfl)
            · exact J100 ls  (lv_sub hl [0, 1, 2, 3, 4] rfl)
        refine lv_if_eq (tgt := 82) hx hb dModel_value_61 (by decide) (fun c78 => ?_) (fun c78 => ?_)
        · exact J82 ls (by first | exact (fun h9 => absurd (by assumption) h9) | exact (fun _ => vsz hZ (vix (vin h4 (by omega))) (by assumption) (by assumption) (lt_nge (by assumption)))) (lv_sub hl [1, 2, 3, 4, 0] rfl)
        · refine lv_iload_n hx hb dModel_value_64 rfl (lv_at hl 3 rfl) ?_
          have J78 : ∀ (ls : Array Slot), lv_has ls 5 [(0, .ref a), (1, .int x1), (2, .int x2), (3, .int v29), (4, .int t0_56)] → W p l e (bs_rm 1 0 0 22) s m args below meth c H locs 0 0 Q (F0 m 78 ls [.ref a]) := by
            intro ls hl
            refine lv_iconst (v := 1) hx hb dModel_value_78 (by decide) ?_
            refine lv_goto (tgt := 105) hx hb dModel_value_79 (by decide) ?_
            exact J105 ls 1 (by first | exact Or.inl (by decide) | exact Or.inr ⟨rfl, h82⟩) (lv_sub hl [0, 1, 2, 3, 4] rfl)
          refine lv_if_lt (tgt := 78) hx hb dModel_value_65 (by decide) (fun c82 => ?_) (fun c82 => ?_)
          · exact J78 ls  (lv_sub hl [1, 2, 3, 4, 0] rfl)
          · refine lv_iload_n hx hb dModel_value_68 rfl (lv_at hl 3 rfl) ?_
            refine lv_aload_n hx hb dModel_value_69 rfl (lv_at hl 1 rfl) ?_
            refine md_gA S hC hM 10 (by decide) rfl qw_bd0251c605 dModel_value_70 ?_
            refine lv_iload_n hx hb dModel_value_73 rfl (lv_at hl 4 rfl) ?_
            refine md_ild S hC hM 10 6 10000 (F 10) rfl rfl (by decide) rfl rfl (vin (by assumption) (by omega)) dModel_value_74 ?_
            refine lv_topi (fun v83 ev83 => ?_)
            refine lv_icmp_lt (tgt := 82) hx hb dModel_value_75 (by decide) (fun c84 => ?_) (fun c84 => ?_)
            · exact J82 ls (by first | exact (fun h9 => absurd (by assumption) h9) | exact (fun _ => vsz hZ (vix (vin h4 (by omega))) (by assumption) (by assumption) (lt_nge (by assumption)))) (lv_sub hl [1, 2, 3, 4, 0] rfl)
            · exact J78 ls  (lv_sub hl [1, 2, 3, 4, 0] rfl)
      have J55 : ∀ (ls : Array Slot), lv_has ls 5 [(0, .ref a), (1, .int x1), (2, .int x2), (3, .int v29)] → W p l e (bs_rm 1 0 0 22) s m args below meth c H locs 0 0 Q (F0 m 55 ls []) := by
        intro ls hl
        refine lv_iconst (v := 0) hx hb dModel_value_55 (by decide) ?_
        exact J56 ls 0 (lv_sub hl [0, 1, 2, 3] rfl)
      refine lv_if_eq (tgt := 55) hx hb dModel_value_38 (by decide) (fun c85 => ?_) (fun c85 => ?_)
      · exact J55 ls  (lv_sub hl [1, 2, 3, 0] rfl)
      · refine lv_aload_n hx hb dModel_value_41 rfl (lv_at hl 1 rfl) ?_
        refine md_gA S hC hM 9 (by decide) rfl qw_a119aeeca0 dModel_value_42 ?_
        refine lv_iload_n hx hb dModel_value_45 rfl (lv_at hl 0 rfl) ?_
        refine md_ild S hC hM 9 5 10000 (F 9) rfl rfl (by decide) rfl rfl (vin (by assumption) (by omega)) dModel_value_46 ?_
        refine lv_topi (fun v86 ev86 => ?_)
        refine lv_iconst (v := 3) hx hb dModel_value_47 (by decide) ?_
        refine lv_icmp_ne (tgt := 55) hx hb dModel_value_48 (by decide) (fun c87 => ?_) (fun c87 => ?_)
        · exact J55 ls  (lv_sub hl [1, 2, 3, 0] rfl)
        · refine lv_iconst (v := 1) hx hb dModel_value_51 (by decide) ?_
          refine lv_goto (tgt := 56) hx hb dModel_value_52 (by decide) ?_
          exact J56 ls 1 (lv_sub hl [1, 2, 3, 0] rfl)
    · refine lv_iconst (v := 0) hx hb dModel_value_24 (by decide) ?_
      exact hE _ _ _ _ _ hS ⟨κ, _, ⟨rfl, rfl, rfl⟩, b, mn, ν, τ, σ26, F, nu, hT, hZ, hF, hG, rfl, hM⟩ dModel_value_25
  refine lv_if_eq (tgt := 13) hx hb dModel_value_6 (by decide) (fun c88 => ?_) (fun c88 => ?_)
  · refine lv_iconst (v := 0) hx hb dModel_value_13 (by decide) ?_
    exact J14 ls 0 (by first | exact Or.inl (by decide) | exact Or.inr ⟨rfl, hr1 (by assumption)⟩) (lv_sub hl [0, 1, 2] rfl)
  · refine lv_iconst (v := 1) hx hb dModel_value_9 (by decide) ?_
    refine lv_goto (tgt := 14) hx hb dModel_value_10 (by decide) ?_
    exact J14 ls 1 (by first | exact Or.inl (by decide) | exact Or.inr ⟨rfl, hr1 (by assumption)⟩) (lv_sub hl [0, 1, 2] rfl)
