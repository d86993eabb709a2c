theorem qw_94306de345 : (Cond.fieldLink R_Model 57 R_Model "low" "[I") ∈ bs_W0 := bs_in (in_tables_1_5 (List.mem_of_getElem? (i := 170) rfl)) rfl
theorem qw_82ee92f611 : (Cond.fieldLink R_Model 60 R_Model "high" "[I") ∈ bs_W0 := bs_in (in_tables_1_5 (List.mem_of_getElem? (i := 171) rfl)) rfl
theorem qw_31ea7262cf : (Cond.methodLink R_Model 239 Lib.Math.min.name) ∈ bs_W0 := bs_in (in_tables_1_6 (List.mem_of_getElem? (i := 185) rfl)) rfl
theorem qw_f0aff25a97 : (Cond.methodLink R_Model 244 Lib.Math.max.name) ∈ bs_W0 := bs_in (in_tables_1_6 (List.mem_of_getElem? (i := 186) rfl)) rfl
set_option maxHeartbeats 4000000 in
set_option maxRecDepth 100000 in
theorem m_within (l : Launch) (γ : gE) (a : Nat) (B : Nat → Nat) (Z : Nat → Prop) (κ b mn : Nat → Nat) (ν : Nat → Int32) (τ : Nat → Nat → Int32) (σ : Nat → Int32) (F : Nat → Nat → Int32) (nu : Nat → Int64) (hT : ST κ b mn ν τ) (x1 : Int32) (x2 : Int64) (hx1 : vp_in x1 (1000)) : PU l yModel_within bModel_within 4 (some .boolean) 1 15 [.ref a, .int x1, .long x2] γ (MD γ a B Z ν τ σ F nu) (vp_Si (fun v : Int32 => v = 0 ∨ ∀ lo hi : Nat, τ 17 x1.toNatClampNeg = nI lo → τ 18 x1.toNatClampNeg = nI hi → lo < 2 ^ 31 → hi < 2 ^ 31 → (lo : Int) ≤ x2.toInt ∧ x2.toInt ≤ (hi : Int) ∨ (hi : Int) ≤ x2.toInt ∧ x2.toInt ≤ (lo : Int))) := by
  refine pu_openZ (by decide) (Nat.le_of_ble_eq_true rfl) ?_
  intro p e s m args below meth c ls Q S hC hM hE hl
  obtain ⟨hx, hb, hml, hown, hW⟩ := id S
  obtain ⟨⟨hs0, hs1, hs2, hs3, hs4, hs5, hs6⟩, ⟨hv6, hv8, hv21, hv24, hv30, hv31⟩, hTR, hTY, hOB, hNM⟩ := id hT
  have hl : lv_has ls 4 [(0, .ref a), (1, .int x1), (2, .long x2)] := hl
  refine lv_lload_n hx hb dModel_within_0 rfl (lv_at hl 2 rfl) ?_
  refine lv_aload_n hx hb dModel_within_1 rfl (lv_at hl 0 rfl) ?_
  refine md_gA S hC hM 17 (by decide) rfl qw_94306de345 dModel_within_2 ?_
  refine lv_iload_n hx hb dModel_within_5 rfl (lv_at hl 1 rfl) ?_
  refine md_ild S hC hM 17 13 1000 (τ 17) rfl rfl (by decide) rfl rfl (vin (by assumption) (by omega)) dModel_within_6 ?_
  refine lv_topi (fun v1 ev1 => ?_)
  refine lv_aload_n hx hb dModel_within_7 rfl (lv_at hl 0 rfl) ?_
  refine md_gA S hC hM 18 (by decide) rfl qw_82ee92f611 dModel_within_8 ?_
  refine lv_iload_n hx hb dModel_within_11 rfl (lv_at hl 1 rfl) ?_
  refine md_ild S hC hM 18 14 1000 (τ 18) rfl rfl (by decide) rfl rfl (vin (by assumption) (by omega)) dModel_within_12 ?_
  refine lv_topi (fun v2 ev2 => ?_)
  refine va_mmin (rest := [.long x2]) hx hb (hml.trans hl.1.symm) hown (hW _ qw_31ea7262cf) (hW _ qw_1a05fe5770) (hW _ qw_0001fcaade) (hW _ qw_5e99ca5e66) (Nat.le_of_ble_eq_true rfl) (Nat.le_of_ble_eq_true rfl) (Nat.zero_le _) (Nat.zero_le _) dModel_within_13 ?_
  refine lv_topi (fun v3 ev3 => ?_)
  refine lv_i2l hx hb dModel_within_16 rfl ?_
  refine lv_topl (fun v4 ev4 => ?_)
  refine W.lcmp hx hb dModel_within_17 ?_
  refine lv_topi (fun v5 ev5 => ?_)
  refine lv_if_lt (tgt := 46) hx hb dModel_within_18 (by decide) (fun c6 => ?_) (fun c6 => ?_)
  · refine lv_iconst (v := 0) hx hb dModel_within_46 (by decide) ?_
    exact hE _ _ _ rfl (Or.inl rfl) dModel_within_47
  · refine lv_lload_n hx hb dModel_within_21 rfl (lv_at hl 2 rfl) ?_
    refine lv_aload_n hx hb dModel_within_22 rfl (lv_at hl 0 rfl) ?_
    refine md_gA S hC hM 17 (by decide) rfl qw_94306de345 dModel_within_23 ?_
    refine lv_iload_n hx hb dModel_within_26 rfl (lv_at hl 1 rfl) ?_
    refine md_ild S hC hM 17 13 1000 (τ 17) rfl rfl (by decide) rfl rfl (vin (by assumption) (by omega)) dModel_within_27 ?_
    refine lv_topi (fun v7 ev7 => ?_)
    refine lv_aload_n hx hb dModel_within_28 rfl (lv_at hl 0 rfl) ?_
    refine md_gA S hC hM 18 (by decide) rfl qw_82ee92f611 dModel_within_29 ?_
    refine lv_iload_n hx hb dModel_within_32 rfl (lv_at hl 1 rfl) ?_
    refine md_ild S hC hM 18 14 1000 (τ 18) rfl rfl (by decide) rfl rfl (vin (by assumption) (by omega)) dModel_within_33 ?_
    refine lv_topi (fun v8 ev8 => ?_)
    refine va_mmax (rest := [.long x2]) hx hb (hml.trans hl.1.symm) hown (hW _ qw_f0aff25a97) (hW _ qw_7cc87a9f9b) (hW _ qw_0001fcaade) (hW _ qw_6b973c1ba4) (Nat.le_of_ble_eq_true rfl) (Nat.le_of_ble_eq_true rfl) (Nat.zero_le _) (Nat.zero_le _) dModel_within_34 ?_
    refine lv_topi (fun v9 ev9 => ?_)
    refine lv_i2l hx hb dModel_within_37 rfl ?_
    refine lv_topl (fun v10 ev10 => ?_)
    refine W.lcmp hx hb dModel_within_38 ?_
    refine lv_topi (fun v11 ev11 => ?_)
    refine lv_if_gt (tgt := 46) hx hb dModel_within_39 (by decide) (fun c12 => ?_) (fun c12 => ?_)
    · refine lv_iconst (v := 0) hx hb dModel_within_46 (by decide) ?_
      exact hE _ _ _ rfl (Or.inl rfl) dModel_within_47
    · refine lv_iconst (v := 1) hx hb dModel_within_42 (by decide) ?_
      refine lv_goto (tgt := 47) hx hb dModel_within_43 (by decide) ?_
      exact hE _ _ _ rfl (Or.inr (wi_ok ev1 ev2 ev7 ev8 ev3 ev9 ev4 ev10 ev5 (by assumption) ev11 (by assumption))) dModel_within_47
set_option maxHeartbeats 4000000 in
set_option maxRecDepth 100000 in
theorem m_fits (l : Launch) (γ : gE) (a : Nat) (B : Nat → Nat) (Z : Nat → Prop) (κ b mn : Nat → Nat) (ν : Nat → Int32) (τ : Nat → Nat → Int32) (σ : Nat → Int32) (F : Nat → Nat → Int32) (nu : Nat → Int64) (hT : ST κ b mn ν τ) (x1 : Int32) (x2 : Int32) (hx1 : vp_in x1 (4000)) (hx2 : vp_in x2 (1000)) : PU l yModel_fits bModel_fits 3 (some .int) 0 0 [.ref a, .int x1, .int x2] γ (MD γ a B Z ν τ σ F nu) (vp_Si (fun v : Int32 => True)) := by
  refine pu_openI (by decide) (Nat.le_of_ble_eq_true rfl) ?_
  intro p e s m args below meth c ls Q S hC hM hE hl
  obtain ⟨hx, hb, hml, hown, hW⟩ := id S
  obtain ⟨⟨hs0, hs1, hs2, hs3, hs4, hs5, hs6⟩, ⟨hv6, hv8, hv21, hv24, hv30, hv31⟩, hTR, hTY, hOB, hNM⟩ := id hT
  have hl : lv_has ls 3 [(0, .ref a), (1, .int x1), (2, .int x2)] := hl
  refine lv_aload_n hx hb dModel_fits_0 rfl (lv_at hl 0 rfl) ?_
  refine md_gA S hC hM 9 (by decide) rfl qw_a119aeeca0 dModel_fits_1 ?_
  refine lv_iload_n hx hb dModel_fits_4 rfl (lv_at hl 1 rfl) ?_
  refine md_ild S hC hM 9 5 10000 (F 9) rfl rfl (by decide) rfl rfl (vin (by assumption) (by omega)) dModel_fits_5 ?_
  refine lv_topi (fun v1 ev1 => ?_)
  refine lv_aload_n hx hb dModel_fits_6 rfl (lv_at hl 0 rfl) ?_
  refine md_gA S hC hM 16 (by decide) rfl qw_9bd8ea24bb dModel_fits_7 ?_
  refine lv_iload_n hx hb dModel_fits_10 rfl (lv_at hl 2 rfl) ?_
  refine md_ild S hC hM 16 12 1000 (τ 16) rfl rfl (by decide) rfl rfl (vin (by assumption) (by omega)) dModel_fits_11 ?_
  refine lv_topi (fun v2 ev2 => ?_)
  refine lv_icmp_ne (tgt := 35) hx hb dModel_fits_12 (by decide) (fun c3 => ?_) (fun c3 => ?_)
  · refine lv_iconst (v := 3) hx hb dModel_fits_35 (by decide) ?_
    exact hE _ _ _ trivial dModel_fits_36
  · refine lv_aload_n hx hb dModel_fits_15 rfl (lv_at hl 0 rfl) ?_
    refine md_gA S hC hM 9 (by decide) rfl qw_a119aeeca0 dModel_fits_16 ?_
    refine lv_iload_n hx hb dModel_fits_19 rfl (lv_at hl 1 rfl) ?_
    refine md_ild S hC hM 9 5 10000 (F 9) rfl rfl (by decide) rfl rfl (vin (by assumption) (by omega)) dModel_fits_20 ?_
    refine lv_topi (fun v4 ev4 => ?_)
    refine lv_iconst (v := 4) hx hb dModel_fits_21 (by decide) ?_
    have J37 : ∀ (ls : Array Slot), lv_has ls 3 [(0, .ref a), (1, .int x1), (2, .int x2)] → W p l e (bs_rm 0 0 0 0) s m args below meth c s.heap [] 0 0 Q (F0 m 37 ls []) := by
      intro ls hl
      refine lv_aload_n hx hb dModel_fits_37 rfl (lv_at hl 0 rfl) ?_
      refine md_gA S hC hM 9 (by decide) rfl qw_a119aeeca0 dModel_fits_38 ?_
      refine lv_iload_n hx hb dModel_fits_41 rfl (lv_at hl 1 rfl) ?_
      refine md_ild S hC hM 9 5 10000 (F 9) rfl rfl (by decide) rfl rfl (vin (by assumption) (by omega)) dModel_fits_42 ?_
      refine lv_topi (fun v27 ev27 => ?_)
      refine lv_iconst (v := 3) hx hb dModel_fits_43 (by decide) ?_
      have J64 : ∀ (ls : Array Slot), lv_has ls 3 [(0, .ref a), (1, .int x1), (2, .int x2)] → W p l e (bs_rm 0 0 0 0) s m args below meth c s.heap [] 0 0 Q (F0 m 64 ls []) := by
        intro ls hl
        refine lv_aload_n hx hb dModel_fits_64 rfl (lv_at hl 0 rfl) ?_
        refine md_gA S hC hM 9 (by decide) rfl qw_a119aeeca0 dModel_fits_65 ?_
        refine lv_iload_n hx hb dModel_fits_68 rfl (lv_at hl 1 rfl) ?_
        refine md_ild S hC hM 9 5 10000 (F 9) rfl rfl (by decide) rfl rfl (vin (by assumption) (by omega)) dModel_fits_69 ?_
        refine lv_topi (fun v46 ev46 => ?_)
        refine lv_iconst (v := 2) hx hb dModel_fits_70 (by decide) ?_
        refine lv_icmp_ne (tgt := 122) hx hb dModel_fits_71 (by decide) (fun c47 => ?_) (fun c47 => ?_)
        · refine lv_iconst (v := 0) hx hb dModel_fits_122 (by decide) ?_
          exact hE _ _ _ trivial dModel_fits_123
        · refine lv_aload_n hx hb dModel_fits_74 rfl (lv_at hl 0 rfl) ?_
          refine md_gA S hC hM 11 (by decide) rfl qw_88b9028ba7 dModel_fits_75 ?_
          refine lv_iload_n hx hb dModel_fits_78 rfl (lv_at hl 1 rfl) ?_
          refine md_zld S hC hM 11 7 10000 (F 11) rfl rfl (by decide) rfl rfl (vin (by assumption) (by omega)) dModel_fits_79 ?_
          refine lv_topi (fun v48 ev48 => ?_)
          refine lv_if_eq (tgt := 122) hx hb dModel_fits_80 (by decide) (fun c49 => ?_) (fun c49 => ?_)
          · refine lv_iconst (v := 0) hx hb dModel_fits_122 (by decide) ?_
            exact hE _ _ _ trivial dModel_fits_123
          · refine lv_aload_n hx hb dModel_fits_83 rfl (lv_at hl 0 rfl) ?_
            refine md_gA S hC hM 13 (by decide) rfl qw_7b809afc8c dModel_fits_84 ?_
            refine lv_iload_n hx hb dModel_fits_87 rfl (lv_at hl 1 rfl) ?_
            refine md_lld S hC hM (vin (by assumption) (by omega)) dModel_fits_88 ?_
            refine lv_topl (fun v50 ev50 => ?_)
            have ev50 : v50 = nu x1.toNatClampNeg := ev50
            refine lv_aload_n hx hb dModel_fits_89 rfl (lv_at hl 0 rfl) ?_
            refine md_gA S hC hM 17 (by decide) rfl qw_94306de345 dModel_fits_90 ?_
            refine lv_iload_n hx hb dModel_fits_93 rfl (lv_at hl 2 rfl) ?_
            refine md_ild S hC hM 17 13 1000 (τ 17) rfl rfl (by decide) rfl rfl (vin (by assumption) (by omega)) dModel_fits_94 ?_
            refine lv_topi (fun v51 ev51 => ?_)
            refine lv_i2l hx hb dModel_fits_95 rfl ?_
            refine lv_topl (fun v52 ev52 => ?_)
            refine W.lcmp hx hb dModel_fits_96 ?_
            refine lv_topi (fun v53 ev53 => ?_)
            have J117 : ∀ (ls : Array Slot), lv_has ls 3 [(0, .ref a), (1, .int x1), (2, .int x2)] → W p l e (bs_rm 0 0 0 0) s m args below meth c s.heap [] 0 0 Q (F0 m 117 ls []) := by
              intro ls hl
              refine lv_bipush (v := 8) hx hb dModel_fits_117 (by decide) ?_
              refine lv_goto (tgt := 123) hx hb dModel_fits_119 (by decide) ?_
              exact hE _ _ _ trivial dModel_fits_123
            refine lv_if_lt (tgt := 117) hx hb dModel_fits_97 (by decide) (fun c60 => ?_) (fun c60 => ?_)
            · exact J117 ls  (lv_sub hl [0, 1, 2] rfl)
            · refine lv_aload_n hx hb dModel_fits_100 rfl (lv_at hl 0 rfl) ?_
              refine md_gA S hC hM 13 (by decide) rfl qw_7b809afc8c dModel_fits_101 ?_
              refine lv_iload_n hx hb dModel_fits_104 rfl (lv_at hl 1 rfl) ?_
              refine md_lld S hC hM (vin (by assumption) (by omega)) dModel_fits_105 ?_
              refine lv_topl (fun v61 ev61 => ?_)
              have ev61 : v61 = nu x1.toNatClampNeg := ev61
              refine lv_aload_n hx hb dModel_fits_106 rfl (lv_at hl 0 rfl) ?_
              refine md_gA S hC hM 18 (by decide) rfl qw_82ee92f611 dModel_fits_107 ?_
              refine lv_iload_n hx hb dModel_fits_110 rfl (lv_at hl 2 rfl) ?_
              refine md_ild S hC hM 18 14 1000 (τ 18) rfl rfl (by decide) rfl rfl (vin (by assumption) (by omega)) dModel_fits_111 ?_
              refine lv_topi (fun v62 ev62 => ?_)
              refine lv_i2l hx hb dModel_fits_112 rfl ?_
              refine lv_topl (fun v63 ev63 => ?_)
              refine W.lcmp hx hb dModel_fits_113 ?_
              refine lv_topi (fun v64 ev64 => ?_)
              refine lv_if_le (tgt := 122) hx hb dModel_fits_114 (by decide) (fun c65 => ?_) (fun c65 => ?_)
              · refine lv_iconst (v := 0) hx hb dModel_fits_122 (by decide) ?_
                exact hE _ _ _ trivial dModel_fits_123
              · exact J117 ls  (lv_sub hl [0, 1, 2] rfl)
      refine lv_icmp_ne (tgt := 64) hx hb dModel_fits_44 (by decide) (fun c66 => ?_) (fun c66 => ?_)
      · exact J64 ls  (lv_sub hl [0, 1, 2] rfl)
      · refine lv_aload_n hx hb dModel_fits_47 rfl (lv_at hl 0 rfl) ?_
        refine md_gA S hC hM 10 (by decide) rfl qw_bd0251c605 dModel_fits_48 ?_
        refine lv_iload_n hx hb dModel_fits_51 rfl (lv_at hl 1 rfl) ?_
        refine md_ild S hC hM 10 6 10000 (F 10) rfl rfl (by decide) rfl rfl (vin (by assumption) (by omega)) dModel_fits_52 ?_
        refine lv_topi (fun v67 ev67 => ?_)
        refine lv_aload_n hx hb dModel_fits_53 rfl (lv_at hl 0 rfl) ?_
        refine md_gA S hC hM 19 (by decide) rfl qw_c139dbceda dModel_fits_54 ?_
        refine lv_iload_n hx hb dModel_fits_57 rfl (lv_at hl 2 rfl) ?_
        refine md_ild S hC hM 19 15 1000 (τ 19) rfl rfl (by decide) rfl rfl (vin (by assumption) (by omega)) dModel_fits_58 ?_
        refine lv_topi (fun v68 ev68 => ?_)
        refine lv_icmp_eq (tgt := 64) hx hb dModel_fits_59 (by decide) (fun c69 => ?_) (fun c69 => ?_)
        · exact J64 ls  (lv_sub hl [0, 1, 2] rfl)
        · refine lv_iconst (v := 4) hx hb dModel_fits_62 (by decide) ?_
          exact hE _ _ _ trivial dModel_fits_63
    refine lv_icmp_ne (tgt := 37) hx hb dModel_fits_22 (by decide) (fun c70 => ?_) (fun c70 => ?_)
    · exact J37 ls  (lv_sub hl [0, 1, 2] rfl)
    · refine lv_aload_n hx hb dModel_fits_25 rfl (lv_at hl 0 rfl) ?_
      refine md_gA S hC hM 10 (by decide) rfl qw_bd0251c605 dModel_fits_26 ?_
      refine lv_iload_n hx hb dModel_fits_29 rfl (lv_at hl 1 rfl) ?_
      refine md_ild S hC hM 10 6 10000 (F 10) rfl rfl (by decide) rfl rfl (vin (by assumption) (by omega)) dModel_fits_30 ?_
      refine lv_topi (fun v71 ev71 => ?_)
      refine lv_iload_n hx hb dModel_fits_31 rfl (lv_at hl 2 rfl) ?_
      refine lv_icmp_eq (tgt := 37) hx hb dModel_fits_32 (by decide) (fun c72 => ?_) (fun c72 => ?_)
      · exact J37 ls  (lv_sub hl [0, 1, 2] rfl)
      · refine lv_iconst (v := 3) hx hb dModel_fits_35 (by decide) ?_
        exact hE _ _ _ trivial dModel_fits_36
theorem qw_3471296067 : (Cond.fieldLink R_Model 13 R_Model "kind" "[I") ∈ bs_W0 := bs_in (in_tables_1_5 (List.mem_of_getElem? (i := 155) rfl)) rfl
set_option maxHeartbeats 4000000 in
set_option maxRecDepth 100000 in
theorem m_below (l : Launch) (γ : gE) (a : Nat) (B : Nat → Nat) (Z : Nat → Prop) (κ b mn : Nat → Nat) (ν : Nat → Int32) (τ : Nat → Nat → Int32) (σ : Nat → Int32) (F : Nat → Nat → Int32) (nu : Nat → Int64) (hT : ST κ b mn ν τ) (x1 : Int32) (x2 : Int32) (hx1 : vp_in x1 (κ 0)) (hx2 : x2.toInt < (κ 0 : Int)) : PU l yModel_below bModel_below 5 (some .boolean) 0 0 [.ref a, .int x1, .int x2] γ (MD γ a B Z ν τ σ F nu) (vp_Si (fun v : Int32 => (v = 0 ∧ ¬ hid τ b x1.toNatClampNeg x2.toNatClampNeg) ∨ (v = 1 ∧ hid τ b x1.toNatClampNeg x2.toNatClampNeg))) := by
  refine pu_openZ (by decide) (Nat.le_of_ble_eq_true rfl) ?_
  intro p e s m args below meth c ls Q S hC hM hE hl
  obtain ⟨hx, hb, hml, hown, hW⟩ := id S
  obtain ⟨⟨hs0, hs1, hs2, hs3, hs4, hs5, hs6⟩, ⟨hv6, hv8, hv21, hv24, hv30, hv31⟩, hTR, hTY, hOB, hNM⟩ := id hT
  have hl : lv_has ls 5 [(0, .ref a), (1, .int x1), (2, .int x2)] := hl
  refine lv_iconst (v := 0) hx hb dModel_below_0 (by decide) ?_
  refine lv_istore_n (lv' := [(3, .int 0), (0, .ref a), (1, .int x1), (2, .int x2)]) hx hb dModel_below_1 rfl hl (by decide) rfl (fun ls hl => ?_)
  refine lv_iload_n hx hb dModel_below_2 rfl (lv_at hl 2 rfl) ?_
  refine lv_iconst (v := 1) hx hb dModel_below_3 (by decide) ?_
  refine lv_iadd hx hb dModel_below_4 ?_
  refine lv_topi (fun v1 ev1 => ?_)
  refine lv_istore (lv' := [(4, .int v1), (3, .int 0), (0, .ref a), (1, .int x1), (2, .int x2)]) hx hb dModel_below_5 hl (by decide) rfl (fun ls hl => ?_)
  have J7 : ∀ (N7 : Nat) (ls : Array Slot) (i4_7 : Int32) (i3_7 : Int32), (∃ A, x1.toNatClampNeg < A ∧ i4_7 = nI A ∧ A ≤ 4000 ∧ ((i3_7 = 0 ∧ ∀ q, x1.toNatClampNeg < q → q < A → ¬ (τ 2 q = 25 ∧ b q ≤ x1.toNatClampNeg)) ∨ (i3_7 = 1 ∧ hid τ b x1.toNatClampNeg x2.toNatClampNeg))) → (2147483647 - i4_7.toInt).toNat = N7 → lv_has ls 5 [(0, .ref a), (1, .int x1), (2, .int x2), (3, .int i3_7), (4, .int i4_7)] → W p l e (bs_rm 0 0 0 0) s m args below meth c s.heap [] 0 0 Q (F0 m 7 ls []) := by
    intro N7
    induction N7 using Nat.strongRecOn with
    | ind N7 ih7 =>
      intro ls i4_7 i3_7 hbl hm7 hl
      refine lv_iload hx hb dModel_below_7 (lv_at hl 4 rfl) ?_
      refine lv_iload_n hx hb dModel_below_9 rfl (lv_at hl 2 rfl) ?_
      refine lv_icmp_gt (tgt := 52) hx hb dModel_below_10 (by decide) (fun c2 => ?_) (fun c2 => ?_)
      · obtain ⟨A, hA1, hA2, hA3, hA4⟩ := hbl
        refine lv_iload_n hx hb dModel_below_52 rfl (lv_at hl 3 rfl) ?_
        exact hE _ _ _ (bl_z hA4) (bl_end hA4 hA1 hA2 hA3 (by assumption)) dModel_below_53
      · obtain ⟨A, hA1, hA2, hA3, hA4⟩ := hbl
        have hAi : (nI A).toInt = (A : Int) := nI_toInt (by omega)
        have hle : i4_7.toInt ≤ x2.toInt := i_le (by assumption)
        have hinA : vp_in i4_7 (κ 0) := (by rw [hA2]; rw [hA2] at hle; exact vp_in_nI (by omega) (by omega))
        have hA6 : i4_7.toNatClampNeg = A := (by rw [hA2]; exact nI_clamp (by omega))
        have hlt4 : i4_7.toInt < 2147483647 := by omega
        have hA8 : A ≤ x2.toNatClampNeg := (by rw [← hA6]; exact bl_8 hinA hle hx2)
        refine lv_iload_n hx hb dModel_below_13 rfl (lv_at hl 3 rfl) ?_
        have J45 : ∀ (ls : Array Slot) (t0_45 : Int32), ((t0_45 = 0 ∧ i3_7 = 0 ∧ ¬ (τ 2 i4_7.toNatClampNeg = 25 ∧ b i4_7.toNatClampNeg ≤ x1.toNatClampNeg)) ∨ (t0_45 = 1 ∧ hid τ b x1.toNatClampNeg x2.toNatClampNeg)) → lv_has ls 5 [(0, .ref a), (1, .int x1), (2, .int x2), (3, .int i3_7), (4, .int i4_7)] → W p l e (bs_rm 0 0 0 0) s m args below meth c s.heap [] 0 0 Q (F0 m 45 ls [.int t0_45]) := by
          intro ls t0_45 h45 hl
          refine lv_istore_n (lv' := [(3, .int t0_45), (0, .ref a), (1, .int x1), (2, .int x2), (4, .int i4_7)]) hx hb dModel_below_45 rfl hl (by decide) rfl (fun ls hl => ?_)
          obtain ⟨v9, ev9⟩ : ∃ y : Int32, y = i4_7 + 1 := ⟨_, rfl⟩
          refine lv_iinc (v := v9) (lv' := [(4, .int v9), (3, .int t0_45), (0, .ref a), (1, .int x1), (2, .int x2)]) hx hb dModel_below_46 hl (k := 4) rfl (by rw [ev9]; rfl) (by decide) rfl (fun ls hl => ?_)
          refine lv_goto (tgt := 7) hx hb dModel_below_49 (by decide) ?_
          exact ih7 _ (by have q1 : i4_7.toInt < 2147483647 := (by first | assumption | exact (mu_up (k := i4_7) (by assumption)).2); have q2 := mu_lt q1; rw [← ev9] at q2; omega) ls v9 t0_45 ⟨A + 1, by omega, (by rw [ev9, hA2]; exact (nI_succ A).symm), (by have := vix hinA; omega), bl_bk h45 hA4 hA6⟩ rfl (lv_sub hl [2, 3, 4, 1, 0] rfl)
        refine lv_if_ne (tgt := 40) hx hb dModel_below_14 (by decide) (fun c10 => ?_) (fun c10 => ?_)
        · refine lv_iconst (v := 1) hx hb dModel_below_40 (by decide) ?_
          refine lv_goto (tgt := 45) hx hb dModel_below_41 (by decide) ?_
          exact J45 ls 1 (by first | exact Or.inr ⟨rfl, bl_1 hA4 (by assumption)⟩ | exact Or.inl ⟨rfl, by assumption, fun h9 => absurd (ev4.trans h9.1) (by assumption)⟩ | exact Or.inl ⟨rfl, by assumption, fun h9 => absurd h9.2 (Nat.not_le.mpr ((bl_b hTR hs0 hx1 hinA ev6).2.mp (by assumption)))⟩ | exact Or.inr ⟨rfl, A, hA1, hA8, (by rw [← hA6, ← ev4]; assumption), (by rw [← hA6]; exact Nat.not_lt.mp (fun h9 => absurd ((bl_b hTR hs0 hx1 hinA ev6).2.mpr h9) (by assumption)))⟩) (lv_sub hl [0, 1, 2, 3, 4] rfl)
        · refine lv_aload_n hx hb dModel_below_17 rfl (lv_at hl 0 rfl) ?_
          refine md_gA S hC hM 2 (by decide) rfl qw_3471296067 dModel_below_18 ?_
          refine lv_iload hx hb dModel_below_21 (lv_at hl 4 rfl) ?_
          refine md_ild S hC hM 2 0 4000 (τ 2) rfl rfl (by decide) rfl rfl (vin (by assumption) (by omega)) dModel_below_23 ?_
          refine lv_topi (fun v11 ev11 => ?_)
          refine lv_bipush (v := 25) hx hb dModel_below_24 (by decide) ?_
          refine lv_icmp_ne (tgt := 44) hx hb dModel_below_26 (by decide) (fun c12 => ?_) (fun c12 => ?_)
          · refine lv_iconst (v := 0) hx hb dModel_below_44 (by decide) ?_
            exact J45 ls 0 (by first | exact Or.inr ⟨rfl, bl_1 hA4 (by assumption)⟩ | exact Or.inl ⟨rfl, by assumption, fun h9 => absurd (ev11.trans h9.1) (by assumption)⟩ | exact Or.inl ⟨rfl, by assumption, fun h9 => absurd h9.2 (Nat.not_le.mpr ((bl_b hTR hs0 hx1 hinA ev6).2.mp (by assumption)))⟩ | exact Or.inr ⟨rfl, A, hA1, hA8, (by rw [← hA6, ← ev11]; assumption), (by rw [← hA6]; exact Nat.not_lt.mp (fun h9 => absurd ((bl_b hTR hs0 hx1 hinA ev6).2.mpr h9) (by assumption)))⟩) (lv_sub hl [0, 1, 2, 3, 4] rfl)
          · refine lv_aload_n hx hb dModel_below_29 rfl (lv_at hl 0 rfl) ?_
            refine md_gA S hC hM 5 (by decide) rfl qw_7e4081a75e dModel_below_30 ?_
            refine lv_iload hx hb dModel_below_33 (lv_at hl 4 rfl) ?_
            refine md_ild S hC hM 5 3 4000 (τ 5) rfl rfl (by decide) rfl rfl (vin (by assumption) (by omega)) dModel_below_35 ?_
            refine lv_topi (fun v13 ev13 => ?_)
            refine lv_iload_n hx hb dModel_below_36 rfl (lv_at hl 1 rfl) ?_
            refine lv_icmp_gt (tgt := 44) hx hb dModel_below_37 (by decide) (fun c14 => ?_) (fun c14 => ?_)
            · refine lv_iconst (v := 0) hx hb dModel_below_44 (by decide) ?_
              exact J45 ls 0 (by first | exact Or.inr ⟨rfl, bl_1 hA4 (by assumption)⟩ | exact Or.inl ⟨rfl, by assumption, fun h9 => absurd (ev11.trans h9.1) (by assumption)⟩ | exact Or.inl ⟨rfl, by assumption, fun h9 => absurd h9.2 (Nat.not_le.mpr ((bl_b hTR hs0 hx1 hinA ev13).2.mp (by assumption)))⟩ | exact Or.inr ⟨rfl, A, hA1, hA8, (by rw [← hA6, ← ev11]; assumption), (by rw [← hA6]; exact Nat.not_lt.mp (fun h9 => absurd ((bl_b hTR hs0 hx1 hinA ev13).2.mpr h9) (by assumption)))⟩) (lv_sub hl [0, 1, 2, 3, 4] rfl)
            · refine lv_iconst (v := 1) hx hb dModel_below_40 (by decide) ?_
              refine lv_goto (tgt := 45) hx hb dModel_below_41 (by decide) ?_
              exact J45 ls 1 (by first | exact Or.inr ⟨rfl, bl_1 hA4 (by assumption)⟩ | exact Or.inl ⟨rfl, by assumption, fun h9 => absurd (ev11.trans h9.1) (by assumption)⟩ | exact Or.inl ⟨rfl, by assumption, fun h9 => absurd h9.2 (Nat.not_le.mpr ((bl_b hTR hs0 hx1 hinA ev13).2.mp (by assumption)))⟩ | exact Or.inr ⟨rfl, A, hA1, hA8, (by rw [← hA6, ← ev11]; assumption), (by rw [← hA6]; exact Nat.not_lt.mp (fun h9 => absurd ((bl_b hTR hs0 hx1 hinA ev13).2.mpr h9) (by assumption)))⟩) (lv_sub hl [0, 1, 2, 3, 4] rfl)
  exact J7 _ ls v1 0 ⟨x1.toNatClampNeg + 1, by omega, (by rw [ev1]; have h9 := nI_succ x1.toNatClampNeg; rw [← vnI hx1] at h9; exact h9.symm), (by have := vix hx1; omega), Or.inl ⟨rfl, fun q h8 h9 => by omega⟩⟩ rfl (lv_sub hl [2, 3, 4, 1, 0] rfl)
theorem qw_e5f8ae1a74 : (Cond.constantLong R_Model 223 2147483647) ∈ bs_W0 := bs_in (in_tables_1_6 (List.mem_of_getElem? (i := 145) rfl)) rfl
theorem qw_730c3d130b : (Cond.constantLong R_Model 225 (-2147483647)) ∈ bs_W0 := bs_in (in_tables_1_6 (List.mem_of_getElem? (i := 146) rfl)) rfl
set_option maxHeartbeats 4000000 in
set_option maxRecDepth 100000 in
theorem m_integer (l : Launch) (γ : gE) (a : Nat) (B : Nat → Nat) (Z : Nat → Prop) (κ b mn : Nat → Nat) (ν : Nat → Int32) (τ : Nat → Nat → Int32) (σ : Nat → Int32) (F : Nat → Nat → Int32) (nu : Nat → Int64) (hT : ST κ b mn ν τ) (x1 : Int32) (x2 : Int32) (x3 : Int64) (hx1 : vp_in x1 (κ 0)) (hZ : SZ F) (hF : FD σ) : MU l yModel_integer bModel_integer 5 (some .int) 2 48 0 0 [.ref a, .int x1, .int x2, .long x3] γ Z (MD γ a B Z ν τ σ F nu) (mQi (fun r H => LKo γ a B Z ν τ x1.toNatClampNeg F nu r H) Z) := by
  refine mu_openI (by decide) (Nat.le_of_ble_eq_true rfl) ?_
  intro p e s m args below meth c ls Q S hnm hC hA hM hE hl
  have hS : va_S Z s.heap s.heap [] := va_S.rf
  obtain ⟨hx, hb, hml, hown, hW⟩ := id S
  obtain ⟨⟨hs0, hs1, hs2, hs3, hs4, hs5, hs6⟩, ⟨hv6, hv8, hv21, hv24, hv30, hv31⟩, hTR, hTY, hOB, hNM⟩ := id hT
  have hL : SL x1.toNatClampNeg F nu F nu := SL.rf
  have hl : lv_has ls 5 [(0, .ref a), (1, .int x1), (2, .int x2), (3, .long x3)] := hl
  refine lv_aload_n hx hb dModel_integer_0 rfl (lv_at hl 0 rfl) ?_
  refine lv_iload_n hx hb dModel_integer_1 rfl (lv_at hl 1 rfl) ?_
  refine lv_iconst (v := 2) hx hb dModel_integer_2 (by decide) ?_
  refine lv_iconst (v := 0) hx hb dModel_integer_3 (by decide) ?_
  refine lv_iload_n hx hb dModel_integer_4 rfl (lv_at hl 2 rfl) ?_
  have hnr1 : ∃ j, j ≤ 1000 ∧ 0 = nI j := ⟨0, by omega, rfl⟩
  refine mu_Vv (rest := []) S hC (fun q h => hA q (Nat.le_trans hS.1 h)) (fun q h => h) hS (m_fact l γ a B Z κ b mn ν τ σ F nu hT x1 2 0 x2 (vin (by assumption) (by omega)) hnr1) meModel_fact qw_02871250ec ⟨Nat.le_of_ble_eq_true rfl, Nat.le_of_ble_eq_true rfl⟩ (md_rv hC hM) hM rfl hl.1 rfl (Nat.le_of_ble_eq_true rfl) dModel_integer_5 ⟨Nat.le_refl _, Nat.le_refl _⟩ (fun H locs hPO hS _ _ => ?_)
  obtain ⟨Fr1, nur1, hM, hqr1, hcr1⟩ := hPO
  have hZ : SZ Fr1 := hZ.slt hqr1 hnr1
  have hL : SL x1.toNatClampNeg F nu Fr1 nur1 := hL.trans (SL.slt hqr1)
  have hK : GK x1.toNatClampNeg Fr1 nur1 := GK.zero hqr1
  refine lv_iload_n hx hb dModel_integer_8 rfl (lv_at hl 2 rfl) ?_
  refine lv_if_eq (tgt := 31) hx hb dModel_integer_9 (by decide) (fun c2 => ?_) (fun c2 => ?_)
  · refine lv_aload_n hx hb dModel_integer_31 rfl (lv_at hl 0 rfl) ?_
    refine md_gA S hC hM 13 (by decide) rfl qw_7b809afc8c dModel_integer_32 ?_
    refine lv_iload_n hx hb dModel_integer_35 rfl (lv_at hl 1 rfl) ?_
    refine lv_iload_n hx hb dModel_integer_36 rfl (lv_at hl 2 rfl) ?_
    refine lv_if_eq (tgt := 44) hx hb dModel_integer_37 (by decide) (fun c3 => ?_) (fun c3 => ?_)
    · refine lv_lconst (v := 0) hx hb dModel_integer_44 (by decide) ?_
      have hgnu4 : Fr1 9 x1.toNatClampNeg = 2 → -2147483648 < (0 : Int64).toInt ∧ (0 : Int64).toInt < 2147483648 := (fun _ => by first | contradiction | (constructor <;> decide) | exact ib_ok (by assumption) (by assumption) (by assumption) (by assumption))
      refine md_lst S hC hM hS (vin (by assumption) (by omega)) dModel_integer_45 (fun H locs hM hS => ?_)
      obtain ⟨nu4, enu4⟩ : ∃ z : Nat → Int64, z = vp_updL nur1 x1.toNatClampNeg 0 := ⟨_, rfl⟩
      rw [← enu4] at hM
      have hL : SL x1.toNatClampNeg F nu Fr1 nu4 := hL.trans (by rw [enu4]; exact SL.num)
      have hK : GK x1.toNatClampNeg Fr1 nu4 := by rw [enu4]; exact GK.num hgnu4
      refine lv_iconst (v := 0) hx hb dModel_integer_46 (by decide) ?_
      exact hE _ _ _ _ _ hS ⟨σ, Fr1, nu4, hM, hZ, hF, hL, (fun _ => hK)⟩ dModel_integer_47
    · refine lv_lload_n hx hb dModel_integer_40 rfl (lv_at hl 3 rfl) ?_
      refine lv_goto (tgt := 45) hx hb dModel_integer_41 (by decide) ?_
      have hgnu5 : Fr1 9 x1.toNatClampNeg = 2 → -2147483648 < (x3 : Int64).toInt ∧ (x3 : Int64).toInt < 2147483648 := (fun _ => by first | contradiction | (constructor <;> decide) | exact ib_ok (by assumption) (by assumption) (by assumption) (by assumption))
      refine md_lst S hC hM hS (vin (by assumption) (by omega)) dModel_integer_45 (fun H locs hM hS => ?_)
      obtain ⟨nu5, enu5⟩ : ∃ z : Nat → Int64, z = vp_updL nur1 x1.toNatClampNeg x3 := ⟨_, rfl⟩
      rw [← enu5] at hM
      have hL : SL x1.toNatClampNeg F nu Fr1 nu5 := hL.trans (by rw [enu5]; exact SL.num)
      have hK : GK x1.toNatClampNeg Fr1 nu5 := by rw [enu5]; exact GK.num hgnu5
      refine lv_iconst (v := 0) hx hb dModel_integer_46 (by decide) ?_
      exact hE _ _ _ _ _ hS ⟨σ, Fr1, nu5, hM, hZ, hF, hL, (fun _ => hK)⟩ dModel_integer_47
  · refine lv_lload_n hx hb dModel_integer_12 rfl (lv_at hl 3 rfl) ?_
    refine lv_ldc2 (v := 2147483647) hx hb hown (hW _ qw_e5f8ae1a74) dModel_integer_13 ?_
    refine W.lcmp hx hb dModel_integer_16 ?_
    refine lv_topi (fun v6 ev6 => ?_)
    refine lv_if_gt (tgt := 28) hx hb dModel_integer_17 (by decide) (fun c7 => ?_) (fun c7 => ?_)
    · refine lv_bipush (v := 9) hx hb dModel_integer_28 (by decide) ?_
      exact hE _ _ _ _ _ hS ⟨σ, Fr1, nur1, hM, hZ, hF, hL, (fun h9 => absurd (show (0 : Int32) < 9 by decide) h9)⟩ dModel_integer_30
    · refine lv_lload_n hx hb dModel_integer_20 rfl (lv_at hl 3 rfl) ?_
      refine lv_ldc2 (v := (-2147483647)) hx hb hown (hW _ qw_730c3d130b) dModel_integer_21 ?_
      refine W.lcmp hx hb dModel_integer_24 ?_
      refine lv_topi (fun v8 ev8 => ?_)
      refine lv_if_ge (tgt := 31) hx hb dModel_integer_25 (by decide) (fun c9 => ?_) (fun c9 => ?_)
      · refine lv_aload_n hx hb dModel_integer_31 rfl (lv_at hl 0 rfl) ?_
        refine md_gA S hC hM 13 (by decide) rfl qw_7b809afc8c dModel_integer_32 ?_
        refine lv_iload_n hx hb dModel_integer_35 rfl (lv_at hl 1 rfl) ?_
        refine lv_iload_n hx hb dModel_integer_36 rfl (lv_at hl 2 rfl) ?_
        refine lv_if_eq (tgt := 44) hx hb dModel_integer_37 (by decide) (fun c10 => ?_) (fun c10 => ?_)
        · refine lv_lconst (v := 0) hx hb dModel_integer_44 (by decide) ?_
          have hgnu11 : Fr1 9 x1.toNatClampNeg = 2 → -2147483648 < (0 : Int64).toInt ∧ (0 : Int64).toInt < 2147483648 := (fun _ => by first | contradiction | (constructor <;> decide) | exact ib_ok (by assumption) (by assumption) (by assumption) (by assumption))
          refine md_lst S hC hM hS (vin (by assumption) (by omega)) dModel_integer_45 (fun H locs hM hS => ?_)
          obtain ⟨nu11, enu11⟩ : ∃ z : Nat → Int64, z = vp_updL nur1 x1.toNatClampNeg 0 := ⟨_, rfl⟩
          rw [← enu11] at hM
          have hL : SL x1.toNatClampNeg F nu Fr1 nu11 := hL.trans (by rw [enu11]; exact SL.num)
          have hK : GK x1.toNatClampNeg Fr1 nu11 := by rw [enu11]; exact GK.num hgnu11
          refine lv_iconst (v := 0) hx hb dModel_integer_46 (by decide) ?_
          exact hE _ _ _ _ _ hS ⟨σ, Fr1, nu11, hM, hZ, hF, hL, (fun _ => hK)⟩ dModel_integer_47
        · refine lv_lload_n hx hb dModel_integer_40 rfl (lv_at hl 3 rfl) ?_
          refine lv_goto (tgt := 45) hx hb dModel_integer_41 (by decide) ?_
          have hgnu12 : Fr1 9 x1.toNatClampNeg = 2 → -2147483648 < (x3 : Int64).toInt ∧ (x3 : Int64).toInt < 2147483648 := (fun _ => by first | contradiction | (constructor <;> decide) | exact ib_ok (by assumption) (by assumption) (by assumption) (by assumption))
          refine md_lst S hC hM hS (vin (by assumption) (by omega)) dModel_integer_45 (fun H locs hM hS => ?_)
          obtain ⟨nu12, enu12⟩ : ∃ z : Nat → Int64, z = vp_updL nur1 x1.toNatClampNeg x3 := ⟨_, rfl⟩
          rw [← enu12] at hM
          have hL : SL x1.toNatClampNeg F nu Fr1 nu12 := hL.trans (by rw [enu12]; exact SL.num)
          have hK : GK x1.toNatClampNeg Fr1 nu12 := by rw [enu12]; exact GK.num hgnu12
          refine lv_iconst (v := 0) hx hb dModel_integer_46 (by decide) ?_
          exact hE _ _ _ _ _ hS ⟨σ, Fr1, nu12, hM, hZ, hF, hL, (fun _ => hK)⟩ dModel_integer_47
      · refine lv_bipush (v := 9) hx hb dModel_integer_28 (by decide) ?_
        exact hE _ _ _ _ _ hS ⟨σ, Fr1, nur1, hM, hZ, hF, hL, (fun h9 => absurd (show (0 : Int32) < 9 by decide) h9)⟩ dModel_integer_30
