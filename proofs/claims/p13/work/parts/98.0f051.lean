def Q_within (κ : Nat → Nat) (τ : gf) (σ : Nat → Int32) (F : gf) (nu : gg) (x1 : Int32) (x2 : Int64) : Int32 := (if (lg_cmp x2 ((if (τ 18 x1.toNatClampNeg) < (τ 17 x1.toNatClampNeg) then (τ 18 x1.toNatClampNeg) else (τ 17 x1.toNatClampNeg)).toInt64)) < 0 then 0 else (if 0 < (lg_cmp x2 ((if (τ 17 x1.toNatClampNeg) < (τ 18 x1.toNatClampNeg) then (τ 18 x1.toNatClampNeg) else (τ 17 x1.toNatClampNeg)).toInt64)) then 0 else 1))
set_option maxHeartbeats 4000000 in
set_option maxRecDepth 100000 in
theorem n_within (l : Launch) (γ : gE) (a : Nat) (B : Nat → Nat) (Z : Nat → Prop) (κ b mn : Nat → Nat) (ν : Nat → Int32) (τ : Nat → Nat → Int32) (σ : Nat → Int32) (F : Nat → Nat → Int32) (nu : Nat → Int64) (hT : ST κ b mn ν τ) (x1 : Int32) (x2 : Int64) (hx1 : vp_in x1 (1000)) : PU l yModel_within bModel_within 4 (some .boolean) 1 15 [.ref a, .int x1, .long x2] γ (MD γ a B Z ν τ σ F nu) (vp_Si (fun v : Int32 => (v = 0 ∨ ∀ lo hi : Nat, τ 17 x1.toNatClampNeg = nI lo → τ 18 x1.toNatClampNeg = nI hi → lo < 2 ^ 31 → hi < 2 ^ 31 → (lo : Int) ≤ x2.toInt ∧ x2.toInt ≤ (hi : Int) ∨ (hi : Int) ≤ x2.toInt ∧ x2.toInt ≤ (lo : Int)) ∧ v = Q_within κ τ σ F nu x1 x2)) := by
  refine pu_openZ (by decide) (Nat.le_of_ble_eq_true rfl) ?_
  intro p e s m args below meth c ls Q S hC hM hE hl
  obtain ⟨hx, hb, hml, hown, hW⟩ := id S
  obtain ⟨⟨hs0, hs1, hs2, hs3, hs4, hs5, hs6⟩, ⟨hv6, hv8, hv21, hv24, hv30, hv31⟩, hTR, hTY, hOB, hNM⟩ := id hT
  have hl : lv_has ls 4 [(0, .ref a), (1, .int x1), (2, .long x2)] := hl
  obtain ⟨OUT, hQ, hO⟩ : ∃ z, (z = Q_within κ τ σ F nu x1 x2) ∧ Oq z (Q_within κ τ σ F nu x1 x2) := ⟨_, rfl, rfl⟩
  rw [← hQ] at hE
  clear hQ
  refine lv_lload_n hx hb dModel_within_0 rfl (lv_at hl 2 rfl) ?_
  refine lv_aload_n hx hb dModel_within_1 rfl (lv_at hl 0 rfl) ?_
  refine md_gA S hC hM 17 (by decide) rfl qw_94306de345 dModel_within_2 ?_
  refine lv_iload_n hx hb dModel_within_5 rfl (lv_at hl 1 rfl) ?_
  refine md_ild S hC hM 17 13 1000 (τ 17) rfl rfl (by decide) rfl rfl (vin (by assumption) (by omega)) dModel_within_6 ?_
  refine lv_topi (fun v1 ev1 => ?_)
  refine lv_aload_n hx hb dModel_within_7 rfl (lv_at hl 0 rfl) ?_
  refine md_gA S hC hM 18 (by decide) rfl qw_82ee92f611 dModel_within_8 ?_
  refine lv_iload_n hx hb dModel_within_11 rfl (lv_at hl 1 rfl) ?_
  refine md_ild S hC hM 18 14 1000 (τ 18) rfl rfl (by decide) rfl rfl (vin (by assumption) (by omega)) dModel_within_12 ?_
  refine lv_topi (fun v2 ev2 => ?_)
  refine va_mmin (rest := [.long x2]) hx hb (hml.trans hl.1.symm) hown (hW _ qw_31ea7262cf) (hW _ qw_1a05fe5770) (hW _ qw_0001fcaade) (hW _ qw_5e99ca5e66) (Nat.le_of_ble_eq_true rfl) (Nat.le_of_ble_eq_true rfl) (Nat.zero_le _) (Nat.zero_le _) dModel_within_13 ?_
  refine lv_topi (fun v3 ev3 => ?_)
  refine lv_i2l hx hb dModel_within_16 rfl ?_
  refine lv_topl (fun v4 ev4 => ?_)
  refine W.lcmp hx hb dModel_within_17 ?_
  refine lv_topi (fun v5 ev5 => ?_)
  refine lv_if_lt (tgt := 46) hx hb dModel_within_18 (by decide) (fun c6 => ?_) (fun c6 => ?_)
  · refine lv_iconst (v := 0) hx hb dModel_within_46 (by decide) ?_
    exact hE _ _ _ rfl ⟨(Or.inl rfl), (by subst ev5 ev4 ev3 ev2 ev1; exact (hO.tr (if_pos c6)).symm)⟩ dModel_within_47
  · refine lv_lload_n hx hb dModel_within_21 rfl (lv_at hl 2 rfl) ?_
    refine lv_aload_n hx hb dModel_within_22 rfl (lv_at hl 0 rfl) ?_
    refine md_gA S hC hM 17 (by decide) rfl qw_94306de345 dModel_within_23 ?_
    refine lv_iload_n hx hb dModel_within_26 rfl (lv_at hl 1 rfl) ?_
    refine md_ild S hC hM 17 13 1000 (τ 17) rfl rfl (by decide) rfl rfl (vin (by assumption) (by omega)) dModel_within_27 ?_
    refine lv_topi (fun v7 ev7 => ?_)
    refine lv_aload_n hx hb dModel_within_28 rfl (lv_at hl 0 rfl) ?_
    refine md_gA S hC hM 18 (by decide) rfl qw_82ee92f611 dModel_within_29 ?_
    refine lv_iload_n hx hb dModel_within_32 rfl (lv_at hl 1 rfl) ?_
    refine md_ild S hC hM 18 14 1000 (τ 18) rfl rfl (by decide) rfl rfl (vin (by assumption) (by omega)) dModel_within_33 ?_
    refine lv_topi (fun v8 ev8 => ?_)
    refine va_mmax (rest := [.long x2]) hx hb (hml.trans hl.1.symm) hown (hW _ qw_f0aff25a97) (hW _ qw_7cc87a9f9b) (hW _ qw_0001fcaade) (hW _ qw_6b973c1ba4) (Nat.le_of_ble_eq_true rfl) (Nat.le_of_ble_eq_true rfl) (Nat.zero_le _) (Nat.zero_le _) dModel_within_34 ?_
    refine lv_topi (fun v9 ev9 => ?_)
    refine lv_i2l hx hb dModel_within_37 rfl ?_
    refine lv_topl (fun v10 ev10 => ?_)
    refine W.lcmp hx hb dModel_within_38 ?_
    refine lv_topi (fun v11 ev11 => ?_)
    refine lv_if_gt (tgt := 46) hx hb dModel_within_39 (by decide) (fun c12 => ?_) (fun c12 => ?_)
    · refine lv_iconst (v := 0) hx hb dModel_within_46 (by decide) ?_
      exact hE _ _ _ rfl ⟨(Or.inl rfl), (by subst ev11 ev10 ev9 ev8 ev7 ev5 ev4 ev3 ev2 ev1; exact (hO.tr ((if_neg c6).trans (if_pos c12))).symm)⟩ dModel_within_47
    · refine lv_iconst (v := 1) hx hb dModel_within_42 (by decide) ?_
      refine lv_goto (tgt := 47) hx hb dModel_within_43 (by decide) ?_
      exact hE _ _ _ rfl ⟨(Or.inr (wi_ok ev1 ev2 ev7 ev8 ev3 ev9 ev4 ev10 ev5 (by assumption) ev11 (by assumption))), (by subst ev11 ev10 ev9 ev8 ev7 ev5 ev4 ev3 ev2 ev1; exact (hO.tr ((if_neg c6).trans (if_neg c12))).symm)⟩ dModel_within_47
def Q_fits_117 (κ : Nat → Nat) (τ : gf) (σ : Nat → Int32) (F : gf) (nu : gg) (x1 : Int32) (x2 : Int32) : Int32 := 8
def Q_fits_64 (κ : Nat → Nat) (τ : gf) (σ : Nat → Int32) (F : gf) (nu : gg) (x1 : Int32) (x2 : Int32) : Int32 := (if (F 9 x1.toNatClampNeg) = 2 then (if (F 11 x1.toNatClampNeg) = 0 then 0 else (if (lg_cmp (nu x1.toNatClampNeg) ((τ 17 x2.toNatClampNeg).toInt64)) < 0 then (Q_fits_117 κ τ σ F nu x1 x2  ) else (if (lg_cmp (nu x1.toNatClampNeg) ((τ 18 x2.toNatClampNeg).toInt64)) ≤ 0 then 0 else (Q_fits_117 κ τ σ F nu x1 x2  )))) else 0)
def Q_fits_37 (κ : Nat → Nat) (τ : gf) (σ : Nat → Int32) (F : gf) (nu : gg) (x1 : Int32) (x2 : Int32) : Int32 := (if (F 9 x1.toNatClampNeg) = 3 then (if (F 10 x1.toNatClampNeg) = (τ 19 x2.toNatClampNeg) then (Q_fits_64 κ τ σ F nu x1 x2  ) else 4) else (Q_fits_64 κ τ σ F nu x1 x2  ))
def Q_fits (κ : Nat → Nat) (τ : gf) (σ : Nat → Int32) (F : gf) (nu : gg) (x1 : Int32) (x2 : Int32) : Int32 := (if (F 9 x1.toNatClampNeg) = (τ 16 x2.toNatClampNeg) then (if (F 9 x1.toNatClampNeg) = 4 then (if (F 10 x1.toNatClampNeg) = x2 then (Q_fits_37 κ τ σ F nu x1 x2  ) else 3) else (Q_fits_37 κ τ σ F nu x1 x2  )) else 3)
set_option maxHeartbeats 4000000 in
set_option maxRecDepth 100000 in
theorem n_fits (l : Launch) (γ : gE) (a : Nat) (B : Nat → Nat) (Z : Nat → Prop) (κ b mn : Nat → Nat) (ν : Nat → Int32) (τ : Nat → Nat → Int32) (σ : Nat → Int32) (F : Nat → Nat → Int32) (nu : Nat → Int64) (hT : ST κ b mn ν τ) (x1 : Int32) (x2 : Int32) (hx1 : vp_in x1 (4000)) (hx2 : vp_in x2 (1000)) : PU l yModel_fits bModel_fits 3 (some .int) 0 0 [.ref a, .int x1, .int x2] γ (MD γ a B Z ν τ σ F nu) (vp_Si (fun v : Int32 => (True) ∧ v = Q_fits κ τ σ F nu x1 x2)) := by
  refine pu_openI (by decide) (Nat.le_of_ble_eq_true rfl) ?_
  intro p e s m args below meth c ls Q S hC hM hE hl
  obtain ⟨hx, hb, hml, hown, hW⟩ := id S
  obtain ⟨⟨hs0, hs1, hs2, hs3, hs4, hs5, hs6⟩, ⟨hv6, hv8, hv21, hv24, hv30, hv31⟩, hTR, hTY, hOB, hNM⟩ := id hT
  have hl : lv_has ls 3 [(0, .ref a), (1, .int x1), (2, .int x2)] := hl
  obtain ⟨OUT, hQ, hO⟩ : ∃ z, (z = Q_fits κ τ σ F nu x1 x2) ∧ Oq z (Q_fits κ τ σ F nu x1 x2) := ⟨_, rfl, rfl⟩
  rw [← hQ] at hE
  clear hQ
  refine lv_aload_n hx hb dModel_fits_0 rfl (lv_at hl 0 rfl) ?_
  refine md_gA S hC hM 9 (by decide) rfl qw_a119aeeca0 dModel_fits_1 ?_
  refine lv_iload_n hx hb dModel_fits_4 rfl (lv_at hl 1 rfl) ?_
  refine md_ild S hC hM 9 5 10000 (F 9) rfl rfl (by decide) rfl rfl (vin (by assumption) (by omega)) dModel_fits_5 ?_
  refine lv_topi (fun v1 ev1 => ?_)
  refine lv_aload_n hx hb dModel_fits_6 rfl (lv_at hl 0 rfl) ?_
  refine md_gA S hC hM 16 (by decide) rfl qw_9bd8ea24bb dModel_fits_7 ?_
  refine lv_iload_n hx hb dModel_fits_10 rfl (lv_at hl 2 rfl) ?_
  refine md_ild S hC hM 16 12 1000 (τ 16) rfl rfl (by decide) rfl rfl (vin (by assumption) (by omega)) dModel_fits_11 ?_
  refine lv_topi (fun v2 ev2 => ?_)
  refine lv_icmp_ne (tgt := 35) hx hb dModel_fits_12 (by decide) (fun c3 => ?_) (fun c3 => ?_)
  · refine lv_iconst (v := 3) hx hb dModel_fits_35 (by decide) ?_
    exact hE _ _ _ ⟨trivial, (by subst ev2 ev1; exact (hO.tr (if_neg c3)).symm)⟩ dModel_fits_36
  · refine lv_aload_n hx hb dModel_fits_15 rfl (lv_at hl 0 rfl) ?_
    refine md_gA S hC hM 9 (by decide) rfl qw_a119aeeca0 dModel_fits_16 ?_
    refine lv_iload_n hx hb dModel_fits_19 rfl (lv_at hl 1 rfl) ?_
    refine md_ild S hC hM 9 5 10000 (F 9) rfl rfl (by decide) rfl rfl (vin (by assumption) (by omega)) dModel_fits_20 ?_
    refine lv_topi (fun v4 ev4 => ?_)
    refine lv_iconst (v := 4) hx hb dModel_fits_21 (by decide) ?_
    have J37 : ∀ (ls : Array Slot), (Oq OUT (Q_fits_37 κ τ σ F nu x1 x2   )) → lv_has ls 3 [(0, .ref a), (1, .int x1), (2, .int x2)] → W p l e (bs_rm 0 0 0 0) s m args below meth c s.heap [] 0 0 Q (F0 m 37 ls []) := by
      intro ls hO hl
      refine lv_aload_n hx hb dModel_fits_37 rfl (lv_at hl 0 rfl) ?_
      refine md_gA S hC hM 9 (by decide) rfl qw_a119aeeca0 dModel_fits_38 ?_
      refine lv_iload_n hx hb dModel_fits_41 rfl (lv_at hl 1 rfl) ?_
      refine md_ild S hC hM 9 5 10000 (F 9) rfl rfl (by decide) rfl rfl (vin (by assumption) (by omega)) dModel_fits_42 ?_
      refine lv_topi (fun v27 ev27 => ?_)
      refine lv_iconst (v := 3) hx hb dModel_fits_43 (by decide) ?_
      have J64 : ∀ (ls : Array Slot), (Oq OUT (Q_fits_64 κ τ σ F nu x1 x2   )) → lv_has ls 3 [(0, .ref a), (1, .int x1), (2, .int x2)] → W p l e (bs_rm 0 0 0 0) s m args below meth c s.heap [] 0 0 Q (F0 m 64 ls []) := by
        intro ls hO hl
        refine lv_aload_n hx hb dModel_fits_64 rfl (lv_at hl 0 rfl) ?_
        refine md_gA S hC hM 9 (by decide) rfl qw_a119aeeca0 dModel_fits_65 ?_
        refine lv_iload_n hx hb dModel_fits_68 rfl (lv_at hl 1 rfl) ?_
        refine md_ild S hC hM 9 5 10000 (F 9) rfl rfl (by decide) rfl rfl (vin (by assumption) (by omega)) dModel_fits_69 ?_
        refine lv_topi (fun v46 ev46 => ?_)
        refine lv_iconst (v := 2) hx hb dModel_fits_70 (by decide) ?_
        refine lv_icmp_ne (tgt := 122) hx hb dModel_fits_71 (by decide) (fun c47 => ?_) (fun c47 => ?_)
        · refine lv_iconst (v := 0) hx hb dModel_fits_122 (by decide) ?_
          exact hE _ _ _ ⟨trivial, (by subst ev46 ev27 ev4 ev2 ev1; exact (hO.tr (if_neg c47)).symm)⟩ dModel_fits_123
        · refine lv_aload_n hx hb dModel_fits_74 rfl (lv_at hl 0 rfl) ?_
          refine md_gA S hC hM 11 (by decide) rfl qw_88b9028ba7 dModel_fits_75 ?_
          refine lv_iload_n hx hb dModel_fits_78 rfl (lv_at hl 1 rfl) ?_
          refine md_zld S hC hM 11 7 10000 (F 11) rfl rfl (by decide) rfl rfl (vin (by assumption) (by omega)) dModel_fits_79 ?_
          refine lv_topi (fun v48 ev48 => ?_)
          refine lv_if_eq (tgt := 122) hx hb dModel_fits_80 (by decide) (fun c49 => ?_) (fun c49 => ?_)
          · refine lv_iconst (v := 0) hx hb dModel_fits_122 (by decide) ?_
            exact hE _ _ _ ⟨trivial, (by subst ev48 ev46 ev27 ev4 ev2 ev1; exact (hO.tr ((if_pos c47).trans (if_pos c49))).symm)⟩ dModel_fits_123
          · refine lv_aload_n hx hb dModel_fits_83 rfl (lv_at hl 0 rfl) ?_
            refine md_gA S hC hM 13 (by decide) rfl qw_7b809afc8c dModel_fits_84 ?_
            refine lv_iload_n hx hb dModel_fits_87 rfl (lv_at hl 1 rfl) ?_
            refine md_lld S hC hM (vin (by assumption) (by omega)) dModel_fits_88 ?_
            refine lv_topl (fun v50 ev50 => ?_)
            have ev50 : v50 = nu x1.toNatClampNeg := ev50
            refine lv_aload_n hx hb dModel_fits_89 rfl (lv_at hl 0 rfl) ?_
            refine md_gA S hC hM 17 (by decide) rfl qw_94306de345 dModel_fits_90 ?_
            refine lv_iload_n hx hb dModel_fits_93 rfl (lv_at hl 2 rfl) ?_
            refine md_ild S hC hM 17 13 1000 (τ 17) rfl rfl (by decide) rfl rfl (vin (by assumption) (by omega)) dModel_fits_94 ?_
            refine lv_topi (fun v51 ev51 => ?_)
            refine lv_i2l hx hb dModel_fits_95 rfl ?_
            refine lv_topl (fun v52 ev52 => ?_)
            refine W.lcmp hx hb dModel_fits_96 ?_
            refine lv_topi (fun v53 ev53 => ?_)
            have J117 : ∀ (ls : Array Slot), (Oq OUT (Q_fits_117 κ τ σ F nu x1 x2   )) → lv_has ls 3 [(0, .ref a), (1, .int x1), (2, .int x2)] → W p l e (bs_rm 0 0 0 0) s m args below meth c s.heap [] 0 0 Q (F0 m 117 ls []) := by
              intro ls hO hl
              refine lv_bipush (v := 8) hx hb dModel_fits_117 (by decide) ?_
              refine lv_goto (tgt := 123) hx hb dModel_fits_119 (by decide) ?_
              exact hE _ _ _ ⟨trivial, (by subst ev53 ev52 ev51 ev50 ev48 ev46 ev27 ev4 ev2 ev1; exact (hO.tr rfl).symm)⟩ dModel_fits_123
            refine lv_if_lt (tgt := 117) hx hb dModel_fits_97 (by decide) (fun c60 => ?_) (fun c60 => ?_)
            · exact J117 ls (by subst ev53 ev52 ev51 ev50 ev48 ev46 ev27 ev4 ev2 ev1; exact hO.tr ((if_pos c47).trans ((if_neg c49).trans (if_pos c60)))) (lv_sub hl [0, 1, 2] rfl)
            · refine lv_aload_n hx hb dModel_fits_100 rfl (lv_at hl 0 rfl) ?_
              refine md_gA S hC hM 13 (by decide) rfl qw_7b809afc8c dModel_fits_101 ?_
              refine lv_iload_n hx hb dModel_fits_104 rfl (lv_at hl 1 rfl) ?_
              refine md_lld S hC hM (vin (by assumption) (by omega)) dModel_fits_105 ?_
              refine lv_topl (fun v61 ev61 => ?_)
              have ev61 : v61 = nu x1.toNatClampNeg := ev61
              refine lv_aload_n hx hb dModel_fits_106 rfl (lv_at hl 0 rfl) ?_
              refine md_gA S hC hM 18 (by decide) rfl qw_82ee92f611 dModel_fits_107 ?_
              refine lv_iload_n hx hb dModel_fits_110 rfl (lv_at hl 2 rfl) ?_
              refine md_ild S hC hM 18 14 1000 (τ 18) rfl rfl (by decide) rfl rfl (vin (by assumption) (by omega)) dModel_fits_111 ?_
              refine lv_topi (fun v62 ev62 => ?_)
              refine lv_i2l hx hb dModel_fits_112 rfl ?_
              refine lv_topl (fun v63 ev63 => ?_)
              refine W.lcmp hx hb dModel_fits_113 ?_
              refine lv_topi (fun v64 ev64 => ?_)
              refine lv_if_le (tgt := 122) hx hb dModel_fits_114 (by decide) (fun c65 => ?_) (fun c65 => ?_)
              · refine lv_iconst (v := 0) hx hb dModel_fits_122 (by decide) ?_
                exact hE _ _ _ ⟨trivial, (by subst ev64 ev63 ev62 ev61 ev53 ev52 ev51 ev50 ev48 ev46 ev27 ev4 ev2 ev1; exact (hO.tr ((if_pos c47).trans ((if_neg c49).trans ((if_neg c60).trans (if_pos c65))))).symm)⟩ dModel_fits_123
              · exact J117 ls (by subst ev64 ev63 ev62 ev61 ev53 ev52 ev51 ev50 ev48 ev46 ev27 ev4 ev2 ev1; exact hO.tr ((if_pos c47).trans ((if_neg c49).trans ((if_neg c60).trans (if_neg c65))))) (lv_sub hl [0, 1, 2] rfl)
      refine lv_icmp_ne (tgt := 64) hx hb dModel_fits_44 (by decide) (fun c66 => ?_) (fun c66 => ?_)
      · exact J64 ls (by subst ev27 ev4 ev2 ev1; exact hO.tr (if_neg c66)) (lv_sub hl [0, 1, 2] rfl)
      · refine lv_aload_n hx hb dModel_fits_47 rfl (lv_at hl 0 rfl) ?_
        refine md_gA S hC hM 10 (by decide) rfl qw_bd0251c605 dModel_fits_48 ?_
        refine lv_iload_n hx hb dModel_fits_51 rfl (lv_at hl 1 rfl) ?_
        refine md_ild S hC hM 10 6 10000 (F 10) rfl rfl (by decide) rfl rfl (vin (by assumption) (by omega)) dModel_fits_52 ?_
        refine lv_topi (fun v67 ev67 => ?_)
        refine lv_aload_n hx hb dModel_fits_53 rfl (lv_at hl 0 rfl) ?_
        refine md_gA S hC hM 19 (by decide) rfl qw_c139dbceda dModel_fits_54 ?_
        refine lv_iload_n hx hb dModel_fits_57 rfl (lv_at hl 2 rfl) ?_
        refine md_ild S hC hM 19 15 1000 (τ 19) rfl rfl (by decide) rfl rfl (vin (by assumption) (by omega)) dModel_fits_58 ?_
        refine lv_topi (fun v68 ev68 => ?_)
        refine lv_icmp_eq (tgt := 64) hx hb dModel_fits_59 (by decide) (fun c69 => ?_) (fun c69 => ?_)
        · exact J64 ls (by subst ev68 ev67 ev27 ev4 ev2 ev1; exact hO.tr ((if_pos c66).trans (if_pos c69))) (lv_sub hl [0, 1, 2] rfl)
        · refine lv_iconst (v := 4) hx hb dModel_fits_62 (by decide) ?_
          exact hE _ _ _ ⟨trivial, (by subst ev68 ev67 ev27 ev4 ev2 ev1; exact (hO.tr ((if_pos c66).trans (if_neg c69))).symm)⟩ dModel_fits_63
    refine lv_icmp_ne (tgt := 37) hx hb dModel_fits_22 (by decide) (fun c70 => ?_) (fun c70 => ?_)
    · exact J37 ls (by subst ev4 ev2 ev1; exact hO.tr ((if_pos c3).trans (if_neg c70))) (lv_sub hl [0, 1, 2] rfl)
    · refine lv_aload_n hx hb dModel_fits_25 rfl (lv_at hl 0 rfl) ?_
      refine md_gA S hC hM 10 (by decide) rfl qw_bd0251c605 dModel_fits_26 ?_
      refine lv_iload_n hx hb dModel_fits_29 rfl (lv_at hl 1 rfl) ?_
      refine md_ild S hC hM 10 6 10000 (F 10) rfl rfl (by decide) rfl rfl (vin (by assumption) (by omega)) dModel_fits_30 ?_
      refine lv_topi (fun v71 ev71 => ?_)
      refine lv_iload_n hx hb dModel_fits_31 rfl (lv_at hl 2 rfl) ?_
      refine lv_icmp_eq (tgt := 37) hx hb dModel_fits_32 (by decide) (fun c72 => ?_) (fun c72 => ?_)
      · exact J37 ls (by subst ev71 ev4 ev2 ev1; exact hO.tr ((if_pos c3).trans ((if_pos c70).trans (if_pos c72)))) (lv_sub hl [0, 1, 2] rfl)
      · refine lv_iconst (v := 3) hx hb dModel_fits_35 (by decide) ?_
        exact hE _ _ _ ⟨trivial, (by subst ev71 ev4 ev2 ev1; exact (hO.tr ((if_pos c3).trans ((if_pos c70).trans (if_neg c72)))).symm)⟩ dModel_fits_36
def Q_below_45 (κ : Nat → Nat) (τ : gf) (σ : Nat → Int32) (F : gf) (nu : gg) (x1 : Int32) (x2 : Int32) (i4_7 : Int32) (i3_7 : Int32) (k7 : Int32 → Int32 → Int32) (t0_45 : Int32) : Int32 := (k7 (i4_7 + 1) t0_45)
def Q_below_7 (κ : Nat → Nat) (τ : gf) (σ : Nat → Int32) (F : gf) (nu : gg) (x1 : Int32) (x2 : Int32) : Nat → Int32 → Int32 → Int32
  | 0, _, _ => default
  | n + 1, i4_7, i3_7 => (if x2 < i4_7 then i3_7 else (if i3_7 = 0 then (if (τ 2 i4_7.toNatClampNeg) = 25 then (if x1 < (τ 5 i4_7.toNatClampNeg) then (Q_below_45 κ τ σ F nu x1 x2 i4_7 i3_7 (fun a0 a1 => Q_below_7 κ τ σ F nu x1 x2  n a0 a1) 0) else (Q_below_45 κ τ σ F nu x1 x2 i4_7 i3_7 (fun a0 a1 => Q_below_7 κ τ σ F nu x1 x2  n a0 a1) 1)) else (Q_below_45 κ τ σ F nu x1 x2 i4_7 i3_7 (fun a0 a1 => Q_below_7 κ τ σ F nu x1 x2  n a0 a1) 0)) else (Q_below_45 κ τ σ F nu x1 x2 i4_7 i3_7 (fun a0 a1 => Q_below_7 κ τ σ F nu x1 x2  n a0 a1) 1)))
def Q_below (κ : Nat → Nat) (τ : gf) (σ : Nat → Int32) (F : gf) (nu : gg) (x1 : Int32) (x2 : Int32) : Int32 := (Q_below_7 κ τ σ F nu x1 x2  ((2147483647 - (x1 + 1).toInt).toNat + 1) (x1 + 1) 0)
set_option maxHeartbeats 4000000 in
set_option maxRecDepth 100000 in
theorem n_below (l : Launch) (γ : gE) (a : Nat) (B : Nat → Nat) (Z : Nat → Prop) (κ b mn : Nat → Nat) (ν : Nat → Int32) (τ : Nat → Nat → Int32) (σ : Nat → Int32) (F : Nat → Nat → Int32) (nu : Nat → Int64) (hT : ST κ b mn ν τ) (x1 : Int32) (x2 : Int32) (hx1 : vp_in x1 (κ 0)) (hx2 : x2.toInt < (κ 0 : Int)) : PU l yModel_below bModel_below 5 (some .boolean) 0 0 [.ref a, .int x1, .int x2] γ (MD γ a B Z ν τ σ F nu) (vp_Si (fun v : Int32 => ((v = 0 ∧ ¬ hid τ b x1.toNatClampNeg x2.toNatClampNeg) ∨ (v = 1 ∧ hid τ b x1.toNatClampNeg x2.toNatClampNeg)) ∧ v = Q_below κ τ σ F nu x1 x2)) := by
  refine pu_openZ (by decide) (Nat.le_of_ble_eq_true rfl) ?_
  intro p e s m args below meth c ls Q S hC hM hE hl
  obtain ⟨hx, hb, hml, hown, hW⟩ := id S
  obtain ⟨⟨hs0, hs1, hs2, hs3, hs4, hs5, hs6⟩, ⟨hv6, hv8, hv21, hv24, hv30, hv31⟩, hTR, hTY, hOB, hNM⟩ := id hT
  have hl : lv_has ls 5 [(0, .ref a), (1, .int x1), (2, .int x2)] := hl
  obtain ⟨OUT, hQ, hO⟩ : ∃ z, (z = Q_below κ τ σ F nu x1 x2) ∧ Oq z (Q_below κ τ σ F nu x1 x2) := ⟨_, rfl, rfl⟩
  rw [← hQ] at hE
  clear hQ
  refine lv_iconst (v := 0) hx hb dModel_below_0 (by decide) ?_
  refine lv_istore_n (lv' := [(3, .int 0), (0, .ref a), (1, .int x1), (2, .int x2)]) hx hb dModel_below_1 rfl hl (by decide) rfl (fun ls hl => ?_)
  refine lv_iload_n hx hb dModel_below_2 rfl (lv_at hl 2 rfl) ?_
  refine lv_iconst (v := 1) hx hb dModel_below_3 (by decide) ?_
  refine lv_iadd hx hb dModel_below_4 ?_
  refine lv_topi (fun v1 ev1 => ?_)
  refine lv_istore (lv' := [(4, .int v1), (3, .int 0), (0, .ref a), (1, .int x1), (2, .int x2)]) hx hb dModel_below_5 hl (by decide) rfl (fun ls hl => ?_)
  have J7 : ∀ (N7 : Nat) (ls : Array Slot) (i4_7 : Int32) (i3_7 : Int32), (∃ A, x1.toNatClampNeg < A ∧ i4_7 = nI A ∧ A ≤ 4000 ∧ ((i3_7 = 0 ∧ ∀ q, x1.toNatClampNeg < q → q < A → ¬ (τ 2 q = 25 ∧ b q ≤ x1.toNatClampNeg)) ∨ (i3_7 = 1 ∧ hid τ b x1.toNatClampNeg x2.toNatClampNeg))) → (Oq OUT (Q_below_7 κ τ σ F nu x1 x2  (N7 + 1) i4_7 i3_7)) → (2147483647 - i4_7.toInt).toNat = N7 → lv_has ls 5 [(0, .ref a), (1, .int x1), (2, .int x2), (3, .int i3_7), (4, .int i4_7)] → W p l e (bs_rm 0 0 0 0) s m args below meth c s.heap [] 0 0 Q (F0 m 7 ls []) := by
    intro N7
    induction N7 using Nat.strongRecOn with
    | ind N7 ih7 =>
      intro ls i4_7 i3_7 hbl hO hm7 hl
      refine lv_iload hx hb dModel_below_7 (lv_at hl 4 rfl) ?_
      refine lv_iload_n hx hb dModel_below_9 rfl (lv_at hl 2 rfl) ?_
      refine lv_icmp_gt (tgt := 52) hx hb dModel_below_10 (by decide) (fun c2 => ?_) (fun c2 => ?_)
      · obtain ⟨A, hA1, hA2, hA3, hA4⟩ := hbl
        refine lv_iload_n hx hb dModel_below_52 rfl (lv_at hl 3 rfl) ?_
        exact hE _ _ _ (bl_z hA4) ⟨(bl_end hA4 hA1 hA2 hA3 (by assumption)), (by subst ev1; exact (hO.tr (if_pos c2)).symm)⟩ dModel_below_53
      · obtain ⟨A, hA1, hA2, hA3, hA4⟩ := hbl
        have hAi : (nI A).toInt = (A : Int) := nI_toInt (by omega)
        have hle : i4_7.toInt ≤ x2.toInt := i_le (by assumption)
        have hinA : vp_in i4_7 (κ 0) := (by rw [hA2]; rw [hA2] at hle; exact vp_in_nI (by omega) (by omega))
        have hA6 : i4_7.toNatClampNeg = A := (by rw [hA2]; exact nI_clamp (by omega))
        have hlt4 : i4_7.toInt < 2147483647 := by omega
        have hA8 : A ≤ x2.toNatClampNeg := (by rw [← hA6]; exact bl_8 hinA hle hx2)
        refine lv_iload_n hx hb dModel_below_13 rfl (lv_at hl 3 rfl) ?_
        have J45 : ∀ (ls : Array Slot) (t0_45 : Int32), ((t0_45 = 0 ∧ i3_7 = 0 ∧ ¬ (τ 2 i4_7.toNatClampNeg = 25 ∧ b i4_7.toNatClampNeg ≤ x1.toNatClampNeg)) ∨ (t0_45 = 1 ∧ hid τ b x1.toNatClampNeg x2.toNatClampNeg)) → (Oq OUT (Q_below_45 κ τ σ F nu x1 x2 i4_7 i3_7 (fun a0 a1 => Q_below_7 κ τ σ F nu x1 x2  N7 a0 a1)  t0_45)) → lv_has ls 5 [(0, .ref a), (1, .int x1), (2, .int x2), (3, .int i3_7), (4, .int i4_7)] → W p l e (bs_rm 0 0 0 0) s m args below meth c s.heap [] 0 0 Q (F0 m 45 ls [.int t0_45]) := by
          intro ls t0_45 h45 hO hl
          refine lv_istore_n (lv' := [(3, .int t0_45), (0, .ref a), (1, .int x1), (2, .int x2), (4, .int i4_7)]) hx hb dModel_below_45 rfl hl (by decide) rfl (fun ls hl => ?_)
          obtain ⟨v9, ev9⟩ : ∃ y : Int32, y = i4_7 + 1 := ⟨_, rfl⟩
          refine lv_iinc (v := v9) (lv' := [(4, .int v9), (3, .int t0_45), (0, .ref a), (1, .int x1), (2, .int x2)]) hx hb dModel_below_46 hl (k := 4) rfl (by rw [ev9]; rfl) (by decide) rfl (fun ls hl => ?_)
          refine lv_goto (tgt := 7) hx hb dModel_below_49 (by decide) ?_
          exact ih7 _ (by have q1 : i4_7.toInt < 2147483647 := (by first | assumption | exact (mu_up (k := i4_7) (by assumption)).2); have q2 := mu_lt q1; rw [← ev9] at q2; omega) ls v9 t0_45 ⟨A + 1, by omega, (by rw [ev9, hA2]; exact (nI_succ A).symm), (by have := vix hinA; omega), bl_bk h45 hA4 hA6⟩ (by have hN : N7 = (2147483647 - v9.toInt).toNat + 1 := (by have q1 : i4_7.toInt < 2147483647 := (by first | assumption | exact (mu_up (k := i4_7) (by assumption)).2); have q2 := mu_lt q1; rw [← ev9] at q2; omega); rw [← hN]; clear hN; subst ev9 ev1; exact hO.tr rfl) rfl (lv_sub hl [2, 3, 4, 1, 0] rfl)
        refine lv_if_ne (tgt := 40) hx hb dModel_below_14 (by decide) (fun c10 => ?_) (fun c10 => ?_)
        · refine lv_iconst (v := 1) hx hb dModel_below_40 (by decide) ?_
          refine lv_goto (tgt := 45) hx hb dModel_below_41 (by decide) ?_
          exact J45 ls 1 (by first | exact Or.inr ⟨rfl, bl_1 hA4 (by assumption)⟩ | exact Or.inl ⟨rfl, by assumption, fun h9 => absurd (ev4.trans h9.1) (by assumption)⟩ | exact Or.inl ⟨rfl, by assumption, fun h9 => absurd h9.2 (Nat.not_le.mpr ((bl_b hTR hs0 hx1 hinA ev6).2.mp (by assumption)))⟩ | exact Or.inr ⟨rfl, A, hA1, hA8, (by rw [← hA6, ← ev4]; assumption), (by rw [← hA6]; exact Nat.not_lt.mp (fun h9 => absurd ((bl_b hTR hs0 hx1 hinA ev6).2.mpr h9) (by assumption)))⟩) (by subst ev1; exact hO.tr ((if_neg c2).trans (if_neg c10))) (lv_sub hl [0, 1, 2, 3, 4] rfl)
        · refine lv_aload_n hx hb dModel_below_17 rfl (lv_at hl 0 rfl) ?_
          refine md_gA S hC hM 2 (by decide) rfl qw_3471296067 dModel_below_18 ?_
          refine lv_iload hx hb dModel_below_21 (lv_at hl 4 rfl) ?_
          refine md_ild S hC hM 2 0 4000 (τ 2) rfl rfl (by decide) rfl rfl (vin (by assumption) (by omega)) dModel_below_23 ?_
          refine lv_topi (fun v11 ev11 => ?_)
          refine lv_bipush (v := 25) hx hb dModel_below_24 (by decide) ?_
          refine lv_icmp_ne (tgt := 44) hx hb dModel_below_26 (by decide) (fun c12 => ?_) (fun c12 => ?_)
          · refine lv_iconst (v := 0) hx hb dModel_below_44 (by decide) ?_
            exact J45 ls 0 (by first | exact Or.inr ⟨rfl, bl_1 hA4 (by assumption)⟩ | exact Or.inl ⟨rfl, by assumption, fun h9 => absurd (ev11.trans h9.1) (by assumption)⟩ | exact Or.inl ⟨rfl, by assumption, fun h9 => absurd h9.2 (Nat.not_le.mpr ((bl_b hTR hs0 hx1 hinA ev6).2.mp (by assumption)))⟩ | exact Or.inr ⟨rfl, A, hA1, hA8, (by rw [← hA6, ← ev11]; assumption), (by rw [← hA6]; exact Nat.not_lt.mp (fun h9 => absurd ((bl_b hTR hs0 hx1 hinA ev6).2.mpr h9) (by assumption)))⟩) (by subst ev11 ev1; exact hO.tr ((if_neg c2).trans ((if_pos c10).trans (if_neg c12)))) (lv_sub hl [0, 1, 2, 3, 4] rfl)
          · refine lv_aload_n hx hb dModel_below_29 rfl (lv_at hl 0 rfl) ?_
            refine md_gA S hC hM 5 (by decide) rfl qw_7e4081a75e dModel_below_30 ?_
            refine lv_iload hx hb dModel_below_33 (lv_at hl 4 rfl) ?_
            refine md_ild S hC hM 5 3 4000 (τ 5) rfl rfl (by decide) rfl rfl (vin (by assumption) (by omega)) dModel_below_35 ?_
            refine lv_topi (fun v13 ev13 => ?_)
            refine lv_iload_n hx hb dModel_below_36 rfl (lv_at hl 1 rfl) ?_
            refine lv_icmp_gt (tgt := 44) hx hb dModel_below_37 (by decide) (fun c14 => ?_) (fun c14 => ?_)
            · refine lv_iconst (v := 0) hx hb dModel_below_44 (by decide) ?_
              exact J45 ls 0 (by first | exact Or.inr ⟨rfl, bl_1 hA4 (by assumption)⟩ | exact Or.inl ⟨rfl, by assumption, fun h9 => absurd (ev11.trans h9.1) (by assumption)⟩ | exact Or.inl ⟨rfl, by assumption, fun h9 => absurd h9.2 (Nat.not_le.mpr ((bl_b hTR hs0 hx1 hinA ev13).2.mp (by assumption)))⟩ | exact Or.inr ⟨rfl, A, hA1, hA8, (by rw [← hA6, ← ev11]; assumption), (by rw [← hA6]; exact Nat.not_lt.mp (fun h9 => absurd ((bl_b hTR hs0 hx1 hinA ev13).2.mpr h9) (by assumption)))⟩) (by subst ev13 ev11 ev1; exact hO.tr ((if_neg c2).trans ((if_pos c10).trans ((if_pos c12).trans (if_pos c14))))) (lv_sub hl [0, 1, 2, 3, 4] rfl)
            · refine lv_iconst (v := 1) hx hb dModel_below_40 (by decide) ?_
              refine lv_goto (tgt := 45) hx hb dModel_below_41 (by decide) ?_
              exact J45 ls 1 (by first | exact Or.inr ⟨rfl, bl_1 hA4 (by assumption)⟩ | exact Or.inl ⟨rfl, by assumption, fun h9 => absurd (ev11.trans h9.1) (by assumption)⟩ | exact Or.inl ⟨rfl, by assumption, fun h9 => absurd h9.2 (Nat.not_le.mpr ((bl_b hTR hs0 hx1 hinA ev13).2.mp (by assumption)))⟩ | exact Or.inr ⟨rfl, A, hA1, hA8, (by rw [← hA6, ← ev11]; assumption), (by rw [← hA6]; exact Nat.not_lt.mp (fun h9 => absurd ((bl_b hTR hs0 hx1 hinA ev13).2.mpr h9) (by assumption)))⟩) (by subst ev13 ev11 ev1; exact hO.tr ((if_neg c2).trans ((if_pos c10).trans ((if_pos c12).trans (if_neg c14))))) (lv_sub hl [0, 1, 2, 3, 4] rfl)
  exact J7 _ ls v1 0 ⟨x1.toNatClampNeg + 1, by omega, (by rw [ev1]; have h9 := nI_succ x1.toNatClampNeg; rw [← vnI hx1] at h9; exact h9.symm), (by have := vix hx1; omega), Or.inl ⟨rfl, fun q h8 h9 => by omega⟩⟩ (by subst ev1; exact hO.tr rfl) rfl (lv_sub hl [2, 3, 4, 1, 0] rfl)
def Q_integer (κ : Nat → Nat) (τ : gf) (σ : Nat → Int32) (F : gf) (nu : gg) (x1 : Int32) (x2 : Int32) (x3 : Int64) : Int32 × (Nat → Int32) × gf × gg := (if x2 = 0 then (if x2 = 0 then (0, σ, ((Q_fact κ τ σ F nu x1 2 0 x2).2.1), (vp_updL ((Q_fact κ τ σ F nu x1 2 0 x2).2.2) x1.toNatClampNeg 0)) else (0, σ, ((Q_fact κ τ σ F nu x1 2 0 x2).2.1), (vp_updL ((Q_fact κ τ σ F nu x1 2 0 x2).2.2) x1.toNatClampNeg x3))) else (if 0 < (lg_cmp x3 2147483647) then (9, σ, ((Q_fact κ τ σ F nu x1 2 0 x2).2.1), ((Q_fact κ τ σ F nu x1 2 0 x2).2.2)) else (if 0 ≤ (lg_cmp x3 (-2147483647)) then (if x2 = 0 then (0, σ, ((Q_fact κ τ σ F nu x1 2 0 x2).2.1), (vp_updL ((Q_fact κ τ σ F nu x1 2 0 x2).2.2) x1.toNatClampNeg 0)) else (0, σ, ((Q_fact κ τ σ F nu x1 2 0 x2).2.1), (vp_updL ((Q_fact κ τ σ F nu x1 2 0 x2).2.2) x1.toNatClampNeg x3))) else (9, σ, ((Q_fact κ τ σ F nu x1 2 0 x2).2.1), ((Q_fact κ τ σ F nu x1 2 0 x2).2.2)))))
set_option maxHeartbeats 4000000 in
set_option maxRecDepth 100000 in
theorem n_integer (l : Launch) (γ : gE) (a : Nat) (B : Nat → Nat) (Z : Nat → Prop) (κ b mn : Nat → Nat) (ν : Nat → Int32) (τ : Nat → Nat → Int32) (σ : Nat → Int32) (F : Nat → Nat → Int32) (nu : Nat → Int64) (hT : ST κ b mn ν τ) (x1 : Int32) (x2 : Int32) (x3 : Int64) (hx1 : vp_in x1 (κ 0)) (hZ : SZ F) (hF : FD σ) : MU l yModel_integer bModel_integer 5 (some .int) 2 48 0 0 [.ref a, .int x1, .int x2, .long x3] γ Z (MD γ a B Z ν τ σ F nu) (mQi (fun r H => ∃ (σ' : Nat → Int32) (F' : Nat → Nat → Int32) (nu' : Nat → Int64), Oq (Q_integer κ τ σ F nu x1 x2 x3) (r, σ', F', nu') ∧ MD γ a B Z ν τ σ' F' nu' H ∧ SZ F' ∧ FD σ' ∧ SL x1.toNatClampNeg F nu F' nu' ∧ (¬ 0 < r → GK x1.toNatClampNeg F' nu')) Z) := by
  refine mu_openI (by decide) (Nat.le_of_ble_eq_true rfl) ?_
  intro p e s m args below meth c ls Q S hnm hC hA hM hE hl
  have hS : va_S Z s.heap s.heap [] := va_S.rf
  obtain ⟨hx, hb, hml, hown, hW⟩ := id S
  obtain ⟨⟨hs0, hs1, hs2, hs3, hs4, hs5, hs6⟩, ⟨hv6, hv8, hv21, hv24, hv30, hv31⟩, hTR, hTY, hOB, hNM⟩ := id hT
  have hL : SL x1.toNatClampNeg F nu F nu := SL.rf
  have hl : lv_has ls 5 [(0, .ref a), (1, .int x1), (2, .int x2), (3, .long x3)] := hl
  obtain ⟨OUT, hQ, hO⟩ : ∃ z, (z = Q_integer κ τ σ F nu x1 x2 x3) ∧ Oq z (Q_integer κ τ σ F nu x1 x2 x3) := ⟨_, rfl, rfl⟩
  rw [← hQ] at hE
  clear hQ
  refine lv_aload_n hx hb dModel_integer_0 rfl (lv_at hl 0 rfl) ?_
  refine lv_iload_n hx hb dModel_integer_1 rfl (lv_at hl 1 rfl) ?_
  refine lv_iconst (v := 2) hx hb dModel_integer_2 (by decide) ?_
  refine lv_iconst (v := 0) hx hb dModel_integer_3 (by decide) ?_
  refine lv_iload_n hx hb dModel_integer_4 rfl (lv_at hl 2 rfl) ?_
  have hnr1 : ∃ j, j ≤ 1000 ∧ 0 = nI j := ⟨0, by omega, rfl⟩
  refine mu_Vv (rest := []) S hC (fun q h => hA q (Nat.le_trans hS.1 h)) (fun q h => h) hS (n_fact l γ a B Z κ b mn ν τ σ F nu hT x1 2 0 x2 (vin (by assumption) (by omega)) hnr1) meModel_fact qw_02871250ec ⟨Nat.le_of_ble_eq_true rfl, Nat.le_of_ble_eq_true rfl⟩ (md_rv hC hM) hM rfl hl.1 rfl (Nat.le_of_ble_eq_true rfl) dModel_integer_5 ⟨Nat.le_refl _, Nat.le_refl _⟩ (fun H locs hPO hS _ _ => ?_)
  obtain ⟨Fr1, nur1, eOr1, hM, hqr1, hcr1⟩ := hPO
  have eFr1 : Fr1 = (Q_fact κ τ σ F nu x1 2 0 x2).2.1 := by rw [eOr1.eq]
  have enur1 : nur1 = (Q_fact κ τ σ F nu x1 2 0 x2).2.2 := by rw [eOr1.eq]
  clear eOr1
  have hZ : SZ Fr1 := hZ.slt hqr1 hnr1
  have hL : SL x1.toNatClampNeg F nu Fr1 nur1 := hL.trans (SL.slt hqr1)
  have hK : GK x1.toNatClampNeg Fr1 nur1 := GK.zero hqr1
  refine lv_iload_n hx hb dModel_integer_8 rfl (lv_at hl 2 rfl) ?_
  refine lv_if_eq (tgt := 31) hx hb dModel_integer_9 (by decide) (fun c2 => ?_) (fun c2 => ?_)
  · refine lv_aload_n hx hb dModel_integer_31 rfl (lv_at hl 0 rfl) ?_
    refine md_gA S hC hM 13 (by decide) rfl qw_7b809afc8c dModel_integer_32 ?_
    refine lv_iload_n hx hb dModel_integer_35 rfl (lv_at hl 1 rfl) ?_
    refine lv_iload_n hx hb dModel_integer_36 rfl (lv_at hl 2 rfl) ?_
    refine lv_if_eq (tgt := 44) hx hb dModel_integer_37 (by decide) (fun c3 => ?_) (fun c3 => ?_)
    · refine lv_lconst (v := 0) hx hb dModel_integer_44 (by decide) ?_
      have hgnu4 : Fr1 9 x1.toNatClampNeg = 2 → -2147483648 < (0 : Int64).toInt ∧ (0 : Int64).toInt < 2147483648 := (fun _ => by first | contradiction | (constructor <;> decide) | exact ib_ok (by assumption) (by assumption) (by assumption) (by assumption))
      refine md_lst S hC hM hS (vin (by assumption) (by omega)) dModel_integer_45 (fun H locs hM hS => ?_)
      obtain ⟨nu4, enu4⟩ : ∃ z : Nat → Int64, z = vp_updL nur1 x1.toNatClampNeg 0 := ⟨_, rfl⟩
      rw [← enu4] at hM
      have hL : SL x1.toNatClampNeg F nu Fr1 nu4 := hL.trans (by rw [enu4]; exact SL.num)
      have hK : GK x1.toNatClampNeg Fr1 nu4 := by rw [enu4]; exact GK.num hgnu4
      refine lv_iconst (v := 0) hx hb dModel_integer_46 (by decide) ?_
      exact hE _ _ _ _ _ hS ⟨σ, Fr1, nu4, (by subst enu4 enur1 eFr1; exact hO.tr ((if_pos c2).trans (if_pos c3))), hM, hZ, hF, hL, (fun _ => hK)⟩ dModel_integer_47
    · refine lv_lload_n hx hb dModel_integer_40 rfl (lv_at hl 3 rfl) ?_
      refine lv_goto (tgt := 45) hx hb dModel_integer_41 (by decide) ?_
      have hgnu5 : Fr1 9 x1.toNatClampNeg = 2 → -2147483648 < (x3 : Int64).toInt ∧ (x3 : Int64).toInt < 2147483648 := (fun _ => by first | contradiction | (constructor <;> decide) | exact ib_ok (by assumption) (by assumption) (by assumption) (by assumption))
      refine md_lst S hC hM hS (vin (by assumption) (by omega)) dModel_integer_45 (fun H locs hM hS => ?_)
      obtain ⟨nu5, enu5⟩ : ∃ z : Nat → Int64, z = vp_updL nur1 x1.toNatClampNeg x3 := ⟨_, rfl⟩
      rw [← enu5] at hM
      have hL : SL x1.toNatClampNeg F nu Fr1 nu5 := hL.trans (by rw [enu5]; exact SL.num)
      have hK : GK x1.toNatClampNeg Fr1 nu5 := by rw [enu5]; exact GK.num hgnu5
      refine lv_iconst (v := 0) hx hb dModel_integer_46 (by decide) ?_
      exact hE _ _ _ _ _ hS ⟨σ, Fr1, nu5, (by subst enu5 enur1 eFr1; exact hO.tr ((if_pos c2).trans (if_neg c3))), hM, hZ, hF, hL, (fun _ => hK)⟩ dModel_integer_47
  · refine lv_lload_n hx hb dModel_integer_12 rfl (lv_at hl 3 rfl) ?_
    refine lv_ldc2 (v := 2147483647) hx hb hown (hW _ qw_e5f8ae1a74) dModel_integer_13 ?_
    refine W.lcmp hx hb dModel_integer_16 ?_
    refine lv_topi (fun v6 ev6 => ?_)
    refine lv_if_gt (tgt := 28) hx hb dModel_integer_17 (by decide) (fun c7 => ?_) (fun c7 => ?_)
    · refine lv_bipush (v := 9) hx hb dModel_integer_28 (by decide) ?_
      exact hE _ _ _ _ _ hS ⟨σ, Fr1, nur1, (by subst ev6 enur1 eFr1; exact hO.tr ((if_neg c2).trans (if_pos c7))), hM, hZ, hF, hL, (fun h9 => absurd (show (0 : Int32) < 9 by decide) h9)⟩ dModel_integer_30
    · refine lv_lload_n hx hb dModel_integer_20 rfl (lv_at hl 3 rfl) ?_
      refine lv_ldc2 (v := (-2147483647)) hx hb hown (hW _ qw_730c3d130b) dModel_integer_21 ?_
      refine W.lcmp hx hb dModel_integer_24 ?_
      refine lv_topi (fun v8 ev8 => ?_)
      refine lv_if_ge (tgt := 31) hx hb dModel_integer_25 (by decide) (fun c9 => ?_) (fun c9 => ?_)
      · refine lv_aload_n hx hb dModel_integer_31 rfl (lv_at hl 0 rfl) ?_
        refine md_gA S hC hM 13 (by decide) rfl qw_7b809afc8c dModel_integer_32 ?_
        refine lv_iload_n hx hb dModel_integer_35 rfl (lv_at hl 1 rfl) ?_
        refine lv_iload_n hx hb dModel_integer_36 rfl (lv_at hl 2 rfl) ?_
        refine lv_if_eq (tgt := 44) hx hb dModel_integer_37 (by decide) (fun c10 => ?_) (fun c10 => ?_)
        · refine lv_lconst (v := 0) hx hb dModel_integer_44 (by decide) ?_
          have hgnu11 : Fr1 9 x1.toNatClampNeg = 2 → -2147483648 < (0 : Int64).toInt ∧ (0 : Int64).toInt < 2147483648 := (fun _ => by first | contradiction | (constructor <;> decide) | exact ib_ok (by assumption) (by assumption) (by assumption) (by assumption))
          refine md_lst S hC hM hS (vin (by assumption) (by omega)) dModel_integer_45 (fun H locs hM hS => ?_)
          obtain ⟨nu11, enu11⟩ : ∃ z : Nat → Int64, z = vp_updL nur1 x1.toNatClampNeg 0 := ⟨_, rfl⟩
          rw [← enu11] at hM
          have hL : SL x1.toNatClampNeg F nu Fr1 nu11 := hL.trans (by rw [enu11]; exact SL.num)
          have hK : GK x1.toNatClampNeg Fr1 nu11 := by rw [enu11]; exact GK.num hgnu11
          refine lv_iconst (v := 0) hx hb dModel_integer_46 (by decide) ?_
          exact hE _ _ _ _ _ hS ⟨σ, Fr1, nu11, (by subst enu11 ev8 ev6 enur1 eFr1; exact hO.tr ((if_neg c2).trans ((if_neg c7).trans ((if_pos c9).trans (if_pos c10))))), hM, hZ, hF, hL, (fun _ => hK)⟩ dModel_integer_47
        · refine lv_lload_n hx hb dModel_integer_40 rfl (lv_at hl 3 rfl) ?_
          refine lv_goto (tgt := 45) hx hb dModel_integer_41 (by decide) ?_
          have hgnu12 : Fr1 9 x1.toNatClampNeg = 2 → -2147483648 < (x3 : Int64).toInt ∧ (x3 : Int64).toInt < 2147483648 := (fun _ => by first | contradiction | (constructor <;> decide) | exact ib_ok (by assumption) (by assumption) (by assumption) (by assumption))
          refine md_lst S hC hM hS (vin (by assumption) (by omega)) dModel_integer_45 (fun H locs hM hS => ?_)
          obtain ⟨nu12, enu12⟩ : ∃ z : Nat → Int64, z = vp_updL nur1 x1.toNatClampNeg x3 := ⟨_, rfl⟩
          rw [← enu12] at hM
          have hL : SL x1.toNatClampNeg F nu Fr1 nu12 := hL.trans (by rw [enu12]; exact SL.num)
          have hK : GK x1.toNatClampNeg Fr1 nu12 := by rw [enu12]; exact GK.num hgnu12
          refine lv_iconst (v := 0) hx hb dModel_integer_46 (by decide) ?_
          exact hE _ _ _ _ _ hS ⟨σ, Fr1, nu12, (by subst enu12 ev8 ev6 enur1 eFr1; exact hO.tr ((if_neg c2).trans ((if_neg c7).trans ((if_pos c9).trans (if_neg c10))))), hM, hZ, hF, hL, (fun _ => hK)⟩ dModel_integer_47
      · refine lv_bipush (v := 9) hx hb dModel_integer_28 (by decide) ?_
        exact hE _ _ _ _ _ hS ⟨σ, Fr1, nur1, (by subst ev8 ev6 enur1 eFr1; exact hO.tr ((if_neg c2).trans ((if_neg c7).trans (if_neg c9)))), hM, hZ, hF, hL, (fun h9 => absurd (show (0 : Int32) < 9 by decide) h9)⟩ dModel_integer_30
def Q_rowObject (κ : Nat → Nat) (τ : gf) (σ : Nat → Int32) (F : gf) (nu : gg) (x1 : Int32) : Int32 × (Nat → Int32) × gf × gg := (if (((Q_find κ τ σ F nu x1).1) 32) = 5 then (1, ((Q_find κ τ σ F nu x1).1), F, nu) else (if (((Q_find κ τ σ F nu x1).1) 32) = 1 then (if (τ 16 (τ 23 (((Q_find κ τ σ F nu x1).1) 33).toNatClampNeg).toNatClampNeg) = 3 then (0, ((Q_find κ τ σ F nu x1).1), F, nu) else (2, ((Q_find κ τ σ F nu x1).1), F, nu)) else (2, ((Q_find κ τ σ F nu x1).1), F, nu)))
set_option maxHeartbeats 4000000 in
set_option maxRecDepth 100000 in
theorem n_rowObject (l : Launch) (γ : gE) (a : Nat) (B : Nat → Nat) (Z : Nat → Prop) (κ b mn : Nat → Nat) (ν : Nat → Int32) (τ : Nat → Nat → Int32) (σ : Nat → Int32) (F : Nat → Nat → Int32) (nu : Nat → Int64) (hT : ST κ b mn ν τ) (x1 : Int32)  : MU l yModel_rowObject bModel_rowObject 2 (some .int) 1 22 0 0 [.ref a, .int x1] γ Z (MD γ a B Z ν τ σ F nu) (mQi (fun r H => ∃ σ' : Nat → Int32, Oq (Q_rowObject κ τ σ F nu x1) (r, σ', F, nu) ∧ MD γ a B Z ν τ σ' F nu H ∧ FD σ' ∧ (0 < r ∨ ∃ o t, o < 2000 ∧ t < 1000 ∧ σ' 33 = nI o ∧ τ 23 o = nI t ∧ τ 16 t = 3)) Z) := by
  refine mu_openI (by decide) (Nat.le_of_ble_eq_true rfl) ?_
  intro p e s m args below meth c ls Q S hnm hC hA hM hE hl
  have hS : va_S Z s.heap s.heap [] := va_S.rf
  obtain ⟨hx, hb, hml, hown, hW⟩ := id S
  obtain ⟨⟨hs0, hs1, hs2, hs3, hs4, hs5, hs6⟩, ⟨hv6, hv8, hv21, hv24, hv30, hv31⟩, hTR, hTY, hOB, hNM⟩ := id hT
  have hl : lv_has ls 2 [(0, .ref a), (1, .int x1)] := hl
  obtain ⟨OUT, hQ, hO⟩ : ∃ z, (z = Q_rowObject κ τ σ F nu x1) ∧ Oq z (Q_rowObject κ τ σ F nu x1) := ⟨_, rfl, rfl⟩
  rw [← hQ] at hE
  clear hQ
  refine lv_aload_n hx hb dModel_rowObject_0 rfl (lv_at hl 0 rfl) ?_
  refine lv_iload_n hx hb dModel_rowObject_1 rfl (lv_at hl 1 rfl) ?_
  refine mu_Vv (rest := []) S hC (fun q h => hA q (Nat.le_trans hS.1 h)) (fun q h => h) hS (n_find l γ a B Z κ b mn ν τ σ F nu hT x1 ) meModel_find qw_ece0c598e8 ⟨Nat.le_of_ble_eq_true rfl, Nat.le_of_ble_eq_true rfl⟩ (md_rv hC hM) hM rfl hl.1 rfl (Nat.le_of_ble_eq_true rfl) dModel_rowObject_2 ⟨Nat.le_refl _, Nat.le_refl _⟩ (fun H locs hPO hS _ _ => ?_)
  obtain ⟨σr1, eOr1, hM, hF⟩ := hPO
  have eσr1 : σr1 = (Q_find κ τ σ F nu x1).1 := by rw [eOr1.eq]
  clear eOr1
  refine lv_aload_n hx hb dModel_rowObject_5 rfl (lv_at hl 0 rfl) ?_
  refine md_gI S hC hM 32 (v := σr1 32) rfl (by decide) rfl qw_9d5e299446 dModel_rowObject_6 ?_
  refine lv_topi (fun v2 ev2 => ?_)
  refine lv_iconst (v := 5) hx hb dModel_rowObject_9 (by decide) ?_
  refine lv_icmp_ne (tgt := 15) hx hb dModel_rowObject_10 (by decide) (fun c3 => ?_) (fun c3 => ?_)
  · refine lv_aload_n hx hb dModel_rowObject_15 rfl (lv_at hl 0 rfl) ?_
    refine md_gI S hC hM 32 (v := σr1 32) rfl (by decide) rfl qw_9d5e299446 dModel_rowObject_16 ?_
    refine lv_topi (fun v4 ev4 => ?_)
    refine lv_iconst (v := 1) hx hb dModel_rowObject_19 (by decide) ?_
    refine lv_icmp_ne (tgt := 45) hx hb dModel_rowObject_20 (by decide) (fun c5 => ?_) (fun c5 => ?_)
    · refine lv_iconst (v := 2) hx hb dModel_rowObject_45 (by decide) ?_
      exact hE _ _ _ _ _ hS ⟨σr1, (by subst ev4 ev2 eσr1; exact hO.tr ((if_neg c3).trans (if_neg c5))), hM, hF, Or.inl (by decide)⟩ dModel_rowObject_46
    · obtain ⟨o, ho, hoe⟩ := hF.1 (ev4.symm.trans (by assumption))
      refine lv_aload_n hx hb dModel_rowObject_23 rfl (lv_at hl 0 rfl) ?_
      refine md_gA S hC hM 16 (by decide) rfl qw_9bd8ea24bb dModel_rowObject_24 ?_
      refine lv_aload_n hx hb dModel_rowObject_27 rfl (lv_at hl 0 rfl) ?_
      refine md_gA S hC hM 23 (by decide) rfl qw_bd9bcb35cb dModel_rowObject_28 ?_
      refine lv_aload_n hx hb dModel_rowObject_31 rfl (lv_at hl 0 rfl) ?_
      refine md_gI S hC hM 33 (v := σr1 33) rfl (by decide) rfl qw_c60a40a4a7 dModel_rowObject_32 ?_
      refine lv_topi (fun v6 ev6 => ?_)
      refine md_ild S hC hM 23 18 2000 (τ 23) rfl rfl (by decide) rfl rfl (vin_of (ev6.trans hoe) ho (by omega)) dModel_rowObject_35 ?_
      refine lv_topi (fun v7 ev7 => ?_)
      refine md_ild S hC hM 16 12 1000 (τ 16) rfl rfl (by decide) rfl rfl (ob_in hOB (vin_of (ev6.trans hoe) ho (by omega)) ev7) dModel_rowObject_36 ?_
      refine lv_topi (fun v8 ev8 => ?_)
      refine lv_iconst (v := 3) hx hb dModel_rowObject_37 (by decide) ?_
      refine lv_icmp_ne (tgt := 45) hx hb dModel_rowObject_38 (by decide) (fun c9 => ?_) (fun c9 => ?_)
      · refine lv_iconst (v := 2) hx hb dModel_rowObject_45 (by decide) ?_
        exact hE _ _ _ _ _ hS ⟨σr1, (by subst ev8 ev7 ev6 ev4 ev2 eσr1; exact hO.tr ((if_neg c3).trans ((if_pos c5).trans (if_neg c9)))), hM, hF, Or.inl (by decide)⟩ dModel_rowObject_46
      · refine lv_iconst (v := 0) hx hb dModel_rowObject_41 (by decide) ?_
        refine lv_goto (tgt := 46) hx hb dModel_rowObject_42 (by decide) ?_
        exact hE _ _ _ _ _ hS ⟨σr1, (by subst ev8 ev7 ev6 ev4 ev2 eσr1; exact hO.tr ((if_neg c3).trans ((if_pos c5).trans (if_pos c9)))), hM, hF, Or.inr (ro_ok hOB ho hoe ev6 ev7 ev8 (by assumption))⟩ dModel_rowObject_46
  · refine lv_iconst (v := 1) hx hb dModel_rowObject_13 (by decide) ?_
    exact hE _ _ _ _ _ hS ⟨σr1, (by subst ev2 eσr1; exact hO.tr (if_pos c3)), hM, hF, Or.inl (by decide)⟩ dModel_rowObject_14
def Q_lookName_66 (κ : Nat → Nat) (τ : gf) (σ : Nat → Int32) (F : gf) (nu : gg) (x1 : Int32) (F_66 : gf) (nu_66 : gg) : Int32 × (Nat → Int32) × gf × gg := (0, ((Q_find κ τ σ F nu (τ 3 x1.toNatClampNeg)).1), (Au F_66 12 x1.toNatClampNeg (((Q_find κ τ σ F nu (τ 3 x1.toNatClampNeg)).1) 33)), nu_66)
def Q_lookName_163 (κ : Nat → Nat) (τ : gf) (σ : Nat → Int32) (F : gf) (nu : gg) (x1 : Int32) (t0_108 : Int32) (t0_124 : Int32) (t0_163 : Int64) : Int32 × (Nat → Int32) × gf × gg := (0, ((Q_find κ τ σ F nu (τ 3 x1.toNatClampNeg)).1), (Au ((Q_fact κ τ ((Q_find κ τ σ F nu (τ 3 x1.toNatClampNeg)).1) F nu x1 t0_108 t0_124 1).2.1) 12 x1.toNatClampNeg 2000), (vp_updL ((Q_fact κ τ ((Q_find κ τ σ F nu (τ 3 x1.toNatClampNeg)).1) F nu x1 t0_108 t0_124 1).2.2) x1.toNatClampNeg t0_163))
def Q_lookName_124 (κ : Nat → Nat) (τ : gf) (σ : Nat → Int32) (F : gf) (nu : gg) (x1 : Int32) (t0_108 : Int32) (t0_124 : Int32) : Int32 × (Nat → Int32) × gf × gg := (if (((Q_find κ τ σ F nu (τ 3 x1.toNatClampNeg)).1) 32) = 2 then (Q_lookName_163 κ τ σ F nu x1 t0_108 t0_124  ((((Q_find κ τ σ F nu (τ 3 x1.toNatClampNeg)).1) 34).toInt64)) else (if (((Q_find κ τ σ F nu (τ 3 x1.toNatClampNeg)).1) 33) = 6 then (Q_lookName_163 κ τ σ F nu x1 t0_108 t0_124  1) else (Q_lookName_163 κ τ σ F nu x1 t0_108 t0_124  0)))
def Q_lookName_108 (κ : Nat → Nat) (τ : gf) (σ : Nat → Int32) (F : gf) (nu : gg) (x1 : Int32) (t0_108 : Int32) : Int32 × (Nat → Int32) × gf × gg := (if (((Q_find κ τ σ F nu (τ 3 x1.toNatClampNeg)).1) 32) = 2 then (Q_lookName_124 κ τ σ F nu x1 t0_108  (((Q_find κ τ σ F nu (τ 3 x1.toNatClampNeg)).1) 33)) else (Q_lookName_124 κ τ σ F nu x1 t0_108  0))
def Q_lookName_93 (κ : Nat → Nat) (τ : gf) (σ : Nat → Int32) (F : gf) (nu : gg) (x1 : Int32) : Int32 × (Nat → Int32) × gf × gg := (if (((Q_find κ τ σ F nu (τ 3 x1.toNatClampNeg)).1) 32) = 2 then (Q_lookName_108 κ τ σ F nu x1  4) else (Q_lookName_108 κ τ σ F nu x1  1))
def Q_lookName (κ : Nat → Nat) (τ : gf) (σ : Nat → Int32) (F : gf) (nu : gg) (x1 : Int32) : Int32 × (Nat → Int32) × gf × gg := (if (((Q_find κ τ σ F nu (τ 3 x1.toNatClampNeg)).1) 32) = 5 then (1, ((Q_find κ τ σ F nu (τ 3 x1.toNatClampNeg)).1), F, nu) else (if (((Q_find κ τ σ F nu (τ 3 x1.toNatClampNeg)).1) 32) = 1 then (if (τ 22 (((Q_find κ τ σ F nu (τ 3 x1.toNatClampNeg)).1) 33).toNatClampNeg) = 0 then (Q_lookName_66 κ τ σ F nu x1  ((Q_copy κ τ ((Q_find κ τ σ F nu (τ 3 x1.toNatClampNeg)).1) F nu (8000 + (((Q_find κ τ σ F nu (τ 3 x1.toNatClampNeg)).1) 33)) x1).2.1) ((Q_copy κ τ ((Q_find κ τ σ F nu (τ 3 x1.toNatClampNeg)).1) F nu (8000 + (((Q_find κ τ σ F nu (τ 3 x1.toNatClampNeg)).1) 33)) x1).2.2)) else (Q_lookName_66 κ τ σ F nu x1  ((Q_factOfType κ τ ((Q_find κ τ σ F nu (τ 3 x1.toNatClampNeg)).1) F nu x1 (τ 23 (((Q_find κ τ σ F nu (τ 3 x1.toNatClampNeg)).1) 33).toNatClampNeg)).2.1) ((Q_factOfType κ τ ((Q_find κ τ σ F nu (τ 3 x1.toNatClampNeg)).1) F nu x1 (τ 23 (((Q_find κ τ σ F nu (τ 3 x1.toNatClampNeg)).1) 33).toNatClampNeg)).2.2))) else (if (((Q_find κ τ σ F nu (τ 3 x1.toNatClampNeg)).1) 32) = 2 then (Q_lookName_93 κ τ σ F nu x1  ) else (if (((Q_find κ τ σ F nu (τ 3 x1.toNatClampNeg)).1) 32) = 3 then (Q_lookName_93 κ τ σ F nu x1  ) else (2, ((Q_find κ τ σ F nu (τ 3 x1.toNatClampNeg)).1), F, nu)))))
set_option maxHeartbeats 4000000 in
set_option maxRecDepth 100000 in
theorem n_lookName (l : Launch) (γ : gE) (a : Nat) (B : Nat → Nat) (Z : Nat → Prop) (κ b mn : Nat → Nat) (ν : Nat → Int32) (τ : Nat → Nat → Int32) (σ : Nat → Int32) (F : Nat → Nat → Int32) (nu : Nat → Int64) (hT : ST κ b mn ν τ) (x1 : Int32) (hx1 : vp_in x1 (κ 0)) (hZ : SZ F) (hF : FD σ) (hG : GD F nu) : MU l yModel_lookName bModel_lookName 3 (some .int) 3 70 0 0 [.ref a, .int x1] γ Z (MD γ a B Z ν τ σ F nu) (mQi (fun r H => ∃ (σ' : Nat → Int32) (F' : Nat → Nat → Int32) (nu' : Nat → Int64), Oq (Q_lookName κ τ σ F nu x1) (r, σ', F', nu') ∧ MD γ a B Z ν τ σ' F' nu' H ∧ SZ F' ∧ FD σ' ∧ SL x1.toNatClampNeg F nu F' nu' ∧ (¬ 0 < r → GK x1.toNatClampNeg F' nu')) Z) := by
  refine mu_openI (by decide) (Nat.le_of_ble_eq_true rfl) ?_
  intro p e s m args below meth c ls Q S hnm hC hA hM hE hl
  have hS : va_S Z s.heap s.heap [] := va_S.rf
  obtain ⟨hx, hb, hml, hown, hW⟩ := id S
  obtain ⟨⟨hs0, hs1, hs2, hs3, hs4, hs5, hs6⟩, ⟨hv6, hv8, hv21, hv24, hv30, hv31⟩, hTR, hTY, hOB, hNM⟩ := id hT
  have hL : SL x1.toNatClampNeg F nu F nu := SL.rf
  have hl : lv_has ls 3 [(0, .ref a), (1, .int x1)] := hl
  obtain ⟨OUT, hQ, hO⟩ : ∃ z, (z = Q_lookName κ τ σ F nu x1) ∧ Oq z (Q_lookName κ τ σ F nu x1) := ⟨_, rfl, rfl⟩
  rw [← hQ] at hE
  clear hQ
  refine lv_aload_n hx hb dModel_lookName_0 rfl (lv_at hl 0 rfl) ?_
  refine lv_aload_n hx hb dModel_lookName_1 rfl (lv_at hl 0 rfl) ?_
  refine md_gA S hC hM 3 (by decide) rfl qw_9fb851a5fa dModel_lookName_2 ?_
  refine lv_iload_n hx hb dModel_lookName_5 rfl (lv_at hl 1 rfl) ?_
  refine md_ild S hC hM 3 1 4000 (τ 3) rfl rfl (by decide) rfl rfl (vin (by assumption) (by omega)) dModel_lookName_6 ?_
  refine lv_topi (fun v1 ev1 => ?_)
  refine mu_Vv (rest := []) S hC (fun q h => hA q (Nat.le_trans hS.1 h)) (fun q h => h) hS (n_find l γ a B Z κ b mn ν τ σ F nu hT v1 ) meModel_find qw_ece0c598e8 ⟨Nat.le_of_ble_eq_true rfl, Nat.le_of_ble_eq_true rfl⟩ (md_rv hC hM) hM rfl hl.1 rfl (Nat.le_of_ble_eq_true rfl) dModel_lookName_7 ⟨Nat.le_refl _, Nat.le_refl _⟩ (fun H locs hPO hS _ _ => ?_)
  obtain ⟨σr2, eOr2, hM, hF⟩ := hPO
  have eσr2 : σr2 = (Q_find κ τ σ F nu v1).1 := by rw [eOr2.eq]
  clear eOr2
  refine lv_aload_n hx hb dModel_lookName_10 rfl (lv_at hl 0 rfl) ?_
  refine md_gI S hC hM 32 (v := σr2 32) rfl (by decide) rfl qw_9d5e299446 dModel_lookName_11 ?_
  refine lv_topi (fun v3 ev3 => ?_)
  refine lv_iconst (v := 5) hx hb dModel_lookName_14 (by decide) ?_
  refine lv_icmp_ne (tgt := 20) hx hb dModel_lookName_15 (by decide) (fun c4 => ?_) (fun c4 => ?_)
  · refine lv_aload_n hx hb dModel_lookName_20 rfl (lv_at hl 0 rfl) ?_
    refine md_gI S hC hM 32 (v := σr2 32) rfl (by decide) rfl qw_9d5e299446 dModel_lookName_21 ?_
    refine lv_topi (fun v5 ev5 => ?_)
    refine lv_iconst (v := 1) hx hb dModel_lookName_24 (by decide) ?_
    refine lv_icmp_ne (tgt := 75) hx hb dModel_lookName_25 (by decide) (fun c6 => ?_) (fun c6 => ?_)
    · refine lv_aload_n hx hb dModel_lookName_75 rfl (lv_at hl 0 rfl) ?_
      refine md_gI S hC hM 32 (v := σr2 32) rfl (by decide) rfl qw_9d5e299446 dModel_lookName_76 ?_
      refine lv_topi (fun v7 ev7 => ?_)
      refine lv_iconst (v := 2) hx hb dModel_lookName_79 (by decide) ?_
      have J93 : ∀ (ls : Array Slot), (Oq OUT (Q_lookName_93 κ τ σ F nu x1   )) → lv_has ls 3 [(0, .ref a), (1, .int x1)] → W p l e (bs_rm 3 0 0 70) s m args below meth c H locs 0 0 Q (F0 m 93 ls []) := by
        intro ls hO hl
        refine lv_aload_n hx hb dModel_lookName_93 rfl (lv_at hl 0 rfl) ?_
        refine lv_iload_n hx hb dModel_lookName_94 rfl (lv_at hl 1 rfl) ?_
        refine lv_aload_n hx hb dModel_lookName_95 rfl (lv_at hl 0 rfl) ?_
        refine md_gI S hC hM 32 (v := σr2 32) rfl (by decide) rfl qw_9d5e299446 dModel_lookName_96 ?_
        refine lv_topi (fun v25 ev25 => ?_)
        refine lv_iconst (v := 2) hx hb dModel_lookName_99 (by decide) ?_
        have J108 : ∀ (ls : Array Slot) (t0_108 : Int32), (t0_108 = 4 ∨ t0_108 = 1) → (Oq OUT (Q_lookName_108 κ τ σ F nu x1   t0_108)) → lv_has ls 3 [(0, .ref a), (1, .int x1)] → W p l e (bs_rm 3 0 0 70) s m args below meth c H locs 0 0 Q (F0 m 108 ls [.int t0_108, .int x1, .ref a]) := by
          intro ls t0_108 ht0_108 hO hl
          refine lv_aload_n hx hb dModel_lookName_108 rfl (lv_at hl 0 rfl) ?_
          refine md_gI S hC hM 32 (v := σr2 32) rfl (by decide) rfl qw_9d5e299446 dModel_lookName_109 ?_
          refine lv_topi (fun v39 ev39 => ?_)
          refine lv_iconst (v := 2) hx hb dModel_lookName_112 (by decide) ?_
          have J124 : ∀ (ls : Array Slot) (t0_124 : Int32), (∃ j, j ≤ 1000 ∧ t0_124 = nI j) → (Oq OUT (Q_lookName_124 κ τ σ F nu x1 t0_108   t0_124)) → lv_has ls 3 [(0, .ref a), (1, .int x1)] → W p l e (bs_rm 3 0 0 70) s m args below meth c H locs 0 0 Q (F0 m 124 ls [.int t0_124, .int t0_108, .int x1, .ref a]) := by
            intro ls t0_124 ht0_124 hO hl
            refine lv_iconst (v := 1) hx hb dModel_lookName_124 (by decide) ?_
            have hnr51 : ∃ j, j ≤ 1000 ∧ t0_124 = nI j := ht0_124
            refine mu_Vv (rest := []) S hC (fun q h => hA q (Nat.le_trans hS.1 h)) (fun q h => h) hS (n_fact l γ a B Z κ b mn ν τ σr2 F nu hT x1 t0_108 t0_124 1 (vin (by assumption) (by omega)) hnr51) meModel_fact qw_02871250ec ⟨Nat.le_of_ble_eq_true rfl, Nat.le_of_ble_eq_true rfl⟩ (md_rv hC hM) hM rfl hl.1 rfl (Nat.le_of_ble_eq_true rfl) dModel_lookName_125 ⟨Nat.le_refl _, Nat.le_refl _⟩ (fun H locs hPO hS _ _ => ?_)
            obtain ⟨Fr51, nur51, eOr51, hM, hqr51, hcr51⟩ := hPO
            have eFr51 : Fr51 = (Q_fact κ τ σr2 F nu x1 t0_108 t0_124 1).2.1 := by rw [eOr51.eq]
            have enur51 : nur51 = (Q_fact κ τ σr2 F nu x1 t0_108 t0_124 1).2.2 := by rw [eOr51.eq]
            clear eOr51
            have hZ : SZ Fr51 := hZ.slt hqr51 hnr51
            have hL : SL x1.toNatClampNeg F nu Fr51 nur51 := hL.trans (SL.slt hqr51)
            have hK : GK x1.toNatClampNeg Fr51 nur51 := GK.zero hqr51
            refine lv_aload_n hx hb dModel_lookName_128 rfl (lv_at hl 0 rfl) ?_
            refine md_gA S hC hM 13 (by decide) rfl qw_7b809afc8c dModel_lookName_129 ?_
            refine lv_iload_n hx hb dModel_lookName_132 rfl (lv_at hl 1 rfl) ?_
            refine lv_aload_n hx hb dModel_lookName_133 rfl (lv_at hl 0 rfl) ?_
            refine md_gI S hC hM 32 (v := σr2 32) rfl (by decide) rfl qw_9d5e299446 dModel_lookName_134 ?_
            refine lv_topi (fun v52 ev52 => ?_)
            refine lv_iconst (v := 2) hx hb dModel_lookName_137 (by decide) ?_
            have J163 : ∀ (ls : Array Slot) (t0_163 : Int64), (Oq OUT (Q_lookName_163 κ τ σ F nu x1 t0_108 t0_124   t0_163)) → lv_has ls 3 [(0, .ref a), (1, .int x1)] → W p l e (bs_rm 3 0 0 70) s m args below meth c H locs 0 0 Q (F0 m 163 ls [.long t0_163, .int x1, .ref (B 13)]) := by
              intro ls t0_163 hO hl
              have hgnu60 : Fr51 9 x1.toNatClampNeg = 2 → -2147483648 < (t0_163 : Int64).toInt ∧ (t0_163 : Int64).toInt < 2147483648 := (fun h9 => by have h8 := (slt9 hqr51).symm.trans h9; rcases ht0_108 with h7 | h7 <;> (rw [h7] at h8; exact absurd h8 (by decide)))
              refine md_lst S hC hM hS (vin (by assumption) (by omega)) dModel_lookName_163 (fun H locs hM hS => ?_)
              obtain ⟨nu60, enu60⟩ : ∃ z : Nat → Int64, z = vp_updL nur51 x1.toNatClampNeg t0_163 := ⟨_, rfl⟩
              rw [← enu60] at hM
              have hL : SL x1.toNatClampNeg F nu Fr51 nu60 := hL.trans (by rw [enu60]; exact SL.num)
              have hK : GK x1.toNatClampNeg Fr51 nu60 := by rw [enu60]; exact GK.num hgnu60
              refine lv_aload_n hx hb dModel_lookName_164 rfl (lv_at hl 0 rfl) ?_
              refine md_gA S hC hM 12 (by decide) rfl qw_19df235c4a dModel_lookName_165 ?_
              refine lv_iload_n hx hb dModel_lookName_168 rfl (lv_at hl 1 rfl) ?_
              refine lv_sipush (v := 2000) hx hb dModel_lookName_169 (by decide) ?_
              refine md_istD S hC hM hS 12 8 10000 rfl rfl (by decide) rfl rfl (vin (by assumption) (by omega)) dModel_lookName_172 (fun H locs hM hS => ?_)
              obtain ⟨F61, eF61⟩ : ∃ z : Nat → Nat → Int32, z = Au Fr51 12 x1.toNatClampNeg 2000 := ⟨_, rfl⟩
              rw [← eF61] at hM
              have hZ : SZ F61 := hZ.au eF61 (by decide)
              have hL : SL x1.toNatClampNeg F nu F61 nu60 := hL.au eF61 (by decide)
              have hK : GK x1.toNatClampNeg F61 nu60 := hK.au eF61 (by decide)
              refine lv_iconst (v := 0) hx hb dModel_lookName_173 (by decide) ?_
              exact hE _ _ _ _ _ hS ⟨σr2, F61, nu60, (by subst eF61 enu60 ev52 enur51 eFr51 ev39 ev25 ev7 ev5 ev3 eσr2 ev1; exact hO.tr rfl), hM, hZ, hF, hL, (fun _ => hK)⟩ dModel_lookName_174
            refine lv_icmp_ne (tgt := 149) hx hb dModel_lookName_138 (by decide) (fun c62 => ?_) (fun c62 => ?_)
            · refine lv_aload_n hx hb dModel_lookName_149 rfl (lv_at hl 0 rfl) ?_
              refine md_gI S hC hM 33 (v := σr2 33) rfl (by decide) rfl qw_c60a40a4a7 dModel_lookName_150 ?_
              refine lv_topi (fun v63 ev63 => ?_)
              refine lv_bipush (v := 6) hx hb dModel_lookName_153 (by decide) ?_
              refine lv_icmp_ne (tgt := 162) hx hb dModel_lookName_155 (by decide) (fun c64 => ?_) (fun c64 => ?_)
              · refine lv_lconst (v := 0) hx hb dModel_lookName_162 (by decide) ?_
                exact J163 ls 0 (by subst ev63 ev52 enur51 eFr51 ev39 ev25 ev7 ev5 ev3 eσr2 ev1; exact hO.tr ((if_neg c62).trans (if_neg c64))) (lv_sub hl [0, 1] rfl)
              · refine lv_lconst (v := 1) hx hb dModel_lookName_158 (by decide) ?_
                refine lv_goto (tgt := 163) hx hb dModel_lookName_159 (by decide) ?_
                exact J163 ls 1 (by subst ev63 ev52 enur51 eFr51 ev39 ev25 ev7 ev5 ev3 eσr2 ev1; exact hO.tr ((if_neg c62).trans (if_pos c64))) (lv_sub hl [0, 1] rfl)
            · refine lv_aload_n hx hb dModel_lookName_141 rfl (lv_at hl 0 rfl) ?_
              refine md_gI S hC hM 34 (v := σr2 34) rfl (by decide) rfl qw_6a7082029c dModel_lookName_142 ?_
              refine lv_topi (fun v65 ev65 => ?_)
              refine lv_i2l hx hb dModel_lookName_145 rfl ?_
              refine lv_topl (fun v66 ev66 => ?_)
              refine lv_goto (tgt := 163) hx hb dModel_lookName_146 (by decide) ?_
              exact J163 ls v66 (by subst ev66 ev65 ev52 enur51 eFr51 ev39 ev25 ev7 ev5 ev3 eσr2 ev1; exact hO.tr (if_pos c62)) (lv_sub hl [0, 1] rfl)
          refine lv_icmp_ne (tgt := 123) hx hb dModel_lookName_113 (by decide) (fun c67 => ?_) (fun c67 => ?_)
          · refine lv_iconst (v := 0) hx hb dModel_lookName_123 (by decide) ?_
            exact J124 ls 0 (by first | exact ⟨0, by omega, rfl⟩ | (rw [ev41]; exact hF.2.1 (ev39.symm.trans (by assumption)))) (by subst ev39 ev25 ev7 ev5 ev3 eσr2 ev1; exact hO.tr (if_neg c67)) (lv_sub hl [0, 1] rfl)
          · refine lv_aload_n hx hb dModel_lookName_116 rfl (lv_at hl 0 rfl) ?_
            refine md_gI S hC hM 33 (v := σr2 33) rfl (by decide) rfl qw_c60a40a4a7 dModel_lookName_117 ?_
            refine lv_topi (fun v68 ev68 => ?_)
            refine lv_goto (tgt := 124) hx hb dModel_lookName_120 (by decide) ?_
            exact J124 ls v68 (by first | exact ⟨0, by omega, rfl⟩ | (rw [ev68]; exact hF.2.1 (ev39.symm.trans (by assumption)))) (by subst ev68 ev39 ev25 ev7 ev5 ev3 eσr2 ev1; exact hO.tr (if_pos c67)) (lv_sub hl [0, 1] rfl)
        refine lv_icmp_ne (tgt := 107) hx hb dModel_lookName_100 (by decide) (fun c69 => ?_) (fun c69 => ?_)
        · refine lv_iconst (v := 1) hx hb dModel_lookName_107 (by decide) ?_
          exact J108 ls 1 (by first | assumption | exact Or.inl rfl | exact Or.inr rfl) (by subst ev25 ev7 ev5 ev3 eσr2 ev1; exact hO.tr (if_neg c69)) (lv_sub hl [0, 1] rfl)
        · refine lv_iconst (v := 4) hx hb dModel_lookName_103 (by decide) ?_
          refine lv_goto (tgt := 108) hx hb dModel_lookName_104 (by decide) ?_
          exact J108 ls 4 (by first | assumption | exact Or.inl rfl | exact Or.inr rfl) (by subst ev25 ev7 ev5 ev3 eσr2 ev1; exact hO.tr (if_pos c69)) (lv_sub hl [0, 1] rfl)
      refine lv_icmp_eq (tgt := 93) hx hb dModel_lookName_80 (by decide) (fun c70 => ?_) (fun c70 => ?_)
      · exact J93 ls (by subst ev7 ev5 ev3 eσr2 ev1; exact hO.tr ((if_neg c4).trans ((if_neg c6).trans (if_pos c70)))) (lv_sub hl [0, 1] rfl)
      · refine lv_aload_n hx hb dModel_lookName_83 rfl (lv_at hl 0 rfl) ?_
        refine md_gI S hC hM 32 (v := σr2 32) rfl (by decide) rfl qw_9d5e299446 dModel_lookName_84 ?_
        refine lv_topi (fun v71 ev71 => ?_)
        refine lv_iconst (v := 3) hx hb dModel_lookName_87 (by decide) ?_
        refine lv_icmp_eq (tgt := 93) hx hb dModel_lookName_88 (by decide) (fun c72 => ?_) (fun c72 => ?_)
        · exact J93 ls (by subst ev71 ev7 ev5 ev3 eσr2 ev1; exact hO.tr ((if_neg c4).trans ((if_neg c6).trans ((if_neg c70).trans (if_pos c72))))) (lv_sub hl [0, 1] rfl)
        · refine lv_iconst (v := 2) hx hb dModel_lookName_91 (by decide) ?_
          exact hE _ _ _ _ _ hS ⟨σr2, F, nu, (by subst ev71 ev7 ev5 ev3 eσr2 ev1; exact hO.tr ((if_neg c4).trans ((if_neg c6).trans ((if_neg c70).trans (if_neg c72))))), hM, hZ, hF, hL, (fun h9 => absurd (show (0 : Int32) < 2 by decide) h9)⟩ dModel_lookName_92
    · obtain ⟨o, ho, hoe⟩ := hF.1 (ev5.symm.trans (by assumption))
      refine lv_aload_n hx hb dModel_lookName_28 rfl (lv_at hl 0 rfl) ?_
      refine md_gI S hC hM 33 (v := σr2 33) rfl (by decide) rfl qw_c60a40a4a7 dModel_lookName_29 ?_
      refine lv_topi (fun v73 ev73 => ?_)
      refine lv_istore_n (lv' := [(2, .int v73), (0, .ref a), (1, .int x1)]) hx hb dModel_lookName_32 rfl hl (by decide) rfl (fun ls hl => ?_)
      have hio : vp_in v73 2000 := vin_of (ev73.trans hoe) ho (by omega)
      refine lv_aload_n hx hb dModel_lookName_33 rfl (lv_at hl 1 rfl) ?_
      refine md_gA S hC hM 22 (by decide) rfl qw_50c5849686 dModel_lookName_34 ?_
      refine lv_iload_n hx hb dModel_lookName_37 rfl (lv_at hl 0 rfl) ?_
      refine md_ild S hC hM 22 17 2000 (τ 22) rfl rfl (by decide) rfl rfl (vin (by assumption) (by omega)) dModel_lookName_38 ?_
      refine lv_topi (fun v74 ev74 => ?_)
      have J66 : ∀ (ls : Array Slot) (H : Heap) (locs : List Loc) (F_66 : Nat → Nat → Int32) (nu_66 : Nat → Int64), MD γ a B Z ν τ σr2 F_66 nu_66 H → va_S Z s.heap H locs → (GK x1.toNatClampNeg F_66 nu_66) → (SL x1.toNatClampNeg F nu F_66 nu_66) → (SZ F_66) → (Oq OUT (Q_lookName_66 κ τ σ F nu x1   F_66 nu_66)) → lv_has ls 3 [(0, .ref a), (1, .int x1), (2, .int v73)] → W p l e (bs_rm 3 0 0 70) s m args below meth c H locs 0 0 Q (F0 m 66 ls []) := by
        intro ls H locs F_66 nu_66 hM hS hK hL hZ hO hl
        refine lv_aload_n hx hb dModel_lookName_66 rfl (lv_at hl 0 rfl) ?_
        refine md_gA S hC hM 12 (by decide) rfl qw_19df235c4a dModel_lookName_67 ?_
        refine lv_iload_n hx hb dModel_lookName_70 rfl (lv_at hl 1 rfl) ?_
        refine lv_iload_n hx hb dModel_lookName_71 rfl (lv_at hl 2 rfl) ?_
        refine md_istD S hC hM hS 12 8 10000 rfl rfl (by decide) rfl rfl (vin (by assumption) (by omega)) dModel_lookName_72 (fun H locs hM hS => ?_)
        obtain ⟨F81, eF81⟩ : ∃ z : Nat → Nat → Int32, z = Au F_66 12 x1.toNatClampNeg v73 := ⟨_, rfl⟩
        rw [← eF81] at hM
        have hZ : SZ F81 := hZ.au eF81 (by decide)
        have hL : SL x1.toNatClampNeg F nu F81 nu_66 := hL.au eF81 (by decide)
        have hK : GK x1.toNatClampNeg F81 nu_66 := hK.au eF81 (by decide)
        refine lv_iconst (v := 0) hx hb dModel_lookName_73 (by decide) ?_
        exact hE _ _ _ _ _ hS ⟨σr2, F81, nu_66, (by subst eF81 ev74 ev73 ev5 ev3 eσr2 ev1; exact hO.tr rfl), hM, hZ, hF, hL, (fun _ => hK)⟩ dModel_lookName_74
      refine lv_if_ne (tgt := 55) hx hb dModel_lookName_39 (by decide) (fun c82 => ?_) (fun c82 => ?_)
      · refine lv_aload_n hx hb dModel_lookName_55 rfl (lv_at hl 1 rfl) ?_
        refine lv_iload_n hx hb dModel_lookName_56 rfl (lv_at hl 2 rfl) ?_
        refine lv_aload_n hx hb dModel_lookName_57 rfl (lv_at hl 1 rfl) ?_
        refine md_gA S hC hM 23 (by decide) rfl qw_bd9bcb35cb dModel_lookName_58 ?_
        refine lv_iload_n hx hb dModel_lookName_61 rfl (lv_at hl 0 rfl) ?_
        refine md_ild S hC hM 23 18 2000 (τ 23) rfl rfl (by decide) rfl rfl (vin (by assumption) (by omega)) dModel_lookName_62 ?_
        refine lv_topi (fun v83 ev83 => ?_)
        have hit : vp_in v83 1000 := ob_in hOB hio ev83
        refine mu_Vv (rest := []) S hC (fun q h => hA q (Nat.le_trans hS.1 h)) (fun q h => h) hS (n_factOfType l γ a B Z κ b mn ν τ σr2 F nu hT x1 v83 (vin (by assumption) (by omega)) hit) meModel_factOfType qw_7a050de5f5 ⟨Nat.le_of_ble_eq_true rfl, Nat.le_of_ble_eq_true rfl⟩ (md_rv hC hM) hM rfl hl.1 rfl (Nat.le_of_ble_eq_true rfl) dModel_lookName_63 ⟨Nat.le_refl _, Nat.le_refl _⟩ (fun H locs hPO hS _ _ => ?_)
        obtain ⟨Fr84, nur84, cr84, nr84, eOr84, hM, hqr84, hnr84⟩ := hPO
        have eFr84 : Fr84 = (Q_factOfType κ τ σr2 F nu x1 v83).2.1 := by rw [eOr84.eq]
        have enur84 : nur84 = (Q_factOfType κ τ σr2 F nu x1 v83).2.2 := by rw [eOr84.eq]
        clear eOr84
        have hZ : SZ Fr84 := hZ.slt hqr84 hnr84
        have hL : SL x1.toNatClampNeg F nu Fr84 nur84 := hL.trans (SL.slt hqr84)
        have hK : GK x1.toNatClampNeg Fr84 nur84 := GK.zero hqr84
        exact J66 ls _ _ Fr84 nur84 hM hS hK hL hZ (by subst enur84 eFr84 ev83 ev74 ev73 ev5 ev3 eσr2 ev1; exact hO.tr ((if_neg c4).trans ((if_pos c6).trans (if_neg c82)))) (lv_sub hl [1, 2, 0] rfl)
      · refine lv_aload_n hx hb dModel_lookName_42 rfl (lv_at hl 1 rfl) ?_
        refine lv_sipush (v := 8000) hx hb dModel_lookName_43 (by decide) ?_
        refine lv_iload_n hx hb dModel_lookName_46 rfl (lv_at hl 0 rfl) ?_
        refine lv_iadd hx hb dModel_lookName_47 ?_
        refine lv_topi (fun v85 ev85 => ?_)
        refine lv_iload_n hx hb dModel_lookName_48 rfl (lv_at hl 2 rfl) ?_
        have h8 := vin8 hio ev85
        refine mu_Vv (rest := []) S hC (fun q h => hA q (Nat.le_trans hS.1 h)) (fun q h => h) hS (n_copy l γ a B Z κ b mn ν τ σr2 F nu hT v85 x1 h8.1 (vin (by assumption) (by omega))) meModel_copy qw_7581103c83 ⟨Nat.le_of_ble_eq_true rfl, Nat.le_of_ble_eq_true rfl⟩ (md_rv hC hM) hM rfl hl.1 rfl (Nat.le_of_ble_eq_true rfl) dModel_lookName_49 ⟨Nat.le_refl _, Nat.le_refl _⟩ (fun H locs hPO hS _ _ => ?_)
        obtain ⟨Fr86, nur86, eOr86, hM, hqr86⟩ := hPO
        have eFr86 : Fr86 = (Q_copy κ τ σr2 F nu v85 x1).2.1 := by rw [eOr86.eq]
        have enur86 : nur86 = (Q_copy κ τ σr2 F nu v85 x1).2.2 := by rw [eOr86.eq]
        clear eOr86
        have hZ : SZ Fr86 := hZ.slt hqr86 (hZ _ (vix h8.1))
        have hL : SL x1.toNatClampNeg F nu Fr86 nur86 := hL.trans (SL.slt hqr86)
        have hK : GK x1.toNatClampNeg Fr86 nur86 := GK.copy hqr86 (hG _ (by rw [h8.2]; omega) (vix h8.1))
        refine lv_goto (tgt := 66) hx hb dModel_lookName_52 (by decide) ?_
        exact J66 ls _ _ Fr86 nur86 hM hS hK hL hZ (by subst enur86 eFr86 ev85 ev74 ev73 ev5 ev3 eσr2 ev1; exact hO.tr ((if_neg c4).trans ((if_pos c6).trans (if_pos c82)))) (lv_sub hl [1, 2, 0] rfl)
  · refine lv_iconst (v := 1) hx hb dModel_lookName_18 (by decide) ?_
    exact hE _ _ _ _ _ hS ⟨σr2, F, nu, (by subst ev3 eσr2 ev1; exact hO.tr (if_pos c4)), hM, hZ, hF, hL, (fun h9 => absurd (show (0 : Int32) < 1 by decide) h9)⟩ dModel_lookName_19
def Q_lookRow_98 (κ : Nat → Nat) (τ : gf) (σ : Nat → Int32) (F : gf) (nu : gg) (x1 : Int32) (t0_23 : Int32) (i4_27 : Int32) (i3_27 : Int32) : Nat → gf → Int32 → Int32 × (Nat → Int32) × gf × gg
  | 0, _, _ => default
  | n + 1, F_98, i4_98 => (if (τ 4 x1.toNatClampNeg) ≤ i4_98 then (0, σ, F_98, ((Q_fact κ τ σ F nu x1 3 (τ 4 x1.toNatClampNeg) 1).2.2)) else (Q_lookRow_98 κ τ σ F nu x1 t0_23 i4_27 i3_27  n ((Q_setElement κ τ σ F_98 ((Q_fact κ τ σ F nu x1 3 (τ 4 x1.toNatClampNeg) 1).2.2) x1 i4_98 (τ 3 (Q_child κ τ σ F_98 ((Q_fact κ τ σ F nu x1 3 (τ 4 x1.toNatClampNeg) 1).2.2) x1 i4_98).toNatClampNeg)).2.1) (i4_98 + 1)))
def Q_lookRow_80 (κ : Nat → Nat) (τ : gf) (σ : Nat → Int32) (F : gf) (nu : gg) (x1 : Int32) (t0_23 : Int32) (i4_27 : Int32) (i3_27 : Int32) : Int32 × (Nat → Int32) × gf × gg := (if i3_27 = 0 then (11, σ, F, nu) else (Q_lookRow_98 κ τ σ F nu x1 t0_23 i4_27 i3_27  ((2147483647 - (0 : Int32).toInt).toNat + 1) ((Q_fact κ τ σ F nu x1 3 (τ 4 x1.toNatClampNeg) 1).2.1) 0))
def Q_lookRow_73 (κ : Nat → Nat) (τ : gf) (σ : Nat → Int32) (F : gf) (nu : gg) (x1 : Int32) (t0_23 : Int32) (i4_27 : Int32) (i3_27 : Int32) (k27 : Int32 → Int32 → Int32 × (Nat → Int32) × gf × gg) (t0_73 : Int32) : Int32 × (Nat → Int32) × gf × gg := (k27 (i4_27 + 1) t0_73)
def Q_lookRow_72 (κ : Nat → Nat) (τ : gf) (σ : Nat → Int32) (F : gf) (nu : gg) (x1 : Int32) (t0_23 : Int32) (i4_27 : Int32) (i3_27 : Int32) (k27 : Int32 → Int32 → Int32 × (Nat → Int32) × gf × gg) : Int32 × (Nat → Int32) × gf × gg := (Q_lookRow_73 κ τ σ F nu x1 t0_23 i4_27 i3_27 k27 0)
def Q_lookRow_27 (κ : Nat → Nat) (τ : gf) (σ : Nat → Int32) (F : gf) (nu : gg) (x1 : Int32) (t0_23 : Int32) : Nat → Int32 → Int32 → Int32 × (Nat → Int32) × gf × gg
  | 0, _, _ => default
  | n + 1, i4_27, i3_27 => (if (τ 4 x1.toNatClampNeg) ≤ i4_27 then (Q_lookRow_80 κ τ σ F nu x1 t0_23 i4_27 i3_27  ) else (if i3_27 = 0 then (Q_lookRow_80 κ τ σ F nu x1 t0_23 i4_27 i3_27  ) else (if (τ 2 (Q_child κ τ σ F nu x1 i4_27).toNatClampNeg) = 3 then (if (τ 4 (Q_child κ τ σ F nu x1 i4_27).toNatClampNeg) = 0 then (Q_lookRow_73 κ τ σ F nu x1 t0_23 i4_27 i3_27 (fun a0 a1 => Q_lookRow_27 κ τ σ F nu x1 t0_23  n a0 a1) 1) else (Q_lookRow_72 κ τ σ F nu x1 t0_23 i4_27 i3_27 (fun a0 a1 => Q_lookRow_27 κ τ σ F nu x1 t0_23  n a0 a1) )) else (Q_lookRow_72 κ τ σ F nu x1 t0_23 i4_27 i3_27 (fun a0 a1 => Q_lookRow_27 κ τ σ F nu x1 t0_23  n a0 a1) ))))
def Q_lookRow_23 (κ : Nat → Nat) (τ : gf) (σ : Nat → Int32) (F : gf) (nu : gg) (x1 : Int32) (t0_23 : Int32) : Int32 × (Nat → Int32) × gf × gg := (Q_lookRow_27 κ τ σ F nu x1 t0_23  ((2147483647 - (0 : Int32).toInt).toNat + 1) 0 t0_23)
def Q_lookRow_22 (κ : Nat → Nat) (τ : gf) (σ : Nat → Int32) (F : gf) (nu : gg) (x1 : Int32) : Int32 × (Nat → Int32) × gf × gg := (Q_lookRow_23 κ τ σ F nu x1  0)
def Q_lookRow (κ : Nat → Nat) (τ : gf) (σ : Nat → Int32) (F : gf) (nu : gg) (x1 : Int32) : Int32 × (Nat → Int32) × gf × gg := (if (τ 4 x1.toNatClampNeg) < 1 then (Q_lookRow_22 κ τ σ F nu x1  ) else (if 64 < (τ 4 x1.toNatClampNeg) then (Q_lookRow_22 κ τ σ F nu x1  ) else (Q_lookRow_23 κ τ σ F nu x1  1)))
set_option maxHeartbeats 4000000 in
set_option maxRecDepth 100000 in
theorem n_lookRow (l : Launch) (γ : gE) (a : Nat) (B : Nat → Nat) (Z : Nat → Prop) (κ b mn : Nat → Nat) (ν : Nat → Int32) (τ : Nat → Nat → Int32) (σ : Nat → Int32) (F : Nat → Nat → Int32) (nu : Nat → Int64) (hT : ST κ b mn ν τ) (x1 : Int32) (hx1 : vp_in x1 (κ 0)) (hZ : SZ F) (hF : FD σ) : MU l yModel_lookRow bModel_lookRow 5 (some .int) 2 48 0 0 [.ref a, .int x1] γ Z (MD γ a B Z ν τ σ F nu) (mQi (fun r H => ∃ (σ' : Nat → Int32) (F' : Nat → Nat → Int32) (nu' : Nat → Int64), Oq (Q_lookRow κ τ σ F nu x1) (r, σ', F', nu') ∧ MD γ a B Z ν τ σ' F' nu' H ∧ SZ F' ∧ FD σ' ∧ SL x1.toNatClampNeg F nu F' nu' ∧ (¬ 0 < r → GK x1.toNatClampNeg F' nu')) Z) := by
  refine mu_openI (by decide) (Nat.le_of_ble_eq_true rfl) ?_
  intro p e s m args below meth c ls Q S hnm hC hA hM hE hl
  have hS : va_S Z s.heap s.heap [] := va_S.rf
  obtain ⟨hx, hb, hml, hown, hW⟩ := id S
  obtain ⟨⟨hs0, hs1, hs2, hs3, hs4, hs5, hs6⟩, ⟨hv6, hv8, hv21, hv24, hv30, hv31⟩, hTR, hTY, hOB, hNM⟩ := id hT
  have hL : SL x1.toNatClampNeg F nu F nu := SL.rf
  have hl : lv_has ls 5 [(0, .ref a), (1, .int x1)] := hl
  obtain ⟨OUT, hQ, hO⟩ : ∃ z, (z = Q_lookRow κ τ σ F nu x1) ∧ Oq z (Q_lookRow κ τ σ F nu x1) := ⟨_, rfl, rfl⟩
  rw [← hQ] at hE
  clear hQ
  refine lv_aload_n hx hb dModel_lookRow_0 rfl (lv_at hl 0 rfl) ?_
  refine md_gA S hC hM 4 (by decide) rfl qw_a8caa30de3 dModel_lookRow_1 ?_
  refine lv_iload_n hx hb dModel_lookRow_4 rfl (lv_at hl 1 rfl) ?_
  refine md_ild S hC hM 4 2 4000 (τ 4) rfl rfl (by decide) rfl rfl (vin (by assumption) (by omega)) dModel_lookRow_5 ?_
  refine lv_topi (fun v1 ev1 => ?_)
  refine lv_istore_n (lv' := [(2, .int v1), (0, .ref a), (1, .int x1)]) hx hb dModel_lookRow_6 rfl hl (by decide) rfl (fun ls hl => ?_)
  obtain ⟨hn2, hmx⟩ := mn_of hTR hx1 ev1
  refine lv_iload_n hx hb dModel_lookRow_7 rfl (lv_at hl 0 rfl) ?_
  refine lv_iconst (v := 1) hx hb dModel_lookRow_8 (by decide) ?_
  have J23 : ∀ (ls : Array Slot) (t0_23 : Int32), (t0_23 = 0 ∨ mn x1.toNatClampNeg ≤ 64) → (Oq OUT (Q_lookRow_23 κ τ σ F nu x1   t0_23)) → lv_has ls 5 [(0, .ref a), (1, .int x1), (2, .int v1)] → W p l e (bs_rm 2 0 0 48) s m args below meth c s.heap [] 0 0 Q (F0 m 23 ls [.int t0_23]) := by
    intro ls t0_23 ht0_23 hO hl
    refine lv_istore_n (lv' := [(3, .int t0_23), (0, .ref a), (1, .int x1), (2, .int v1)]) hx hb dModel_lookRow_23 rfl hl (by decide) rfl (fun ls hl => ?_)
    refine lv_iconst (v := 0) hx hb dModel_lookRow_24 (by decide) ?_
    refine lv_istore (lv' := [(4, .int 0), (3, .int t0_23), (0, .ref a), (1, .int x1), (2, .int v1)]) hx hb dModel_lookRow_25 hl (by decide) rfl (fun ls hl => ?_)
    have J27 : ∀ (N27 : Nat) (ls : Array Slot) (i4_27 : Int32) (i3_27 : Int32), (¬ i4_27 < 0) → (i3_27 = 0 ∨ mn x1.toNatClampNeg ≤ 64) → (Oq OUT (Q_lookRow_27 κ τ σ F nu x1 t0_23  (N27 + 1) i4_27 i3_27)) → (2147483647 - i4_27.toInt).toNat = N27 → lv_has ls 5 [(0, .ref a), (1, .int x1), (2, .int v1), (3, .int i3_27), (4, .int i4_27)] → W p l e (bs_rm 2 0 0 48) s m args below meth c s.heap [] 0 0 Q (F0 m 27 ls []) := by
      intro N27
      induction N27 using Nat.strongRecOn with
      | ind N27 ih27 =>
        intro ls i4_27 i3_27 hi4_27 hi3_27 hO hm27 hl
        refine lv_iload hx hb dModel_lookRow_27 (lv_at hl 4 rfl) ?_
        refine lv_iload_n hx hb dModel_lookRow_29 rfl (lv_at hl 2 rfl) ?_
        have J80 : ∀ (ls : Array Slot), (Oq OUT (Q_lookRow_80 κ τ σ F nu x1 t0_23 i4_27 i3_27   )) → lv_has ls 5 [(0, .ref a), (1, .int x1), (2, .int v1), (3, .int i3_27), (4, .int i4_27)] → W p l e (bs_rm 2 0 0 48) s m args below meth c s.heap [] 0 0 Q (F0 m 80 ls []) := by
          intro ls hO hl
          refine lv_iload_n hx hb dModel_lookRow_80 rfl (lv_at hl 3 rfl) ?_
          refine lv_if_ne (tgt := 87) hx hb dModel_lookRow_81 (by decide) (fun c36 => ?_) (fun c36 => ?_)
          · have h64 : mn x1.toNatClampNeg ≤ 64 := hi3_27.resolve_left (by assumption)
            refine lv_aload_n hx hb dModel_lookRow_87 rfl (lv_at hl 0 rfl) ?_
            refine lv_iload_n hx hb dModel_lookRow_88 rfl (lv_at hl 1 rfl) ?_
            refine lv_iconst (v := 3) hx hb dModel_lookRow_89 (by decide) ?_
            refine lv_iload_n hx hb dModel_lookRow_90 rfl (lv_at hl 2 rfl) ?_
            refine lv_iconst (v := 1) hx hb dModel_lookRow_91 (by decide) ?_
            have hnr37 : ∃ j, j ≤ 1000 ∧ v1 = nI j := ⟨_, by omega, hn2⟩
            refine mu_Vv (rest := []) S hC (fun q h => hA q (Nat.le_trans hS.1 h)) (fun q h => h) hS (n_fact l γ a B Z κ b mn ν τ σ F nu hT x1 3 v1 1 (vin (by assumption) (by omega)) hnr37) meModel_fact qw_02871250ec ⟨Nat.le_of_ble_eq_true rfl, Nat.le_of_ble_eq_true rfl⟩ (md_rv hC hM) hM rfl hl.1 rfl (Nat.le_of_ble_eq_true rfl) dModel_lookRow_92 ⟨Nat.le_refl _, Nat.le_refl _⟩ (fun H locs hPO hS _ _ => ?_)
            obtain ⟨Fr37, nur37, eOr37, hM, hqr37, hcr37⟩ := hPO
            have eFr37 : Fr37 = (Q_fact κ τ σ F nu x1 3 v1 1).2.1 := by rw [eOr37.eq]
            have enur37 : nur37 = (Q_fact κ τ σ F nu x1 3 v1 1).2.2 := by rw [eOr37.eq]
            clear eOr37
            have hZ : SZ Fr37 := hZ.slt hqr37 hnr37
            have hL : SL x1.toNatClampNeg F nu Fr37 nur37 := hL.trans (SL.slt hqr37)
            have hK : GK x1.toNatClampNeg Fr37 nur37 := GK.zero hqr37
            refine lv_iconst (v := 0) hx hb dModel_lookRow_95 (by decide) ?_
            refine lv_istore (lv' := [(4, .int 0), (0, .ref a), (1, .int x1), (2, .int v1), (3, .int i3_27)]) hx hb dModel_lookRow_96 hl (by decide) rfl (fun ls hl => ?_)
            have J98 : ∀ (N98 : Nat) (ls : Array Slot) (H : Heap) (locs : List Loc) (F_98 : Nat → Nat → Int32) (i4_98 : Int32), MD γ a B Z ν τ σ F_98 nur37 H → va_S Z s.heap H locs → (GK x1.toNatClampNeg F_98 nur37) → (SL x1.toNatClampNeg F nu F_98 nur37) → (SZ F_98) → (¬ i4_98 < 0) → (Oq OUT (Q_lookRow_98 κ τ σ F nu x1 t0_23 i4_27 i3_27  (N98 + 1) F_98 i4_98)) → (2147483647 - i4_98.toInt).toNat = N98 → lv_has ls 5 [(0, .ref a), (1, .int x1), (2, .int v1), (3, .int i3_27), (4, .int i4_98)] → W p l e (bs_rm 2 0 0 48) s m args below meth c H locs 0 0 Q (F0 m 98 ls []) := by
              intro N98
              induction N98 using Nat.strongRecOn with
              | ind N98 ih98 =>
                intro ls H locs F_98 i4_98 hM hS hK hL hZ hi4_98 hO hm98 hl
                refine lv_iload hx hb dModel_lookRow_98 (lv_at hl 4 rfl) ?_
                refine lv_iload_n hx hb dModel_lookRow_100 rfl (lv_at hl 2 rfl) ?_
                refine lv_icmp_ge (tgt := 129) hx hb dModel_lookRow_101 (by decide) (fun c38 => ?_) (fun c38 => ?_)
                · refine lv_iconst (v := 0) hx hb dModel_lookRow_129 (by decide) ?_
                  exact hE _ _ _ _ _ hS ⟨σ, F_98, nur37, (by subst enur37 eFr37 ev1; exact hO.tr (if_pos c38)), hM, hZ, hF, hL, (fun _ => hK)⟩ dModel_lookRow_130
                · have hj4 : vp_in i4_98 (mn x1.toNatClampNeg) := vcmp (by assumption) hn2 (by assumption) (by omega)
                  refine lv_aload_n hx hb dModel_lookRow_104 rfl (lv_at hl 0 rfl) ?_
                  refine lv_iload_n hx hb dModel_lookRow_105 rfl (lv_at hl 1 rfl) ?_
                  refine lv_iload hx hb dModel_lookRow_106 (lv_at hl 4 rfl) ?_
                  refine lv_aload_n hx hb dModel_lookRow_108 rfl (lv_at hl 0 rfl) ?_
                  refine md_gA S hC hM 3 (by decide) rfl qw_9fb851a5fa dModel_lookRow_109 ?_
                  refine lv_aload_n hx hb dModel_lookRow_112 rfl (lv_at hl 0 rfl) ?_
                  refine lv_iload_n hx hb dModel_lookRow_113 rfl (lv_at hl 1 rfl) ?_
                  refine lv_iload hx hb dModel_lookRow_114 (lv_at hl 4 rfl) ?_
                  have hpr39 : vp_in x1 (κ 0) := (vin (by assumption) (by omega))
                  have hjr39 : vp_in i4_98 (mn x1.toNatClampNeg) := (by assumption)
                  refine pu_Vi (rest := [.ref (B 3), .int i4_98, .int x1, .ref a]) S hC (n_child l γ a B Z κ b mn ν τ σ F_98 nur37 hT x1 i4_98 hpr39 hjr39) meModel_child qw_a66d450e0a ⟨Nat.le_of_ble_eq_true rfl, Nat.le_of_ble_eq_true rfl⟩ (md_rv hC hM) hM rfl hl.1 rfl (Nat.le_of_ble_eq_true rfl) dModel_lookRow_116 ⟨Nat.zero_le _, Nat.zero_le _⟩ (fun r39 hr39 => ?_)
                  obtain ⟨hr39, er39⟩ := hr39
                  obtain ⟨hir39, hltr39, hxr39⟩ := ch_in hTR hs0 hpr39 hjr39 hr39
                  refine md_ild S hC hM 3 1 4000 (τ 3) rfl rfl (by decide) rfl rfl (vin (by assumption) (by omega)) dModel_lookRow_119 ?_
                  refine lv_topi (fun v40 ev40 => ?_)
                  refine mu_Vv (rest := []) S hC (fun q h => hA q (Nat.le_trans hS.1 h)) (fun q h => h) hS (n_setElement l γ a B Z κ b mn ν τ σ F_98 nur37 hT x1 i4_98 v40 (el_in (by assumption) (by assumption) (by omega))) meModel_setElement qw_143403ccb9 ⟨Nat.le_of_ble_eq_true rfl, Nat.le_of_ble_eq_true rfl⟩ (md_rv hC hM) hM rfl hl.1 rfl (Nat.le_of_ble_eq_true rfl) dModel_lookRow_120 ⟨Nat.le_refl _, Nat.le_refl _⟩ (fun H locs hPO hS _ _ => ?_)
                  obtain ⟨Fr41, eOr41, hM, hqr41⟩ := hPO
                  have eFr41 : Fr41 = (Q_setElement κ τ σ F_98 nur37 x1 i4_98 v40).2.1 := by rw [eOr41.eq]
                  clear eOr41
                  have hZ : SZ Fr41 := hZ.e14 hqr41
                  have hL : SL x1.toNatClampNeg F nu Fr41 nur37 := hL.trans (SL.e14 hqr41)
                  have hK : GK x1.toNatClampNeg Fr41 nur37 := hK.e14 hqr41
                  obtain ⟨v42, ev42⟩ : ∃ y : Int32, y = i4_98 + 1 := ⟨_, rfl⟩
                  refine lv_iinc (v := v42) (lv' := [(4, .int v42), (0, .ref a), (1, .int x1), (2, .int v1), (3, .int i3_27)]) hx hb dModel_lookRow_123 hl (k := 4) rfl (by rw [ev42]; rfl) (by decide) rfl (fun ls hl => ?_)
                  refine lv_goto (tgt := 98) hx hb dModel_lookRow_126 (by decide) ?_
                  exact ih98 _ (by have q1 : i4_98.toInt < 2147483647 := (by first | assumption | exact (mu_up (k := i4_98) (by assumption)).2); have q2 := mu_lt q1; rw [← ev42] at q2; omega) ls _ _ Fr41 v42 hM hS hK hL hZ (by first | decide | exact nn_inc (by assumption) (by assumption) (by assumption)) (by have hN : N98 = (2147483647 - v42.toInt).toNat + 1 := (by have q1 : i4_98.toInt < 2147483647 := (by first | assumption | exact (mu_up (k := i4_98) (by assumption)).2); have q2 := mu_lt q1; rw [← ev42] at q2; omega); rw [← hN]; clear hN; subst ev42 eFr41 ev40 er39 enur37 eFr37 ev1; exact hO.tr (if_neg c38)) rfl (lv_sub hl [1, 2, 3, 4, 0] rfl)
            exact J98 _ ls _ _ Fr37 0 hM hS hK hL hZ (by first | decide | exact nn_inc (by assumption) (by assumption) (by assumption)) (by subst enur37 eFr37 ev1; exact hO.tr (if_neg c36)) rfl (lv_sub hl [1, 2, 3, 4, 0] rfl)
          · refine lv_bipush (v := 11) hx hb dModel_lookRow_84 (by decide) ?_
            exact hE _ _ _ _ _ hS ⟨σ, F, nu, (by subst ev1; exact hO.tr (if_pos c36)), hM, hZ, hF, hL, (fun h9 => absurd (show (0 : Int32) < 11 by decide) h9)⟩ dModel_lookRow_86
        refine lv_icmp_ge (tgt := 80) hx hb dModel_lookRow_30 (by decide) (fun c43 => ?_) (fun c43 => ?_)
        · exact J80 ls (by subst ev1; exact hO.tr (if_pos c43)) (lv_sub hl [0, 1, 2, 3, 4] rfl)
        · have hj4 : vp_in i4_27 (mn x1.toNatClampNeg) := vcmp (by assumption) hn2 (by assumption) (by omega)
          refine lv_iload_n hx hb dModel_lookRow_33 rfl (lv_at hl 3 rfl) ?_
          refine lv_if_eq (tgt := 80) hx hb dModel_lookRow_34 (by decide) (fun c44 => ?_) (fun c44 => ?_)
          · exact J80 ls (by subst ev1; exact hO.tr ((if_neg c43).trans (if_pos c44))) (lv_sub hl [0, 1, 2, 3, 4] rfl)
          · refine lv_aload_n hx hb dModel_lookRow_37 rfl (lv_at hl 0 rfl) ?_
            refine md_gA S hC hM 2 (by decide) rfl qw_3471296067 dModel_lookRow_38 ?_
            refine lv_aload_n hx hb dModel_lookRow_41 rfl (lv_at hl 0 rfl) ?_
            refine lv_iload_n hx hb dModel_lookRow_42 rfl (lv_at hl 1 rfl) ?_
            refine lv_iload hx hb dModel_lookRow_43 (lv_at hl 4 rfl) ?_
            have hpr45 : vp_in x1 (κ 0) := (vin (by assumption) (by omega))
            have hjr45 : vp_in i4_27 (mn x1.toNatClampNeg) := (by assumption)
            refine pu_Vi (rest := [.ref (B 2)]) S hC (n_child l γ a B Z κ b mn ν τ σ F nu hT x1 i4_27 hpr45 hjr45) meModel_child qw_a66d450e0a ⟨Nat.le_of_ble_eq_true rfl, Nat.le_of_ble_eq_true rfl⟩ (md_rv hC hM) hM rfl hl.1 rfl (Nat.le_of_ble_eq_true rfl) dModel_lookRow_45 ⟨Nat.zero_le _, Nat.zero_le _⟩ (fun r45 hr45 => ?_)
            obtain ⟨hr45, er45⟩ := hr45
            obtain ⟨hir45, hltr45, hxr45⟩ := ch_in hTR hs0 hpr45 hjr45 hr45
            refine md_ild S hC hM 2 0 4000 (τ 2) rfl rfl (by decide) rfl rfl (vin (by assumption) (by omega)) dModel_lookRow_48 ?_
            refine lv_topi (fun v46 ev46 => ?_)
            refine lv_iconst (v := 3) hx hb dModel_lookRow_49 (by decide) ?_
            have J73 : ∀ (ls : Array Slot) (t0_73 : Int32), (t0_73 = 0 ∨ mn x1.toNatClampNeg ≤ 64) → (Oq OUT (Q_lookRow_73 κ τ σ F nu x1 t0_23 i4_27 i3_27 (fun a0 a1 => Q_lookRow_27 κ τ σ F nu x1 t0_23  N27 a0 a1)  t0_73)) → lv_has ls 5 [(0, .ref a), (1, .int x1), (2, .int v1), (3, .int i3_27), (4, .int i4_27)] → W p l e (bs_rm 2 0 0 48) s m args below meth c s.heap [] 0 0 Q (F0 m 73 ls [.int t0_73]) := by
              intro ls t0_73 ht0_73 hO hl
              refine lv_istore_n (lv' := [(3, .int t0_73), (0, .ref a), (1, .int x1), (2, .int v1), (4, .int i4_27)]) hx hb dModel_lookRow_73 rfl hl (by decide) rfl (fun ls hl => ?_)
              obtain ⟨v52, ev52⟩ : ∃ y : Int32, y = i4_27 + 1 := ⟨_, rfl⟩
              refine lv_iinc (v := v52) (lv' := [(4, .int v52), (3, .int t0_73), (0, .ref a), (1, .int x1), (2, .int v1)]) hx hb dModel_lookRow_74 hl (k := 4) rfl (by rw [ev52]; rfl) (by decide) rfl (fun ls hl => ?_)
              refine lv_goto (tgt := 27) hx hb dModel_lookRow_77 (by decide) ?_
              exact ih27 _ (by have q1 : i4_27.toInt < 2147483647 := (by first | assumption | exact (mu_up (k := i4_27) (by assumption)).2); have q2 := mu_lt q1; rw [← ev52] at q2; omega) ls v52 t0_73 (by first | decide | exact nn_inc (by assumption) (by assumption) (by assumption)) (by first | assumption | exact Or.inl rfl) (by have hN : N27 = (2147483647 - v52.toInt).toNat + 1 := (by have q1 : i4_27.toInt < 2147483647 := (by first | assumption | exact (mu_up (k := i4_27) (by assumption)).2); have q2 := mu_lt q1; rw [← ev52] at q2; omega); rw [← hN]; clear hN; subst ev52 ev46 er45 ev1; exact hO.tr rfl) rfl (lv_sub hl [2, 3, 4, 1, 0] rfl)
            have J72 : ∀ (ls : Array Slot), (Oq OUT (Q_lookRow_72 κ τ σ F nu x1 t0_23 i4_27 i3_27 (fun a0 a1 => Q_lookRow_27 κ τ σ F nu x1 t0_23  N27 a0 a1)  )) → lv_has ls 5 [(0, .ref a), (1, .int x1), (2, .int v1), (3, .int i3_27), (4, .int i4_27)] → W p l e (bs_rm 2 0 0 48) s m args below meth c s.heap [] 0 0 Q (F0 m 72 ls []) := by
              intro ls hO hl
              refine lv_iconst (v := 0) hx hb dModel_lookRow_72 (by decide) ?_
              exact J73 ls 0 (by first | exact Or.inl rfl | exact Or.inr (hi3_27.resolve_left (by assumption))) (by subst ev46 er45 ev1; exact hO.tr rfl) (lv_sub hl [0, 1, 2, 3, 4] rfl)
            refine lv_icmp_ne (tgt := 72) hx hb dModel_lookRow_50 (by decide) (fun c53 => ?_) (fun c53 => ?_)
            · exact J72 ls (by subst ev46 er45 ev1; exact hO.tr ((if_neg c43).trans ((if_neg c44).trans (if_neg c53)))) (lv_sub hl [0, 1, 2, 3, 4] rfl)
            · refine lv_aload_n hx hb dModel_lookRow_53 rfl (lv_at hl 0 rfl) ?_
              refine md_gA S hC hM 4 (by decide) rfl qw_a8caa30de3 dModel_lookRow_54 ?_
              refine lv_aload_n hx hb dModel_lookRow_57 rfl (lv_at hl 0 rfl) ?_
              refine lv_iload_n hx hb dModel_lookRow_58 rfl (lv_at hl 1 rfl) ?_
              refine lv_iload hx hb dModel_lookRow_59 (lv_at hl 4 rfl) ?_
              have hpr54 : vp_in x1 (κ 0) := (vin (by assumption) (by omega))
              have hjr54 : vp_in i4_27 (mn x1.toNatClampNeg) := (by assumption)
              refine pu_Vi (rest := [.ref (B 4)]) S hC (n_child l γ a B Z κ b mn ν τ σ F nu hT x1 i4_27 hpr54 hjr54) meModel_child qw_a66d450e0a ⟨Nat.le_of_ble_eq_true rfl, Nat.le_of_ble_eq_true rfl⟩ (md_rv hC hM) hM rfl hl.1 rfl (Nat.le_of_ble_eq_true rfl) dModel_lookRow_61 ⟨Nat.zero_le _, Nat.zero_le _⟩ (fun r54 hr54 => ?_)
              obtain ⟨hr54, er54⟩ := hr54
              obtain ⟨hir54, hltr54, hxr54⟩ := ch_in hTR hs0 hpr54 hjr54 hr54
              refine md_ild S hC hM 4 2 4000 (τ 4) rfl rfl (by decide) rfl rfl (vin (by assumption) (by omega)) dModel_lookRow_64 ?_
              refine lv_topi (fun v55 ev55 => ?_)
              refine lv_if_ne (tgt := 72) hx hb dModel_lookRow_65 (by decide) (fun c56 => ?_) (fun c56 => ?_)
              · exact J72 ls (by subst ev55 er54 ev46 er45 ev1; exact hO.tr ((if_neg c43).trans ((if_neg c44).trans ((if_pos c53).trans (if_neg c56))))) (lv_sub hl [0, 1, 2, 3, 4] rfl)
              · refine lv_iconst (v := 1) hx hb dModel_lookRow_68 (by decide) ?_
                refine lv_goto (tgt := 73) hx hb dModel_lookRow_69 (by decide) ?_
                exact J73 ls 1 (by first | exact Or.inl rfl | exact Or.inr (hi3_27.resolve_left (by assumption))) (by subst ev55 er54 ev46 er45 ev1; exact hO.tr ((if_neg c43).trans ((if_neg c44).trans ((if_pos c53).trans (if_pos c56))))) (lv_sub hl [0, 1, 2, 3, 4] rfl)
    exact J27 _ ls 0 t0_23 (by first | decide | exact nn_inc (by assumption) (by assumption) (by assumption)) (by first | assumption | exact Or.inl rfl) (by subst ev1; exact hO.tr rfl) rfl (lv_sub hl [2, 3, 4, 1, 0] rfl)
  have J22 : ∀ (ls : Array Slot), (Oq OUT (Q_lookRow_22 κ τ σ F nu x1   )) → lv_has ls 5 [(0, .ref a), (1, .int x1), (2, .int v1)] → W p l e (bs_rm 2 0 0 48) s m args below meth c s.heap [] 0 0 Q (F0 m 22 ls []) := by
    intro ls hO hl
    refine lv_iconst (v := 0) hx hb dModel_lookRow_22 (by decide) ?_
    exact J23 ls 0 (by first | exact Or.inl rfl | exact Or.inr (lr_64 hn2 (by omega) (by assumption))) (by subst ev1; exact hO.tr rfl) (lv_sub hl [0, 1, 2] rfl)
  refine lv_icmp_lt (tgt := 22) hx hb dModel_lookRow_9 (by decide) (fun c57 => ?_) (fun c57 => ?_)
  · exact J22 ls (by subst ev1; exact hO.tr (if_pos c57)) (lv_sub hl [1, 2, 0] rfl)
  · refine lv_iload_n hx hb dModel_lookRow_12 rfl (lv_at hl 0 rfl) ?_
    refine lv_bipush (v := 64) hx hb dModel_lookRow_13 (by decide) ?_
    refine lv_icmp_gt (tgt := 22) hx hb dModel_lookRow_15 (by decide) (fun c58 => ?_) (fun c58 => ?_)
    · exact J22 ls (by subst ev1; exact hO.tr ((if_neg c57).trans (if_pos c58))) (lv_sub hl [1, 2, 0] rfl)
    · refine lv_iconst (v := 1) hx hb dModel_lookRow_18 (by decide) ?_
      refine lv_goto (tgt := 23) hx hb dModel_lookRow_19 (by decide) ?_
      exact J23 ls 1 (by first | exact Or.inl rfl | exact Or.inr (lr_64 hn2 (by omega) (by assumption))) (by subst ev1; exact hO.tr ((if_neg c57).trans (if_neg c58))) (lv_sub hl [1, 2, 0] rfl)
def Q_lookUnary_217 (κ : Nat → Nat) (τ : gf) (σ : Nat → Int32) (F : gf) (nu : gg) (x1 : Int32) (x2 : Int32) (t0_169 : Int64) (F_173 : gf) (i4_173 : Int32) : Int32 × (Nat → Int32) × gf × gg := ((Q_known κ τ σ F_173 (vp_updL ((Q_fact κ τ σ F nu x1 (F 9 x2.toNatClampNeg) (F 10 x2.toNatClampNeg) (F 11 x2.toNatClampNeg)).2.2) x1.toNatClampNeg t0_169) x1).1, σ, ((Q_known κ τ σ F_173 (vp_updL ((Q_fact κ τ σ F nu x1 (F 9 x2.toNatClampNeg) (F 10 x2.toNatClampNeg) (F 11 x2.toNatClampNeg)).2.2) x1.toNatClampNeg t0_169) x1).2.2.1), ((Q_known κ τ σ F_173 (vp_updL ((Q_fact κ τ σ F nu x1 (F 9 x2.toNatClampNeg) (F 10 x2.toNatClampNeg) (F 11 x2.toNatClampNeg)).2.2) x1.toNatClampNeg t0_169) x1).2.2.2))
def Q_lookUnary_173 (κ : Nat → Nat) (τ : gf) (σ : Nat → Int32) (F : gf) (nu : gg) (x1 : Int32) (x2 : Int32) (t0_169 : Int64) : Nat → gf → Int32 → Int32 × (Nat → Int32) × gf × gg
  | 0, _, _ => default
  | n + 1, F_173, i4_173 => (if (F_173 10 x2.toNatClampNeg) ≤ i4_173 then (Q_lookUnary_217 κ τ σ F nu x1 x2 t0_169 F_173 i4_173  ) else (if (F_173 9 x2.toNatClampNeg) = 3 then (Q_lookUnary_173 κ τ σ F nu x1 x2 t0_169  n ((Q_setElement κ τ σ F_173 (vp_updL ((Q_fact κ τ σ F nu x1 (F 9 x2.toNatClampNeg) (F 10 x2.toNatClampNeg) (F 11 x2.toNatClampNeg)).2.2) x1.toNatClampNeg t0_169) x1 i4_173 (Q_not (Q_element κ τ σ F_173 (vp_updL ((Q_fact κ τ σ F nu x1 (F 9 x2.toNatClampNeg) (F 10 x2.toNatClampNeg) (F 11 x2.toNatClampNeg)).2.2) x1.toNatClampNeg t0_169) x2 i4_173))).2.1) (i4_173 + 1)) else (Q_lookUnary_217 κ τ σ F nu x1 x2 t0_169 F_173 i4_173  )))
def Q_lookUnary_169 (κ : Nat → Nat) (τ : gf) (σ : Nat → Int32) (F : gf) (nu : gg) (x1 : Int32) (x2 : Int32) (t0_169 : Int64) : Int32 × (Nat → Int32) × gf × gg := (Q_lookUnary_173 κ τ σ F nu x1 x2 t0_169  ((2147483647 - (0 : Int32).toInt).toNat + 1) ((Q_fact κ τ σ F nu x1 (F 9 x2.toNatClampNeg) (F 10 x2.toNatClampNeg) (F 11 x2.toNatClampNeg)).2.1) 0)
def Q_lookUnary_60 (κ : Nat → Nat) (τ : gf) (σ : Nat → Int32) (F : gf) (nu : gg) (x1 : Int32) (x2 : Int32) : Int32 × (Nat → Int32) × gf × gg := (if (((Q_fact κ τ σ F nu x1 (F 9 x2.toNatClampNeg) (F 10 x2.toNatClampNeg) (F 11 x2.toNatClampNeg)).2.1) 9 x2.toNatClampNeg) = 2 then ((Q_known κ τ σ ((Q_fact κ τ σ F nu x1 (F 9 x2.toNatClampNeg) (F 10 x2.toNatClampNeg) (F 11 x2.toNatClampNeg)).2.1) (vp_updL ((Q_fact κ τ σ F nu x1 (F 9 x2.toNatClampNeg) (F 10 x2.toNatClampNeg) (F 11 x2.toNatClampNeg)).2.2) x1.toNatClampNeg (-(((Q_fact κ τ σ F nu x1 (F 9 x2.toNatClampNeg) (F 10 x2.toNatClampNeg) (F 11 x2.toNatClampNeg)).2.2) x2.toNatClampNeg))) x1).1, σ, ((Q_known κ τ σ ((Q_fact κ τ σ F nu x1 (F 9 x2.toNatClampNeg) (F 10 x2.toNatClampNeg) (F 11 x2.toNatClampNeg)).2.1) (vp_updL ((Q_fact κ τ σ F nu x1 (F 9 x2.toNatClampNeg) (F 10 x2.toNatClampNeg) (F 11 x2.toNatClampNeg)).2.2) x1.toNatClampNeg (-(((Q_fact κ τ σ F nu x1 (F 9 x2.toNatClampNeg) (F 10 x2.toNatClampNeg) (F 11 x2.toNatClampNeg)).2.2) x2.toNatClampNeg))) x1).2.2.1), ((Q_known κ τ σ ((Q_fact κ τ σ F nu x1 (F 9 x2.toNatClampNeg) (F 10 x2.toNatClampNeg) (F 11 x2.toNatClampNeg)).2.1) (vp_updL ((Q_fact κ τ σ F nu x1 (F 9 x2.toNatClampNeg) (F 10 x2.toNatClampNeg) (F 11 x2.toNatClampNeg)).2.2) x1.toNatClampNeg (-(((Q_fact κ τ σ F nu x1 (F 9 x2.toNatClampNeg) (F 10 x2.toNatClampNeg) (F 11 x2.toNatClampNeg)).2.2) x2.toNatClampNeg))) x1).2.2.2)) else (3, σ, ((Q_fact κ τ σ F nu x1 (F 9 x2.toNatClampNeg) (F 10 x2.toNatClampNeg) (F 11 x2.toNatClampNeg)).2.1), (vp_updL ((Q_fact κ τ σ F nu x1 (F 9 x2.toNatClampNeg) (F 10 x2.toNatClampNeg) (F 11 x2.toNatClampNeg)).2.2) x1.toNatClampNeg (-(((Q_fact κ τ σ F nu x1 (F 9 x2.toNatClampNeg) (F 10 x2.toNatClampNeg) (F 11 x2.toNatClampNeg)).2.2) x2.toNatClampNeg)))))
def Q_lookUnary_70 (κ : Nat → Nat) (τ : gf) (σ : Nat → Int32) (F : gf) (nu : gg) (x1 : Int32) (x2 : Int32) : Int32 × (Nat → Int32) × gf × gg := (if (((Q_fact κ τ σ F nu x1 (F 9 x2.toNatClampNeg) (F 10 x2.toNatClampNeg) (F 11 x2.toNatClampNeg)).2.1) 9 x2.toNatClampNeg) = 2 then ((Q_known κ τ σ ((Q_fact κ τ σ F nu x1 (F 9 x2.toNatClampNeg) (F 10 x2.toNatClampNeg) (F 11 x2.toNatClampNeg)).2.1) (vp_updL ((Q_fact κ τ σ F nu x1 (F 9 x2.toNatClampNeg) (F 10 x2.toNatClampNeg) (F 11 x2.toNatClampNeg)).2.2) x1.toNatClampNeg (((Q_fact κ τ σ F nu x1 (F 9 x2.toNatClampNeg) (F 10 x2.toNatClampNeg) (F 11 x2.toNatClampNeg)).2.2) x2.toNatClampNeg)) x1).1, σ, ((Q_known κ τ σ ((Q_fact κ τ σ F nu x1 (F 9 x2.toNatClampNeg) (F 10 x2.toNatClampNeg) (F 11 x2.toNatClampNeg)).2.1) (vp_updL ((Q_fact κ τ σ F nu x1 (F 9 x2.toNatClampNeg) (F 10 x2.toNatClampNeg) (F 11 x2.toNatClampNeg)).2.2) x1.toNatClampNeg (((Q_fact κ τ σ F nu x1 (F 9 x2.toNatClampNeg) (F 10 x2.toNatClampNeg) (F 11 x2.toNatClampNeg)).2.2) x2.toNatClampNeg)) x1).2.2.1), ((Q_known κ τ σ ((Q_fact κ τ σ F nu x1 (F 9 x2.toNatClampNeg) (F 10 x2.toNatClampNeg) (F 11 x2.toNatClampNeg)).2.1) (vp_updL ((Q_fact κ τ σ F nu x1 (F 9 x2.toNatClampNeg) (F 10 x2.toNatClampNeg) (F 11 x2.toNatClampNeg)).2.2) x1.toNatClampNeg (((Q_fact κ τ σ F nu x1 (F 9 x2.toNatClampNeg) (F 10 x2.toNatClampNeg) (F 11 x2.toNatClampNeg)).2.2) x2.toNatClampNeg)) x1).2.2.2)) else (3, σ, ((Q_fact κ τ σ F nu x1 (F 9 x2.toNatClampNeg) (F 10 x2.toNatClampNeg) (F 11 x2.toNatClampNeg)).2.1), (vp_updL ((Q_fact κ τ σ F nu x1 (F 9 x2.toNatClampNeg) (F 10 x2.toNatClampNeg) (F 11 x2.toNatClampNeg)).2.2) x1.toNatClampNeg (((Q_fact κ τ σ F nu x1 (F 9 x2.toNatClampNeg) (F 10 x2.toNatClampNeg) (F 11 x2.toNatClampNeg)).2.2) x2.toNatClampNeg))))
def Q_lookUnary (κ : Nat → Nat) (τ : gf) (σ : Nat → Int32) (F : gf) (nu : gg) (x1 : Int32) (x2 : Int32) : Int32 × (Nat → Int32) × gf × gg := (if (τ 3 x1.toNatClampNeg) ≤ 0 then (if (((Q_fact κ τ σ F nu x1 (F 9 x2.toNatClampNeg) (F 10 x2.toNatClampNeg) (F 11 x2.toNatClampNeg)).2.1) 9 x2.toNatClampNeg) = 2 then (3, σ, ((Q_fact κ τ σ F nu x1 (F 9 x2.toNatClampNeg) (F 10 x2.toNatClampNeg) (F 11 x2.toNatClampNeg)).2.1), ((Q_fact κ τ σ F nu x1 (F 9 x2.toNatClampNeg) (F 10 x2.toNatClampNeg) (F 11 x2.toNatClampNeg)).2.2)) else (if (((Q_fact κ τ σ F nu x1 (F 9 x2.toNatClampNeg) (F 10 x2.toNatClampNeg) (F 11 x2.toNatClampNeg)).2.1) 9 x2.toNatClampNeg) = 4 then (3, σ, ((Q_fact κ τ σ F nu x1 (F 9 x2.toNatClampNeg) (F 10 x2.toNatClampNeg) (F 11 x2.toNatClampNeg)).2.1), ((Q_fact κ τ σ F nu x1 (F 9 x2.toNatClampNeg) (F 10 x2.toNatClampNeg) (F 11 x2.toNatClampNeg)).2.2)) else (if (((Q_fact κ τ σ F nu x1 (F 9 x2.toNatClampNeg) (F 10 x2.toNatClampNeg) (F 11 x2.toNatClampNeg)).2.1) 9 x2.toNatClampNeg) = 1 then (Q_lookUnary_169 κ τ σ F nu x1 x2  (1 - (((Q_fact κ τ σ F nu x1 (F 9 x2.toNatClampNeg) (F 10 x2.toNatClampNeg) (F 11 x2.toNatClampNeg)).2.2) x2.toNatClampNeg))) else (if (((Q_fact κ τ σ F nu x1 (F 9 x2.toNatClampNeg) (F 10 x2.toNatClampNeg) (F 11 x2.toNatClampNeg)).2.1) 9 x2.toNatClampNeg) = 0 then (Q_lookUnary_169 κ τ σ F nu x1 x2  ((Q_not ((((Q_fact κ τ σ F nu x1 (F 9 x2.toNatClampNeg) (F 10 x2.toNatClampNeg) (F 11 x2.toNatClampNeg)).2.2) x2.toNatClampNeg).toInt32)).toInt64)) else (Q_lookUnary_169 κ τ σ F nu x1 x2  0))))) else (if (τ 3 x1.toNatClampNeg) = 1 then (Q_lookUnary_60 κ τ σ F nu x1 x2  ) else (if (τ 3 x1.toNatClampNeg) = 3 then (if 0 ≤ (lg_cmp (((Q_fact κ τ σ F nu x1 (F 9 x2.toNatClampNeg) (F 10 x2.toNatClampNeg) (F 11 x2.toNatClampNeg)).2.2) x2.toNatClampNeg) 0) then (Q_lookUnary_70 κ τ σ F nu x1 x2  ) else (Q_lookUnary_60 κ τ σ F nu x1 x2  )) else (Q_lookUnary_70 κ τ σ F nu x1 x2  ))))
set_option maxHeartbeats 4000000 in
set_option maxRecDepth 100000 in
theorem n_lookUnary (l : Launch) (γ : gE) (a : Nat) (B : Nat → Nat) (Z : Nat → Prop) (κ b mn : Nat → Nat) (ν : Nat → Int32) (τ : Nat → Nat → Int32) (σ : Nat → Int32) (F : Nat → Nat → Int32) (nu : Nat → Int64) (hT : ST κ b mn ν τ) (x1 : Int32) (x2 : Int32) (hx1 : vp_in x1 (κ 0)) (hx2 : vp_in x2 (κ 0)) (ha : x2.toNatClampNeg < x1.toNatClampNeg) (hZ : SZ F) (hF : FD σ) (hg : GK x2.toNatClampNeg F nu) : MU l yModel_lookUnary bModel_lookUnary 5 (some .int) 2 48 0 0 [.ref a, .int x1, .int x2] γ Z (MD γ a B Z ν τ σ F nu) (mQi (fun r H => ∃ (σ' : Nat → Int32) (F' : Nat → Nat → Int32) (nu' : Nat → Int64), Oq (Q_lookUnary κ τ σ F nu x1 x2) (r, σ', F', nu') ∧ MD γ a B Z ν τ σ' F' nu' H ∧ SZ F' ∧ FD σ' ∧ SL x1.toNatClampNeg F nu F' nu' ∧ (¬ 0 < r → GK x1.toNatClampNeg F' nu')) Z) := by
  refine mu_openI (by decide) (Nat.le_of_ble_eq_true rfl) ?_
  intro p e s m args below meth c ls Q S hnm hC hA hM hE hl
  have hS : va_S Z s.heap s.heap [] := va_S.rf
  obtain ⟨hx, hb, hml, hown, hW⟩ := id S
  obtain ⟨⟨hs0, hs1, hs2, hs3, hs4, hs5, hs6⟩, ⟨hv6, hv8, hv21, hv24, hv30, hv31⟩, hTR, hTY, hOB, hNM⟩ := id hT
  have hL : SL x1.toNatClampNeg F nu F nu := SL.rf
  have hl : lv_has ls 5 [(0, .ref a), (1, .int x1), (2, .int x2)] := hl
  obtain ⟨OUT, hQ, hO⟩ : ∃ z, (z = Q_lookUnary κ τ σ F nu x1 x2) ∧ Oq z (Q_lookUnary κ τ σ F nu x1 x2) := ⟨_, rfl, rfl⟩
  rw [← hQ] at hE
  clear hQ
  refine lv_aload_n hx hb dModel_lookUnary_0 rfl (lv_at hl 0 rfl) ?_
  refine md_gA S hC hM 3 (by decide) rfl qw_9fb851a5fa dModel_lookUnary_1 ?_
  refine lv_iload_n hx hb dModel_lookUnary_4 rfl (lv_at hl 1 rfl) ?_
  refine md_ild S hC hM 3 1 4000 (τ 3) rfl rfl (by decide) rfl rfl (vin (by assumption) (by omega)) dModel_lookUnary_5 ?_
  refine lv_topi (fun v1 ev1 => ?_)
  refine lv_istore_n (lv' := [(3, .int v1), (0, .ref a), (1, .int x1), (2, .int x2)]) hx hb dModel_lookUnary_6 rfl hl (by decide) rfl (fun ls hl => ?_)
  refine lv_aload_n hx hb dModel_lookUnary_7 rfl (lv_at hl 1 rfl) ?_
  refine lv_iload_n hx hb dModel_lookUnary_8 rfl (lv_at hl 2 rfl) ?_
  refine lv_aload_n hx hb dModel_lookUnary_9 rfl (lv_at hl 1 rfl) ?_
  refine md_gA S hC hM 9 (by decide) rfl qw_a119aeeca0 dModel_lookUnary_10 ?_
  refine lv_iload_n hx hb dModel_lookUnary_13 rfl (lv_at hl 3 rfl) ?_
  refine md_ild S hC hM 9 5 10000 (F 9) rfl rfl (by decide) rfl rfl (vin (by assumption) (by omega)) dModel_lookUnary_14 ?_
  refine lv_topi (fun v2 ev2 => ?_)
  refine lv_aload_n hx hb dModel_lookUnary_15 rfl (lv_at hl 1 rfl) ?_
  refine md_gA S hC hM 10 (by decide) rfl qw_bd0251c605 dModel_lookUnary_16 ?_
  refine lv_iload_n hx hb dModel_lookUnary_19 rfl (lv_at hl 3 rfl) ?_
  refine md_ild S hC hM 10 6 10000 (F 10) rfl rfl (by decide) rfl rfl (vin (by assumption) (by omega)) dModel_lookUnary_20 ?_
  refine lv_topi (fun v3 ev3 => ?_)
  refine lv_aload_n hx hb dModel_lookUnary_21 rfl (lv_at hl 1 rfl) ?_
  refine md_gA S hC hM 11 (by decide) rfl qw_88b9028ba7 dModel_lookUnary_22 ?_
  refine lv_iload_n hx hb dModel_lookUnary_25 rfl (lv_at hl 3 rfl) ?_
  refine md_zld S hC hM 11 7 10000 (F 11) rfl rfl (by decide) rfl rfl (vin (by assumption) (by omega)) dModel_lookUnary_26 ?_
  refine lv_topi (fun v4 ev4 => ?_)
  have hnr5 : ∃ j, j ≤ 1000 ∧ v3 = nI j := (by rw [ev3]; exact hZ _ (vix (vin (by assumption) (by omega))))
  refine mu_Vv (rest := []) S hC (fun q h => hA q (Nat.le_trans hS.1 h)) (fun q h => h) hS (n_fact l γ a B Z κ b mn ν τ σ F nu hT x1 v2 v3 v4 (vin (by assumption) (by omega)) hnr5) meModel_fact qw_02871250ec ⟨Nat.le_of_ble_eq_true rfl, Nat.le_of_ble_eq_true rfl⟩ (md_rv hC hM) hM rfl hl.1 rfl (Nat.le_of_ble_eq_true rfl) dModel_lookUnary_27 ⟨Nat.le_refl _, Nat.le_refl _⟩ (fun H locs hPO hS _ _ => ?_)
  obtain ⟨Fr5, nur5, eOr5, hM, hqr5, hcr5⟩ := hPO
  have eFr5 : Fr5 = (Q_fact κ τ σ F nu x1 v2 v3 v4).2.1 := by rw [eOr5.eq]
  have enur5 : nur5 = (Q_fact κ τ σ F nu x1 v2 v3 v4).2.2 := by rw [eOr5.eq]
  clear eOr5
  have hZ : SZ Fr5 := hZ.slt hqr5 hnr5
  have hL : SL x1.toNatClampNeg F nu Fr5 nur5 := hL.trans (SL.slt hqr5)
  have hK : GK x1.toNatClampNeg Fr5 nur5 := GK.zero hqr5
  refine lv_iload_n hx hb dModel_lookUnary_30 rfl (lv_at hl 0 rfl) ?_
  refine lv_if_le (tgt := 97) hx hb dModel_lookUnary_31 (by decide) (fun c6 => ?_) (fun c6 => ?_)
  · refine lv_aload_n hx hb dModel_lookUnary_97 rfl (lv_at hl 1 rfl) ?_
    refine md_gA S hC hM 9 (by decide) rfl qw_a119aeeca0 dModel_lookUnary_98 ?_
    refine lv_iload_n hx hb dModel_lookUnary_101 rfl (lv_at hl 3 rfl) ?_
    refine md_ild S hC hM 9 5 10000 (Fr5 9) rfl rfl (by decide) rfl rfl (vin (by assumption) (by omega)) dModel_lookUnary_102 ?_
    refine lv_topi (fun v7 ev7 => ?_)
    refine lv_iconst (v := 2) hx hb dModel_lookUnary_103 (by decide) ?_
    refine lv_icmp_eq (tgt := 117) hx hb dModel_lookUnary_104 (by decide) (fun c8 => ?_) (fun c8 => ?_)
    · refine lv_iconst (v := 3) hx hb dModel_lookUnary_117 (by decide) ?_
      exact hE _ _ _ _ _ hS ⟨σ, Fr5, nur5, (by subst ev7 enur5 eFr5 ev4 ev3 ev2 ev1; exact hO.tr ((if_pos c6).trans (if_pos c8))), hM, hZ, hF, hL, (fun h9 => absurd (show (0 : Int32) < 3 by decide) h9)⟩ dModel_lookUnary_118
    · refine lv_aload_n hx hb dModel_lookUnary_107 rfl (lv_at hl 1 rfl) ?_
      refine md_gA S hC hM 9 (by decide) rfl qw_a119aeeca0 dModel_lookUnary_108 ?_
      refine lv_iload_n hx hb dModel_lookUnary_111 rfl (lv_at hl 3 rfl) ?_
      refine md_ild S hC hM 9 5 10000 (Fr5 9) rfl rfl (by decide) rfl rfl (vin (by assumption) (by omega)) dModel_lookUnary_112 ?_
      refine lv_topi (fun v9 ev9 => ?_)
      refine lv_iconst (v := 4) hx hb dModel_lookUnary_113 (by decide) ?_
      refine lv_icmp_ne (tgt := 119) hx hb dModel_lookUnary_114 (by decide) (fun c10 => ?_) (fun c10 => ?_)
      · refine lv_aload_n hx hb dModel_lookUnary_119 rfl (lv_at hl 1 rfl) ?_
        refine md_gA S hC hM 13 (by decide) rfl qw_7b809afc8c dModel_lookUnary_120 ?_
        refine lv_iload_n hx hb dModel_lookUnary_123 rfl (lv_at hl 2 rfl) ?_
        refine lv_aload_n hx hb dModel_lookUnary_124 rfl (lv_at hl 1 rfl) ?_
        refine md_gA S hC hM 9 (by decide) rfl qw_a119aeeca0 dModel_lookUnary_125 ?_
        refine lv_iload_n hx hb dModel_lookUnary_128 rfl (lv_at hl 3 rfl) ?_
        refine md_ild S hC hM 9 5 10000 (Fr5 9) rfl rfl (by decide) rfl rfl (vin (by assumption) (by omega)) dModel_lookUnary_129 ?_
        refine lv_topi (fun v11 ev11 => ?_)
        refine lv_iconst (v := 1) hx hb dModel_lookUnary_130 (by decide) ?_
        have J169 : ∀ (ls : Array Slot) (t0_169 : Int64), (Oq OUT (Q_lookUnary_169 κ τ σ F nu x1 x2   t0_169)) → lv_has ls 5 [(0, .ref a), (1, .int x1), (2, .int x2), (3, .int v1)] → W p l e (bs_rm 2 0 0 48) s m args below meth c H locs 0 0 Q (F0 m 169 ls [.long t0_169, .int x1, .ref (B 13)]) := by
          intro ls t0_169 hO hl
          have hgnu31 : Fr5 9 x1.toNatClampNeg = 2 → -2147483648 < (t0_169 : Int64).toInt ∧ (t0_169 : Int64).toInt < 2147483648 := (fun h9 => absurd h9 (gk_ne hqr5 ev2 ha ev7 (by assumption)))
          refine md_lst S hC hM hS (vin (by assumption) (by omega)) dModel_lookUnary_169 (fun H locs hM hS => ?_)
          obtain ⟨nu31, enu31⟩ : ∃ z : Nat → Int64, z = vp_updL nur5 x1.toNatClampNeg t0_169 := ⟨_, rfl⟩
          rw [← enu31] at hM
          have hL : SL x1.toNatClampNeg F nu Fr5 nu31 := hL.trans (by rw [enu31]; exact SL.num)
          have hK : GK x1.toNatClampNeg Fr5 nu31 := by rw [enu31]; exact GK.num hgnu31
          refine lv_iconst (v := 0) hx hb dModel_lookUnary_170 (by decide) ?_
          refine lv_istore (lv' := [(4, .int 0), (0, .ref a), (1, .int x1), (2, .int x2), (3, .int v1)]) hx hb dModel_lookUnary_171 hl (by decide) rfl (fun ls hl => ?_)
          have J173 : ∀ (N173 : Nat) (ls : Array Slot) (H : Heap) (locs : List Loc) (F_173 : Nat → Nat → Int32) (i4_173 : Int32), MD γ a B Z ν τ σ F_173 nu31 H → va_S Z s.heap H locs → (GK x1.toNatClampNeg F_173 nu31) → (SL x1.toNatClampNeg F nu F_173 nu31) → (SZ F_173) → (¬ i4_173 < 0) → (Oq OUT (Q_lookUnary_173 κ τ σ F nu x1 x2 t0_169  (N173 + 1) F_173 i4_173)) → (2147483647 - i4_173.toInt).toNat = N173 → lv_has ls 5 [(0, .ref a), (1, .int x1), (2, .int x2), (3, .int v1), (4, .int i4_173)] → W p l e (bs_rm 2 0 0 48) s m args below meth c H locs 0 0 Q (F0 m 173 ls []) := by
            intro N173
            induction N173 using Nat.strongRecOn with
            | ind N173 ih173 =>
              intro ls H locs F_173 i4_173 hM hS hK hL hZ hi4_173 hO hm173 hl
              refine lv_iload hx hb dModel_lookUnary_173 (lv_at hl 4 rfl) ?_
              refine lv_aload_n hx hb dModel_lookUnary_175 rfl (lv_at hl 0 rfl) ?_
              refine md_gA S hC hM 10 (by decide) rfl qw_bd0251c605 dModel_lookUnary_176 ?_
              refine lv_iload_n hx hb dModel_lookUnary_179 rfl (lv_at hl 2 rfl) ?_
              refine md_ild S hC hM 10 6 10000 (F_173 10) rfl rfl (by decide) rfl rfl (vin (by assumption) (by omega)) dModel_lookUnary_180 ?_
              refine lv_topi (fun v32 ev32 => ?_)
              have J217 : ∀ (ls : Array Slot), (Oq OUT (Q_lookUnary_217 κ τ σ F nu x1 x2 t0_169 F_173 i4_173   )) → lv_has ls 5 [(0, .ref a), (1, .int x1), (2, .int x2), (3, .int v1), (4, .int i4_173)] → W p l e (bs_rm 2 0 0 48) s m args below meth c H locs 0 0 Q (F0 m 217 ls []) := by
                intro ls hO hl
                refine lv_aload_n hx hb dModel_lookUnary_217 rfl (lv_at hl 0 rfl) ?_
                refine lv_iload_n hx hb dModel_lookUnary_218 rfl (lv_at hl 1 rfl) ?_
                refine mu_Vi (rest := []) S hC (fun q h => hA q (Nat.le_trans hS.1 h)) (fun q h => h) hS (n_known l γ a B Z κ b mn ν τ σ F_173 nu31 hT x1 (vin (by assumption) (by omega))) meModel_known qw_aa15322dc3 ⟨Nat.le_of_ble_eq_true rfl, Nat.le_of_ble_eq_true rfl⟩ (md_rv hC hM) hM rfl hl.1 rfl (Nat.le_of_ble_eq_true rfl) dModel_lookUnary_219 ⟨Nat.le_refl _, Nat.le_refl _⟩ (fun r41 H locs hPO hS _ _ => ?_)
                obtain ⟨hrr41, Fr41, nur41, eOr41, hM, hqr41, hnr41⟩ := hPO
                have er41 : r41 = (Q_known κ τ σ F_173 nu31 x1).1 := by rw [eOr41.eq]
                have eFr41 : Fr41 = (Q_known κ τ σ F_173 nu31 x1).2.2.1 := by rw [eOr41.eq]
                have enur41 : nur41 = (Q_known κ τ σ F_173 nu31 x1).2.2.2 := by rw [eOr41.eq]
                clear eOr41
                have hZ : SZ Fr41 := hZ.e14 hqr41
                have hL : SL x1.toNatClampNeg F nu Fr41 nur41 := hL.trans (SL.kn hqr41 hnr41)
                have hK : GK x1.toNatClampNeg Fr41 nur41 := hK.kn hqr41 hnr41
                exact hE _ _ _ _ _ hS ⟨σ, Fr41, nur41, (by subst enur41 eFr41 er41 ev32 enu31 ev11 ev9 ev7 enur5 eFr5 ev4 ev3 ev2 ev1; exact hO.tr rfl), hM, hZ, hF, hL, (fun _ => hK)⟩ dModel_lookUnary_222
              refine lv_icmp_ge (tgt := 217) hx hb dModel_lookUnary_181 (by decide) (fun c42 => ?_) (fun c42 => ?_)
              · exact J217 ls (by subst ev32 enu31 ev11 ev9 ev7 enur5 eFr5 ev4 ev3 ev2 ev1; exact hO.tr (if_pos c42)) (lv_sub hl [0, 1, 2, 3, 4] rfl)
              · have hin4 : vp_in i4_173 1000 := vsz hZ (vix (vin hx2 (by omega))) (by assumption) (by assumption) (by assumption)
                refine lv_aload_n hx hb dModel_lookUnary_184 rfl (lv_at hl 0 rfl) ?_
                refine md_gA S hC hM 9 (by decide) rfl qw_a119aeeca0 dModel_lookUnary_185 ?_
                refine lv_iload_n hx hb dModel_lookUnary_188 rfl (lv_at hl 2 rfl) ?_
                refine md_ild S hC hM 9 5 10000 (F_173 9) rfl rfl (by decide) rfl rfl (vin (by assumption) (by omega)) dModel_lookUnary_189 ?_
                refine lv_topi (fun v43 ev43 => ?_)
                refine lv_iconst (v := 3) hx hb dModel_lookUnary_190 (by decide) ?_
                refine lv_icmp_ne (tgt := 217) hx hb dModel_lookUnary_191 (by decide) (fun c44 => ?_) (fun c44 => ?_)
                · exact J217 ls (by subst ev43 ev32 enu31 ev11 ev9 ev7 enur5 eFr5 ev4 ev3 ev2 ev1; exact hO.tr ((if_neg c42).trans (if_neg c44))) (lv_sub hl [0, 1, 2, 3, 4] rfl)
                · refine lv_aload_n hx hb dModel_lookUnary_194 rfl (lv_at hl 0 rfl) ?_
                  refine lv_iload_n hx hb dModel_lookUnary_195 rfl (lv_at hl 1 rfl) ?_
                  refine lv_iload hx hb dModel_lookUnary_196 (lv_at hl 4 rfl) ?_
                  refine lv_aload_n hx hb dModel_lookUnary_198 rfl (lv_at hl 0 rfl) ?_
                  refine lv_iload_n hx hb dModel_lookUnary_199 rfl (lv_at hl 2 rfl) ?_
                  refine lv_iload hx hb dModel_lookUnary_200 (lv_at hl 4 rfl) ?_
                  refine pu_Vi (rest := [.int i4_173, .int x1, .ref a]) S hC (n_element l γ a B Z κ b mn ν τ σ F_173 nu31 hT x2 i4_173 (el_in (by assumption) (by assumption) (by omega))) meModel_element qw_ceb3d87d61 ⟨Nat.le_of_ble_eq_true rfl, Nat.le_of_ble_eq_true rfl⟩ (md_rv hC hM) hM rfl hl.1 rfl (Nat.le_of_ble_eq_true rfl) dModel_lookUnary_202 ⟨Nat.zero_le _, Nat.zero_le _⟩ (fun r45 hr45 => ?_)
                  obtain ⟨hr45, er45⟩ := hr45
                  refine pu_Si (rest := [.int i4_173, .int x1, .ref a]) S hC (n_not l γ _ r45) meModel_not qw_ecedfa5d8c ⟨Nat.le_of_ble_eq_true rfl, Nat.le_of_ble_eq_true rfl⟩ hM rfl hl.1 rfl (Nat.le_of_ble_eq_true rfl) dModel_lookUnary_205 ⟨Nat.zero_le _, Nat.zero_le _⟩ (fun r46 hr46 => ?_)
                  obtain ⟨hr46, er46⟩ := hr46
                  refine mu_Vv (rest := []) S hC (fun q h => hA q (Nat.le_trans hS.1 h)) (fun q h => h) hS (n_setElement l γ a B Z κ b mn ν τ σ F_173 nu31 hT x1 i4_173 r46 (el_in (by assumption) (by assumption) (by omega))) meModel_setElement qw_143403ccb9 ⟨Nat.le_of_ble_eq_true rfl, Nat.le_of_ble_eq_true rfl⟩ (md_rv hC hM) hM rfl hl.1 rfl (Nat.le_of_ble_eq_true rfl) dModel_lookUnary_208 ⟨Nat.le_refl _, Nat.le_refl _⟩ (fun H locs hPO hS _ _ => ?_)
                  obtain ⟨Fr47, eOr47, hM, hqr47⟩ := hPO
                  have eFr47 : Fr47 = (Q_setElement κ τ σ F_173 nu31 x1 i4_173 r46).2.1 := by rw [eOr47.eq]
                  clear eOr47
                  have hZ : SZ Fr47 := hZ.e14 hqr47
                  have hL : SL x1.toNatClampNeg F nu Fr47 nu31 := hL.trans (SL.e14 hqr47)
                  have hK : GK x1.toNatClampNeg Fr47 nu31 := hK.e14 hqr47
                  obtain ⟨v48, ev48⟩ : ∃ y : Int32, y = i4_173 + 1 := ⟨_, rfl⟩
                  refine lv_iinc (v := v48) (lv' := [(4, .int v48), (0, .ref a), (1, .int x1), (2, .int x2), (3, .int v1)]) hx hb dModel_lookUnary_211 hl (k := 4) rfl (by rw [ev48]; rfl) (by decide) rfl (fun ls hl => ?_)
                  refine lv_goto (tgt := 173) hx hb dModel_lookUnary_214 (by decide) ?_
                  exact ih173 _ (by have q1 : i4_173.toInt < 2147483647 := (by first | assumption | exact (mu_up (k := i4_173) (by assumption)).2); have q2 := mu_lt q1; rw [← ev48] at q2; omega) ls _ _ Fr47 v48 hM hS hK hL hZ (by first | decide | exact nn_inc (by assumption) (by assumption) (by assumption)) (by have hN : N173 = (2147483647 - v48.toInt).toNat + 1 := (by have q1 : i4_173.toInt < 2147483647 := (by first | assumption | exact (mu_up (k := i4_173) (by assumption)).2); have q2 := mu_lt q1; rw [← ev48] at q2; omega); rw [← hN]; clear hN; subst ev48 eFr47 er46 er45 ev43 ev32 enu31 ev11 ev9 ev7 enur5 eFr5 ev4 ev3 ev2 ev1; exact hO.tr ((if_neg c42).trans (if_pos c44))) rfl (lv_sub hl [1, 2, 3, 4, 0] rfl)
          exact J173 _ ls _ _ Fr5 0 hM hS hK hL hZ (by first | decide | exact nn_inc (by assumption) (by assumption) (by assumption)) (by subst enu31 ev11 ev9 ev7 enur5 eFr5 ev4 ev3 ev2 ev1; exact hO.tr rfl) rfl (lv_sub hl [1, 2, 3, 4, 0] rfl)
        refine lv_icmp_ne (tgt := 145) hx hb dModel_lookUnary_131 (by decide) (fun c49 => ?_) (fun c49 => ?_)
        · refine lv_aload_n hx hb dModel_lookUnary_145 rfl (lv_at hl 1 rfl) ?_
          refine md_gA S hC hM 9 (by decide) rfl qw_a119aeeca0 dModel_lookUnary_146 ?_
          refine lv_iload_n hx hb dModel_lookUnary_149 rfl (lv_at hl 3 rfl) ?_
          refine md_ild S hC hM 9 5 10000 (Fr5 9) rfl rfl (by decide) rfl rfl (vin (by assumption) (by omega)) dModel_lookUnary_150 ?_
          refine lv_topi (fun v50 ev50 => ?_)
          refine lv_if_ne (tgt := 168) hx hb dModel_lookUnary_151 (by decide) (fun c51 => ?_) (fun c51 => ?_)
          · refine lv_lconst (v := 0) hx hb dModel_lookUnary_168 (by decide) ?_
            exact J169 ls 0 (by subst ev50 ev11 ev9 ev7 enur5 eFr5 ev4 ev3 ev2 ev1; exact hO.tr ((if_pos c6).trans ((if_neg c8).trans ((if_neg c10).trans ((if_neg c49).trans (if_neg c51)))))) (lv_sub hl [1, 2, 3, 0] rfl)
          · refine lv_aload_n hx hb dModel_lookUnary_154 rfl (lv_at hl 1 rfl) ?_
            refine md_gA S hC hM 13 (by decide) rfl qw_7b809afc8c dModel_lookUnary_155 ?_
            refine lv_iload_n hx hb dModel_lookUnary_158 rfl (lv_at hl 3 rfl) ?_
            refine md_lld S hC hM (vin (by assumption) (by omega)) dModel_lookUnary_159 ?_
            refine lv_topl (fun v52 ev52 => ?_)
            have ev52 : v52 = nur5 x2.toNatClampNeg := ev52
            refine lv_l2i hx hb dModel_lookUnary_160 rfl ?_
            refine lv_topi (fun v53 ev53 => ?_)
            refine pu_Si (rest := [.int x1, .ref (B 13)]) S hC (n_not l γ _ v53) meModel_not qw_ecedfa5d8c ⟨Nat.le_of_ble_eq_true rfl, Nat.le_of_ble_eq_true rfl⟩ hM rfl hl.1 rfl (Nat.le_of_ble_eq_true rfl) dModel_lookUnary_161 ⟨Nat.zero_le _, Nat.zero_le _⟩ (fun r54 hr54 => ?_)
            obtain ⟨hr54, er54⟩ := hr54
            refine lv_i2l hx hb dModel_lookUnary_164 rfl ?_
            refine lv_topl (fun v55 ev55 => ?_)
            refine lv_goto (tgt := 169) hx hb dModel_lookUnary_165 (by decide) ?_
            exact J169 ls v55 (by subst ev55 er54 ev53 ev52 ev50 ev11 ev9 ev7 enur5 eFr5 ev4 ev3 ev2 ev1; exact hO.tr ((if_pos c6).trans ((if_neg c8).trans ((if_neg c10).trans ((if_neg c49).trans (if_pos c51)))))) (lv_sub hl [1, 2, 3, 0] rfl)
        · refine lv_lconst (v := 1) hx hb dModel_lookUnary_134 (by decide) ?_
          refine lv_aload_n hx hb dModel_lookUnary_135 rfl (lv_at hl 1 rfl) ?_
          refine md_gA S hC hM 13 (by decide) rfl qw_7b809afc8c dModel_lookUnary_136 ?_
          refine lv_iload_n hx hb dModel_lookUnary_139 rfl (lv_at hl 3 rfl) ?_
          refine md_lld S hC hM (vin (by assumption) (by omega)) dModel_lookUnary_140 ?_
          refine lv_topl (fun v56 ev56 => ?_)
          have ev56 : v56 = nur5 x2.toNatClampNeg := ev56
          refine lv_lsub hx hb dModel_lookUnary_141 ?_
          refine lv_topl (fun v57 ev57 => ?_)
          refine lv_goto (tgt := 169) hx hb dModel_lookUnary_142 (by decide) ?_
          exact J169 ls v57 (by subst ev57 ev56 ev11 ev9 ev7 enur5 eFr5 ev4 ev3 ev2 ev1; exact hO.tr ((if_pos c6).trans ((if_neg c8).trans ((if_neg c10).trans (if_pos c49))))) (lv_sub hl [1, 2, 3, 0] rfl)
      · refine lv_iconst (v := 3) hx hb dModel_lookUnary_117 (by decide) ?_
        exact hE _ _ _ _ _ hS ⟨σ, Fr5, nur5, (by subst ev9 ev7 enur5 eFr5 ev4 ev3 ev2 ev1; exact hO.tr ((if_pos c6).trans ((if_neg c8).trans (if_pos c10)))), hM, hZ, hF, hL, (fun h9 => absurd (show (0 : Int32) < 3 by decide) h9)⟩ dModel_lookUnary_118
  · refine lv_aload_n hx hb dModel_lookUnary_34 rfl (lv_at hl 1 rfl) ?_
    refine md_gA S hC hM 13 (by decide) rfl qw_7b809afc8c dModel_lookUnary_35 ?_
    refine lv_iload_n hx hb dModel_lookUnary_38 rfl (lv_at hl 2 rfl) ?_
    refine lv_iload_n hx hb dModel_lookUnary_39 rfl (lv_at hl 0 rfl) ?_
    refine lv_iconst (v := 1) hx hb dModel_lookUnary_40 (by decide) ?_
    have J60 : ∀ (ls : Array Slot), (Oq OUT (Q_lookUnary_60 κ τ σ F nu x1 x2   )) → lv_has ls 5 [(0, .ref a), (1, .int x1), (2, .int x2), (3, .int v1)] → W p l e (bs_rm 2 0 0 48) s m args below meth c H locs 0 0 Q (F0 m 60 ls [.int x1, .ref (B 13)]) := by
      intro ls hO hl
      refine lv_aload_n hx hb dModel_lookUnary_60 rfl (lv_at hl 0 rfl) ?_
      refine md_gA S hC hM 13 (by decide) rfl qw_7b809afc8c dModel_lookUnary_61 ?_
      refine lv_iload_n hx hb dModel_lookUnary_64 rfl (lv_at hl 2 rfl) ?_
      refine md_lld S hC hM (vin (by assumption) (by omega)) dModel_lookUnary_65 ?_
      refine lv_topl (fun v74 ev74 => ?_)
      have ev74 : v74 = nur5 x2.toNatClampNeg := ev74
      refine lv_lneg hx hb dModel_lookUnary_66 ?_
      refine lv_topl (fun v75 ev75 => ?_)
      refine lv_goto (tgt := 76) hx hb dModel_lookUnary_67 (by decide) ?_
      have hgnu76 : Fr5 9 x1.toNatClampNeg = 2 → -2147483648 < (v75 : Int64).toInt ∧ (v75 : Int64).toInt < 2147483648 := (gk_neg hqr5 ev2 ha hg ev74 (by first | exact Or.inl rfl | exact Or.inr (by assumption)))
      refine md_lst S hC hM hS (vin (by assumption) (by omega)) dModel_lookUnary_76 (fun H locs hM hS => ?_)
      obtain ⟨nu76, enu76⟩ : ∃ z : Nat → Int64, z = vp_updL nur5 x1.toNatClampNeg v75 := ⟨_, rfl⟩
      rw [← enu76] at hM
      have hL : SL x1.toNatClampNeg F nu Fr5 nu76 := hL.trans (by rw [enu76]; exact SL.num)
      have hK : GK x1.toNatClampNeg Fr5 nu76 := by rw [enu76]; exact GK.num hgnu76
      refine lv_aload_n hx hb dModel_lookUnary_77 rfl (lv_at hl 0 rfl) ?_
      refine md_gA S hC hM 9 (by decide) rfl qw_a119aeeca0 dModel_lookUnary_78 ?_
      refine lv_iload_n hx hb dModel_lookUnary_81 rfl (lv_at hl 2 rfl) ?_
      refine md_ild S hC hM 9 5 10000 (Fr5 9) rfl rfl (by decide) rfl rfl (vin (by assumption) (by omega)) dModel_lookUnary_82 ?_
      refine lv_topi (fun v77 ev77 => ?_)
      refine lv_iconst (v := 2) hx hb dModel_lookUnary_83 (by decide) ?_
      refine lv_icmp_ne (tgt := 95) hx hb dModel_lookUnary_84 (by decide) (fun c78 => ?_) (fun c78 => ?_)
      · refine lv_iconst (v := 3) hx hb dModel_lookUnary_95 (by decide) ?_
        exact hE _ _ _ _ _ hS ⟨σ, Fr5, nu76, (by subst ev77 enu76 ev75 ev74 enur5 eFr5 ev4 ev3 ev2 ev1; exact hO.tr (if_neg c78)), hM, hZ, hF, hL, (fun h9 => absurd (show (0 : Int32) < 3 by decide) h9)⟩ dModel_lookUnary_96
      · refine lv_aload_n hx hb dModel_lookUnary_87 rfl (lv_at hl 0 rfl) ?_
        refine lv_iload_n hx hb dModel_lookUnary_88 rfl (lv_at hl 1 rfl) ?_
        refine mu_Vi (rest := []) S hC (fun q h => hA q (Nat.le_trans hS.1 h)) (fun q h => h) hS (n_known l γ a B Z κ b mn ν τ σ Fr5 nu76 hT x1 (vin (by assumption) (by omega))) meModel_known qw_aa15322dc3 ⟨Nat.le_of_ble_eq_true rfl, Nat.le_of_ble_eq_true rfl⟩ (md_rv hC hM) hM rfl hl.1 rfl (Nat.le_of_ble_eq_true rfl) dModel_lookUnary_89 ⟨Nat.le_refl _, Nat.le_refl _⟩ (fun r79 H locs hPO hS _ _ => ?_)
        obtain ⟨hrr79, Fr79, nur79, eOr79, hM, hqr79, hnr79⟩ := hPO
        have er79 : r79 = (Q_known κ τ σ Fr5 nu76 x1).1 := by rw [eOr79.eq]
        have eFr79 : Fr79 = (Q_known κ τ σ Fr5 nu76 x1).2.2.1 := by rw [eOr79.eq]
        have enur79 : nur79 = (Q_known κ τ σ Fr5 nu76 x1).2.2.2 := by rw [eOr79.eq]
        clear eOr79
        have hZ : SZ Fr79 := hZ.e14 hqr79
        have hL : SL x1.toNatClampNeg F nu Fr79 nur79 := hL.trans (SL.kn hqr79 hnr79)
        have hK : GK x1.toNatClampNeg Fr79 nur79 := hK.kn hqr79 hnr79
        refine lv_goto (tgt := 96) hx hb dModel_lookUnary_92 (by decide) ?_
        exact hE _ _ _ _ _ hS ⟨σ, Fr79, nur79, (by subst enur79 eFr79 er79 ev77 enu76 ev75 ev74 enur5 eFr5 ev4 ev3 ev2 ev1; exact hO.tr (if_pos c78)), hM, hZ, hF, hL, (fun _ => hK)⟩ dModel_lookUnary_96
    refine lv_icmp_eq (tgt := 60) hx hb dModel_lookUnary_41 (by decide) (fun c80 => ?_) (fun c80 => ?_)
    · exact J60 ls (by subst enur5 eFr5 ev4 ev3 ev2 ev1; exact hO.tr ((if_neg c6).trans (if_pos c80))) (lv_sub hl [1, 2, 3, 0] rfl)
    · refine lv_iload_n hx hb dModel_lookUnary_44 rfl (lv_at hl 0 rfl) ?_
      refine lv_iconst (v := 3) hx hb dModel_lookUnary_45 (by decide) ?_
      have J70 : ∀ (ls : Array Slot), (Oq OUT (Q_lookUnary_70 κ τ σ F nu x1 x2   )) → lv_has ls 5 [(0, .ref a), (1, .int x1), (2, .int x2), (3, .int v1)] → W p l e (bs_rm 2 0 0 48) s m args below meth c H locs 0 0 Q (F0 m 70 ls [.int x1, .ref (B 13)]) := by
        intro ls hO hl
        refine lv_aload_n hx hb dModel_lookUnary_70 rfl (lv_at hl 0 rfl) ?_
        refine md_gA S hC hM 13 (by decide) rfl qw_7b809afc8c dModel_lookUnary_71 ?_
        refine lv_iload_n hx hb dModel_lookUnary_74 rfl (lv_at hl 2 rfl) ?_
        refine md_lld S hC hM (vin (by assumption) (by omega)) dModel_lookUnary_75 ?_
        refine lv_topl (fun v90 ev90 => ?_)
        have ev90 : v90 = nur5 x2.toNatClampNeg := ev90
        have hgnu91 : Fr5 9 x1.toNatClampNeg = 2 → -2147483648 < (v90 : Int64).toInt ∧ (v90 : Int64).toInt < 2147483648 := (gk_neg hqr5 ev2 ha hg ev90 (by first | exact Or.inl rfl | exact Or.inr (by assumption)))
        refine md_lst S hC hM hS (vin (by assumption) (by omega)) dModel_lookUnary_76 (fun H locs hM hS => ?_)
        obtain ⟨nu91, enu91⟩ : ∃ z : Nat → Int64, z = vp_updL nur5 x1.toNatClampNeg v90 := ⟨_, rfl⟩
        rw [← enu91] at hM
        have hL : SL x1.toNatClampNeg F nu Fr5 nu91 := hL.trans (by rw [enu91]; exact SL.num)
        have hK : GK x1.toNatClampNeg Fr5 nu91 := by rw [enu91]; exact GK.num hgnu91
        refine lv_aload_n hx hb dModel_lookUnary_77 rfl (lv_at hl 0 rfl) ?_
        refine md_gA S hC hM 9 (by decide) rfl qw_a119aeeca0 dModel_lookUnary_78 ?_
        refine lv_iload_n hx hb dModel_lookUnary_81 rfl (lv_at hl 2 rfl) ?_
        refine md_ild S hC hM 9 5 10000 (Fr5 9) rfl rfl (by decide) rfl rfl (vin (by assumption) (by omega)) dModel_lookUnary_82 ?_
        refine lv_topi (fun v92 ev92 => ?_)
        refine lv_iconst (v := 2) hx hb dModel_lookUnary_83 (by decide) ?_
        refine lv_icmp_ne (tgt := 95) hx hb dModel_lookUnary_84 (by decide) (fun c93 => ?_) (fun c93 => ?_)
        · refine lv_iconst (v := 3) hx hb dModel_lookUnary_95 (by decide) ?_
          exact hE _ _ _ _ _ hS ⟨σ, Fr5, nu91, (by subst ev92 enu91 ev90 enur5 eFr5 ev4 ev3 ev2 ev1; exact hO.tr (if_neg c93)), hM, hZ, hF, hL, (fun h9 => absurd (show (0 : Int32) < 3 by decide) h9)⟩ dModel_lookUnary_96
        · refine lv_aload_n hx hb dModel_lookUnary_87 rfl (lv_at hl 0 rfl) ?_
          refine lv_iload_n hx hb dModel_lookUnary_88 rfl (lv_at hl 1 rfl) ?_
          refine mu_Vi (rest := []) S hC (fun q h => hA q (Nat.le_trans hS.1 h)) (fun q h => h) hS (n_known l γ a B Z κ b mn ν τ σ Fr5 nu91 hT x1 (vin (by assumption) (by omega))) meModel_known qw_aa15322dc3 ⟨Nat.le_of_ble_eq_true rfl, Nat.le_of_ble_eq_true rfl⟩ (md_rv hC hM) hM rfl hl.1 rfl (Nat.le_of_ble_eq_true rfl) dModel_lookUnary_89 ⟨Nat.le_refl _, Nat.le_refl _⟩ (fun r94 H locs hPO hS _ _ => ?_)
          obtain ⟨hrr94, Fr94, nur94, eOr94, hM, hqr94, hnr94⟩ := hPO
          have er94 : r94 = (Q_known κ τ σ Fr5 nu91 x1).1 := by rw [eOr94.eq]
          have eFr94 : Fr94 = (Q_known κ τ σ Fr5 nu91 x1).2.2.1 := by rw [eOr94.eq]
          have enur94 : nur94 = (Q_known κ τ σ Fr5 nu91 x1).2.2.2 := by rw [eOr94.eq]
          clear eOr94
          have hZ : SZ Fr94 := hZ.e14 hqr94
          have hL : SL x1.toNatClampNeg F nu Fr94 nur94 := hL.trans (SL.kn hqr94 hnr94)
          have hK : GK x1.toNatClampNeg Fr94 nur94 := hK.kn hqr94 hnr94
          refine lv_goto (tgt := 96) hx hb dModel_lookUnary_92 (by decide) ?_
          exact hE _ _ _ _ _ hS ⟨σ, Fr94, nur94, (by subst enur94 eFr94 er94 ev92 enu91 ev90 enur5 eFr5 ev4 ev3 ev2 ev1; exact hO.tr (if_pos c93)), hM, hZ, hF, hL, (fun _ => hK)⟩ dModel_lookUnary_96
      refine lv_icmp_ne (tgt := 70) hx hb dModel_lookUnary_46 (by decide) (fun c95 => ?_) (fun c95 => ?_)
      · exact J70 ls (by subst enur5 eFr5 ev4 ev3 ev2 ev1; exact hO.tr ((if_neg c6).trans ((if_neg c80).trans (if_neg c95)))) (lv_sub hl [1, 2, 3, 0] rfl)
      · refine lv_aload_n hx hb dModel_lookUnary_49 rfl (lv_at hl 1 rfl) ?_
        refine md_gA S hC hM 13 (by decide) rfl qw_7b809afc8c dModel_lookUnary_50 ?_
        refine lv_iload_n hx hb dModel_lookUnary_53 rfl (lv_at hl 3 rfl) ?_
        refine md_lld S hC hM (vin (by assumption) (by omega)) dModel_lookUnary_54 ?_
        refine lv_topl (fun v96 ev96 => ?_)
        have ev96 : v96 = nur5 x2.toNatClampNeg := ev96
        refine lv_lconst (v := 0) hx hb dModel_lookUnary_55 (by decide) ?_
        refine W.lcmp hx hb dModel_lookUnary_56 ?_
        refine lv_topi (fun v97 ev97 => ?_)
        refine lv_if_ge (tgt := 70) hx hb dModel_lookUnary_57 (by decide) (fun c98 => ?_) (fun c98 => ?_)
        · exact J70 ls (by subst ev97 ev96 enur5 eFr5 ev4 ev3 ev2 ev1; exact hO.tr ((if_neg c6).trans ((if_neg c80).trans ((if_pos c95).trans (if_pos c98))))) (lv_sub hl [1, 2, 3, 0] rfl)
        · exact J60 ls (by subst ev97 ev96 enur5 eFr5 ev4 ev3 ev2 ev1; exact hO.tr ((if_neg c6).trans ((if_neg c80).trans ((if_pos c95).trans (if_neg c98))))) (lv_sub hl [1, 2, 3, 0] rfl)
