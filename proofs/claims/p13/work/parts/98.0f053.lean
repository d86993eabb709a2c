def Q_lookLogic_245 (κ : Nat → Nat) (τ : gf) (σ : Nat → Int32) (F : gf) (nu : gg) (x1 : Int32) (x2 : Int32) (x3 : Int32) (x4 : Int32) (t0_94 : Int32) (F_245 : gf) (nu_245 : gg) : Int32 × (Nat → Int32) × gf × gg := ((Q_known κ τ σ F_245 nu_245 x1).1, σ, ((Q_known κ τ σ F_245 nu_245 x1).2.2.1), ((Q_known κ τ σ F_245 nu_245 x1).2.2.2))
def Q_lookLogic_157 (κ : Nat → Nat) (τ : gf) (σ : Nat → Int32) (F : gf) (nu : gg) (x1 : Int32) (x2 : Int32) (x3 : Int32) (x4 : Int32) (t0_94 : Int32) (t0_129 : Int32) (t0_146 : Int32) (t0_157 : Int64) : Int32 × (Nat → Int32) × gf × gg := (Q_lookLogic_245 κ τ σ F nu x1 x2 x3 x4 t0_94  ((Q_fact κ τ σ F nu x1 (F 9 x3.toNatClampNeg) (F 10 x3.toNatClampNeg) t0_94).2.1) (vp_updL ((Q_fact κ τ σ F nu x1 (F 9 x3.toNatClampNeg) (F 10 x3.toNatClampNeg) t0_94).2.2) x1.toNatClampNeg t0_157))
def Q_lookLogic_146 (κ : Nat → Nat) (τ : gf) (σ : Nat → Int32) (F : gf) (nu : gg) (x1 : Int32) (x2 : Int32) (x3 : Int32) (x4 : Int32) (t0_94 : Int32) (t0_129 : Int32) (t0_146 : Int32) : Int32 × (Nat → Int32) × gf × gg := (if (Q_truth x2 t0_129 t0_146) = 0 then (Q_lookLogic_157 κ τ σ F nu x1 x2 x3 x4 t0_94 t0_129 t0_146  0) else (Q_lookLogic_157 κ τ σ F nu x1 x2 x3 x4 t0_94 t0_129 t0_146  1))
def Q_lookLogic_129 (κ : Nat → Nat) (τ : gf) (σ : Nat → Int32) (F : gf) (nu : gg) (x1 : Int32) (x2 : Int32) (x3 : Int32) (x4 : Int32) (t0_94 : Int32) (t0_129 : Int32) : Int32 × (Nat → Int32) × gf × gg := (if (lg_cmp (((Q_fact κ τ σ F nu x1 (F 9 x3.toNatClampNeg) (F 10 x3.toNatClampNeg) t0_94).2.2) x4.toNatClampNeg) 1) = 0 then (Q_lookLogic_146 κ τ σ F nu x1 x2 x3 x4 t0_94 t0_129  1) else (Q_lookLogic_146 κ τ σ F nu x1 x2 x3 x4 t0_94 t0_129  0))
def Q_lookLogic_202 (κ : Nat → Nat) (τ : gf) (σ : Nat → Int32) (F : gf) (nu : gg) (x1 : Int32) (x2 : Int32) (x3 : Int32) (x4 : Int32) (t0_94 : Int32) : Nat → gf → Int32 → Int32 × (Nat → Int32) × gf × gg
  | 0, _, _ => default
  | n + 1, F_202, i5_202 => (if (F_202 10 x3.toNatClampNeg) ≤ i5_202 then (Q_lookLogic_245 κ τ σ F nu x1 x2 x3 x4 t0_94  F_202 ((Q_fact κ τ σ F nu x1 (F 9 x3.toNatClampNeg) (F 10 x3.toNatClampNeg) t0_94).2.2)) else (Q_lookLogic_202 κ τ σ F nu x1 x2 x3 x4 t0_94  n ((Q_setElement κ τ σ F_202 ((Q_fact κ τ σ F nu x1 (F 9 x3.toNatClampNeg) (F 10 x3.toNatClampNeg) t0_94).2.2) x1 i5_202 (Q_logic x2 (Q_element κ τ σ F_202 ((Q_fact κ τ σ F nu x1 (F 9 x3.toNatClampNeg) (F 10 x3.toNatClampNeg) t0_94).2.2) x3 i5_202) (Q_element κ τ σ F_202 ((Q_fact κ τ σ F nu x1 (F 9 x3.toNatClampNeg) (F 10 x3.toNatClampNeg) t0_94).2.2) x4 i5_202))).2.1) (i5_202 + 1)))
def Q_lookLogic_94 (κ : Nat → Nat) (τ : gf) (σ : Nat → Int32) (F : gf) (nu : gg) (x1 : Int32) (x2 : Int32) (x3 : Int32) (x4 : Int32) (t0_94 : Int32) : Int32 × (Nat → Int32) × gf × gg := (if (((Q_fact κ τ σ F nu x1 (F 9 x3.toNatClampNeg) (F 10 x3.toNatClampNeg) t0_94).2.1) 9 x3.toNatClampNeg) = 1 then (if (lg_cmp (((Q_fact κ τ σ F nu x1 (F 9 x3.toNatClampNeg) (F 10 x3.toNatClampNeg) t0_94).2.2) x3.toNatClampNeg) 1) = 0 then (Q_lookLogic_129 κ τ σ F nu x1 x2 x3 x4 t0_94  1) else (Q_lookLogic_129 κ τ σ F nu x1 x2 x3 x4 t0_94  0)) else (if (((Q_fact κ τ σ F nu x1 (F 9 x3.toNatClampNeg) (F 10 x3.toNatClampNeg) t0_94).2.1) 9 x3.toNatClampNeg) = 0 then (Q_lookLogic_245 κ τ σ F nu x1 x2 x3 x4 t0_94  ((Q_fact κ τ σ F nu x1 (F 9 x3.toNatClampNeg) (F 10 x3.toNatClampNeg) t0_94).2.1) (vp_updL ((Q_fact κ τ σ F nu x1 (F 9 x3.toNatClampNeg) (F 10 x3.toNatClampNeg) t0_94).2.2) x1.toNatClampNeg ((Q_logic x2 ((((Q_fact κ τ σ F nu x1 (F 9 x3.toNatClampNeg) (F 10 x3.toNatClampNeg) t0_94).2.2) x3.toNatClampNeg).toInt32) ((((Q_fact κ τ σ F nu x1 (F 9 x3.toNatClampNeg) (F 10 x3.toNatClampNeg) t0_94).2.2) x4.toNatClampNeg).toInt32)).toInt64))) else (Q_lookLogic_202 κ τ σ F nu x1 x2 x3 x4 t0_94  ((2147483647 - (0 : Int32).toInt).toNat + 1) ((Q_fact κ τ σ F nu x1 (F 9 x3.toNatClampNeg) (F 10 x3.toNatClampNeg) t0_94).2.1) 0)))
def Q_lookLogic_93 (κ : Nat → Nat) (τ : gf) (σ : Nat → Int32) (F : gf) (nu : gg) (x1 : Int32) (x2 : Int32) (x3 : Int32) (x4 : Int32) : Int32 × (Nat → Int32) × gf × gg := (Q_lookLogic_94 κ τ σ F nu x1 x2 x3 x4  0)
def Q_lookLogic (κ : Nat → Nat) (τ : gf) (σ : Nat → Int32) (F : gf) (nu : gg) (x1 : Int32) (x2 : Int32) (x3 : Int32) (x4 : Int32) : Int32 × (Nat → Int32) × gf × gg := (if (F 9 x3.toNatClampNeg) = (F 9 x4.toNatClampNeg) then (if (F 9 x3.toNatClampNeg) = 2 then (3, σ, F, nu) else (if (F 9 x3.toNatClampNeg) = 4 then (3, σ, F, nu) else (if (F 10 x3.toNatClampNeg) = (F 10 x4.toNatClampNeg) then (if (F 11 x3.toNatClampNeg) = 0 then (Q_lookLogic_93 κ τ σ F nu x1 x2 x3 x4  ) else (if (F 11 x4.toNatClampNeg) = 0 then (Q_lookLogic_93 κ τ σ F nu x1 x2 x3 x4  ) else (Q_lookLogic_94 κ τ σ F nu x1 x2 x3 x4  1))) else (4, σ, F, nu)))) else (3, σ, F, nu))
set_option maxHeartbeats 4000000 in
set_option maxRecDepth 100000 in
theorem n_lookLogic (l : Launch) (γ : gE) (a : Nat) (B : Nat → Nat) (Z : Nat → Prop) (κ b mn : Nat → Nat) (ν : Nat → Int32) (τ : Nat → Nat → Int32) (σ : Nat → Int32) (F : Nat → Nat → Int32) (nu : Nat → Int64) (hT : ST κ b mn ν τ) (x1 : Int32) (x2 : Int32) (x3 : Int32) (x4 : Int32) (hx1 : vp_in x1 (κ 0)) (hx3 : vp_in x3 (κ 0)) (hx4 : vp_in x4 (κ 0)) (ha : x3.toNatClampNeg < x1.toNatClampNeg) (hbk : x4.toNatClampNeg < x1.toNatClampNeg) (hZ : SZ F) (hF : FD σ) : MU l yModel_lookLogic bModel_lookLogic 6 (some .int) 3 66 0 0 [.ref a, .int x1, .int x2, .int x3, .int x4] γ Z (MD γ a B Z ν τ σ F nu) (mQi (fun r H => ∃ (σ' : Nat → Int32) (F' : Nat → Nat → Int32) (nu' : Nat → Int64), Oq (Q_lookLogic κ τ σ F nu x1 x2 x3 x4) (r, σ', F', nu') ∧ MD γ a B Z ν τ σ' F' nu' H ∧ SZ F' ∧ FD σ' ∧ SL x1.toNatClampNeg F nu F' nu' ∧ (¬ 0 < r → GK x1.toNatClampNeg F' nu')) Z) := by
  refine mu_openI (by decide) (Nat.le_of_ble_eq_true rfl) ?_
  intro p e s m args below meth c ls Q S hnm hC hA hM hE hl
  have hS : va_S Z s.heap s.heap [] := va_S.rf
  obtain ⟨hx, hb, hml, hown, hW⟩ := id S
  obtain ⟨⟨hs0, hs1, hs2, hs3, hs4, hs5, hs6⟩, ⟨hv6, hv8, hv21, hv24, hv30, hv31⟩, hTR, hTY, hOB, hNM⟩ := id hT
  have hL : SL x1.toNatClampNeg F nu F nu := SL.rf
  have hl : lv_has ls 6 [(0, .ref a), (1, .int x1), (2, .int x2), (3, .int x3), (4, .int x4)] := hl
  obtain ⟨OUT, hQ, hO⟩ : ∃ z, (z = Q_lookLogic κ τ σ F nu x1 x2 x3 x4) ∧ Oq z (Q_lookLogic κ τ σ F nu x1 x2 x3 x4) := ⟨_, rfl, rfl⟩
  rw [← hQ] at hE
  clear hQ
  refine lv_aload_n hx hb dModel_lookLogic_0 rfl (lv_at hl 0 rfl) ?_
  refine md_gA S hC hM 9 (by decide) rfl qw_a119aeeca0 dModel_lookLogic_1 ?_
  refine lv_iload_n hx hb dModel_lookLogic_4 rfl (lv_at hl 3 rfl) ?_
  refine md_ild S hC hM 9 5 10000 (F 9) rfl rfl (by decide) rfl rfl (vin (by assumption) (by omega)) dModel_lookLogic_5 ?_
  refine lv_topi (fun v1 ev1 => ?_)
  refine lv_aload_n hx hb dModel_lookLogic_6 rfl (lv_at hl 0 rfl) ?_
  refine md_gA S hC hM 9 (by decide) rfl qw_a119aeeca0 dModel_lookLogic_7 ?_
  refine lv_iload hx hb dModel_lookLogic_10 (lv_at hl 4 rfl) ?_
  refine md_ild S hC hM 9 5 10000 (F 9) rfl rfl (by decide) rfl rfl (vin (by assumption) (by omega)) dModel_lookLogic_12 ?_
  refine lv_topi (fun v2 ev2 => ?_)
  refine lv_icmp_ne (tgt := 36) hx hb dModel_lookLogic_13 (by decide) (fun c3 => ?_) (fun c3 => ?_)
  · refine lv_iconst (v := 3) hx hb dModel_lookLogic_36 (by decide) ?_
    exact hE _ _ _ _ _ hS ⟨σ, F, nu, (by subst ev2 ev1; exact hO.tr (if_neg c3)), hM, hZ, hF, hL, (fun h9 => absurd (show (0 : Int32) < 3 by decide) h9)⟩ dModel_lookLogic_37
  · refine lv_aload_n hx hb dModel_lookLogic_16 rfl (lv_at hl 0 rfl) ?_
    refine md_gA S hC hM 9 (by decide) rfl qw_a119aeeca0 dModel_lookLogic_17 ?_
    refine lv_iload_n hx hb dModel_lookLogic_20 rfl (lv_at hl 3 rfl) ?_
    refine md_ild S hC hM 9 5 10000 (F 9) rfl rfl (by decide) rfl rfl (vin (by assumption) (by omega)) dModel_lookLogic_21 ?_
    refine lv_topi (fun v4 ev4 => ?_)
    refine lv_iconst (v := 2) hx hb dModel_lookLogic_22 (by decide) ?_
    refine lv_icmp_eq (tgt := 36) hx hb dModel_lookLogic_23 (by decide) (fun c5 => ?_) (fun c5 => ?_)
    · refine lv_iconst (v := 3) hx hb dModel_lookLogic_36 (by decide) ?_
      exact hE _ _ _ _ _ hS ⟨σ, F, nu, (by subst ev4 ev2 ev1; exact hO.tr ((if_pos c3).trans (if_pos c5))), hM, hZ, hF, hL, (fun h9 => absurd (show (0 : Int32) < 3 by decide) h9)⟩ dModel_lookLogic_37
    · refine lv_aload_n hx hb dModel_lookLogic_26 rfl (lv_at hl 0 rfl) ?_
      refine md_gA S hC hM 9 (by decide) rfl qw_a119aeeca0 dModel_lookLogic_27 ?_
      refine lv_iload_n hx hb dModel_lookLogic_30 rfl (lv_at hl 3 rfl) ?_
      refine md_ild S hC hM 9 5 10000 (F 9) rfl rfl (by decide) rfl rfl (vin (by assumption) (by omega)) dModel_lookLogic_31 ?_
      refine lv_topi (fun v6 ev6 => ?_)
      refine lv_iconst (v := 4) hx hb dModel_lookLogic_32 (by decide) ?_
      refine lv_icmp_ne (tgt := 38) hx hb dModel_lookLogic_33 (by decide) (fun c7 => ?_) (fun c7 => ?_)
      · refine lv_aload_n hx hb dModel_lookLogic_38 rfl (lv_at hl 0 rfl) ?_
        refine md_gA S hC hM 10 (by decide) rfl qw_bd0251c605 dModel_lookLogic_39 ?_
        refine lv_iload_n hx hb dModel_lookLogic_42 rfl (lv_at hl 3 rfl) ?_
        refine md_ild S hC hM 10 6 10000 (F 10) rfl rfl (by decide) rfl rfl (vin (by assumption) (by omega)) dModel_lookLogic_43 ?_
        refine lv_topi (fun v8 ev8 => ?_)
        refine lv_aload_n hx hb dModel_lookLogic_44 rfl (lv_at hl 0 rfl) ?_
        refine md_gA S hC hM 10 (by decide) rfl qw_bd0251c605 dModel_lookLogic_45 ?_
        refine lv_iload hx hb dModel_lookLogic_48 (lv_at hl 4 rfl) ?_
        refine md_ild S hC hM 10 6 10000 (F 10) rfl rfl (by decide) rfl rfl (vin (by assumption) (by omega)) dModel_lookLogic_50 ?_
        refine lv_topi (fun v9 ev9 => ?_)
        refine lv_icmp_eq (tgt := 56) hx hb dModel_lookLogic_51 (by decide) (fun c10 => ?_) (fun c10 => ?_)
        · refine lv_aload_n hx hb dModel_lookLogic_56 rfl (lv_at hl 0 rfl) ?_
          refine lv_iload_n hx hb dModel_lookLogic_57 rfl (lv_at hl 1 rfl) ?_
          refine lv_aload_n hx hb dModel_lookLogic_58 rfl (lv_at hl 0 rfl) ?_
          refine md_gA S hC hM 9 (by decide) rfl qw_a119aeeca0 dModel_lookLogic_59 ?_
          refine lv_iload_n hx hb dModel_lookLogic_62 rfl (lv_at hl 3 rfl) ?_
          refine md_ild S hC hM 9 5 10000 (F 9) rfl rfl (by decide) rfl rfl (vin (by assumption) (by omega)) dModel_lookLogic_63 ?_
          refine lv_topi (fun v11 ev11 => ?_)
          refine lv_aload_n hx hb dModel_lookLogic_64 rfl (lv_at hl 0 rfl) ?_
          refine md_gA S hC hM 10 (by decide) rfl qw_bd0251c605 dModel_lookLogic_65 ?_
          refine lv_iload_n hx hb dModel_lookLogic_68 rfl (lv_at hl 3 rfl) ?_
          refine md_ild S hC hM 10 6 10000 (F 10) rfl rfl (by decide) rfl rfl (vin (by assumption) (by omega)) dModel_lookLogic_69 ?_
          refine lv_topi (fun v12 ev12 => ?_)
          refine lv_aload_n hx hb dModel_lookLogic_70 rfl (lv_at hl 0 rfl) ?_
          refine md_gA S hC hM 11 (by decide) rfl qw_88b9028ba7 dModel_lookLogic_71 ?_
          refine lv_iload_n hx hb dModel_lookLogic_74 rfl (lv_at hl 3 rfl) ?_
          refine md_zld S hC hM 11 7 10000 (F 11) rfl rfl (by decide) rfl rfl (vin (by assumption) (by omega)) dModel_lookLogic_75 ?_
          refine lv_topi (fun v13 ev13 => ?_)
          have J94 : ∀ (ls : Array Slot) (t0_94 : Int32), (Oq OUT (Q_lookLogic_94 κ τ σ F nu x1 x2 x3 x4   t0_94)) → lv_has ls 6 [(0, .ref a), (1, .int x1), (2, .int x2), (3, .int x3), (4, .int x4)] → W p l e (bs_rm 3 0 0 66) s m args below meth c s.heap [] 0 0 Q (F0 m 94 ls [.int t0_94, .int v12, .int v11, .int x1, .ref a]) := by
            intro ls t0_94 hO hl
            have hnr46 : ∃ j, j ≤ 1000 ∧ v12 = nI j := (by rw [ev12]; exact hZ _ (vix (vin (by assumption) (by omega))))
            refine mu_Vv (rest := []) S hC (fun q h => hA q (Nat.le_trans hS.1 h)) (fun q h => h) hS (n_fact l γ a B Z κ b mn ν τ σ F nu hT x1 v11 v12 t0_94 (vin (by assumption) (by omega)) hnr46) meModel_fact qw_02871250ec ⟨Nat.le_of_ble_eq_true rfl, Nat.le_of_ble_eq_true rfl⟩ (md_rv hC hM) hM rfl hl.1 rfl (Nat.le_of_ble_eq_true rfl) dModel_lookLogic_94 ⟨Nat.le_refl _, Nat.le_refl _⟩ (fun H locs hPO hS _ _ => ?_)
            obtain ⟨Fr46, nur46, eOr46, hM, hqr46, hcr46⟩ := hPO
            have eFr46 : Fr46 = (Q_fact κ τ σ F nu x1 v11 v12 t0_94).2.1 := by rw [eOr46.eq]
            have enur46 : nur46 = (Q_fact κ τ σ F nu x1 v11 v12 t0_94).2.2 := by rw [eOr46.eq]
            clear eOr46
            have hZ : SZ Fr46 := hZ.slt hqr46 hnr46
            have hL : SL x1.toNatClampNeg F nu Fr46 nur46 := hL.trans (SL.slt hqr46)
            have hK : GK x1.toNatClampNeg Fr46 nur46 := GK.zero hqr46
            refine lv_aload_n hx hb dModel_lookLogic_97 rfl (lv_at hl 0 rfl) ?_
            refine md_gA S hC hM 9 (by decide) rfl qw_a119aeeca0 dModel_lookLogic_98 ?_
            refine lv_iload_n hx hb dModel_lookLogic_101 rfl (lv_at hl 3 rfl) ?_
            refine md_ild S hC hM 9 5 10000 (Fr46 9) rfl rfl (by decide) rfl rfl (vin (by assumption) (by omega)) dModel_lookLogic_102 ?_
            refine lv_topi (fun v47 ev47 => ?_)
            refine lv_iconst (v := 1) hx hb dModel_lookLogic_103 (by decide) ?_
            have J245 : ∀ (ls : Array Slot) (H : Heap) (locs : List Loc) (F_245 : Nat → Nat → Int32) (nu_245 : Nat → Int64), MD γ a B Z ν τ σ F_245 nu_245 H → va_S Z s.heap H locs → (GK x1.toNatClampNeg F_245 nu_245) → (SL x1.toNatClampNeg F nu F_245 nu_245) → (SZ F_245) → (Oq OUT (Q_lookLogic_245 κ τ σ F nu x1 x2 x3 x4 t0_94   F_245 nu_245)) → lv_has ls 6 [(0, .ref a), (1, .int x1), (2, .int x2), (3, .int x3), (4, .int x4)] → W p l e (bs_rm 3 0 0 66) s m args below meth c H locs 0 0 Q (F0 m 245 ls []) := by
              intro ls H locs F_245 nu_245 hM hS hK hL hZ hO hl
              refine lv_aload_n hx hb dModel_lookLogic_245 rfl (lv_at hl 0 rfl) ?_
              refine lv_iload_n hx hb dModel_lookLogic_246 rfl (lv_at hl 1 rfl) ?_
              refine mu_Vi (rest := []) S hC (fun q h => hA q (Nat.le_trans hS.1 h)) (fun q h => h) hS (n_known l γ a B Z κ b mn ν τ σ F_245 nu_245 hT x1 (vin (by assumption) (by omega))) meModel_known qw_aa15322dc3 ⟨Nat.le_of_ble_eq_true rfl, Nat.le_of_ble_eq_true rfl⟩ (md_rv hC hM) hM rfl hl.1 rfl (Nat.le_of_ble_eq_true rfl) dModel_lookLogic_247 ⟨Nat.le_refl _, Nat.le_refl _⟩ (fun r75 H locs hPO hS _ _ => ?_)
              obtain ⟨hrr75, Fr75, nur75, eOr75, hM, hqr75, hnr75⟩ := hPO
              have er75 : r75 = (Q_known κ τ σ F_245 nu_245 x1).1 := by rw [eOr75.eq]
              have eFr75 : Fr75 = (Q_known κ τ σ F_245 nu_245 x1).2.2.1 := by rw [eOr75.eq]
              have enur75 : nur75 = (Q_known κ τ σ F_245 nu_245 x1).2.2.2 := by rw [eOr75.eq]
              clear eOr75
              have hZ : SZ Fr75 := hZ.e14 hqr75
              have hL : SL x1.toNatClampNeg F nu Fr75 nur75 := hL.trans (SL.kn hqr75 hnr75)
              have hK : GK x1.toNatClampNeg Fr75 nur75 := hK.kn hqr75 hnr75
              exact hE _ _ _ _ _ hS ⟨σ, Fr75, nur75, (by subst enur75 eFr75 er75 ev47 enur46 eFr46 ev13 ev12 ev11 ev9 ev8 ev6 ev4 ev2 ev1; exact hO.tr rfl), hM, hZ, hF, hL, (fun _ => hK)⟩ dModel_lookLogic_250
            refine lv_icmp_ne (tgt := 161) hx hb dModel_lookLogic_104 (by decide) (fun c76 => ?_) (fun c76 => ?_)
            · refine lv_aload_n hx hb dModel_lookLogic_161 rfl (lv_at hl 0 rfl) ?_
              refine md_gA S hC hM 9 (by decide) rfl qw_a119aeeca0 dModel_lookLogic_162 ?_
              refine lv_iload_n hx hb dModel_lookLogic_165 rfl (lv_at hl 3 rfl) ?_
              refine md_ild S hC hM 9 5 10000 (Fr46 9) rfl rfl (by decide) rfl rfl (vin (by assumption) (by omega)) dModel_lookLogic_166 ?_
              refine lv_topi (fun v77 ev77 => ?_)
              refine lv_if_ne (tgt := 199) hx hb dModel_lookLogic_167 (by decide) (fun c78 => ?_) (fun c78 => ?_)
              · refine lv_iconst (v := 0) hx hb dModel_lookLogic_199 (by decide) ?_
                refine lv_istore (lv' := [(5, .int 0), (0, .ref a), (1, .int x1), (2, .int x2), (3, .int x3), (4, .int x4)]) hx hb dModel_lookLogic_200 hl (by decide) rfl (fun ls hl => ?_)
                have J202 : ∀ (N202 : Nat) (ls : Array Slot) (H : Heap) (locs : List Loc) (F_202 : Nat → Nat → Int32) (i5_202 : Int32), MD γ a B Z ν τ σ F_202 nur46 H → va_S Z s.heap H locs → (GK x1.toNatClampNeg F_202 nur46) → (SL x1.toNatClampNeg F nu F_202 nur46) → (SZ F_202) → (¬ i5_202 < 0) → (Oq OUT (Q_lookLogic_202 κ τ σ F nu x1 x2 x3 x4 t0_94  (N202 + 1) F_202 i5_202)) → (2147483647 - i5_202.toInt).toNat = N202 → lv_has ls 6 [(0, .ref a), (1, .int x1), (2, .int x2), (3, .int x3), (4, .int x4), (5, .int i5_202)] → W p l e (bs_rm 3 0 0 66) s m args below meth c H locs 0 0 Q (F0 m 202 ls []) := by
                  intro N202
                  induction N202 using Nat.strongRecOn with
                  | ind N202 ih202 =>
                    intro ls H locs F_202 i5_202 hM hS hK hL hZ hi5_202 hO hm202 hl
                    refine lv_iload hx hb dModel_lookLogic_202 (lv_at hl 5 rfl) ?_
                    refine lv_aload_n hx hb dModel_lookLogic_204 rfl (lv_at hl 0 rfl) ?_
                    refine md_gA S hC hM 10 (by decide) rfl qw_bd0251c605 dModel_lookLogic_205 ?_
                    refine lv_iload_n hx hb dModel_lookLogic_208 rfl (lv_at hl 3 rfl) ?_
                    refine md_ild S hC hM 10 6 10000 (F_202 10) rfl rfl (by decide) rfl rfl (vin (by assumption) (by omega)) dModel_lookLogic_209 ?_
                    refine lv_topi (fun v79 ev79 => ?_)
                    refine lv_icmp_ge (tgt := 245) hx hb dModel_lookLogic_210 (by decide) (fun c80 => ?_) (fun c80 => ?_)
                    · exact J245 ls _ _ F_202 nur46 hM hS hK hL hZ (by subst ev79 ev77 ev47 enur46 eFr46 ev13 ev12 ev11 ev9 ev8 ev6 ev4 ev2 ev1; exact hO.tr (if_pos c80)) (lv_sub hl [0, 1, 2, 3, 4] rfl)
                    · have hin5 : vp_in i5_202 1000 := vsz hZ (vix (vin hx3 (by omega))) (by assumption) (by assumption) (by assumption)
                      refine lv_aload_n hx hb dModel_lookLogic_213 rfl (lv_at hl 0 rfl) ?_
                      refine lv_iload_n hx hb dModel_lookLogic_214 rfl (lv_at hl 1 rfl) ?_
                      refine lv_iload hx hb dModel_lookLogic_215 (lv_at hl 5 rfl) ?_
                      refine lv_iload_n hx hb dModel_lookLogic_217 rfl (lv_at hl 2 rfl) ?_
                      refine lv_aload_n hx hb dModel_lookLogic_218 rfl (lv_at hl 0 rfl) ?_
                      refine lv_iload_n hx hb dModel_lookLogic_219 rfl (lv_at hl 3 rfl) ?_
                      refine lv_iload hx hb dModel_lookLogic_220 (lv_at hl 5 rfl) ?_
                      refine pu_Vi (rest := [.int x2, .int i5_202, .int x1, .ref a]) S hC (n_element l γ a B Z κ b mn ν τ σ F_202 nur46 hT x3 i5_202 (el_in (by assumption) (by assumption) (by omega))) meModel_element qw_ceb3d87d61 ⟨Nat.le_of_ble_eq_true rfl, Nat.le_of_ble_eq_true rfl⟩ (md_rv hC hM) hM rfl hl.1 rfl (Nat.le_of_ble_eq_true rfl) dModel_lookLogic_222 ⟨Nat.zero_le _, Nat.zero_le _⟩ (fun r81 hr81 => ?_)
                      obtain ⟨hr81, er81⟩ := hr81
                      refine lv_aload_n hx hb dModel_lookLogic_225 rfl (lv_at hl 0 rfl) ?_
                      refine lv_iload hx hb dModel_lookLogic_226 (lv_at hl 4 rfl) ?_
                      refine lv_iload hx hb dModel_lookLogic_228 (lv_at hl 5 rfl) ?_
                      refine pu_Vi (rest := [.int r81, .int x2, .int i5_202, .int x1, .ref a]) S hC (n_element l γ a B Z κ b mn ν τ σ F_202 nur46 hT x4 i5_202 (el_in (by assumption) (by assumption) (by omega))) meModel_element qw_ceb3d87d61 ⟨Nat.le_of_ble_eq_true rfl, Nat.le_of_ble_eq_true rfl⟩ (md_rv hC hM) hM rfl hl.1 rfl (Nat.le_of_ble_eq_true rfl) dModel_lookLogic_230 ⟨Nat.zero_le _, Nat.zero_le _⟩ (fun r82 hr82 => ?_)
                      obtain ⟨hr82, er82⟩ := hr82
                      refine pu_Si (rest := [.int i5_202, .int x1, .ref a]) S hC (n_logic l γ _ x2 r81 r82) meModel_logic qw_47bf7afb29 ⟨Nat.le_of_ble_eq_true rfl, Nat.le_of_ble_eq_true rfl⟩ hM rfl hl.1 rfl (Nat.le_of_ble_eq_true rfl) dModel_lookLogic_233 ⟨Nat.zero_le _, Nat.zero_le _⟩ (fun r83 hr83 => ?_)
                      obtain ⟨hr83, er83⟩ := hr83
                      refine mu_Vv (rest := []) S hC (fun q h => hA q (Nat.le_trans hS.1 h)) (fun q h => h) hS (n_setElement l γ a B Z κ b mn ν τ σ F_202 nur46 hT x1 i5_202 r83 (el_in (by assumption) (by assumption) (by omega))) meModel_setElement qw_143403ccb9 ⟨Nat.le_of_ble_eq_true rfl, Nat.le_of_ble_eq_true rfl⟩ (md_rv hC hM) hM rfl hl.1 rfl (Nat.le_of_ble_eq_true rfl) dModel_lookLogic_236 ⟨Nat.le_refl _, Nat.le_refl _⟩ (fun H locs hPO hS _ _ => ?_)
                      obtain ⟨Fr84, eOr84, hM, hqr84⟩ := hPO
                      have eFr84 : Fr84 = (Q_setElement κ τ σ F_202 nur46 x1 i5_202 r83).2.1 := by rw [eOr84.eq]
                      clear eOr84
                      have hZ : SZ Fr84 := hZ.e14 hqr84
                      have hL : SL x1.toNatClampNeg F nu Fr84 nur46 := hL.trans (SL.e14 hqr84)
                      have hK : GK x1.toNatClampNeg Fr84 nur46 := hK.e14 hqr84
                      obtain ⟨v85, ev85⟩ : ∃ y : Int32, y = i5_202 + 1 := ⟨_, rfl⟩
                      refine lv_iinc (v := v85) (lv' := [(5, .int v85), (0, .ref a), (1, .int x1), (2, .int x2), (3, .int x3), (4, .int x4)]) hx hb dModel_lookLogic_239 hl (k := 5) rfl (by rw [ev85]; rfl) (by decide) rfl (fun ls hl => ?_)
                      refine lv_goto (tgt := 202) hx hb dModel_lookLogic_242 (by decide) ?_
                      exact ih202 _ (by have q1 : i5_202.toInt < 2147483647 := (by first | assumption | exact (mu_up (k := i5_202) (by assumption)).2); have q2 := mu_lt q1; rw [← ev85] at q2; omega) ls _ _ Fr84 v85 hM hS hK hL hZ (by first | decide | exact nn_inc (by assumption) (by assumption) (by assumption)) (by have hN : N202 = (2147483647 - v85.toInt).toNat + 1 := (by have q1 : i5_202.toInt < 2147483647 := (by first | assumption | exact (mu_up (k := i5_202) (by assumption)).2); have q2 := mu_lt q1; rw [← ev85] at q2; omega); rw [← hN]; clear hN; subst ev85 eFr84 er83 er82 er81 ev79 ev77 ev47 enur46 eFr46 ev13 ev12 ev11 ev9 ev8 ev6 ev4 ev2 ev1; exact hO.tr (if_neg c80)) rfl (lv_sub hl [1, 2, 3, 4, 5, 0] rfl)
                exact J202 _ ls _ _ Fr46 0 hM hS hK hL hZ (by first | decide | exact nn_inc (by assumption) (by assumption) (by assumption)) (by subst ev77 ev47 enur46 eFr46 ev13 ev12 ev11 ev9 ev8 ev6 ev4 ev2 ev1; exact hO.tr ((if_neg c76).trans (if_neg c78))) rfl (lv_sub hl [1, 2, 3, 4, 5, 0] rfl)
              · refine lv_aload_n hx hb dModel_lookLogic_170 rfl (lv_at hl 0 rfl) ?_
                refine md_gA S hC hM 13 (by decide) rfl qw_7b809afc8c dModel_lookLogic_171 ?_
                refine lv_iload_n hx hb dModel_lookLogic_174 rfl (lv_at hl 1 rfl) ?_
                refine lv_iload_n hx hb dModel_lookLogic_175 rfl (lv_at hl 2 rfl) ?_
                refine lv_aload_n hx hb dModel_lookLogic_176 rfl (lv_at hl 0 rfl) ?_
                refine md_gA S hC hM 13 (by decide) rfl qw_7b809afc8c dModel_lookLogic_177 ?_
                refine lv_iload_n hx hb dModel_lookLogic_180 rfl (lv_at hl 3 rfl) ?_
                refine md_lld S hC hM (vin (by assumption) (by omega)) dModel_lookLogic_181 ?_
                refine lv_topl (fun v86 ev86 => ?_)
                have ev86 : v86 = nur46 x3.toNatClampNeg := ev86
                refine lv_l2i hx hb dModel_lookLogic_182 rfl ?_
                refine lv_topi (fun v87 ev87 => ?_)
                refine lv_aload_n hx hb dModel_lookLogic_183 rfl (lv_at hl 0 rfl) ?_
                refine md_gA S hC hM 13 (by decide) rfl qw_7b809afc8c dModel_lookLogic_184 ?_
                refine lv_iload hx hb dModel_lookLogic_187 (lv_at hl 4 rfl) ?_
                refine md_lld S hC hM (vin (by assumption) (by omega)) dModel_lookLogic_189 ?_
                refine lv_topl (fun v88 ev88 => ?_)
                have ev88 : v88 = nur46 x4.toNatClampNeg := ev88
                refine lv_l2i hx hb dModel_lookLogic_190 rfl ?_
                refine lv_topi (fun v89 ev89 => ?_)
                refine pu_Si (rest := [.int x1, .ref (B 13)]) S hC (n_logic l γ _ x2 v87 v89) meModel_logic qw_47bf7afb29 ⟨Nat.le_of_ble_eq_true rfl, Nat.le_of_ble_eq_true rfl⟩ hM rfl hl.1 rfl (Nat.le_of_ble_eq_true rfl) dModel_lookLogic_191 ⟨Nat.zero_le _, Nat.zero_le _⟩ (fun r90 hr90 => ?_)
                obtain ⟨hr90, er90⟩ := hr90
                refine lv_i2l hx hb dModel_lookLogic_194 rfl ?_
                refine lv_topl (fun v91 ev91 => ?_)
                have hgnu92 : Fr46 9 x1.toNatClampNeg = 2 → -2147483648 < (v91 : Int64).toInt ∧ (v91 : Int64).toInt < 2147483648 := (fun h9 => absurd h9 (gk_eq hqr46 ev11 ha ev77 (by assumption) (by decide)))
                refine md_lst S hC hM hS (vin (by assumption) (by omega)) dModel_lookLogic_195 (fun H locs hM hS => ?_)
                obtain ⟨nu92, enu92⟩ : ∃ z : Nat → Int64, z = vp_updL nur46 x1.toNatClampNeg v91 := ⟨_, rfl⟩
                rw [← enu92] at hM
                have hL : SL x1.toNatClampNeg F nu Fr46 nu92 := hL.trans (by rw [enu92]; exact SL.num)
                have hK : GK x1.toNatClampNeg Fr46 nu92 := by rw [enu92]; exact GK.num hgnu92
                refine lv_goto (tgt := 245) hx hb dModel_lookLogic_196 (by decide) ?_
                exact J245 ls _ _ Fr46 nu92 hM hS hK hL hZ (by subst enu92 ev91 er90 ev89 ev88 ev87 ev86 ev77 ev47 enur46 eFr46 ev13 ev12 ev11 ev9 ev8 ev6 ev4 ev2 ev1; exact hO.tr ((if_neg c76).trans (if_pos c78))) (lv_sub hl [0, 1, 2, 3, 4] rfl)
            · refine lv_aload_n hx hb dModel_lookLogic_107 rfl (lv_at hl 0 rfl) ?_
              refine md_gA S hC hM 13 (by decide) rfl qw_7b809afc8c dModel_lookLogic_108 ?_
              refine lv_iload_n hx hb dModel_lookLogic_111 rfl (lv_at hl 1 rfl) ?_
              refine lv_iload_n hx hb dModel_lookLogic_112 rfl (lv_at hl 2 rfl) ?_
              refine lv_aload_n hx hb dModel_lookLogic_113 rfl (lv_at hl 0 rfl) ?_
              refine md_gA S hC hM 13 (by decide) rfl qw_7b809afc8c dModel_lookLogic_114 ?_
              refine lv_iload_n hx hb dModel_lookLogic_117 rfl (lv_at hl 3 rfl) ?_
              refine md_lld S hC hM (vin (by assumption) (by omega)) dModel_lookLogic_118 ?_
              refine lv_topl (fun v93 ev93 => ?_)
              have ev93 : v93 = nur46 x3.toNatClampNeg := ev93
              refine lv_lconst (v := 1) hx hb dModel_lookLogic_119 (by decide) ?_
              refine W.lcmp hx hb dModel_lookLogic_120 ?_
              refine lv_topi (fun v94 ev94 => ?_)
              have J129 : ∀ (ls : Array Slot) (t0_129 : Int32), (Oq OUT (Q_lookLogic_129 κ τ σ F nu x1 x2 x3 x4 t0_94   t0_129)) → lv_has ls 6 [(0, .ref a), (1, .int x1), (2, .int x2), (3, .int x3), (4, .int x4)] → W p l e (bs_rm 3 0 0 66) s m args below meth c H locs 0 0 Q (F0 m 129 ls [.int t0_129, .int x2, .int x1, .ref (B 13)]) := by
                intro ls t0_129 hO hl
                refine lv_aload_n hx hb dModel_lookLogic_129 rfl (lv_at hl 0 rfl) ?_
                refine md_gA S hC hM 13 (by decide) rfl qw_7b809afc8c dModel_lookLogic_130 ?_
                refine lv_iload hx hb dModel_lookLogic_133 (lv_at hl 4 rfl) ?_
                refine md_lld S hC hM (vin (by assumption) (by omega)) dModel_lookLogic_135 ?_
                refine lv_topl (fun v102 ev102 => ?_)
                have ev102 : v102 = nur46 x4.toNatClampNeg := ev102
                refine lv_lconst (v := 1) hx hb dModel_lookLogic_136 (by decide) ?_
                refine W.lcmp hx hb dModel_lookLogic_137 ?_
                refine lv_topi (fun v103 ev103 => ?_)
                have J146 : ∀ (ls : Array Slot) (t0_146 : Int32), (Oq OUT (Q_lookLogic_146 κ τ σ F nu x1 x2 x3 x4 t0_94 t0_129   t0_146)) → lv_has ls 6 [(0, .ref a), (1, .int x1), (2, .int x2), (3, .int x3), (4, .int x4)] → W p l e (bs_rm 3 0 0 66) s m args below meth c H locs 0 0 Q (F0 m 146 ls [.int t0_146, .int t0_129, .int x2, .int x1, .ref (B 13)]) := by
                  intro ls t0_146 hO hl
                  refine pu_Si (rest := [.int x1, .ref (B 13)]) S hC (n_truth l γ _ x2 t0_129 t0_146) meModel_truth qw_32c72cc6df ⟨Nat.le_of_ble_eq_true rfl, Nat.le_of_ble_eq_true rfl⟩ hM rfl hl.1 rfl (Nat.le_of_ble_eq_true rfl) dModel_lookLogic_146 ⟨Nat.zero_le _, Nat.zero_le _⟩ (fun r108 hr108 => ?_)
                  obtain ⟨hr108, er108⟩ := hr108
                  have J157 : ∀ (ls : Array Slot) (t0_157 : Int64), (t0_157 = 0 ∨ t0_157 = 1) → (Oq OUT (Q_lookLogic_157 κ τ σ F nu x1 x2 x3 x4 t0_94 t0_129 t0_146   t0_157)) → lv_has ls 6 [(0, .ref a), (1, .int x1), (2, .int x2), (3, .int x3), (4, .int x4)] → W p l e (bs_rm 3 0 0 66) s m args below meth c H locs 0 0 Q (F0 m 157 ls [.long t0_157, .int x1, .ref (B 13)]) := by
                    intro ls t0_157 ht0_157 hO hl
                    have hgnu111 : Fr46 9 x1.toNatClampNeg = 2 → -2147483648 < (t0_157 : Int64).toInt ∧ (t0_157 : Int64).toInt < 2147483648 := (fun _ => by rcases ht0_157 with h9 | h9 <;> rw [h9] <;> decide)
                    refine md_lst S hC hM hS (vin (by assumption) (by omega)) dModel_lookLogic_157 (fun H locs hM hS => ?_)
                    obtain ⟨nu111, enu111⟩ : ∃ z : Nat → Int64, z = vp_updL nur46 x1.toNatClampNeg t0_157 := ⟨_, rfl⟩
                    rw [← enu111] at hM
                    have hL : SL x1.toNatClampNeg F nu Fr46 nu111 := hL.trans (by rw [enu111]; exact SL.num)
                    have hK : GK x1.toNatClampNeg Fr46 nu111 := by rw [enu111]; exact GK.num hgnu111
                    refine lv_goto (tgt := 245) hx hb dModel_lookLogic_158 (by decide) ?_
                    exact J245 ls _ _ Fr46 nu111 hM hS hK hL hZ (by subst enu111 er108 ev103 ev102 ev94 ev93 ev47 enur46 eFr46 ev13 ev12 ev11 ev9 ev8 ev6 ev4 ev2 ev1; exact hO.tr rfl) (lv_sub hl [0, 1, 2, 3, 4] rfl)
                  refine lv_if_eq (tgt := 156) hx hb dModel_lookLogic_149 (by decide) (fun c112 => ?_) (fun c112 => ?_)
                  · refine lv_lconst (v := 0) hx hb dModel_lookLogic_156 (by decide) ?_
                    exact J157 ls 0 (by first | assumption | exact Or.inl rfl | exact Or.inr rfl) (by subst er108 ev103 ev102 ev94 ev93 ev47 enur46 eFr46 ev13 ev12 ev11 ev9 ev8 ev6 ev4 ev2 ev1; exact hO.tr (if_pos c112)) (lv_sub hl [0, 1, 2, 3, 4] rfl)
                  · refine lv_lconst (v := 1) hx hb dModel_lookLogic_152 (by decide) ?_
                    refine lv_goto (tgt := 157) hx hb dModel_lookLogic_153 (by decide) ?_
                    exact J157 ls 1 (by first | assumption | exact Or.inl rfl | exact Or.inr rfl) (by subst er108 ev103 ev102 ev94 ev93 ev47 enur46 eFr46 ev13 ev12 ev11 ev9 ev8 ev6 ev4 ev2 ev1; exact hO.tr (if_neg c112)) (lv_sub hl [0, 1, 2, 3, 4] rfl)
                refine lv_if_ne (tgt := 145) hx hb dModel_lookLogic_138 (by decide) (fun c113 => ?_) (fun c113 => ?_)
                · refine lv_iconst (v := 0) hx hb dModel_lookLogic_145 (by decide) ?_
                  exact J146 ls 0 (by subst ev103 ev102 ev94 ev93 ev47 enur46 eFr46 ev13 ev12 ev11 ev9 ev8 ev6 ev4 ev2 ev1; exact hO.tr (if_neg c113)) (lv_sub hl [0, 1, 2, 3, 4] rfl)
                · refine lv_iconst (v := 1) hx hb dModel_lookLogic_141 (by decide) ?_
                  refine lv_goto (tgt := 146) hx hb dModel_lookLogic_142 (by decide) ?_
                  exact J146 ls 1 (by subst ev103 ev102 ev94 ev93 ev47 enur46 eFr46 ev13 ev12 ev11 ev9 ev8 ev6 ev4 ev2 ev1; exact hO.tr (if_pos c113)) (lv_sub hl [0, 1, 2, 3, 4] rfl)
              refine lv_if_ne (tgt := 128) hx hb dModel_lookLogic_121 (by decide) (fun c114 => ?_) (fun c114 => ?_)
              · refine lv_iconst (v := 0) hx hb dModel_lookLogic_128 (by decide) ?_
                exact J129 ls 0 (by subst ev94 ev93 ev47 enur46 eFr46 ev13 ev12 ev11 ev9 ev8 ev6 ev4 ev2 ev1; exact hO.tr ((if_pos c76).trans (if_neg c114))) (lv_sub hl [0, 1, 2, 3, 4] rfl)
              · refine lv_iconst (v := 1) hx hb dModel_lookLogic_124 (by decide) ?_
                refine lv_goto (tgt := 129) hx hb dModel_lookLogic_125 (by decide) ?_
                exact J129 ls 1 (by subst ev94 ev93 ev47 enur46 eFr46 ev13 ev12 ev11 ev9 ev8 ev6 ev4 ev2 ev1; exact hO.tr ((if_pos c76).trans (if_pos c114))) (lv_sub hl [0, 1, 2, 3, 4] rfl)
          have J93 : ∀ (ls : Array Slot), (Oq OUT (Q_lookLogic_93 κ τ σ F nu x1 x2 x3 x4   )) → lv_has ls 6 [(0, .ref a), (1, .int x1), (2, .int x2), (3, .int x3), (4, .int x4)] → W p l e (bs_rm 3 0 0 66) s m args below meth c s.heap [] 0 0 Q (F0 m 93 ls [.int v12, .int v11, .int x1, .ref a]) := by
            intro ls hO hl
            refine lv_iconst (v := 0) hx hb dModel_lookLogic_93 (by decide) ?_
            exact J94 ls 0 (by subst ev13 ev12 ev11 ev9 ev8 ev6 ev4 ev2 ev1; exact hO.tr rfl) (lv_sub hl [0, 1, 2, 3, 4] rfl)
          refine lv_if_eq (tgt := 93) hx hb dModel_lookLogic_76 (by decide) (fun c115 => ?_) (fun c115 => ?_)
          · exact J93 ls (by subst ev13 ev12 ev11 ev9 ev8 ev6 ev4 ev2 ev1; exact hO.tr ((if_pos c3).trans ((if_neg c5).trans ((if_neg c7).trans ((if_pos c10).trans (if_pos c115)))))) (lv_sub hl [0, 1, 2, 3, 4] rfl)
          · refine lv_aload_n hx hb dModel_lookLogic_79 rfl (lv_at hl 0 rfl) ?_
            refine md_gA S hC hM 11 (by decide) rfl qw_88b9028ba7 dModel_lookLogic_80 ?_
            refine lv_iload hx hb dModel_lookLogic_83 (lv_at hl 4 rfl) ?_
            refine md_zld S hC hM 11 7 10000 (F 11) rfl rfl (by decide) rfl rfl (vin (by assumption) (by omega)) dModel_lookLogic_85 ?_
            refine lv_topi (fun v116 ev116 => ?_)
            refine lv_if_eq (tgt := 93) hx hb dModel_lookLogic_86 (by decide) (fun c117 => ?_) (fun c117 => ?_)
            · exact J93 ls (by subst ev116 ev13 ev12 ev11 ev9 ev8 ev6 ev4 ev2 ev1; exact hO.tr ((if_pos c3).trans ((if_neg c5).trans ((if_neg c7).trans ((if_pos c10).trans ((if_neg c115).trans (if_pos c117))))))) (lv_sub hl [0, 1, 2, 3, 4] rfl)
            · refine lv_iconst (v := 1) hx hb dModel_lookLogic_89 (by decide) ?_
              refine lv_goto (tgt := 94) hx hb dModel_lookLogic_90 (by decide) ?_
              exact J94 ls 1 (by subst ev116 ev13 ev12 ev11 ev9 ev8 ev6 ev4 ev2 ev1; exact hO.tr ((if_pos c3).trans ((if_neg c5).trans ((if_neg c7).trans ((if_pos c10).trans ((if_neg c115).trans (if_neg c117))))))) (lv_sub hl [0, 1, 2, 3, 4] rfl)
        · refine lv_iconst (v := 4) hx hb dModel_lookLogic_54 (by decide) ?_
          exact hE _ _ _ _ _ hS ⟨σ, F, nu, (by subst ev9 ev8 ev6 ev4 ev2 ev1; exact hO.tr ((if_pos c3).trans ((if_neg c5).trans ((if_neg c7).trans (if_neg c10))))), hM, hZ, hF, hL, (fun h9 => absurd (show (0 : Int32) < 4 by decide) h9)⟩ dModel_lookLogic_55
      · refine lv_iconst (v := 3) hx hb dModel_lookLogic_36 (by decide) ?_
        exact hE _ _ _ _ _ hS ⟨σ, F, nu, (by subst ev6 ev4 ev2 ev1; exact hO.tr ((if_pos c3).trans ((if_neg c5).trans (if_pos c7)))), hM, hZ, hF, hL, (fun h9 => absurd (show (0 : Int32) < 3 by decide) h9)⟩ dModel_lookLogic_37
def Q_lookOrder_468 (κ : Nat → Nat) (τ : gf) (σ : Nat → Int32) (F : gf) (nu : gg) (x1 : Int32) (x2 : Int32) (x3 : Int32) (x4 : Int32) (t0_102 : Int32) (t0_126 : Int32) (i7_131 : Int32) (i6_131 : Int32) (t0_211 : Int32) (t0_235 : Int32) (i7_453 : Int32) (t0_468 : Int64) : Int32 × (Nat → Int32) × gf × gg := ((Q_known κ τ σ ((Q_fact κ τ σ F nu x1 1 0 t0_211).2.1) (vp_updL ((Q_fact κ τ σ F nu x1 1 0 t0_211).2.2) x1.toNatClampNeg t0_468) x1).1, σ, ((Q_known κ τ σ ((Q_fact κ τ σ F nu x1 1 0 t0_211).2.1) (vp_updL ((Q_fact κ τ σ F nu x1 1 0 t0_211).2.2) x1.toNatClampNeg t0_468) x1).2.2.1), ((Q_known κ τ σ ((Q_fact κ τ σ F nu x1 1 0 t0_211).2.1) (vp_updL ((Q_fact κ τ σ F nu x1 1 0 t0_211).2.2) x1.toNatClampNeg t0_468) x1).2.2.2))
def Q_lookOrder_453 (κ : Nat → Nat) (τ : gf) (σ : Nat → Int32) (F : gf) (nu : gg) (x1 : Int32) (x2 : Int32) (x3 : Int32) (x4 : Int32) (t0_102 : Int32) (t0_126 : Int32) (i7_131 : Int32) (i6_131 : Int32) (t0_211 : Int32) (t0_235 : Int32) (i7_453 : Int32) : Int32 × (Nat → Int32) × gf × gg := (if i7_453 = 0 then (Q_lookOrder_468 κ τ σ F nu x1 x2 x3 x4 t0_102 t0_126 i7_131 i6_131 t0_211 t0_235 i7_453  0) else (Q_lookOrder_468 κ τ σ F nu x1 x2 x3 x4 t0_102 t0_126 i7_131 i6_131 t0_211 t0_235 i7_453  1))
def Q_lookOrder_451 (κ : Nat → Nat) (τ : gf) (σ : Nat → Int32) (F : gf) (nu : gg) (x1 : Int32) (x2 : Int32) (x3 : Int32) (x4 : Int32) (t0_102 : Int32) (t0_126 : Int32) (i7_131 : Int32) (i6_131 : Int32) (t0_211 : Int32) (t0_235 : Int32) (t0_286 : Int32) (i9_291 : Int32) (i8_291 : Int32) (t0_390 : Int32) (t0_451 : Int32) : Int32 × (Nat → Int32) × gf × gg := (Q_lookOrder_453 κ τ σ F nu x1 x2 x3 x4 t0_102 t0_126 i7_131 i6_131 t0_211 t0_235  t0_451)
def Q_lookOrder_450 (κ : Nat → Nat) (τ : gf) (σ : Nat → Int32) (F : gf) (nu : gg) (x1 : Int32) (x2 : Int32) (x3 : Int32) (x4 : Int32) (t0_102 : Int32) (t0_126 : Int32) (i7_131 : Int32) (i6_131 : Int32) (t0_211 : Int32) (t0_235 : Int32) (t0_286 : Int32) (i9_291 : Int32) (i8_291 : Int32) (t0_390 : Int32) : Int32 × (Nat → Int32) × gf × gg := (Q_lookOrder_451 κ τ σ F nu x1 x2 x3 x4 t0_102 t0_126 i7_131 i6_131 t0_211 t0_235 t0_286 i9_291 i8_291 t0_390  0)
def Q_lookOrder_446 (κ : Nat → Nat) (τ : gf) (σ : Nat → Int32) (F : gf) (nu : gg) (x1 : Int32) (x2 : Int32) (x3 : Int32) (x4 : Int32) (t0_102 : Int32) (t0_126 : Int32) (i7_131 : Int32) (i6_131 : Int32) (t0_211 : Int32) (t0_235 : Int32) (t0_286 : Int32) (i9_291 : Int32) (i8_291 : Int32) (t0_390 : Int32) : Int32 × (Nat → Int32) × gf × gg := (Q_lookOrder_451 κ τ σ F nu x1 x2 x3 x4 t0_102 t0_126 i7_131 i6_131 t0_211 t0_235 t0_286 i9_291 i8_291 t0_390  1)
def Q_lookOrder_390 (κ : Nat → Nat) (τ : gf) (σ : Nat → Int32) (F : gf) (nu : gg) (x1 : Int32) (x2 : Int32) (x3 : Int32) (x4 : Int32) (t0_102 : Int32) (t0_126 : Int32) (i7_131 : Int32) (i6_131 : Int32) (t0_211 : Int32) (t0_235 : Int32) (t0_286 : Int32) (i9_291 : Int32) (i8_291 : Int32) (t0_390 : Int32) : Int32 × (Nat → Int32) × gf × gg := (if t0_390 = 0 then (Q_lookOrder_450 κ τ σ F nu x1 x2 x3 x4 t0_102 t0_126 i7_131 i6_131 t0_211 t0_235 t0_286 i9_291 i8_291 t0_390  ) else (if x2 = 8 then (if 0 ≤ i8_291 then (Q_lookOrder_450 κ τ σ F nu x1 x2 x3 x4 t0_102 t0_126 i7_131 i6_131 t0_211 t0_235 t0_286 i9_291 i8_291 t0_390  ) else (Q_lookOrder_446 κ τ σ F nu x1 x2 x3 x4 t0_102 t0_126 i7_131 i6_131 t0_211 t0_235 t0_286 i9_291 i8_291 t0_390  )) else (if x2 = 9 then (if 1 ≤ i8_291 then (Q_lookOrder_450 κ τ σ F nu x1 x2 x3 x4 t0_102 t0_126 i7_131 i6_131 t0_211 t0_235 t0_286 i9_291 i8_291 t0_390  ) else (Q_lookOrder_446 κ τ σ F nu x1 x2 x3 x4 t0_102 t0_126 i7_131 i6_131 t0_211 t0_235 t0_286 i9_291 i8_291 t0_390  )) else (if x2 = 10 then (if i8_291 ≤ 0 then (Q_lookOrder_450 κ τ σ F nu x1 x2 x3 x4 t0_102 t0_126 i7_131 i6_131 t0_211 t0_235 t0_286 i9_291 i8_291 t0_390  ) else (Q_lookOrder_446 κ τ σ F nu x1 x2 x3 x4 t0_102 t0_126 i7_131 i6_131 t0_211 t0_235 t0_286 i9_291 i8_291 t0_390  )) else (if i8_291 ≤ (-1) then (Q_lookOrder_450 κ τ σ F nu x1 x2 x3 x4 t0_102 t0_126 i7_131 i6_131 t0_211 t0_235 t0_286 i9_291 i8_291 t0_390  ) else (Q_lookOrder_446 κ τ σ F nu x1 x2 x3 x4 t0_102 t0_126 i7_131 i6_131 t0_211 t0_235 t0_286 i9_291 i8_291 t0_390  ))))))
def Q_lookOrder_385 (κ : Nat → Nat) (τ : gf) (σ : Nat → Int32) (F : gf) (nu : gg) (x1 : Int32) (x2 : Int32) (x3 : Int32) (x4 : Int32) (t0_102 : Int32) (t0_126 : Int32) (i7_131 : Int32) (i6_131 : Int32) (t0_211 : Int32) (t0_235 : Int32) (t0_286 : Int32) (i9_291 : Int32) (i8_291 : Int32) : Int32 × (Nat → Int32) × gf × gg := (Q_lookOrder_390 κ τ σ F nu x1 x2 x3 x4 t0_102 t0_126 i7_131 i6_131 t0_211 t0_235 t0_286 i9_291 i8_291  1)
def Q_lookOrder_389 (κ : Nat → Nat) (τ : gf) (σ : Nat → Int32) (F : gf) (nu : gg) (x1 : Int32) (x2 : Int32) (x3 : Int32) (x4 : Int32) (t0_102 : Int32) (t0_126 : Int32) (i7_131 : Int32) (i6_131 : Int32) (t0_211 : Int32) (t0_235 : Int32) (t0_286 : Int32) (i9_291 : Int32) (i8_291 : Int32) : Int32 × (Nat → Int32) × gf × gg := (Q_lookOrder_390 κ τ σ F nu x1 x2 x3 x4 t0_102 t0_126 i7_131 i6_131 t0_211 t0_235 t0_286 i9_291 i8_291  0)
def Q_lookOrder_363 (κ : Nat → Nat) (τ : gf) (σ : Nat → Int32) (F : gf) (nu : gg) (x1 : Int32) (x2 : Int32) (x3 : Int32) (x4 : Int32) (t0_102 : Int32) (t0_126 : Int32) (i7_131 : Int32) (i6_131 : Int32) (t0_211 : Int32) (t0_235 : Int32) (t0_286 : Int32) (i9_291 : Int32) (i8_291 : Int32) : Int32 × (Nat → Int32) × gf × gg := (if t0_102 = 0 then (Q_lookOrder_385 κ τ σ F nu x1 x2 x3 x4 t0_102 t0_126 i7_131 i6_131 t0_211 t0_235 t0_286 i9_291 i8_291  ) else (if (Q_isClear κ τ σ ((Q_fact κ τ σ F nu x1 1 0 t0_211).2.1) ((Q_fact κ τ σ F nu x1 1 0 t0_211).2.2) x3) = 0 then (Q_lookOrder_389 κ τ σ F nu x1 x2 x3 x4 t0_102 t0_126 i7_131 i6_131 t0_211 t0_235 t0_286 i9_291 i8_291  ) else (if (Q_isClear κ τ σ ((Q_fact κ τ σ F nu x1 1 0 t0_211).2.1) ((Q_fact κ τ σ F nu x1 1 0 t0_211).2.2) x4) = 0 then (Q_lookOrder_389 κ τ σ F nu x1 x2 x3 x4 t0_102 t0_126 i7_131 i6_131 t0_211 t0_235 t0_286 i9_291 i8_291  ) else (Q_lookOrder_385 κ τ σ F nu x1 x2 x3 x4 t0_102 t0_126 i7_131 i6_131 t0_211 t0_235 t0_286 i9_291 i8_291  ))))
def Q_lookOrder_355 (κ : Nat → Nat) (τ : gf) (σ : Nat → Int32) (F : gf) (nu : gg) (x1 : Int32) (x2 : Int32) (x3 : Int32) (x4 : Int32) (t0_102 : Int32) (t0_126 : Int32) (i7_131 : Int32) (i6_131 : Int32) (t0_211 : Int32) (t0_235 : Int32) (t0_286 : Int32) (i9_291 : Int32) (i8_291 : Int32) (k291 : Int32 → Int32 → Int32 × (Nat → Int32) × gf × gg) (t0_355 : Int32) : Int32 × (Nat → Int32) × gf × gg := (k291 (i9_291 + 1) t0_355)
def Q_lookOrder_291 (κ : Nat → Nat) (τ : gf) (σ : Nat → Int32) (F : gf) (nu : gg) (x1 : Int32) (x2 : Int32) (x3 : Int32) (x4 : Int32) (t0_102 : Int32) (t0_126 : Int32) (i7_131 : Int32) (i6_131 : Int32) (t0_211 : Int32) (t0_235 : Int32) (t0_286 : Int32) : Nat → Int32 → Int32 → Int32 × (Nat → Int32) × gf × gg
  | 0, _, _ => default
  | n + 1, i9_291, i8_291 => (if (((Q_fact κ τ σ F nu x1 1 0 t0_211).2.1) 10 x3.toNatClampNeg) ≤ i9_291 then (Q_lookOrder_363 κ τ σ F nu x1 x2 x3 x4 t0_102 t0_126 i7_131 i6_131 t0_211 t0_235 t0_286 i9_291 i8_291  ) else (if t0_102 = 0 then (Q_lookOrder_363 κ τ σ F nu x1 x2 x3 x4 t0_102 t0_126 i7_131 i6_131 t0_211 t0_235 t0_286 i9_291 i8_291  ) else (if (Q_isHigh (Q_element κ τ σ ((Q_fact κ τ σ F nu x1 1 0 t0_211).2.1) ((Q_fact κ τ σ F nu x1 1 0 t0_211).2.2) x3 i9_291)) = (Q_isHigh (Q_element κ τ σ ((Q_fact κ τ σ F nu x1 1 0 t0_211).2.1) ((Q_fact κ τ σ F nu x1 1 0 t0_211).2.2) x4 i9_291)) then (Q_lookOrder_355 κ τ σ F nu x1 x2 x3 x4 t0_102 t0_126 i7_131 i6_131 t0_211 t0_235 t0_286 i9_291 i8_291 (fun a0 a1 => Q_lookOrder_291 κ τ σ F nu x1 x2 x3 x4 t0_102 t0_126 i7_131 i6_131 t0_211 t0_235 t0_286  n a0 a1) i8_291) else (if (Q_isHigh (Q_element κ τ σ ((Q_fact κ τ σ F nu x1 1 0 t0_211).2.1) ((Q_fact κ τ σ F nu x1 1 0 t0_211).2.2) x4 i9_291)) = 0 then (Q_lookOrder_355 κ τ σ F nu x1 x2 x3 x4 t0_102 t0_126 i7_131 i6_131 t0_211 t0_235 t0_286 i9_291 i8_291 (fun a0 a1 => Q_lookOrder_291 κ τ σ F nu x1 x2 x3 x4 t0_102 t0_126 i7_131 i6_131 t0_211 t0_235 t0_286  n a0 a1) 1) else (Q_lookOrder_355 κ τ σ F nu x1 x2 x3 x4 t0_102 t0_126 i7_131 i6_131 t0_211 t0_235 t0_286 i9_291 i8_291 (fun a0 a1 => Q_lookOrder_291 κ τ σ F nu x1 x2 x3 x4 t0_102 t0_126 i7_131 i6_131 t0_211 t0_235 t0_286  n a0 a1) (-1))))))
def Q_lookOrder_286 (κ : Nat → Nat) (τ : gf) (σ : Nat → Int32) (F : gf) (nu : gg) (x1 : Int32) (x2 : Int32) (x3 : Int32) (x4 : Int32) (t0_102 : Int32) (t0_126 : Int32) (i7_131 : Int32) (i6_131 : Int32) (t0_211 : Int32) (t0_235 : Int32) (t0_286 : Int32) : Int32 × (Nat → Int32) × gf × gg := (Q_lookOrder_291 κ τ σ F nu x1 x2 x3 x4 t0_102 t0_126 i7_131 i6_131 t0_211 t0_235 t0_286  ((2147483647 - (0 : Int32).toInt).toNat + 1) 0 t0_286)
def Q_lookOrder_235 (κ : Nat → Nat) (τ : gf) (σ : Nat → Int32) (F : gf) (nu : gg) (x1 : Int32) (x2 : Int32) (x3 : Int32) (x4 : Int32) (t0_102 : Int32) (t0_126 : Int32) (i7_131 : Int32) (i6_131 : Int32) (t0_211 : Int32) (t0_235 : Int32) : Int32 × (Nat → Int32) × gf × gg := (if x2 ≤ 7 then (Q_lookOrder_453 κ τ σ F nu x1 x2 x3 x4 t0_102 t0_126 i7_131 i6_131 t0_211 t0_235  t0_235) else (if 0 ≤ (lg_cmp (((Q_fact κ τ σ F nu x1 1 0 t0_211).2.2) x3.toNatClampNeg) (((Q_fact κ τ σ F nu x1 1 0 t0_211).2.2) x4.toNatClampNeg)) then (if (lg_cmp (((Q_fact κ τ σ F nu x1 1 0 t0_211).2.2) x3.toNatClampNeg) (((Q_fact κ τ σ F nu x1 1 0 t0_211).2.2) x4.toNatClampNeg)) ≤ 0 then (Q_lookOrder_286 κ τ σ F nu x1 x2 x3 x4 t0_102 t0_126 i7_131 i6_131 t0_211 t0_235  0) else (Q_lookOrder_286 κ τ σ F nu x1 x2 x3 x4 t0_102 t0_126 i7_131 i6_131 t0_211 t0_235  1)) else (Q_lookOrder_286 κ τ σ F nu x1 x2 x3 x4 t0_102 t0_126 i7_131 i6_131 t0_211 t0_235  (-1))))
def Q_lookOrder_211 (κ : Nat → Nat) (τ : gf) (σ : Nat → Int32) (F : gf) (nu : gg) (x1 : Int32) (x2 : Int32) (x3 : Int32) (x4 : Int32) (t0_102 : Int32) (t0_126 : Int32) (i7_131 : Int32) (i6_131 : Int32) (t0_211 : Int32) : Int32 × (Nat → Int32) × gf × gg := (if x2 = 6 then (Q_lookOrder_235 κ τ σ F nu x1 x2 x3 x4 t0_102 t0_126 i7_131 i6_131 t0_211  i6_131) else (if i6_131 = 0 then (Q_lookOrder_235 κ τ σ F nu x1 x2 x3 x4 t0_102 t0_126 i7_131 i6_131 t0_211  1) else (Q_lookOrder_235 κ τ σ F nu x1 x2 x3 x4 t0_102 t0_126 i7_131 i6_131 t0_211  0)))
def Q_lookOrder_210 (κ : Nat → Nat) (τ : gf) (σ : Nat → Int32) (F : gf) (nu : gg) (x1 : Int32) (x2 : Int32) (x3 : Int32) (x4 : Int32) (t0_102 : Int32) (t0_126 : Int32) (i7_131 : Int32) (i6_131 : Int32) : Int32 × (Nat → Int32) × gf × gg := (Q_lookOrder_211 κ τ σ F nu x1 x2 x3 x4 t0_102 t0_126 i7_131 i6_131  0)
def Q_lookOrder_183 (κ : Nat → Nat) (τ : gf) (σ : Nat → Int32) (F : gf) (nu : gg) (x1 : Int32) (x2 : Int32) (x3 : Int32) (x4 : Int32) (t0_102 : Int32) (t0_126 : Int32) (i7_131 : Int32) (i6_131 : Int32) : Int32 × (Nat → Int32) × gf × gg := (if (F 11 x3.toNatClampNeg) = 0 then (Q_lookOrder_210 κ τ σ F nu x1 x2 x3 x4 t0_102 t0_126 i7_131 i6_131  ) else (if (F 11 x4.toNatClampNeg) = 0 then (Q_lookOrder_210 κ τ σ F nu x1 x2 x3 x4 t0_102 t0_126 i7_131 i6_131  ) else (Q_lookOrder_211 κ τ σ F nu x1 x2 x3 x4 t0_102 t0_126 i7_131 i6_131  1)))
def Q_lookOrder_175 (κ : Nat → Nat) (τ : gf) (σ : Nat → Int32) (F : gf) (nu : gg) (x1 : Int32) (x2 : Int32) (x3 : Int32) (x4 : Int32) (t0_102 : Int32) (t0_126 : Int32) (i7_131 : Int32) (i6_131 : Int32) (k131 : Int32 → Int32 → Int32 × (Nat → Int32) × gf × gg) (t0_175 : Int32) : Int32 × (Nat → Int32) × gf × gg := (k131 (i7_131 + 1) t0_175)
def Q_lookOrder_174 (κ : Nat → Nat) (τ : gf) (σ : Nat → Int32) (F : gf) (nu : gg) (x1 : Int32) (x2 : Int32) (x3 : Int32) (x4 : Int32) (t0_102 : Int32) (t0_126 : Int32) (i7_131 : Int32) (i6_131 : Int32) (k131 : Int32 → Int32 → Int32 × (Nat → Int32) × gf × gg) : Int32 × (Nat → Int32) × gf × gg := (Q_lookOrder_175 κ τ σ F nu x1 x2 x3 x4 t0_102 t0_126 i7_131 i6_131 k131 0)
def Q_lookOrder_131 (κ : Nat → Nat) (τ : gf) (σ : Nat → Int32) (F : gf) (nu : gg) (x1 : Int32) (x2 : Int32) (x3 : Int32) (x4 : Int32) (t0_102 : Int32) (t0_126 : Int32) : Nat → Int32 → Int32 → Int32 × (Nat → Int32) × gf × gg
  | 0, _, _ => default
  | n + 1, i7_131, i6_131 => (if (F 10 x3.toNatClampNeg) ≤ i7_131 then (Q_lookOrder_183 κ τ σ F nu x1 x2 x3 x4 t0_102 t0_126 i7_131 i6_131  ) else (if t0_102 = 0 then (Q_lookOrder_183 κ τ σ F nu x1 x2 x3 x4 t0_102 t0_126 i7_131 i6_131  ) else (if i6_131 = 0 then (Q_lookOrder_174 κ τ σ F nu x1 x2 x3 x4 t0_102 t0_126 i7_131 i6_131 (fun a0 a1 => Q_lookOrder_131 κ τ σ F nu x1 x2 x3 x4 t0_102 t0_126  n a0 a1) ) else (if (Q_element κ τ σ F nu x3 i7_131) = (Q_element κ τ σ F nu x4 i7_131) then (Q_lookOrder_175 κ τ σ F nu x1 x2 x3 x4 t0_102 t0_126 i7_131 i6_131 (fun a0 a1 => Q_lookOrder_131 κ τ σ F nu x1 x2 x3 x4 t0_102 t0_126  n a0 a1) 1) else (Q_lookOrder_174 κ τ σ F nu x1 x2 x3 x4 t0_102 t0_126 i7_131 i6_131 (fun a0 a1 => Q_lookOrder_131 κ τ σ F nu x1 x2 x3 x4 t0_102 t0_126  n a0 a1) )))))
def Q_lookOrder_126 (κ : Nat → Nat) (τ : gf) (σ : Nat → Int32) (F : gf) (nu : gg) (x1 : Int32) (x2 : Int32) (x3 : Int32) (x4 : Int32) (t0_102 : Int32) (t0_126 : Int32) : Int32 × (Nat → Int32) × gf × gg := (Q_lookOrder_131 κ τ σ F nu x1 x2 x3 x4 t0_102 t0_126  ((2147483647 - (0 : Int32).toInt).toNat + 1) 0 t0_126)
def Q_lookOrder_102 (κ : Nat → Nat) (τ : gf) (σ : Nat → Int32) (F : gf) (nu : gg) (x1 : Int32) (x2 : Int32) (x3 : Int32) (x4 : Int32) (t0_102 : Int32) : Int32 × (Nat → Int32) × gf × gg := (if (lg_cmp (nu x3.toNatClampNeg) (nu x4.toNatClampNeg)) = 0 then (Q_lookOrder_126 κ τ σ F nu x1 x2 x3 x4 t0_102  1) else (Q_lookOrder_126 κ τ σ F nu x1 x2 x3 x4 t0_102  0))
def Q_lookOrder_69 (κ : Nat → Nat) (τ : gf) (σ : Nat → Int32) (F : gf) (nu : gg) (x1 : Int32) (x2 : Int32) (x3 : Int32) (x4 : Int32) : Int32 × (Nat → Int32) × gf × gg := (if (F 10 x3.toNatClampNeg) = (F 10 x4.toNatClampNeg) then (if (F 9 x3.toNatClampNeg) = 3 then (Q_lookOrder_102 κ τ σ F nu x1 x2 x3 x4  1) else (Q_lookOrder_102 κ τ σ F nu x1 x2 x3 x4  0)) else (4, σ, F, nu))
def Q_lookOrder_42 (κ : Nat → Nat) (τ : gf) (σ : Nat → Int32) (F : gf) (nu : gg) (x1 : Int32) (x2 : Int32) (x3 : Int32) (x4 : Int32) : Int32 × (Nat → Int32) × gf × gg := (if x2 ≤ 7 then (Q_lookOrder_69 κ τ σ F nu x1 x2 x3 x4  ) else (if (F 9 x3.toNatClampNeg) = 0 then (3, σ, F, nu) else (if (F 9 x3.toNatClampNeg) = 1 then (3, σ, F, nu) else (Q_lookOrder_69 κ τ σ F nu x1 x2 x3 x4  ))))
def Q_lookOrder (κ : Nat → Nat) (τ : gf) (σ : Nat → Int32) (F : gf) (nu : gg) (x1 : Int32) (x2 : Int32) (x3 : Int32) (x4 : Int32) : Int32 × (Nat → Int32) × gf × gg := (if (F 9 x3.toNatClampNeg) = (F 9 x4.toNatClampNeg) then (if (F 9 x3.toNatClampNeg) = 4 then (if (F 10 x3.toNatClampNeg) = (F 10 x4.toNatClampNeg) then (Q_lookOrder_42 κ τ σ F nu x1 x2 x3 x4  ) else (3, σ, F, nu)) else (Q_lookOrder_42 κ τ σ F nu x1 x2 x3 x4  )) else (3, σ, F, nu))
set_option maxHeartbeats 4000000 in
set_option maxRecDepth 100000 in
theorem n_lookOrder (l : Launch) (γ : gE) (a : Nat) (B : Nat → Nat) (Z : Nat → Prop) (κ b mn : Nat → Nat) (ν : Nat → Int32) (τ : Nat → Nat → Int32) (σ : Nat → Int32) (F : Nat → Nat → Int32) (nu : Nat → Int64) (hT : ST κ b mn ν τ) (x1 : Int32) (x2 : Int32) (x3 : Int32) (x4 : Int32) (hx1 : vp_in x1 (κ 0)) (hx3 : vp_in x3 (κ 0)) (hx4 : vp_in x4 (κ 0)) (ha : x3.toNatClampNeg < x1.toNatClampNeg) (hbk : x4.toNatClampNeg < x1.toNatClampNeg) (hZ : SZ F) (hF : FD σ) : MU l yModel_lookOrder bModel_lookOrder 10 (some .int) 2 48 0 0 [.ref a, .int x1, .int x2, .int x3, .int x4] γ Z (MD γ a B Z ν τ σ F nu) (mQi (fun r H => ∃ (σ' : Nat → Int32) (F' : Nat → Nat → Int32) (nu' : Nat → Int64), Oq (Q_lookOrder κ τ σ F nu x1 x2 x3 x4) (r, σ', F', nu') ∧ MD γ a B Z ν τ σ' F' nu' H ∧ SZ F' ∧ FD σ' ∧ SL x1.toNatClampNeg F nu F' nu' ∧ (¬ 0 < r → GK x1.toNatClampNeg F' nu')) Z) := by
  refine mu_openI (by decide) (Nat.le_of_ble_eq_true rfl) ?_
  intro p e s m args below meth c ls Q S hnm hC hA hM hE hl
  have hS : va_S Z s.heap s.heap [] := va_S.rf
  obtain ⟨hx, hb, hml, hown, hW⟩ := id S
  obtain ⟨⟨hs0, hs1, hs2, hs3, hs4, hs5, hs6⟩, ⟨hv6, hv8, hv21, hv24, hv30, hv31⟩, hTR, hTY, hOB, hNM⟩ := id hT
  have hL : SL x1.toNatClampNeg F nu F nu := SL.rf
  have hl : lv_has ls 10 [(0, .ref a), (1, .int x1), (2, .int x2), (3, .int x3), (4, .int x4)] := hl
  obtain ⟨OUT, hQ, hO⟩ : ∃ z, (z = Q_lookOrder κ τ σ F nu x1 x2 x3 x4) ∧ Oq z (Q_lookOrder κ τ σ F nu x1 x2 x3 x4) := ⟨_, rfl, rfl⟩
  rw [← hQ] at hE
  clear hQ
  refine lv_aload_n hx hb dModel_lookOrder_0 rfl (lv_at hl 0 rfl) ?_
  refine md_gA S hC hM 9 (by decide) rfl qw_a119aeeca0 dModel_lookOrder_1 ?_
  refine lv_iload_n hx hb dModel_lookOrder_4 rfl (lv_at hl 3 rfl) ?_
  refine md_ild S hC hM 9 5 10000 (F 9) rfl rfl (by decide) rfl rfl (vin (by assumption) (by omega)) dModel_lookOrder_5 ?_
  refine lv_topi (fun v1 ev1 => ?_)
  refine lv_aload_n hx hb dModel_lookOrder_6 rfl (lv_at hl 0 rfl) ?_
  refine md_gA S hC hM 9 (by decide) rfl qw_a119aeeca0 dModel_lookOrder_7 ?_
  refine lv_iload hx hb dModel_lookOrder_10 (lv_at hl 4 rfl) ?_
  refine md_ild S hC hM 9 5 10000 (F 9) rfl rfl (by decide) rfl rfl (vin (by assumption) (by omega)) dModel_lookOrder_12 ?_
  refine lv_topi (fun v2 ev2 => ?_)
  refine lv_icmp_ne (tgt := 67) hx hb dModel_lookOrder_13 (by decide) (fun c3 => ?_) (fun c3 => ?_)
  · refine lv_iconst (v := 3) hx hb dModel_lookOrder_67 (by decide) ?_
    exact hE _ _ _ _ _ hS ⟨σ, F, nu, (by subst ev2 ev1; exact hO.tr (if_neg c3)), hM, hZ, hF, hL, (fun h9 => absurd (show (0 : Int32) < 3 by decide) h9)⟩ dModel_lookOrder_68
  · refine lv_aload_n hx hb dModel_lookOrder_16 rfl (lv_at hl 0 rfl) ?_
    refine md_gA S hC hM 9 (by decide) rfl qw_a119aeeca0 dModel_lookOrder_17 ?_
    refine lv_iload_n hx hb dModel_lookOrder_20 rfl (lv_at hl 3 rfl) ?_
    refine md_ild S hC hM 9 5 10000 (F 9) rfl rfl (by decide) rfl rfl (vin (by assumption) (by omega)) dModel_lookOrder_21 ?_
    refine lv_topi (fun v4 ev4 => ?_)
    refine lv_iconst (v := 4) hx hb dModel_lookOrder_22 (by decide) ?_
    have J42 : ∀ (ls : Array Slot), (Oq OUT (Q_lookOrder_42 κ τ σ F nu x1 x2 x3 x4   )) → lv_has ls 10 [(0, .ref a), (1, .int x1), (2, .int x2), (3, .int x3), (4, .int x4)] → W p l e (bs_rm 2 0 0 48) s m args below meth c s.heap [] 0 0 Q (F0 m 42 ls []) := by
      intro ls hO hl
      refine lv_iload_n hx hb dModel_lookOrder_42 rfl (lv_at hl 2 rfl) ?_
      refine lv_bipush (v := 7) hx hb dModel_lookOrder_43 (by decide) ?_
      have J69 : ∀ (ls : Array Slot), (Oq OUT (Q_lookOrder_69 κ τ σ F nu x1 x2 x3 x4   )) → lv_has ls 10 [(0, .ref a), (1, .int x1), (2, .int x2), (3, .int x3), (4, .int x4)] → W p l e (bs_rm 2 0 0 48) s m args below meth c s.heap [] 0 0 Q (F0 m 69 ls []) := by
        intro ls hO hl
        refine lv_aload_n hx hb dModel_lookOrder_69 rfl (lv_at hl 0 rfl) ?_
        refine md_gA S hC hM 10 (by decide) rfl qw_bd0251c605 dModel_lookOrder_70 ?_
        refine lv_iload_n hx hb dModel_lookOrder_73 rfl (lv_at hl 3 rfl) ?_
        refine md_ild S hC hM 10 6 10000 (F 10) rfl rfl (by decide) rfl rfl (vin (by assumption) (by omega)) dModel_lookOrder_74 ?_
        refine lv_topi (fun v141 ev141 => ?_)
        refine lv_aload_n hx hb dModel_lookOrder_75 rfl (lv_at hl 0 rfl) ?_
        refine md_gA S hC hM 10 (by decide) rfl qw_bd0251c605 dModel_lookOrder_76 ?_
        refine lv_iload hx hb dModel_lookOrder_79 (lv_at hl 4 rfl) ?_
        refine md_ild S hC hM 10 6 10000 (F 10) rfl rfl (by decide) rfl rfl (vin (by assumption) (by omega)) dModel_lookOrder_81 ?_
        refine lv_topi (fun v142 ev142 => ?_)
        refine lv_icmp_eq (tgt := 87) hx hb dModel_lookOrder_82 (by decide) (fun c143 => ?_) (fun c143 => ?_)
        · refine lv_aload_n hx hb dModel_lookOrder_87 rfl (lv_at hl 0 rfl) ?_
          refine md_gA S hC hM 9 (by decide) rfl qw_a119aeeca0 dModel_lookOrder_88 ?_
          refine lv_iload_n hx hb dModel_lookOrder_91 rfl (lv_at hl 3 rfl) ?_
          refine md_ild S hC hM 9 5 10000 (F 9) rfl rfl (by decide) rfl rfl (vin (by assumption) (by omega)) dModel_lookOrder_92 ?_
          refine lv_topi (fun v144 ev144 => ?_)
          refine lv_iconst (v := 3) hx hb dModel_lookOrder_93 (by decide) ?_
          have J102 : ∀ (ls : Array Slot) (t0_102 : Int32), (Oq OUT (Q_lookOrder_102 κ τ σ F nu x1 x2 x3 x4   t0_102)) → lv_has ls 10 [(0, .ref a), (1, .int x1), (2, .int x2), (3, .int x3), (4, .int x4)] → W p l e (bs_rm 2 0 0 48) s m args below meth c s.heap [] 0 0 Q (F0 m 102 ls [.int t0_102]) := by
            intro ls t0_102 hO hl
            refine lv_istore (lv' := [(5, .int t0_102), (0, .ref a), (1, .int x1), (2, .int x2), (3, .int x3), (4, .int x4)]) hx hb dModel_lookOrder_102 hl (by decide) rfl (fun ls hl => ?_)
            refine lv_aload_n hx hb dModel_lookOrder_104 rfl (lv_at hl 1 rfl) ?_
            refine md_gA S hC hM 13 (by decide) rfl qw_7b809afc8c dModel_lookOrder_105 ?_
            refine lv_iload_n hx hb dModel_lookOrder_108 rfl (lv_at hl 4 rfl) ?_
            refine md_lld S hC hM (vin (by assumption) (by omega)) dModel_lookOrder_109 ?_
            refine lv_topl (fun v202 ev202 => ?_)
            have ev202 : v202 = nu x3.toNatClampNeg := ev202
            refine lv_aload_n hx hb dModel_lookOrder_110 rfl (lv_at hl 1 rfl) ?_
            refine md_gA S hC hM 13 (by decide) rfl qw_7b809afc8c dModel_lookOrder_111 ?_
            refine lv_iload hx hb dModel_lookOrder_114 (lv_at hl 5 rfl) ?_
            refine md_lld S hC hM (vin (by assumption) (by omega)) dModel_lookOrder_116 ?_
            refine lv_topl (fun v203 ev203 => ?_)
            have ev203 : v203 = nu x4.toNatClampNeg := ev203
            refine W.lcmp hx hb dModel_lookOrder_117 ?_
            refine lv_topi (fun v204 ev204 => ?_)
            have J126 : ∀ (ls : Array Slot) (t0_126 : Int32), (Oq OUT (Q_lookOrder_126 κ τ σ F nu x1 x2 x3 x4 t0_102   t0_126)) → lv_has ls 10 [(0, .ref a), (1, .int x1), (2, .int x2), (3, .int x3), (4, .int x4), (5, .int t0_102)] → W p l e (bs_rm 2 0 0 48) s m args below meth c s.heap [] 0 0 Q (F0 m 126 ls [.int t0_126]) := by
              intro ls t0_126 hO hl
              refine lv_istore (lv' := [(6, .int t0_126), (0, .ref a), (1, .int x1), (2, .int x2), (3, .int x3), (4, .int x4), (5, .int t0_102)]) hx hb dModel_lookOrder_126 hl (by decide) rfl (fun ls hl => ?_)
              refine lv_iconst (v := 0) hx hb dModel_lookOrder_128 (by decide) ?_
              refine lv_istore (lv' := [(7, .int 0), (6, .int t0_126), (0, .ref a), (1, .int x1), (2, .int x2), (3, .int x3), (4, .int x4), (5, .int t0_102)]) hx hb dModel_lookOrder_129 hl (by decide) rfl (fun ls hl => ?_)
              have J131 : ∀ (N131 : Nat) (ls : Array Slot) (i7_131 : Int32) (i6_131 : Int32), (¬ i7_131 < 0) → (Oq OUT (Q_lookOrder_131 κ τ σ F nu x1 x2 x3 x4 t0_102 t0_126  (N131 + 1) i7_131 i6_131)) → (2147483647 - i7_131.toInt).toNat = N131 → lv_has ls 10 [(0, .ref a), (1, .int x1), (2, .int x2), (3, .int x3), (4, .int x4), (5, .int t0_102), (6, .int i6_131), (7, .int i7_131)] → W p l e (bs_rm 2 0 0 48) s m args below meth c s.heap [] 0 0 Q (F0 m 131 ls []) := by
                intro N131
                induction N131 using Nat.strongRecOn with
                | ind N131 ih131 =>
                  intro ls i7_131 i6_131 hi7_131 hO hm131 hl
                  refine lv_iload hx hb dModel_lookOrder_131 (lv_at hl 7 rfl) ?_
                  refine lv_aload_n hx hb dModel_lookOrder_133 rfl (lv_at hl 0 rfl) ?_
                  refine md_gA S hC hM 10 (by decide) rfl qw_bd0251c605 dModel_lookOrder_134 ?_
                  refine lv_iload_n hx hb dModel_lookOrder_137 rfl (lv_at hl 3 rfl) ?_
                  refine md_ild S hC hM 10 6 10000 (F 10) rfl rfl (by decide) rfl rfl (vin (by assumption) (by omega)) dModel_lookOrder_138 ?_
                  refine lv_topi (fun v258 ev258 => ?_)
                  have J183 : ∀ (ls : Array Slot), (Oq OUT (Q_lookOrder_183 κ τ σ F nu x1 x2 x3 x4 t0_102 t0_126 i7_131 i6_131   )) → lv_has ls 10 [(0, .ref a), (1, .int x1), (2, .int x2), (3, .int x3), (4, .int x4), (5, .int t0_102), (6, .int i6_131), (7, .int i7_131)] → W p l e (bs_rm 2 0 0 48) s m args below meth c s.heap [] 0 0 Q (F0 m 183 ls []) := by
                    intro ls hO hl
                    refine lv_aload_n hx hb dModel_lookOrder_183 rfl (lv_at hl 0 rfl) ?_
                    refine lv_iload_n hx hb dModel_lookOrder_184 rfl (lv_at hl 1 rfl) ?_
                    refine lv_iconst (v := 1) hx hb dModel_lookOrder_185 (by decide) ?_
                    refine lv_iconst (v := 0) hx hb dModel_lookOrder_186 (by decide) ?_
                    refine lv_aload_n hx hb dModel_lookOrder_187 rfl (lv_at hl 0 rfl) ?_
                    refine md_gA S hC hM 11 (by decide) rfl qw_88b9028ba7 dModel_lookOrder_188 ?_
                    refine lv_iload_n hx hb dModel_lookOrder_191 rfl (lv_at hl 3 rfl) ?_
                    refine md_zld S hC hM 11 7 10000 (F 11) rfl rfl (by decide) rfl rfl (vin (by assumption) (by omega)) dModel_lookOrder_192 ?_
                    refine lv_topi (fun v310 ev310 => ?_)
                    have J211 : ∀ (ls : Array Slot) (t0_211 : Int32), (Oq OUT (Q_lookOrder_211 κ τ σ F nu x1 x2 x3 x4 t0_102 t0_126 i7_131 i6_131   t0_211)) → lv_has ls 10 [(0, .ref a), (1, .int x1), (2, .int x2), (3, .int x3), (4, .int x4), (5, .int t0_102), (6, .int i6_131), (7, .int i7_131)] → W p l e (bs_rm 2 0 0 48) s m args below meth c s.heap [] 0 0 Q (F0 m 211 ls [.int t0_211, .int 0, .int 1, .int x1, .ref a]) := by
                      intro ls t0_211 hO hl
                      have hnr354 : ∃ j, j ≤ 1000 ∧ 0 = nI j := ⟨0, by omega, rfl⟩
                      refine mu_Vv (rest := []) S hC (fun q h => hA q (Nat.le_trans hS.1 h)) (fun q h => h) hS (n_fact l γ a B Z κ b mn ν τ σ F nu hT x1 1 0 t0_211 (vin (by assumption) (by omega)) hnr354) meModel_fact qw_02871250ec ⟨Nat.le_of_ble_eq_true rfl, Nat.le_of_ble_eq_true rfl⟩ (md_rv hC hM) hM rfl hl.1 rfl (Nat.le_of_ble_eq_true rfl) dModel_lookOrder_211 ⟨Nat.le_refl _, Nat.le_refl _⟩ (fun H locs hPO hS _ _ => ?_)
                      obtain ⟨Fr354, nur354, eOr354, hM, hqr354, hcr354⟩ := hPO
                      have eFr354 : Fr354 = (Q_fact κ τ σ F nu x1 1 0 t0_211).2.1 := by rw [eOr354.eq]
                      have enur354 : nur354 = (Q_fact κ τ σ F nu x1 1 0 t0_211).2.2 := by rw [eOr354.eq]
                      clear eOr354
                      have hZ : SZ Fr354 := hZ.slt hqr354 hnr354
                      have hL : SL x1.toNatClampNeg F nu Fr354 nur354 := hL.trans (SL.slt hqr354)
                      have hK : GK x1.toNatClampNeg Fr354 nur354 := GK.zero hqr354
                      refine lv_iload_n hx hb dModel_lookOrder_214 rfl (lv_at hl 2 rfl) ?_
                      refine lv_bipush (v := 6) hx hb dModel_lookOrder_215 (by decide) ?_
                      have J235 : ∀ (ls : Array Slot) (t0_235 : Int32), (Oq OUT (Q_lookOrder_235 κ τ σ F nu x1 x2 x3 x4 t0_102 t0_126 i7_131 i6_131 t0_211   t0_235)) → lv_has ls 10 [(0, .ref a), (1, .int x1), (2, .int x2), (3, .int x3), (4, .int x4), (5, .int t0_102), (6, .int i6_131), (7, .int i7_131)] → W p l e (bs_rm 2 0 0 48) s m args below meth c H locs 0 0 Q (F0 m 235 ls [.int t0_235]) := by
                        intro ls t0_235 hO hl
                        refine lv_istore (lv' := [(7, .int t0_235), (0, .ref a), (1, .int x1), (2, .int x2), (3, .int x3), (4, .int x4), (5, .int t0_102), (6, .int i6_131)]) hx hb dModel_lookOrder_235 hl (by decide) rfl (fun ls hl => ?_)
                        refine lv_iload_n hx hb dModel_lookOrder_237 rfl (lv_at hl 3 rfl) ?_
                        refine lv_bipush (v := 7) hx hb dModel_lookOrder_238 (by decide) ?_
                        have J453 : ∀ (ls : Array Slot) (i7_453 : Int32), (Oq OUT (Q_lookOrder_453 κ τ σ F nu x1 x2 x3 x4 t0_102 t0_126 i7_131 i6_131 t0_211 t0_235   i7_453)) → lv_has ls 10 [(0, .ref a), (1, .int x1), (2, .int x2), (3, .int x3), (4, .int x4), (5, .int t0_102), (6, .int i6_131), (7, .int i7_453)] → W p l e (bs_rm 2 0 0 48) s m args below meth c H locs 0 0 Q (F0 m 453 ls []) := by
                          intro ls i7_453 hO hl
                          refine lv_aload_n hx hb dModel_lookOrder_453 rfl (lv_at hl 0 rfl) ?_
                          refine md_gA S hC hM 13 (by decide) rfl qw_7b809afc8c dModel_lookOrder_454 ?_
                          refine lv_iload_n hx hb dModel_lookOrder_457 rfl (lv_at hl 1 rfl) ?_
                          refine lv_iload hx hb dModel_lookOrder_458 (lv_at hl 7 rfl) ?_
                          have J468 : ∀ (ls : Array Slot) (t0_468 : Int64), (t0_468 = 0 ∨ t0_468 = 1) → (Oq OUT (Q_lookOrder_468 κ τ σ F nu x1 x2 x3 x4 t0_102 t0_126 i7_131 i6_131 t0_211 t0_235 i7_453   t0_468)) → lv_has ls 10 [(0, .ref a), (1, .int x1), (2, .int x2), (3, .int x3), (4, .int x4), (5, .int t0_102), (6, .int i6_131), (7, .int i7_453)] → W p l e (bs_rm 2 0 0 48) s m args below meth c H locs 0 0 Q (F0 m 468 ls [.long t0_468, .int x1, .ref (B 13)]) := by
                            intro ls t0_468 ht0_468 hO hl
                            have hgnu434 : Fr354 9 x1.toNatClampNeg = 2 → -2147483648 < (t0_468 : Int64).toInt ∧ (t0_468 : Int64).toInt < 2147483648 := (fun _ => by rcases ht0_468 with h9 | h9 <;> rw [h9] <;> decide)
                            refine md_lst S hC hM hS (vin (by assumption) (by omega)) dModel_lookOrder_468 (fun H locs hM hS => ?_)
                            obtain ⟨nu434, enu434⟩ : ∃ z : Nat → Int64, z = vp_updL nur354 x1.toNatClampNeg t0_468 := ⟨_, rfl⟩
                            rw [← enu434] at hM
                            have hL : SL x1.toNatClampNeg F nu Fr354 nu434 := hL.trans (by rw [enu434]; exact SL.num)
                            have hK : GK x1.toNatClampNeg Fr354 nu434 := by rw [enu434]; exact GK.num hgnu434
                            refine lv_aload_n hx hb dModel_lookOrder_469 rfl (lv_at hl 0 rfl) ?_
                            refine lv_iload_n hx hb dModel_lookOrder_470 rfl (lv_at hl 1 rfl) ?_
                            refine mu_Vi (rest := []) S hC (fun q h => hA q (Nat.le_trans hS.1 h)) (fun q h => h) hS (n_known l γ a B Z κ b mn ν τ σ Fr354 nu434 hT x1 (vin (by assumption) (by omega))) meModel_known qw_aa15322dc3 ⟨Nat.le_of_ble_eq_true rfl, Nat.le_of_ble_eq_true rfl⟩ (md_rv hC hM) hM rfl hl.1 rfl (Nat.le_of_ble_eq_true rfl) dModel_lookOrder_471 ⟨Nat.le_refl _, Nat.le_refl _⟩ (fun r435 H locs hPO hS _ _ => ?_)
                            obtain ⟨hrr435, Fr435, nur435, eOr435, hM, hqr435, hnr435⟩ := hPO
                            have er435 : r435 = (Q_known κ τ σ Fr354 nu434 x1).1 := by rw [eOr435.eq]
                            have eFr435 : Fr435 = (Q_known κ τ σ Fr354 nu434 x1).2.2.1 := by rw [eOr435.eq]
                            have enur435 : nur435 = (Q_known κ τ σ Fr354 nu434 x1).2.2.2 := by rw [eOr435.eq]
                            clear eOr435
                            have hZ : SZ Fr435 := hZ.e14 hqr435
                            have hL : SL x1.toNatClampNeg F nu Fr435 nur435 := hL.trans (SL.kn hqr435 hnr435)
                            have hK : GK x1.toNatClampNeg Fr435 nur435 := hK.kn hqr435 hnr435
                            exact hE _ _ _ _ _ hS ⟨σ, Fr435, nur435, (by subst enur435 eFr435 er435 enu434 enur354 eFr354 ev310 ev258 ev204 ev203 ev202 ev144 ev142 ev141 ev4 ev2 ev1; exact hO.tr rfl), hM, hZ, hF, hL, (fun _ => hK)⟩ dModel_lookOrder_474
                          refine lv_if_eq (tgt := 467) hx hb dModel_lookOrder_460 (by decide) (fun c436 => ?_) (fun c436 => ?_)
                          · refine lv_lconst (v := 0) hx hb dModel_lookOrder_467 (by decide) ?_
                            exact J468 ls 0 (by first | assumption | exact Or.inl rfl | exact Or.inr rfl) (by subst enur354 eFr354 ev310 ev258 ev204 ev203 ev202 ev144 ev142 ev141 ev4 ev2 ev1; exact hO.tr (if_pos c436)) (lv_sub hl [0, 1, 2, 3, 4, 5, 6, 7] rfl)
                          · refine lv_lconst (v := 1) hx hb dModel_lookOrder_463 (by decide) ?_
                            refine lv_goto (tgt := 468) hx hb dModel_lookOrder_464 (by decide) ?_
                            exact J468 ls 1 (by first | assumption | exact Or.inl rfl | exact Or.inr rfl) (by subst enur354 eFr354 ev310 ev258 ev204 ev203 ev202 ev144 ev142 ev141 ev4 ev2 ev1; exact hO.tr (if_neg c436)) (lv_sub hl [0, 1, 2, 3, 4, 5, 6, 7] rfl)
                        refine lv_icmp_le (tgt := 453) hx hb dModel_lookOrder_240 (by decide) (fun c437 => ?_) (fun c437 => ?_)
                        · exact J453 ls t0_235 (by subst enur354 eFr354 ev310 ev258 ev204 ev203 ev202 ev144 ev142 ev141 ev4 ev2 ev1; exact hO.tr (if_pos c437)) (lv_sub hl [1, 2, 3, 4, 5, 6, 7, 0] rfl)
                        · refine lv_aload_n hx hb dModel_lookOrder_243 rfl (lv_at hl 1 rfl) ?_
                          refine md_gA S hC hM 13 (by decide) rfl qw_7b809afc8c dModel_lookOrder_244 ?_
                          refine lv_iload_n hx hb dModel_lookOrder_247 rfl (lv_at hl 4 rfl) ?_
                          refine md_lld S hC hM (vin (by assumption) (by omega)) dModel_lookOrder_248 ?_
                          refine lv_topl (fun v438 ev438 => ?_)
                          have ev438 : v438 = nur354 x3.toNatClampNeg := ev438
                          refine lv_aload_n hx hb dModel_lookOrder_249 rfl (lv_at hl 1 rfl) ?_
                          refine md_gA S hC hM 13 (by decide) rfl qw_7b809afc8c dModel_lookOrder_250 ?_
                          refine lv_iload hx hb dModel_lookOrder_253 (lv_at hl 5 rfl) ?_
                          refine md_lld S hC hM (vin (by assumption) (by omega)) dModel_lookOrder_255 ?_
                          refine lv_topl (fun v439 ev439 => ?_)
                          have ev439 : v439 = nur354 x4.toNatClampNeg := ev439
                          refine W.lcmp hx hb dModel_lookOrder_256 ?_
                          refine lv_topi (fun v440 ev440 => ?_)
                          have J286 : ∀ (ls : Array Slot) (t0_286 : Int32), (Oq OUT (Q_lookOrder_286 κ τ σ F nu x1 x2 x3 x4 t0_102 t0_126 i7_131 i6_131 t0_211 t0_235   t0_286)) → lv_has ls 10 [(0, .ref a), (1, .int x1), (2, .int x2), (3, .int x3), (4, .int x4), (5, .int t0_102), (6, .int i6_131), (7, .int t0_235)] → W p l e (bs_rm 2 0 0 48) s m args below meth c H locs 0 0 Q (F0 m 286 ls [.int t0_286]) := by
                            intro ls t0_286 hO hl
                            refine lv_istore (lv' := [(8, .int t0_286), (0, .ref a), (1, .int x1), (2, .int x2), (3, .int x3), (4, .int x4), (5, .int t0_102), (6, .int i6_131), (7, .int t0_235)]) hx hb dModel_lookOrder_286 hl (by decide) rfl (fun ls hl => ?_)
                            refine lv_iconst (v := 0) hx hb dModel_lookOrder_288 (by decide) ?_
                            refine lv_istore (lv' := [(9, .int 0), (8, .int t0_286), (0, .ref a), (1, .int x1), (2, .int x2), (3, .int x3), (4, .int x4), (5, .int t0_102), (6, .int i6_131), (7, .int t0_235)]) hx hb dModel_lookOrder_289 hl (by decide) rfl (fun ls hl => ?_)
                            have J291 : ∀ (N291 : Nat) (ls : Array Slot) (i9_291 : Int32) (i8_291 : Int32), (¬ i9_291 < 0) → (Oq OUT (Q_lookOrder_291 κ τ σ F nu x1 x2 x3 x4 t0_102 t0_126 i7_131 i6_131 t0_211 t0_235 t0_286  (N291 + 1) i9_291 i8_291)) → (2147483647 - i9_291.toInt).toNat = N291 → lv_has ls 10 [(0, .ref a), (1, .int x1), (2, .int x2), (3, .int x3), (4, .int x4), (5, .int t0_102), (6, .int i6_131), (7, .int t0_235), (8, .int i8_291), (9, .int i9_291)] → W p l e (bs_rm 2 0 0 48) s m args below meth c H locs 0 0 Q (F0 m 291 ls []) := by
                              intro N291
                              induction N291 using Nat.strongRecOn with
                              | ind N291 ih291 =>
                                intro ls i9_291 i8_291 hi9_291 hO hm291 hl
                                refine lv_iload hx hb dModel_lookOrder_291 (lv_at hl 9 rfl) ?_
                                refine lv_aload_n hx hb dModel_lookOrder_293 rfl (lv_at hl 0 rfl) ?_
                                refine md_gA S hC hM 10 (by decide) rfl qw_bd0251c605 dModel_lookOrder_294 ?_
                                refine lv_iload_n hx hb dModel_lookOrder_297 rfl (lv_at hl 3 rfl) ?_
                                refine md_ild S hC hM 10 6 10000 (Fr354 10) rfl rfl (by decide) rfl rfl (vin (by assumption) (by omega)) dModel_lookOrder_298 ?_
                                refine lv_topi (fun v471 ev471 => ?_)
                                have J363 : ∀ (ls : Array Slot), (Oq OUT (Q_lookOrder_363 κ τ σ F nu x1 x2 x3 x4 t0_102 t0_126 i7_131 i6_131 t0_211 t0_235 t0_286 i9_291 i8_291   )) → lv_has ls 10 [(0, .ref a), (1, .int x1), (2, .int x2), (3, .int x3), (4, .int x4), (5, .int t0_102), (6, .int i6_131), (7, .int t0_235), (8, .int i8_291), (9, .int i9_291)] → W p l e (bs_rm 2 0 0 48) s m args below meth c H locs 0 0 Q (F0 m 363 ls []) := by
                                  intro ls hO hl
                                  refine lv_iload hx hb dModel_lookOrder_363 (lv_at hl 5 rfl) ?_
                                  have J390 : ∀ (ls : Array Slot) (t0_390 : Int32), (Oq OUT (Q_lookOrder_390 κ τ σ F nu x1 x2 x3 x4 t0_102 t0_126 i7_131 i6_131 t0_211 t0_235 t0_286 i9_291 i8_291   t0_390)) → lv_has ls 10 [(0, .ref a), (1, .int x1), (2, .int x2), (3, .int x3), (4, .int x4), (5, .int t0_102), (6, .int i6_131), (7, .int t0_235), (8, .int i8_291), (9, .int i9_291)] → W p l e (bs_rm 2 0 0 48) s m args below meth c H locs 0 0 Q (F0 m 390 ls [.int t0_390]) := by
                                    intro ls t0_390 hO hl
                                    refine lv_istore (lv' := [(9, .int t0_390), (0, .ref a), (1, .int x1), (2, .int x2), (3, .int x3), (4, .int x4), (5, .int t0_102), (6, .int i6_131), (7, .int t0_235), (8, .int i8_291)]) hx hb dModel_lookOrder_390 hl (by decide) rfl (fun ls hl => ?_)
                                    refine lv_iload hx hb dModel_lookOrder_392 (lv_at hl 0 rfl) ?_
                                    have J451 : ∀ (ls : Array Slot) (t0_451 : Int32), (Oq OUT (Q_lookOrder_451 κ τ σ F nu x1 x2 x3 x4 t0_102 t0_126 i7_131 i6_131 t0_211 t0_235 t0_286 i9_291 i8_291 t0_390   t0_451)) → lv_has ls 10 [(0, .ref a), (1, .int x1), (2, .int x2), (3, .int x3), (4, .int x4), (5, .int t0_102), (6, .int i6_131), (7, .int t0_235), (8, .int i8_291), (9, .int t0_390)] → W p l e (bs_rm 2 0 0 48) s m args below meth c H locs 0 0 Q (F0 m 451 ls [.int t0_451]) := by
                                      intro ls t0_451 hO hl
                                      refine lv_istore (lv' := [(7, .int t0_451), (0, .ref a), (1, .int x1), (2, .int x2), (3, .int x3), (4, .int x4), (5, .int t0_102), (6, .int i6_131), (8, .int i8_291), (9, .int t0_390)]) hx hb dModel_lookOrder_451 hl (by decide) rfl (fun ls hl => ?_)
                                      exact J453 ls t0_451 (by subst ev471 ev440 ev439 ev438 enur354 eFr354 ev310 ev258 ev204 ev203 ev202 ev144 ev142 ev141 ev4 ev2 ev1; exact hO.tr rfl) (lv_sub hl [1, 2, 3, 4, 5, 6, 7, 0] rfl)
                                    have J450 : ∀ (ls : Array Slot), (Oq OUT (Q_lookOrder_450 κ τ σ F nu x1 x2 x3 x4 t0_102 t0_126 i7_131 i6_131 t0_211 t0_235 t0_286 i9_291 i8_291 t0_390   )) → lv_has ls 10 [(0, .ref a), (1, .int x1), (2, .int x2), (3, .int x3), (4, .int x4), (5, .int t0_102), (6, .int i6_131), (7, .int t0_235), (8, .int i8_291), (9, .int t0_390)] → W p l e (bs_rm 2 0 0 48) s m args below meth c H locs 0 0 Q (F0 m 450 ls []) := by
                                      intro ls hO hl
                                      refine lv_iconst (v := 0) hx hb dModel_lookOrder_450 (by decide) ?_
                                      exact J451 ls 0 (by subst ev471 ev440 ev439 ev438 enur354 eFr354 ev310 ev258 ev204 ev203 ev202 ev144 ev142 ev141 ev4 ev2 ev1; exact hO.tr rfl) (lv_sub hl [0, 1, 2, 3, 4, 5, 6, 7, 8, 9] rfl)
                                    refine lv_if_eq (tgt := 450) hx hb dModel_lookOrder_394 (by decide) (fun c517 => ?_) (fun c517 => ?_)
                                    · exact J450 ls (by subst ev471 ev440 ev439 ev438 enur354 eFr354 ev310 ev258 ev204 ev203 ev202 ev144 ev142 ev141 ev4 ev2 ev1; exact hO.tr (if_pos c517)) (lv_sub hl [1, 2, 3, 4, 5, 6, 7, 8, 9, 0] rfl)
                                    · refine lv_iload_n hx hb dModel_lookOrder_397 rfl (lv_at hl 3 rfl) ?_
                                      refine lv_bipush (v := 8) hx hb dModel_lookOrder_398 (by decide) ?_
                                      have J446 : ∀ (ls : Array Slot), (Oq OUT (Q_lookOrder_446 κ τ σ F nu x1 x2 x3 x4 t0_102 t0_126 i7_131 i6_131 t0_211 t0_235 t0_286 i9_291 i8_291 t0_390   )) → lv_has ls 10 [(0, .ref a), (1, .int x1), (2, .int x2), (3, .int x3), (4, .int x4), (5, .int t0_102), (6, .int i6_131), (7, .int t0_235), (8, .int i8_291), (9, .int t0_390)] → W p l e (bs_rm 2 0 0 48) s m args below meth c H locs 0 0 Q (F0 m 446 ls []) := by
                                        intro ls hO hl
                                        refine lv_iconst (v := 1) hx hb dModel_lookOrder_446 (by decide) ?_
                                        refine lv_goto (tgt := 451) hx hb dModel_lookOrder_447 (by decide) ?_
                                        exact J451 ls 1 (by subst ev471 ev440 ev439 ev438 enur354 eFr354 ev310 ev258 ev204 ev203 ev202 ev144 ev142 ev141 ev4 ev2 ev1; exact hO.tr rfl) (lv_sub hl [0, 1, 2, 3, 4, 5, 6, 7, 8, 9] rfl)
                                      refine lv_icmp_ne (tgt := 411) hx hb dModel_lookOrder_400 (by decide) (fun c525 => ?_) (fun c525 => ?_)
                                      · refine lv_iload_n hx hb dModel_lookOrder_411 rfl (lv_at hl 3 rfl) ?_
                                        refine lv_bipush (v := 9) hx hb dModel_lookOrder_412 (by decide) ?_
                                        refine lv_icmp_ne (tgt := 426) hx hb dModel_lookOrder_414 (by decide) (fun c526 => ?_) (fun c526 => ?_)
                                        · refine lv_iload_n hx hb dModel_lookOrder_426 rfl (lv_at hl 3 rfl) ?_
                                          refine lv_bipush (v := 10) hx hb dModel_lookOrder_427 (by decide) ?_
                                          refine lv_icmp_ne (tgt := 440) hx hb dModel_lookOrder_429 (by decide) (fun c527 => ?_) (fun c527 => ?_)
                                          · refine lv_iload hx hb dModel_lookOrder_440 (lv_at hl 9 rfl) ?_
                                            refine lv_iconst (v := (-1)) hx hb dModel_lookOrder_442 (by decide) ?_
                                            refine lv_icmp_le (tgt := 450) hx hb dModel_lookOrder_443 (by decide) (fun c528 => ?_) (fun c528 => ?_)
                                            · exact J450 ls (by subst ev471 ev440 ev439 ev438 enur354 eFr354 ev310 ev258 ev204 ev203 ev202 ev144 ev142 ev141 ev4 ev2 ev1; exact hO.tr ((if_neg c517).trans ((if_neg c525).trans ((if_neg c526).trans ((if_neg c527).trans (if_pos c528)))))) (lv_sub hl [1, 2, 3, 4, 5, 6, 7, 8, 9, 0] rfl)
                                            · exact J446 ls (by subst ev471 ev440 ev439 ev438 enur354 eFr354 ev310 ev258 ev204 ev203 ev202 ev144 ev142 ev141 ev4 ev2 ev1; exact hO.tr ((if_neg c517).trans ((if_neg c525).trans ((if_neg c526).trans ((if_neg c527).trans (if_neg c528)))))) (lv_sub hl [1, 2, 3, 4, 5, 6, 7, 8, 9, 0] rfl)
                                          · refine lv_iload hx hb dModel_lookOrder_432 (lv_at hl 9 rfl) ?_
                                            refine lv_if_le (tgt := 450) hx hb dModel_lookOrder_434 (by decide) (fun c529 => ?_) (fun c529 => ?_)
                                            · exact J450 ls (by subst ev471 ev440 ev439 ev438 enur354 eFr354 ev310 ev258 ev204 ev203 ev202 ev144 ev142 ev141 ev4 ev2 ev1; exact hO.tr ((if_neg c517).trans ((if_neg c525).trans ((if_neg c526).trans ((if_pos c527).trans (if_pos c529)))))) (lv_sub hl [1, 2, 3, 4, 5, 6, 7, 8, 9, 0] rfl)
                                            · refine lv_goto (tgt := 446) hx hb dModel_lookOrder_437 (by decide) ?_
                                              exact J446 ls (by subst ev471 ev440 ev439 ev438 enur354 eFr354 ev310 ev258 ev204 ev203 ev202 ev144 ev142 ev141 ev4 ev2 ev1; exact hO.tr ((if_neg c517).trans ((if_neg c525).trans ((if_neg c526).trans ((if_pos c527).trans (if_neg c529)))))) (lv_sub hl [1, 2, 3, 4, 5, 6, 7, 8, 9, 0] rfl)
                                        · refine lv_iload hx hb dModel_lookOrder_417 (lv_at hl 9 rfl) ?_
                                          refine lv_iconst (v := 1) hx hb dModel_lookOrder_419 (by decide) ?_
                                          refine lv_icmp_ge (tgt := 450) hx hb dModel_lookOrder_420 (by decide) (fun c530 => ?_) (fun c530 => ?_)
                                          · exact J450 ls (by subst ev471 ev440 ev439 ev438 enur354 eFr354 ev310 ev258 ev204 ev203 ev202 ev144 ev142 ev141 ev4 ev2 ev1; exact hO.tr ((if_neg c517).trans ((if_neg c525).trans ((if_pos c526).trans (if_pos c530))))) (lv_sub hl [1, 2, 3, 4, 5, 6, 7, 8, 9, 0] rfl)
                                          · refine lv_goto (tgt := 446) hx hb dModel_lookOrder_423 (by decide) ?_
                                            exact J446 ls (by subst ev471 ev440 ev439 ev438 enur354 eFr354 ev310 ev258 ev204 ev203 ev202 ev144 ev142 ev141 ev4 ev2 ev1; exact hO.tr ((if_neg c517).trans ((if_neg c525).trans ((if_pos c526).trans (if_neg c530))))) (lv_sub hl [1, 2, 3, 4, 5, 6, 7, 8, 9, 0] rfl)
                                      · refine lv_iload hx hb dModel_lookOrder_403 (lv_at hl 9 rfl) ?_
                                        refine lv_if_ge (tgt := 450) hx hb dModel_lookOrder_405 (by decide) (fun c531 => ?_) (fun c531 => ?_)
                                        · exact J450 ls (by subst ev471 ev440 ev439 ev438 enur354 eFr354 ev310 ev258 ev204 ev203 ev202 ev144 ev142 ev141 ev4 ev2 ev1; exact hO.tr ((if_neg c517).trans ((if_pos c525).trans (if_pos c531)))) (lv_sub hl [1, 2, 3, 4, 5, 6, 7, 8, 9, 0] rfl)
                                        · refine lv_goto (tgt := 446) hx hb dModel_lookOrder_408 (by decide) ?_
                                          exact J446 ls (by subst ev471 ev440 ev439 ev438 enur354 eFr354 ev310 ev258 ev204 ev203 ev202 ev144 ev142 ev141 ev4 ev2 ev1; exact hO.tr ((if_neg c517).trans ((if_pos c525).trans (if_neg c531)))) (lv_sub hl [1, 2, 3, 4, 5, 6, 7, 8, 9, 0] rfl)
                                  have J385 : ∀ (ls : Array Slot), (Oq OUT (Q_lookOrder_385 κ τ σ F nu x1 x2 x3 x4 t0_102 t0_126 i7_131 i6_131 t0_211 t0_235 t0_286 i9_291 i8_291   )) → lv_has ls 10 [(0, .ref a), (1, .int x1), (2, .int x2), (3, .int x3), (4, .int x4), (5, .int t0_102), (6, .int i6_131), (7, .int t0_235), (8, .int i8_291), (9, .int i9_291)] → W p l e (bs_rm 2 0 0 48) s m args below meth c H locs 0 0 Q (F0 m 385 ls []) := by
                                    intro ls hO hl
                                    refine lv_iconst (v := 1) hx hb dModel_lookOrder_385 (by decide) ?_
                                    refine lv_goto (tgt := 390) hx hb dModel_lookOrder_386 (by decide) ?_
                                    exact J390 ls 1 (by subst ev471 ev440 ev439 ev438 enur354 eFr354 ev310 ev258 ev204 ev203 ev202 ev144 ev142 ev141 ev4 ev2 ev1; exact hO.tr rfl) (lv_sub hl [0, 1, 2, 3, 4, 5, 6, 7, 8, 9] rfl)
                                  refine lv_if_eq (tgt := 385) hx hb dModel_lookOrder_365 (by decide) (fun c532 => ?_) (fun c532 => ?_)
                                  · exact J385 ls (by subst ev471 ev440 ev439 ev438 enur354 eFr354 ev310 ev258 ev204 ev203 ev202 ev144 ev142 ev141 ev4 ev2 ev1; exact hO.tr (if_pos c532)) (lv_sub hl [0, 1, 2, 3, 4, 5, 6, 7, 8, 9] rfl)
                                  · refine lv_aload_n hx hb dModel_lookOrder_368 rfl (lv_at hl 0 rfl) ?_
                                    refine lv_iload_n hx hb dModel_lookOrder_369 rfl (lv_at hl 3 rfl) ?_
                                    refine pu_Vi (rest := []) S hC (n_isClear l γ a B Z κ b mn ν τ σ Fr354 nur354 hT x3 (vin (by assumption) (by omega)) hZ) meModel_isClear qw_f576e3fc3c ⟨Nat.le_of_ble_eq_true rfl, Nat.le_of_ble_eq_true rfl⟩ (md_rv hC hM) hM rfl hl.1 rfl (Nat.le_of_ble_eq_true rfl) dModel_lookOrder_370 ⟨Nat.zero_le _, Nat.zero_le _⟩ (fun r533 hr533 => ?_)
                                    obtain ⟨hr533, er533⟩ := hr533
                                    have J389 : ∀ (ls : Array Slot), (Oq OUT (Q_lookOrder_389 κ τ σ F nu x1 x2 x3 x4 t0_102 t0_126 i7_131 i6_131 t0_211 t0_235 t0_286 i9_291 i8_291   )) → lv_has ls 10 [(0, .ref a), (1, .int x1), (2, .int x2), (3, .int x3), (4, .int x4), (5, .int t0_102), (6, .int i6_131), (7, .int t0_235), (8, .int i8_291), (9, .int i9_291)] → W p l e (bs_rm 2 0 0 48) s m args below meth c H locs 0 0 Q (F0 m 389 ls []) := by
                                      intro ls hO hl
                                      refine lv_iconst (v := 0) hx hb dModel_lookOrder_389 (by decide) ?_
                                      exact J390 ls 0 (by subst er533 ev471 ev440 ev439 ev438 enur354 eFr354 ev310 ev258 ev204 ev203 ev202 ev144 ev142 ev141 ev4 ev2 ev1; exact hO.tr rfl) (lv_sub hl [0, 1, 2, 3, 4, 5, 6, 7, 8, 9] rfl)
                                    refine lv_if_eq (tgt := 389) hx hb dModel_lookOrder_373 (by decide) (fun c537 => ?_) (fun c537 => ?_)
                                    · exact J389 ls (by subst er533 ev471 ev440 ev439 ev438 enur354 eFr354 ev310 ev258 ev204 ev203 ev202 ev144 ev142 ev141 ev4 ev2 ev1; exact hO.tr ((if_neg c532).trans (if_pos c537))) (lv_sub hl [0, 1, 2, 3, 4, 5, 6, 7, 8, 9] rfl)
                                    · refine lv_aload_n hx hb dModel_lookOrder_376 rfl (lv_at hl 0 rfl) ?_
                                      refine lv_iload hx hb dModel_lookOrder_377 (lv_at hl 4 rfl) ?_
                                      refine pu_Vi (rest := []) S hC (n_isClear l γ a B Z κ b mn ν τ σ Fr354 nur354 hT x4 (vin (by assumption) (by omega)) hZ) meModel_isClear qw_f576e3fc3c ⟨Nat.le_of_ble_eq_true rfl, Nat.le_of_ble_eq_true rfl⟩ (md_rv hC hM) hM rfl hl.1 rfl (Nat.le_of_ble_eq_true rfl) dModel_lookOrder_379 ⟨Nat.zero_le _, Nat.zero_le _⟩ (fun r538 hr538 => ?_)
                                      obtain ⟨hr538, er538⟩ := hr538
                                      refine lv_if_eq (tgt := 389) hx hb dModel_lookOrder_382 (by decide) (fun c539 => ?_) (fun c539 => ?_)
                                      · exact J389 ls (by subst er538 er533 ev471 ev440 ev439 ev438 enur354 eFr354 ev310 ev258 ev204 ev203 ev202 ev144 ev142 ev141 ev4 ev2 ev1; exact hO.tr ((if_neg c532).trans ((if_neg c537).trans (if_pos c539)))) (lv_sub hl [0, 1, 2, 3, 4, 5, 6, 7, 8, 9] rfl)
                                      · exact J385 ls (by subst er538 er533 ev471 ev440 ev439 ev438 enur354 eFr354 ev310 ev258 ev204 ev203 ev202 ev144 ev142 ev141 ev4 ev2 ev1; exact hO.tr ((if_neg c532).trans ((if_neg c537).trans (if_neg c539)))) (lv_sub hl [0, 1, 2, 3, 4, 5, 6, 7, 8, 9] rfl)
                                refine lv_icmp_ge (tgt := 363) hx hb dModel_lookOrder_299 (by decide) (fun c540 => ?_) (fun c540 => ?_)
                                · exact J363 ls (by subst ev471 ev440 ev439 ev438 enur354 eFr354 ev310 ev258 ev204 ev203 ev202 ev144 ev142 ev141 ev4 ev2 ev1; exact hO.tr (if_pos c540)) (lv_sub hl [0, 1, 2, 3, 4, 5, 6, 7, 8, 9] rfl)
                                · have hin9 : vp_in i9_291 1000 := vsz hZ (vix (vin hx3 (by omega))) (by assumption) (by assumption) (by assumption)
                                  refine lv_iload hx hb dModel_lookOrder_302 (lv_at hl 5 rfl) ?_
                                  refine lv_if_eq (tgt := 363) hx hb dModel_lookOrder_304 (by decide) (fun c541 => ?_) (fun c541 => ?_)
                                  · exact J363 ls (by subst ev471 ev440 ev439 ev438 enur354 eFr354 ev310 ev258 ev204 ev203 ev202 ev144 ev142 ev141 ev4 ev2 ev1; exact hO.tr ((if_neg c540).trans (if_pos c541))) (lv_sub hl [0, 1, 2, 3, 4, 5, 6, 7, 8, 9] rfl)
                                  · refine lv_aload_n hx hb dModel_lookOrder_307 rfl (lv_at hl 0 rfl) ?_
                                    refine lv_iload_n hx hb dModel_lookOrder_308 rfl (lv_at hl 3 rfl) ?_
                                    refine lv_iload hx hb dModel_lookOrder_309 (lv_at hl 9 rfl) ?_
                                    refine pu_Vi (rest := []) S hC (n_element l γ a B Z κ b mn ν τ σ Fr354 nur354 hT x3 i9_291 (el_in (by assumption) (by assumption) (by omega))) meModel_element qw_ceb3d87d61 ⟨Nat.le_of_ble_eq_true rfl, Nat.le_of_ble_eq_true rfl⟩ (md_rv hC hM) hM rfl hl.1 rfl (Nat.le_of_ble_eq_true rfl) dModel_lookOrder_311 ⟨Nat.zero_le _, Nat.zero_le _⟩ (fun r542 hr542 => ?_)
                                    obtain ⟨hr542, er542⟩ := hr542
                                    refine pu_Si (rest := []) S hC (n_isHigh l γ _ r542) meModel_isHigh qw_7b38890176 ⟨Nat.le_of_ble_eq_true rfl, Nat.le_of_ble_eq_true rfl⟩ hM rfl hl.1 rfl (Nat.le_of_ble_eq_true rfl) dModel_lookOrder_314 ⟨Nat.zero_le _, Nat.zero_le _⟩ (fun r543 hr543 => ?_)
                                    obtain ⟨hr543, er543⟩ := hr543
                                    refine lv_aload_n hx hb dModel_lookOrder_317 rfl (lv_at hl 0 rfl) ?_
                                    refine lv_iload hx hb dModel_lookOrder_318 (lv_at hl 4 rfl) ?_
                                    refine lv_iload hx hb dModel_lookOrder_320 (lv_at hl 9 rfl) ?_
                                    refine pu_Vi (rest := [.int r543]) S hC (n_element l γ a B Z κ b mn ν τ σ Fr354 nur354 hT x4 i9_291 (el_in (by assumption) (by assumption) (by omega))) meModel_element qw_ceb3d87d61 ⟨Nat.le_of_ble_eq_true rfl, Nat.le_of_ble_eq_true rfl⟩ (md_rv hC hM) hM rfl hl.1 rfl (Nat.le_of_ble_eq_true rfl) dModel_lookOrder_322 ⟨Nat.zero_le _, Nat.zero_le _⟩ (fun r544 hr544 => ?_)
                                    obtain ⟨hr544, er544⟩ := hr544
                                    refine pu_Si (rest := [.int r543]) S hC (n_isHigh l γ _ r544) meModel_isHigh qw_7b38890176 ⟨Nat.le_of_ble_eq_true rfl, Nat.le_of_ble_eq_true rfl⟩ hM rfl hl.1 rfl (Nat.le_of_ble_eq_true rfl) dModel_lookOrder_325 ⟨Nat.zero_le _, Nat.zero_le _⟩ (fun r545 hr545 => ?_)
                                    obtain ⟨hr545, er545⟩ := hr545
                                    have J355 : ∀ (ls : Array Slot) (t0_355 : Int32), (Oq OUT (Q_lookOrder_355 κ τ σ F nu x1 x2 x3 x4 t0_102 t0_126 i7_131 i6_131 t0_211 t0_235 t0_286 i9_291 i8_291 (fun a0 a1 => Q_lookOrder_291 κ τ σ F nu x1 x2 x3 x4 t0_102 t0_126 i7_131 i6_131 t0_211 t0_235 t0_286  N291 a0 a1)  t0_355)) → lv_has ls 10 [(0, .ref a), (1, .int x1), (2, .int x2), (3, .int x3), (4, .int x4), (5, .int t0_102), (6, .int i6_131), (7, .int t0_235), (8, .int i8_291), (9, .int i9_291)] → W p l e (bs_rm 2 0 0 48) s m args below meth c H locs 0 0 Q (F0 m 355 ls [.int t0_355]) := by
                                      intro ls t0_355 hO hl
                                      refine lv_istore (lv' := [(8, .int t0_355), (0, .ref a), (1, .int x1), (2, .int x2), (3, .int x3), (4, .int x4), (5, .int t0_102), (6, .int i6_131), (7, .int t0_235), (9, .int i9_291)]) hx hb dModel_lookOrder_355 hl (by decide) rfl (fun ls hl => ?_)
                                      obtain ⟨v551, ev551⟩ : ∃ y : Int32, y = i9_291 + 1 := ⟨_, rfl⟩
                                      refine lv_iinc (v := v551) (lv' := [(9, .int v551), (8, .int t0_355), (0, .ref a), (1, .int x1), (2, .int x2), (3, .int x3), (4, .int x4), (5, .int t0_102), (6, .int i6_131), (7, .int t0_235)]) hx hb dModel_lookOrder_357 hl (k := 9) rfl (by rw [ev551]; rfl) (by decide) rfl (fun ls hl => ?_)
                                      refine lv_goto (tgt := 291) hx hb dModel_lookOrder_360 (by decide) ?_
                                      exact ih291 _ (by have q1 : i9_291.toInt < 2147483647 := (by first | assumption | exact (mu_up (k := i9_291) (by assumption)).2); have q2 := mu_lt q1; rw [← ev551] at q2; omega) ls v551 t0_355 (by first | decide | exact nn_inc (by assumption) (by assumption) (by assumption)) (by have hN : N291 = (2147483647 - v551.toInt).toNat + 1 := (by have q1 : i9_291.toInt < 2147483647 := (by first | assumption | exact (mu_up (k := i9_291) (by assumption)).2); have q2 := mu_lt q1; rw [← ev551] at q2; omega); rw [← hN]; clear hN; subst ev551 er545 er544 er543 er542 ev471 ev440 ev439 ev438 enur354 eFr354 ev310 ev258 ev204 ev203 ev202 ev144 ev142 ev141 ev4 ev2 ev1; exact hO.tr rfl) rfl (lv_sub hl [2, 3, 4, 5, 6, 7, 8, 9, 1, 0] rfl)
                                    refine lv_icmp_ne (tgt := 336) hx hb dModel_lookOrder_328 (by decide) (fun c552 => ?_) (fun c552 => ?_)
                                    · refine lv_aload_n hx hb dModel_lookOrder_336 rfl (lv_at hl 0 rfl) ?_
                                      refine lv_iload hx hb dModel_lookOrder_337 (lv_at hl 4 rfl) ?_
                                      refine lv_iload hx hb dModel_lookOrder_339 (lv_at hl 9 rfl) ?_
                                      refine pu_Vi (rest := []) S hC (n_element l γ a B Z κ b mn ν τ σ Fr354 nur354 hT x4 i9_291 (el_in (by assumption) (by assumption) (by omega))) meModel_element qw_ceb3d87d61 ⟨Nat.le_of_ble_eq_true rfl, Nat.le_of_ble_eq_true rfl⟩ (md_rv hC hM) hM rfl hl.1 rfl (Nat.le_of_ble_eq_true rfl) dModel_lookOrder_341 ⟨Nat.zero_le _, Nat.zero_le _⟩ (fun r553 hr553 => ?_)
                                      obtain ⟨hr553, er553⟩ := hr553
                                      refine pu_Si (rest := []) S hC (n_isHigh l γ _ r553) meModel_isHigh qw_7b38890176 ⟨Nat.le_of_ble_eq_true rfl, Nat.le_of_ble_eq_true rfl⟩ hM rfl hl.1 rfl (Nat.le_of_ble_eq_true rfl) dModel_lookOrder_344 ⟨Nat.zero_le _, Nat.zero_le _⟩ (fun r554 hr554 => ?_)
                                      obtain ⟨hr554, er554⟩ := hr554
                                      refine lv_if_eq (tgt := 354) hx hb dModel_lookOrder_347 (by decide) (fun c555 => ?_) (fun c555 => ?_)
                                      · refine lv_iconst (v := 1) hx hb dModel_lookOrder_354 (by decide) ?_
                                        exact J355 ls 1 (by subst er554 er553 er545 er544 er543 er542 ev471 ev440 ev439 ev438 enur354 eFr354 ev310 ev258 ev204 ev203 ev202 ev144 ev142 ev141 ev4 ev2 ev1; exact hO.tr ((if_neg c540).trans ((if_neg c541).trans ((if_neg c552).trans (if_pos c555))))) (lv_sub hl [0, 1, 2, 3, 4, 5, 6, 7, 8, 9] rfl)
                                      · refine lv_iconst (v := (-1)) hx hb dModel_lookOrder_350 (by decide) ?_
                                        refine lv_goto (tgt := 355) hx hb dModel_lookOrder_351 (by decide) ?_
                                        exact J355 ls (-1) (by subst er554 er553 er545 er544 er543 er542 ev471 ev440 ev439 ev438 enur354 eFr354 ev310 ev258 ev204 ev203 ev202 ev144 ev142 ev141 ev4 ev2 ev1; exact hO.tr ((if_neg c540).trans ((if_neg c541).trans ((if_neg c552).trans (if_neg c555))))) (lv_sub hl [0, 1, 2, 3, 4, 5, 6, 7, 8, 9] rfl)
                                    · refine lv_iload hx hb dModel_lookOrder_331 (lv_at hl 8 rfl) ?_
                                      refine lv_goto (tgt := 355) hx hb dModel_lookOrder_333 (by decide) ?_
                                      exact J355 ls i8_291 (by subst er545 er544 er543 er542 ev471 ev440 ev439 ev438 enur354 eFr354 ev310 ev258 ev204 ev203 ev202 ev144 ev142 ev141 ev4 ev2 ev1; exact hO.tr ((if_neg c540).trans ((if_neg c541).trans (if_pos c552)))) (lv_sub hl [0, 1, 2, 3, 4, 5, 6, 7, 8, 9] rfl)
                            exact J291 _ ls 0 t0_286 (by first | decide | exact nn_inc (by assumption) (by assumption) (by assumption)) (by subst ev440 ev439 ev438 enur354 eFr354 ev310 ev258 ev204 ev203 ev202 ev144 ev142 ev141 ev4 ev2 ev1; exact hO.tr rfl) rfl (lv_sub hl [2, 3, 4, 5, 6, 7, 8, 9, 1, 0] rfl)
                          refine lv_if_ge (tgt := 264) hx hb dModel_lookOrder_257 (by decide) (fun c556 => ?_) (fun c556 => ?_)
                          · refine lv_aload_n hx hb dModel_lookOrder_264 rfl (lv_at hl 1 rfl) ?_
                            refine md_gA S hC hM 13 (by decide) rfl qw_7b809afc8c dModel_lookOrder_265 ?_
                            refine lv_iload_n hx hb dModel_lookOrder_268 rfl (lv_at hl 4 rfl) ?_
                            refine md_lld S hC hM (vin (by assumption) (by omega)) dModel_lookOrder_269 ?_
                            refine lv_topl (fun v557 ev557 => ?_)
                            have ev557 : v557 = nur354 x3.toNatClampNeg := ev557
                            refine lv_aload_n hx hb dModel_lookOrder_270 rfl (lv_at hl 1 rfl) ?_
                            refine md_gA S hC hM 13 (by decide) rfl qw_7b809afc8c dModel_lookOrder_271 ?_
                            refine lv_iload hx hb dModel_lookOrder_274 (lv_at hl 5 rfl) ?_
                            refine md_lld S hC hM (vin (by assumption) (by omega)) dModel_lookOrder_276 ?_
                            refine lv_topl (fun v558 ev558 => ?_)
                            have ev558 : v558 = nur354 x4.toNatClampNeg := ev558
                            refine W.lcmp hx hb dModel_lookOrder_277 ?_
                            refine lv_topi (fun v559 ev559 => ?_)
                            refine lv_if_le (tgt := 285) hx hb dModel_lookOrder_278 (by decide) (fun c560 => ?_) (fun c560 => ?_)
                            · refine lv_iconst (v := 0) hx hb dModel_lookOrder_285 (by decide) ?_
                              exact J286 ls 0 (by subst ev559 ev558 ev557 ev440 ev439 ev438 enur354 eFr354 ev310 ev258 ev204 ev203 ev202 ev144 ev142 ev141 ev4 ev2 ev1; exact hO.tr ((if_neg c437).trans ((if_pos c556).trans (if_pos c560)))) (lv_sub hl [1, 2, 3, 4, 5, 6, 7, 0] rfl)
                            · refine lv_iconst (v := 1) hx hb dModel_lookOrder_281 (by decide) ?_
                              refine lv_goto (tgt := 286) hx hb dModel_lookOrder_282 (by decide) ?_
                              exact J286 ls 1 (by subst ev559 ev558 ev557 ev440 ev439 ev438 enur354 eFr354 ev310 ev258 ev204 ev203 ev202 ev144 ev142 ev141 ev4 ev2 ev1; exact hO.tr ((if_neg c437).trans ((if_pos c556).trans (if_neg c560)))) (lv_sub hl [1, 2, 3, 4, 5, 6, 7, 0] rfl)
                          · refine lv_iconst (v := (-1)) hx hb dModel_lookOrder_260 (by decide) ?_
                            refine lv_goto (tgt := 286) hx hb dModel_lookOrder_261 (by decide) ?_
                            exact J286 ls (-1) (by subst ev440 ev439 ev438 enur354 eFr354 ev310 ev258 ev204 ev203 ev202 ev144 ev142 ev141 ev4 ev2 ev1; exact hO.tr ((if_neg c437).trans (if_neg c556))) (lv_sub hl [1, 2, 3, 4, 5, 6, 7, 0] rfl)
                      refine lv_icmp_ne (tgt := 225) hx hb dModel_lookOrder_217 (by decide) (fun c561 => ?_) (fun c561 => ?_)
                      · refine lv_iload hx hb dModel_lookOrder_225 (lv_at hl 6 rfl) ?_
                        refine lv_if_ne (tgt := 234) hx hb dModel_lookOrder_227 (by decide) (fun c562 => ?_) (fun c562 => ?_)
                        · refine lv_iconst (v := 0) hx hb dModel_lookOrder_234 (by decide) ?_
                          exact J235 ls 0 (by subst enur354 eFr354 ev310 ev258 ev204 ev203 ev202 ev144 ev142 ev141 ev4 ev2 ev1; exact hO.tr ((if_neg c561).trans (if_neg c562))) (lv_sub hl [0, 1, 2, 3, 4, 5, 6, 7] rfl)
                        · refine lv_iconst (v := 1) hx hb dModel_lookOrder_230 (by decide) ?_
                          refine lv_goto (tgt := 235) hx hb dModel_lookOrder_231 (by decide) ?_
                          exact J235 ls 1 (by subst enur354 eFr354 ev310 ev258 ev204 ev203 ev202 ev144 ev142 ev141 ev4 ev2 ev1; exact hO.tr ((if_neg c561).trans (if_pos c562))) (lv_sub hl [0, 1, 2, 3, 4, 5, 6, 7] rfl)
                      · refine lv_iload hx hb dModel_lookOrder_220 (lv_at hl 6 rfl) ?_
                        refine lv_goto (tgt := 235) hx hb dModel_lookOrder_222 (by decide) ?_
                        exact J235 ls i6_131 (by subst enur354 eFr354 ev310 ev258 ev204 ev203 ev202 ev144 ev142 ev141 ev4 ev2 ev1; exact hO.tr (if_pos c561)) (lv_sub hl [0, 1, 2, 3, 4, 5, 6, 7] rfl)
                    have J210 : ∀ (ls : Array Slot), (Oq OUT (Q_lookOrder_210 κ τ σ F nu x1 x2 x3 x4 t0_102 t0_126 i7_131 i6_131   )) → lv_has ls 10 [(0, .ref a), (1, .int x1), (2, .int x2), (3, .int x3), (4, .int x4), (5, .int t0_102), (6, .int i6_131), (7, .int i7_131)] → W p l e (bs_rm 2 0 0 48) s m args below meth c s.heap [] 0 0 Q (F0 m 210 ls [.int 0, .int 1, .int x1, .ref a]) := by
                      intro ls hO hl
                      refine lv_iconst (v := 0) hx hb dModel_lookOrder_210 (by decide) ?_
                      exact J211 ls 0 (by subst ev310 ev258 ev204 ev203 ev202 ev144 ev142 ev141 ev4 ev2 ev1; exact hO.tr rfl) (lv_sub hl [0, 1, 2, 3, 4, 5, 6, 7] rfl)
                    refine lv_if_eq (tgt := 210) hx hb dModel_lookOrder_193 (by decide) (fun c563 => ?_) (fun c563 => ?_)
                    · exact J210 ls (by subst ev310 ev258 ev204 ev203 ev202 ev144 ev142 ev141 ev4 ev2 ev1; exact hO.tr (if_pos c563)) (lv_sub hl [0, 1, 2, 3, 4, 5, 6, 7] rfl)
                    · refine lv_aload_n hx hb dModel_lookOrder_196 rfl (lv_at hl 0 rfl) ?_
                      refine md_gA S hC hM 11 (by decide) rfl qw_88b9028ba7 dModel_lookOrder_197 ?_
                      refine lv_iload hx hb dModel_lookOrder_200 (lv_at hl 4 rfl) ?_
                      refine md_zld S hC hM 11 7 10000 (F 11) rfl rfl (by decide) rfl rfl (vin (by assumption) (by omega)) dModel_lookOrder_202 ?_
                      refine lv_topi (fun v564 ev564 => ?_)
                      refine lv_if_eq (tgt := 210) hx hb dModel_lookOrder_203 (by decide) (fun c565 => ?_) (fun c565 => ?_)
                      · exact J210 ls (by subst ev564 ev310 ev258 ev204 ev203 ev202 ev144 ev142 ev141 ev4 ev2 ev1; exact hO.tr ((if_neg c563).trans (if_pos c565))) (lv_sub hl [0, 1, 2, 3, 4, 5, 6, 7] rfl)
                      · refine lv_iconst (v := 1) hx hb dModel_lookOrder_206 (by decide) ?_
                        refine lv_goto (tgt := 211) hx hb dModel_lookOrder_207 (by decide) ?_
                        exact J211 ls 1 (by subst ev564 ev310 ev258 ev204 ev203 ev202 ev144 ev142 ev141 ev4 ev2 ev1; exact hO.tr ((if_neg c563).trans (if_neg c565))) (lv_sub hl [0, 1, 2, 3, 4, 5, 6, 7] rfl)
                  refine lv_icmp_ge (tgt := 183) hx hb dModel_lookOrder_139 (by decide) (fun c566 => ?_) (fun c566 => ?_)
                  · exact J183 ls (by subst ev258 ev204 ev203 ev202 ev144 ev142 ev141 ev4 ev2 ev1; exact hO.tr (if_pos c566)) (lv_sub hl [0, 1, 2, 3, 4, 5, 6, 7] rfl)
                  · have hin7 : vp_in i7_131 1000 := vsz hZ (vix (vin hx3 (by omega))) (by assumption) (by assumption) (by assumption)
                    refine lv_iload hx hb dModel_lookOrder_142 (lv_at hl 5 rfl) ?_
                    refine lv_if_eq (tgt := 183) hx hb dModel_lookOrder_144 (by decide) (fun c567 => ?_) (fun c567 => ?_)
                    · exact J183 ls (by subst ev258 ev204 ev203 ev202 ev144 ev142 ev141 ev4 ev2 ev1; exact hO.tr ((if_neg c566).trans (if_pos c567))) (lv_sub hl [0, 1, 2, 3, 4, 5, 6, 7] rfl)
                    · refine lv_iload hx hb dModel_lookOrder_147 (lv_at hl 6 rfl) ?_
                      have J175 : ∀ (ls : Array Slot) (t0_175 : Int32), (Oq OUT (Q_lookOrder_175 κ τ σ F nu x1 x2 x3 x4 t0_102 t0_126 i7_131 i6_131 (fun a0 a1 => Q_lookOrder_131 κ τ σ F nu x1 x2 x3 x4 t0_102 t0_126  N131 a0 a1)  t0_175)) → lv_has ls 10 [(0, .ref a), (1, .int x1), (2, .int x2), (3, .int x3), (4, .int x4), (5, .int t0_102), (6, .int i6_131), (7, .int i7_131)] → W p l e (bs_rm 2 0 0 48) s m args below meth c s.heap [] 0 0 Q (F0 m 175 ls [.int t0_175]) := by
                        intro ls t0_175 hO hl
                        refine lv_istore (lv' := [(6, .int t0_175), (0, .ref a), (1, .int x1), (2, .int x2), (3, .int x3), (4, .int x4), (5, .int t0_102), (7, .int i7_131)]) hx hb dModel_lookOrder_175 hl (by decide) rfl (fun ls hl => ?_)
                        obtain ⟨v573, ev573⟩ : ∃ y : Int32, y = i7_131 + 1 := ⟨_, rfl⟩
                        refine lv_iinc (v := v573) (lv' := [(7, .int v573), (6, .int t0_175), (0, .ref a), (1, .int x1), (2, .int x2), (3, .int x3), (4, .int x4), (5, .int t0_102)]) hx hb dModel_lookOrder_177 hl (k := 7) rfl (by rw [ev573]; rfl) (by decide) rfl (fun ls hl => ?_)
                        refine lv_goto (tgt := 131) hx hb dModel_lookOrder_180 (by decide) ?_
                        exact ih131 _ (by have q1 : i7_131.toInt < 2147483647 := (by first | assumption | exact (mu_up (k := i7_131) (by assumption)).2); have q2 := mu_lt q1; rw [← ev573] at q2; omega) ls v573 t0_175 (by first | decide | exact nn_inc (by assumption) (by assumption) (by assumption)) (by have hN : N131 = (2147483647 - v573.toInt).toNat + 1 := (by have q1 : i7_131.toInt < 2147483647 := (by first | assumption | exact (mu_up (k := i7_131) (by assumption)).2); have q2 := mu_lt q1; rw [← ev573] at q2; omega); rw [← hN]; clear hN; subst ev573 ev258 ev204 ev203 ev202 ev144 ev142 ev141 ev4 ev2 ev1; exact hO.tr rfl) rfl (lv_sub hl [2, 3, 4, 5, 6, 7, 1, 0] rfl)
                      have J174 : ∀ (ls : Array Slot), (Oq OUT (Q_lookOrder_174 κ τ σ F nu x1 x2 x3 x4 t0_102 t0_126 i7_131 i6_131 (fun a0 a1 => Q_lookOrder_131 κ τ σ F nu x1 x2 x3 x4 t0_102 t0_126  N131 a0 a1)  )) → lv_has ls 10 [(0, .ref a), (1, .int x1), (2, .int x2), (3, .int x3), (4, .int x4), (5, .int t0_102), (6, .int i6_131), (7, .int i7_131)] → W p l e (bs_rm 2 0 0 48) s m args below meth c s.heap [] 0 0 Q (F0 m 174 ls []) := by
                        intro ls hO hl
                        refine lv_iconst (v := 0) hx hb dModel_lookOrder_174 (by decide) ?_
                        exact J175 ls 0 (by subst ev258 ev204 ev203 ev202 ev144 ev142 ev141 ev4 ev2 ev1; exact hO.tr rfl) (lv_sub hl [0, 1, 2, 3, 4, 5, 6, 7] rfl)
                      refine lv_if_eq (tgt := 174) hx hb dModel_lookOrder_149 (by decide) (fun c574 => ?_) (fun c574 => ?_)
                      · exact J174 ls (by subst ev258 ev204 ev203 ev202 ev144 ev142 ev141 ev4 ev2 ev1; exact hO.tr ((if_neg c566).trans ((if_neg c567).trans (if_pos c574)))) (lv_sub hl [0, 1, 2, 3, 4, 5, 6, 7] rfl)
                      · refine lv_aload_n hx hb dModel_lookOrder_152 rfl (lv_at hl 0 rfl) ?_
                        refine lv_iload_n hx hb dModel_lookOrder_153 rfl (lv_at hl 3 rfl) ?_
                        refine lv_iload hx hb dModel_lookOrder_154 (lv_at hl 7 rfl) ?_
                        refine pu_Vi (rest := []) S hC (n_element l γ a B Z κ b mn ν τ σ F nu hT x3 i7_131 (el_in (by assumption) (by assumption) (by omega))) meModel_element qw_ceb3d87d61 ⟨Nat.le_of_ble_eq_true rfl, Nat.le_of_ble_eq_true rfl⟩ (md_rv hC hM) hM rfl hl.1 rfl (Nat.le_of_ble_eq_true rfl) dModel_lookOrder_156 ⟨Nat.zero_le _, Nat.zero_le _⟩ (fun r575 hr575 => ?_)
                        obtain ⟨hr575, er575⟩ := hr575
                        refine lv_aload_n hx hb dModel_lookOrder_159 rfl (lv_at hl 0 rfl) ?_
                        refine lv_iload hx hb dModel_lookOrder_160 (lv_at hl 4 rfl) ?_
                        refine lv_iload hx hb dModel_lookOrder_162 (lv_at hl 7 rfl) ?_
                        refine pu_Vi (rest := [.int r575]) S hC (n_element l γ a B Z κ b mn ν τ σ F nu hT x4 i7_131 (el_in (by assumption) (by assumption) (by omega))) meModel_element qw_ceb3d87d61 ⟨Nat.le_of_ble_eq_true rfl, Nat.le_of_ble_eq_true rfl⟩ (md_rv hC hM) hM rfl hl.1 rfl (Nat.le_of_ble_eq_true rfl) dModel_lookOrder_164 ⟨Nat.zero_le _, Nat.zero_le _⟩ (fun r576 hr576 => ?_)
                        obtain ⟨hr576, er576⟩ := hr576
                        refine lv_icmp_ne (tgt := 174) hx hb dModel_lookOrder_167 (by decide) (fun c577 => ?_) (fun c577 => ?_)
                        · exact J174 ls (by subst er576 er575 ev258 ev204 ev203 ev202 ev144 ev142 ev141 ev4 ev2 ev1; exact hO.tr ((if_neg c566).trans ((if_neg c567).trans ((if_neg c574).trans (if_neg c577))))) (lv_sub hl [0, 1, 2, 3, 4, 5, 6, 7] rfl)
                        · refine lv_iconst (v := 1) hx hb dModel_lookOrder_170 (by decide) ?_
                          refine lv_goto (tgt := 175) hx hb dModel_lookOrder_171 (by decide) ?_
                          exact J175 ls 1 (by subst er576 er575 ev258 ev204 ev203 ev202 ev144 ev142 ev141 ev4 ev2 ev1; exact hO.tr ((if_neg c566).trans ((if_neg c567).trans ((if_neg c574).trans (if_pos c577))))) (lv_sub hl [0, 1, 2, 3, 4, 5, 6, 7] rfl)
              exact J131 _ ls 0 t0_126 (by first | decide | exact nn_inc (by assumption) (by assumption) (by assumption)) (by subst ev204 ev203 ev202 ev144 ev142 ev141 ev4 ev2 ev1; exact hO.tr rfl) rfl (lv_sub hl [2, 3, 4, 5, 6, 7, 1, 0] rfl)
            refine lv_if_ne (tgt := 125) hx hb dModel_lookOrder_118 (by decide) (fun c578 => ?_) (fun c578 => ?_)
            · refine lv_iconst (v := 0) hx hb dModel_lookOrder_125 (by decide) ?_
              exact J126 ls 0 (by subst ev204 ev203 ev202 ev144 ev142 ev141 ev4 ev2 ev1; exact hO.tr (if_neg c578)) (lv_sub hl [1, 2, 3, 4, 5, 0] rfl)
            · refine lv_iconst (v := 1) hx hb dModel_lookOrder_121 (by decide) ?_
              refine lv_goto (tgt := 126) hx hb dModel_lookOrder_122 (by decide) ?_
              exact J126 ls 1 (by subst ev204 ev203 ev202 ev144 ev142 ev141 ev4 ev2 ev1; exact hO.tr (if_pos c578)) (lv_sub hl [1, 2, 3, 4, 5, 0] rfl)
          refine lv_icmp_ne (tgt := 101) hx hb dModel_lookOrder_94 (by decide) (fun c579 => ?_) (fun c579 => ?_)
          · refine lv_iconst (v := 0) hx hb dModel_lookOrder_101 (by decide) ?_
            exact J102 ls 0 (by subst ev144 ev142 ev141 ev4 ev2 ev1; exact hO.tr ((if_pos c143).trans (if_neg c579))) (lv_sub hl [0, 1, 2, 3, 4] rfl)
          · refine lv_iconst (v := 1) hx hb dModel_lookOrder_97 (by decide) ?_
            refine lv_goto (tgt := 102) hx hb dModel_lookOrder_98 (by decide) ?_
            exact J102 ls 1 (by subst ev144 ev142 ev141 ev4 ev2 ev1; exact hO.tr ((if_pos c143).trans (if_pos c579))) (lv_sub hl [0, 1, 2, 3, 4] rfl)
        · refine lv_iconst (v := 4) hx hb dModel_lookOrder_85 (by decide) ?_
          exact hE _ _ _ _ _ hS ⟨σ, F, nu, (by subst ev142 ev141 ev4 ev2 ev1; exact hO.tr (if_neg c143)), hM, hZ, hF, hL, (fun h9 => absurd (show (0 : Int32) < 4 by decide) h9)⟩ dModel_lookOrder_86
      refine lv_icmp_le (tgt := 69) hx hb dModel_lookOrder_45 (by decide) (fun c580 => ?_) (fun c580 => ?_)
      · exact J69 ls (by subst ev4 ev2 ev1; exact hO.tr (if_pos c580)) (lv_sub hl [0, 1, 2, 3, 4] rfl)
      · refine lv_aload_n hx hb dModel_lookOrder_48 rfl (lv_at hl 0 rfl) ?_
        refine md_gA S hC hM 9 (by decide) rfl qw_a119aeeca0 dModel_lookOrder_49 ?_
        refine lv_iload_n hx hb dModel_lookOrder_52 rfl (lv_at hl 3 rfl) ?_
        refine md_ild S hC hM 9 5 10000 (F 9) rfl rfl (by decide) rfl rfl (vin (by assumption) (by omega)) dModel_lookOrder_53 ?_
        refine lv_topi (fun v581 ev581 => ?_)
        refine lv_if_eq (tgt := 67) hx hb dModel_lookOrder_54 (by decide) (fun c582 => ?_) (fun c582 => ?_)
        · refine lv_iconst (v := 3) hx hb dModel_lookOrder_67 (by decide) ?_
          exact hE _ _ _ _ _ hS ⟨σ, F, nu, (by subst ev581 ev4 ev2 ev1; exact hO.tr ((if_neg c580).trans (if_pos c582))), hM, hZ, hF, hL, (fun h9 => absurd (show (0 : Int32) < 3 by decide) h9)⟩ dModel_lookOrder_68
        · refine lv_aload_n hx hb dModel_lookOrder_57 rfl (lv_at hl 0 rfl) ?_
          refine md_gA S hC hM 9 (by decide) rfl qw_a119aeeca0 dModel_lookOrder_58 ?_
          refine lv_iload_n hx hb dModel_lookOrder_61 rfl (lv_at hl 3 rfl) ?_
          refine md_ild S hC hM 9 5 10000 (F 9) rfl rfl (by decide) rfl rfl (vin (by assumption) (by omega)) dModel_lookOrder_62 ?_
          refine lv_topi (fun v583 ev583 => ?_)
          refine lv_iconst (v := 1) hx hb dModel_lookOrder_63 (by decide) ?_
          refine lv_icmp_ne (tgt := 69) hx hb dModel_lookOrder_64 (by decide) (fun c584 => ?_) (fun c584 => ?_)
          · exact J69 ls (by subst ev583 ev581 ev4 ev2 ev1; exact hO.tr ((if_neg c580).trans ((if_neg c582).trans (if_neg c584)))) (lv_sub hl [0, 1, 2, 3, 4] rfl)
          · refine lv_iconst (v := 3) hx hb dModel_lookOrder_67 (by decide) ?_
            exact hE _ _ _ _ _ hS ⟨σ, F, nu, (by subst ev583 ev581 ev4 ev2 ev1; exact hO.tr ((if_neg c580).trans ((if_neg c582).trans (if_pos c584)))), hM, hZ, hF, hL, (fun h9 => absurd (show (0 : Int32) < 3 by decide) h9)⟩ dModel_lookOrder_68
    refine lv_icmp_ne (tgt := 42) hx hb dModel_lookOrder_23 (by decide) (fun c585 => ?_) (fun c585 => ?_)
    · exact J42 ls (by subst ev4 ev2 ev1; exact hO.tr ((if_pos c3).trans (if_neg c585))) (lv_sub hl [0, 1, 2, 3, 4] rfl)
    · refine lv_aload_n hx hb dModel_lookOrder_26 rfl (lv_at hl 0 rfl) ?_
      refine md_gA S hC hM 10 (by decide) rfl qw_bd0251c605 dModel_lookOrder_27 ?_
      refine lv_iload_n hx hb dModel_lookOrder_30 rfl (lv_at hl 3 rfl) ?_
      refine md_ild S hC hM 10 6 10000 (F 10) rfl rfl (by decide) rfl rfl (vin (by assumption) (by omega)) dModel_lookOrder_31 ?_
      refine lv_topi (fun v586 ev586 => ?_)
      refine lv_aload_n hx hb dModel_lookOrder_32 rfl (lv_at hl 0 rfl) ?_
      refine md_gA S hC hM 10 (by decide) rfl qw_bd0251c605 dModel_lookOrder_33 ?_
      refine lv_iload hx hb dModel_lookOrder_36 (lv_at hl 4 rfl) ?_
      refine md_ild S hC hM 10 6 10000 (F 10) rfl rfl (by decide) rfl rfl (vin (by assumption) (by omega)) dModel_lookOrder_38 ?_
      refine lv_topi (fun v587 ev587 => ?_)
      refine lv_icmp_ne (tgt := 67) hx hb dModel_lookOrder_39 (by decide) (fun c588 => ?_) (fun c588 => ?_)
      · refine lv_iconst (v := 3) hx hb dModel_lookOrder_67 (by decide) ?_
        exact hE _ _ _ _ _ hS ⟨σ, F, nu, (by subst ev587 ev586 ev4 ev2 ev1; exact hO.tr ((if_pos c3).trans ((if_pos c585).trans (if_neg c588)))), hM, hZ, hF, hL, (fun h9 => absurd (show (0 : Int32) < 3 by decide) h9)⟩ dModel_lookOrder_68
      · exact J42 ls (by subst ev587 ev586 ev4 ev2 ev1; exact hO.tr ((if_pos c3).trans ((if_pos c585).trans (if_pos c588)))) (lv_sub hl [0, 1, 2, 3, 4] rfl)
