set_option maxHeartbeats 4000000 in
set_option maxRecDepth 100000 in
theorem m_lookAttribute (l : Launch) (γ : gE) (a : Nat) (B : Nat → Nat) (Z : Nat → Prop) (κ b mn : Nat → Nat) (ν : Nat → Int32) (τ : Nat → Nat → Int32) (σ : Nat → Int32) (F : Nat → Nat → Int32) (nu : Nat → Int64) (hT : ST κ b mn ν τ) (x1 : Int32) (hx1 : vp_in x1 (κ 0)) (hZ : SZ F) (hF : FD σ) : MU l yModel_lookAttribute bModel_lookAttribute 5 (some .int) 3 70 0 0 [.ref a, .int x1] γ Z (MD γ a B Z ν τ σ F nu) (mQi (fun r H => LKo γ a B Z ν τ x1.toNatClampNeg F nu r H) Z) := by
  refine mu_openI (by decide) (Nat.le_of_ble_eq_true rfl) ?_
  intro p e s m args below meth c ls Q S hnm hC hA hM hE hl
  have hS : va_S Z s.heap s.heap [] := va_S.rf
  obtain ⟨hx, hb, hml, hown, hW⟩ := id S
  obtain ⟨⟨hs0, hs1, hs2, hs3, hs4, hs5, hs6⟩, ⟨hv6, hv8, hv21, hv24, hv30, hv31⟩, hTR, hTY, hOB, hNM⟩ := id hT
  have hL : SL x1.toNatClampNeg F nu F nu := SL.rf
  have hl : lv_has ls 5 [(0, .ref a), (1, .int x1)] := hl
  refine lv_aload_n hx hb dModel_lookAttribute_0 rfl (lv_at hl 0 rfl) ?_
  refine md_gA S hC hM 4 (by decide) rfl qw_a8caa30de3 dModel_lookAttribute_1 ?_
  refine lv_iload_n hx hb dModel_lookAttribute_4 rfl (lv_at hl 1 rfl) ?_
  refine md_ild S hC hM 4 2 4000 (τ 4) rfl rfl (by decide) rfl rfl (vin (by assumption) (by omega)) dModel_lookAttribute_5 ?_
  refine lv_topi (fun v1 ev1 => ?_)
  refine lv_iconst (v := 1) hx hb dModel_lookAttribute_6 (by decide) ?_
  refine lv_icmp_ne (tgt := 59) hx hb dModel_lookAttribute_7 (by decide) (fun c2 => ?_) (fun c2 => ?_)
  · refine lv_bipush (v := 11) hx hb dModel_lookAttribute_59 (by decide) ?_
    exact hE _ _ _ _ _ hS ⟨σ, F, nu, hM, hZ, hF, hL, (fun h9 => absurd (show (0 : Int32) < 11 by decide) h9)⟩ dModel_lookAttribute_61
  · have hm1 := mn_eq1 hTR hx1 ev1 (by assumption)
    refine lv_aload_n hx hb dModel_lookAttribute_10 rfl (lv_at hl 0 rfl) ?_
    refine md_gA S hC hM 2 (by decide) rfl qw_3471296067 dModel_lookAttribute_11 ?_
    refine lv_iload_n hx hb dModel_lookAttribute_14 rfl (lv_at hl 1 rfl) ?_
    refine lv_iconst (v := 1) hx hb dModel_lookAttribute_15 (by decide) ?_
    refine lv_isub hx hb dModel_lookAttribute_16 ?_
    refine lv_topi (fun v3 ev3 => ?_)
    refine md_ild S hC hM 2 0 4000 (τ 2) rfl rfl (by decide) rfl rfl (vin (pr_in hTR hs0 hx1 (by omega) ev3) (by omega)) dModel_lookAttribute_17 ?_
    refine lv_topi (fun v4 ev4 => ?_)
    refine lv_iconst (v := 1) hx hb dModel_lookAttribute_18 (by decide) ?_
    refine lv_icmp_ne (tgt := 59) hx hb dModel_lookAttribute_19 (by decide) (fun c5 => ?_) (fun c5 => ?_)
    · refine lv_bipush (v := 11) hx hb dModel_lookAttribute_59 (by decide) ?_
      exact hE _ _ _ _ _ hS ⟨σ, F, nu, hM, hZ, hF, hL, (fun h9 => absurd (show (0 : Int32) < 11 by decide) h9)⟩ dModel_lookAttribute_61
    · refine lv_aload_n hx hb dModel_lookAttribute_22 rfl (lv_at hl 0 rfl) ?_
      refine md_gA S hC hM 4 (by decide) rfl qw_a8caa30de3 dModel_lookAttribute_23 ?_
      refine lv_iload_n hx hb dModel_lookAttribute_26 rfl (lv_at hl 1 rfl) ?_
      refine lv_iconst (v := 1) hx hb dModel_lookAttribute_27 (by decide) ?_
      refine lv_isub hx hb dModel_lookAttribute_28 ?_
      refine lv_topi (fun v6 ev6 => ?_)
      refine md_ild S hC hM 4 2 4000 (τ 4) rfl rfl (by decide) rfl rfl (vin (pr_in hTR hs0 hx1 (by omega) ev6) (by omega)) dModel_lookAttribute_29 ?_
      refine lv_topi (fun v7 ev7 => ?_)
      refine lv_if_gt (tgt := 59) hx hb dModel_lookAttribute_30 (by decide) (fun c8 => ?_) (fun c8 => ?_)
      · refine lv_bipush (v := 11) hx hb dModel_lookAttribute_59 (by decide) ?_
        exact hE _ _ _ _ _ hS ⟨σ, F, nu, hM, hZ, hF, hL, (fun h9 => absurd (show (0 : Int32) < 11 by decide) h9)⟩ dModel_lookAttribute_61
      · refine lv_aload_n hx hb dModel_lookAttribute_33 rfl (lv_at hl 0 rfl) ?_
        refine md_gA S hC hM 3 (by decide) rfl qw_9fb851a5fa dModel_lookAttribute_34 ?_
        refine lv_iload_n hx hb dModel_lookAttribute_37 rfl (lv_at hl 1 rfl) ?_
        refine lv_iconst (v := 1) hx hb dModel_lookAttribute_38 (by decide) ?_
        refine lv_isub hx hb dModel_lookAttribute_39 ?_
        refine lv_topi (fun v9 ev9 => ?_)
        refine md_ild S hC hM 3 1 4000 (τ 3) rfl rfl (by decide) rfl rfl (vin (pr_in hTR hs0 hx1 (by omega) ev9) (by omega)) dModel_lookAttribute_40 ?_
        refine lv_topi (fun v10 ev10 => ?_)
        refine lv_bipush (v := 15) hx hb dModel_lookAttribute_41 (by decide) ?_
        refine lv_icmp_lt (tgt := 59) hx hb dModel_lookAttribute_43 (by decide) (fun c11 => ?_) (fun c11 => ?_)
        · refine lv_bipush (v := 11) hx hb dModel_lookAttribute_59 (by decide) ?_
          exact hE _ _ _ _ _ hS ⟨σ, F, nu, hM, hZ, hF, hL, (fun h9 => absurd (show (0 : Int32) < 11 by decide) h9)⟩ dModel_lookAttribute_61
        · refine lv_aload_n hx hb dModel_lookAttribute_46 rfl (lv_at hl 0 rfl) ?_
          refine md_gA S hC hM 3 (by decide) rfl qw_9fb851a5fa dModel_lookAttribute_47 ?_
          refine lv_iload_n hx hb dModel_lookAttribute_50 rfl (lv_at hl 1 rfl) ?_
          refine lv_iconst (v := 1) hx hb dModel_lookAttribute_51 (by decide) ?_
          refine lv_isub hx hb dModel_lookAttribute_52 ?_
          refine lv_topi (fun v12 ev12 => ?_)
          refine md_ild S hC hM 3 1 4000 (τ 3) rfl rfl (by decide) rfl rfl (vin (pr_in hTR hs0 hx1 (by omega) ev12) (by omega)) dModel_lookAttribute_53 ?_
          refine lv_topi (fun v13 ev13 => ?_)
          refine lv_bipush (v := 22) hx hb dModel_lookAttribute_54 (by decide) ?_
          refine lv_icmp_le (tgt := 62) hx hb dModel_lookAttribute_56 (by decide) (fun c14 => ?_) (fun c14 => ?_)
          · refine lv_aload_n hx hb dModel_lookAttribute_62 rfl (lv_at hl 0 rfl) ?_
            refine lv_aload_n hx hb dModel_lookAttribute_63 rfl (lv_at hl 0 rfl) ?_
            refine md_gA S hC hM 3 (by decide) rfl qw_9fb851a5fa dModel_lookAttribute_64 ?_
            refine lv_iload_n hx hb dModel_lookAttribute_67 rfl (lv_at hl 1 rfl) ?_
            refine md_ild S hC hM 3 1 4000 (τ 3) rfl rfl (by decide) rfl rfl (vin (by assumption) (by omega)) dModel_lookAttribute_68 ?_
            refine lv_topi (fun v15 ev15 => ?_)
            refine mu_Vv (rest := []) S hC (fun q h => hA q (Nat.le_trans hS.1 h)) (fun q h => h) hS (m_find l γ a B Z κ b mn ν τ σ F nu hT v15 ) meModel_find qw_ece0c598e8 ⟨Nat.le_of_ble_eq_true rfl, Nat.le_of_ble_eq_true rfl⟩ (md_rv hC hM) hM rfl hl.1 rfl (Nat.le_of_ble_eq_true rfl) dModel_lookAttribute_69 ⟨Nat.le_refl _, Nat.le_refl _⟩ (fun H locs hPO hS _ _ => ?_)
            obtain ⟨σr16, hM, hF⟩ := hPO
            refine lv_aload_n hx hb dModel_lookAttribute_72 rfl (lv_at hl 0 rfl) ?_
            refine md_gI S hC hM 32 (v := σr16 32) rfl (by decide) rfl qw_9d5e299446 dModel_lookAttribute_73 ?_
            refine lv_topi (fun v17 ev17 => ?_)
            refine lv_iconst (v := 5) hx hb dModel_lookAttribute_76 (by decide) ?_
            refine lv_icmp_ne (tgt := 82) hx hb dModel_lookAttribute_77 (by decide) (fun c18 => ?_) (fun c18 => ?_)
            · refine lv_aload_n hx hb dModel_lookAttribute_82 rfl (lv_at hl 0 rfl) ?_
              refine md_gI S hC hM 32 (v := σr16 32) rfl (by decide) rfl qw_9d5e299446 dModel_lookAttribute_83 ?_
              refine lv_topi (fun v19 ev19 => ?_)
              refine lv_iconst (v := 1) hx hb dModel_lookAttribute_86 (by decide) ?_
              refine lv_icmp_eq (tgt := 92) hx hb dModel_lookAttribute_87 (by decide) (fun c20 => ?_) (fun c20 => ?_)
              · obtain ⟨o, ho, hoe⟩ := hF.1 (ev19.symm.trans (by assumption))
                refine lv_aload_n hx hb dModel_lookAttribute_92 rfl (lv_at hl 0 rfl) ?_
                refine md_gI S hC hM 33 (v := σr16 33) rfl (by decide) rfl qw_c60a40a4a7 dModel_lookAttribute_93 ?_
                refine lv_topi (fun v21 ev21 => ?_)
                refine lv_istore_n (lv' := [(2, .int v21), (0, .ref a), (1, .int x1)]) hx hb dModel_lookAttribute_96 rfl hl (by decide) rfl (fun ls hl => ?_)
                have hio : vp_in v21 2000 := vin_of (ev21.trans hoe) ho (by omega)
                refine lv_aload_n hx hb dModel_lookAttribute_97 rfl (lv_at hl 1 rfl) ?_
                refine md_gA S hC hM 23 (by decide) rfl qw_bd9bcb35cb dModel_lookAttribute_98 ?_
                refine lv_iload_n hx hb dModel_lookAttribute_101 rfl (lv_at hl 0 rfl) ?_
                refine md_ild S hC hM 23 18 2000 (τ 23) rfl rfl (by decide) rfl rfl hio dModel_lookAttribute_102 ?_
                refine lv_topi (fun v22 ev22 => ?_)
                refine lv_istore_n (lv' := [(3, .int v22), (2, .int v21), (0, .ref a), (1, .int x1)]) hx hb dModel_lookAttribute_103 rfl hl (by decide) rfl (fun ls hl => ?_)
                have hit : vp_in v22 1000 := ob_in hOB hio ev22
                refine lv_aload_n hx hb dModel_lookAttribute_104 rfl (lv_at hl 2 rfl) ?_
                refine md_gA S hC hM 3 (by decide) rfl qw_9fb851a5fa dModel_lookAttribute_105 ?_
                refine lv_iload_n hx hb dModel_lookAttribute_108 rfl (lv_at hl 3 rfl) ?_
                refine lv_iconst (v := 1) hx hb dModel_lookAttribute_109 (by decide) ?_
                refine lv_isub hx hb dModel_lookAttribute_110 ?_
                refine lv_topi (fun v23 ev23 => ?_)
                refine md_ild S hC hM 3 1 4000 (τ 3) rfl rfl (by decide) rfl rfl (vin (pr_in hTR hs0 hx1 (by omega) ev23) (by omega)) dModel_lookAttribute_111 ?_
                refine lv_topi (fun v24 ev24 => ?_)
                refine lv_istore (lv' := [(4, .int v24), (3, .int v22), (2, .int v21), (0, .ref a), (1, .int x1)]) hx hb dModel_lookAttribute_112 hl (by decide) rfl (fun ls hl => ?_)
                refine lv_iload hx hb dModel_lookAttribute_114 (lv_at hl 0 rfl) ?_
                refine lv_bipush (v := 18) hx hb dModel_lookAttribute_116 (by decide) ?_
                have J279 : ∀ (ls : Array Slot) (H : Heap) (locs : List Loc) (F_279 : Nat → Nat → Int32) (nu_279 : Nat → Int64), MD γ a B Z ν τ σr16 F_279 nu_279 H → va_S Z s.heap H locs → (GK x1.toNatClampNeg F_279 nu_279) → (SL x1.toNatClampNeg F nu F_279 nu_279) → (SZ F_279) → lv_has ls 5 [(0, .ref a), (1, .int x1), (2, .int v21), (3, .int v22), (4, .int v24)] → W p l e (bs_rm 3 0 0 70) s m args below meth c H locs 0 0 Q (F0 m 279 ls []) := by
                  intro ls H locs F_279 nu_279 hM hS hK hL hZ hl
                  refine lv_aload_n hx hb dModel_lookAttribute_279 rfl (lv_at hl 0 rfl) ?_
                  refine md_gA S hC hM 12 (by decide) rfl qw_19df235c4a dModel_lookAttribute_280 ?_
                  refine lv_iload_n hx hb dModel_lookAttribute_283 rfl (lv_at hl 1 rfl) ?_
                  refine lv_iload_n hx hb dModel_lookAttribute_284 rfl (lv_at hl 2 rfl) ?_
                  refine md_istD S hC hM hS 12 8 10000 rfl rfl (by decide) rfl rfl (vin (by assumption) (by omega)) dModel_lookAttribute_285 (fun H locs hM hS => ?_)
                  obtain ⟨F54, eF54⟩ : ∃ z : Nat → Nat → Int32, z = Au F_279 12 x1.toNatClampNeg v21 := ⟨_, rfl⟩
                  rw [← eF54] at hM
                  have hZ : SZ F54 := hZ.au eF54 (by decide)
                  have hL : SL x1.toNatClampNeg F nu F54 nu_279 := hL.au eF54 (by decide)
                  have hK : GK x1.toNatClampNeg F54 nu_279 := hK.au eF54 (by decide)
                  refine lv_iconst (v := 0) hx hb dModel_lookAttribute_286 (by decide) ?_
                  exact hE _ _ _ _ _ hS ⟨σr16, F54, nu_279, hM, hZ, hF, hL, (fun _ => hK)⟩ dModel_lookAttribute_287
                refine lv_icmp_ge (tgt := 160) hx hb dModel_lookAttribute_118 (by decide) (fun c55 => ?_) (fun c55 => ?_)
                · refine lv_aload_n hx hb dModel_lookAttribute_160 rfl (lv_at hl 3 rfl) ?_
                  refine md_gA S hC hM 16 (by decide) rfl qw_9bd8ea24bb dModel_lookAttribute_161 ?_
                  refine lv_iload_n hx hb dModel_lookAttribute_164 rfl (lv_at hl 1 rfl) ?_
                  refine md_ild S hC hM 16 12 1000 (τ 16) rfl rfl (by decide) rfl rfl (vin (by assumption) (by omega)) dModel_lookAttribute_165 ?_
                  refine lv_topi (fun v56 ev56 => ?_)
                  refine lv_iconst (v := 3) hx hb dModel_lookAttribute_166 (by decide) ?_
                  refine lv_icmp_eq (tgt := 172) hx hb dModel_lookAttribute_167 (by decide) (fun c57 => ?_) (fun c57 => ?_)
                  · obtain ⟨lo, hi, cn, h17, h18, h19, hlo, hhi, hd1, hd2, hcn, hup, hdn⟩ := hTY _ (vix hit) (ev56.symm.trans (by assumption))
                    have k17 : ∀ v : Int32, v = τ 17 v22.toNatClampNeg → ∃ j, j < 2 ^ 31 ∧ v = nI j := fun v h9 => ⟨lo, hlo, h9.trans h17⟩
                    have k18 : ∀ v : Int32, v = τ 18 v22.toNatClampNeg → ∃ j, j < 2 ^ 31 ∧ v = nI j := fun v h9 => ⟨hi, hhi, h9.trans h18⟩
                    have k19 : ∀ v : Int32, v = τ 19 v22.toNatClampNeg → ∃ j, j < 2 ^ 31 ∧ v = nI j := fun v h9 => ⟨cn, by omega, h9.trans h19⟩
                    refine lv_aload_n hx hb dModel_lookAttribute_172 rfl (lv_at hl 3 rfl) ?_
                    refine lv_iload_n hx hb dModel_lookAttribute_173 rfl (lv_at hl 4 rfl) ?_
                    refine lv_iconst (v := 2) hx hb dModel_lookAttribute_174 (by decide) ?_
                    refine lv_iconst (v := 0) hx hb dModel_lookAttribute_175 (by decide) ?_
                    refine lv_iconst (v := 1) hx hb dModel_lookAttribute_176 (by decide) ?_
                    have hnr58 : ∃ j, j ≤ 1000 ∧ 0 = nI j := ⟨0, by omega, rfl⟩
                    refine mu_Vv (rest := []) S hC (fun q h => hA q (Nat.le_trans hS.1 h)) (fun q h => h) hS (m_fact l γ a B Z κ b mn ν τ σr16 F nu hT x1 2 0 1 (vin (by assumption) (by omega)) hnr58) meModel_fact qw_02871250ec ⟨Nat.le_of_ble_eq_true rfl, Nat.le_of_ble_eq_true rfl⟩ (md_rv hC hM) hM rfl hl.1 rfl (Nat.le_of_ble_eq_true rfl) dModel_lookAttribute_177 ⟨Nat.le_refl _, Nat.le_refl _⟩ (fun H locs hPO hS _ _ => ?_)
                    obtain ⟨Fr58, nur58, hM, hqr58, hcr58⟩ := hPO
                    have hZ : SZ Fr58 := hZ.slt hqr58 hnr58
                    have hL : SL x1.toNatClampNeg F nu Fr58 nur58 := hL.trans (SL.slt hqr58)
                    have hK : GK x1.toNatClampNeg Fr58 nur58 := GK.zero hqr58
                    refine lv_aload_n hx hb dModel_lookAttribute_180 rfl (lv_at hl 3 rfl) ?_
                    refine md_gA S hC hM 13 (by decide) rfl qw_7b809afc8c dModel_lookAttribute_181 ?_
                    refine lv_iload_n hx hb dModel_lookAttribute_184 rfl (lv_at hl 4 rfl) ?_
                    refine lv_iload hx hb dModel_lookAttribute_185 (lv_at hl 0 rfl) ?_
                    refine lv_bipush (v := 18) hx hb dModel_lookAttribute_187 (by decide) ?_
                    have J278 : ∀ (ls : Array Slot) (t0_278 : Int64), (-2147483648 < t0_278.toInt ∧ t0_278.toInt < 2147483648) → lv_has ls 5 [(0, .ref a), (1, .int x1), (2, .int v21), (3, .int v22), (4, .int v24)] → W p l e (bs_rm 3 0 0 70) s m args below meth c H locs 0 0 Q (F0 m 278 ls [.long t0_278, .int x1, .ref (B 13)]) := by
                      intro ls t0_278 ht0_278 hl
                      have hgnu78 : Fr58 9 x1.toNatClampNeg = 2 → -2147483648 < (t0_278 : Int64).toInt ∧ (t0_278 : Int64).toInt < 2147483648 := (fun _ => ht0_278)
                      refine md_lst S hC hM hS (vin (by assumption) (by omega)) dModel_lookAttribute_278 (fun H locs hM hS => ?_)
                      obtain ⟨nu78, enu78⟩ : ∃ z : Nat → Int64, z = vp_updL nur58 x1.toNatClampNeg t0_278 := ⟨_, rfl⟩
                      rw [← enu78] at hM
                      have hL : SL x1.toNatClampNeg F nu Fr58 nu78 := hL.trans (by rw [enu78]; exact SL.num)
                      have hK : GK x1.toNatClampNeg Fr58 nu78 := by rw [enu78]; exact GK.num hgnu78
                      exact J279 ls _ _ Fr58 nu78 hM hS hK hL hZ (lv_sub hl [0, 1, 2, 3, 4] rfl)
                    refine lv_icmp_ne (tgt := 202) hx hb dModel_lookAttribute_189 (by decide) (fun c79 => ?_) (fun c79 => ?_)
                    · refine lv_iload hx hb dModel_lookAttribute_202 (lv_at hl 0 rfl) ?_
                      refine lv_bipush (v := 19) hx hb dModel_lookAttribute_204 (by decide) ?_
                      refine lv_icmp_ne (tgt := 219) hx hb dModel_lookAttribute_206 (by decide) (fun c80 => ?_) (fun c80 => ?_)
                      · refine lv_iload hx hb dModel_lookAttribute_219 (lv_at hl 0 rfl) ?_
                        refine lv_bipush (v := 20) hx hb dModel_lookAttribute_221 (by decide) ?_
                        refine lv_icmp_ne (tgt := 236) hx hb dModel_lookAttribute_223 (by decide) (fun c81 => ?_) (fun c81 => ?_)
                        · refine lv_iload hx hb dModel_lookAttribute_236 (lv_at hl 0 rfl) ?_
                          refine lv_bipush (v := 21) hx hb dModel_lookAttribute_238 (by decide) ?_
                          refine lv_icmp_ne (tgt := 262) hx hb dModel_lookAttribute_240 (by decide) (fun c82 => ?_) (fun c82 => ?_)
                          · refine lv_aload_n hx hb dModel_lookAttribute_262 rfl (lv_at hl 3 rfl) ?_
                            refine md_gA S hC hM 17 (by decide) rfl qw_94306de345 dModel_lookAttribute_263 ?_
                            refine lv_iload_n hx hb dModel_lookAttribute_266 rfl (lv_at hl 1 rfl) ?_
                            refine md_ild S hC hM 17 13 1000 (τ 17) rfl rfl (by decide) rfl rfl (vin (by assumption) (by omega)) dModel_lookAttribute_267 ?_
                            refine lv_topi (fun v83 ev83 => ?_)
                            refine lv_aload_n hx hb dModel_lookAttribute_268 rfl (lv_at hl 3 rfl) ?_
                            refine md_gA S hC hM 18 (by decide) rfl qw_82ee92f611 dModel_lookAttribute_269 ?_
                            refine lv_iload_n hx hb dModel_lookAttribute_272 rfl (lv_at hl 1 rfl) ?_
                            refine md_ild S hC hM 18 14 1000 (τ 18) rfl rfl (by decide) rfl rfl (vin (by assumption) (by omega)) dModel_lookAttribute_273 ?_
                            refine lv_topi (fun v84 ev84 => ?_)
                            refine va_mmin (rest := [.int x1, .ref (B 13)]) hx hb (hml.trans hl.1.symm) hown (hW _ qw_31ea7262cf) (hW _ qw_1a05fe5770) (hW _ qw_0001fcaade) (hW _ qw_5e99ca5e66) (Nat.le_of_ble_eq_true rfl) (Nat.le_of_ble_eq_true rfl) (Nat.zero_le _) (Nat.zero_le _) dModel_lookAttribute_274 ?_
                            refine lv_topi (fun v85 ev85 => ?_)
                            refine lv_i2l hx hb dModel_lookAttribute_277 rfl ?_
                            refine lv_topl (fun v86 ev86 => ?_)
                            exact J278 ls v86 (at_b ev86 (by first | exact k19 _ ev85 | exact k17 _ ev85 | exact k18 _ ev85 | exact at_if ev85 (k17 _ ev83) (k18 _ ev84) | exact at_if ev85 (k18 _ ev84) (k17 _ ev83))) (lv_sub hl [3, 4, 2, 1, 0] rfl)
                          · refine lv_aload_n hx hb dModel_lookAttribute_243 rfl (lv_at hl 3 rfl) ?_
                            refine md_gA S hC hM 17 (by decide) rfl qw_94306de345 dModel_lookAttribute_244 ?_
                            refine lv_iload_n hx hb dModel_lookAttribute_247 rfl (lv_at hl 1 rfl) ?_
                            refine md_ild S hC hM 17 13 1000 (τ 17) rfl rfl (by decide) rfl rfl (vin (by assumption) (by omega)) dModel_lookAttribute_248 ?_
                            refine lv_topi (fun v87 ev87 => ?_)
                            refine lv_aload_n hx hb dModel_lookAttribute_249 rfl (lv_at hl 3 rfl) ?_
                            refine md_gA S hC hM 18 (by decide) rfl qw_82ee92f611 dModel_lookAttribute_250 ?_
                            refine lv_iload_n hx hb dModel_lookAttribute_253 rfl (lv_at hl 1 rfl) ?_
                            refine md_ild S hC hM 18 14 1000 (τ 18) rfl rfl (by decide) rfl rfl (vin (by assumption) (by omega)) dModel_lookAttribute_254 ?_
                            refine lv_topi (fun v88 ev88 => ?_)
                            refine va_mmax (rest := [.int x1, .ref (B 13)]) hx hb (hml.trans hl.1.symm) hown (hW _ qw_f0aff25a97) (hW _ qw_7cc87a9f9b) (hW _ qw_0001fcaade) (hW _ qw_6b973c1ba4) (Nat.le_of_ble_eq_true rfl) (Nat.le_of_ble_eq_true rfl) (Nat.zero_le _) (Nat.zero_le _) dModel_lookAttribute_255 ?_
                            refine lv_topi (fun v89 ev89 => ?_)
                            refine lv_i2l hx hb dModel_lookAttribute_258 rfl ?_
                            refine lv_topl (fun v90 ev90 => ?_)
                            refine lv_goto (tgt := 278) hx hb dModel_lookAttribute_259 (by decide) ?_
                            exact J278 ls v90 (at_b ev90 (by first | exact k19 _ ev89 | exact k17 _ ev89 | exact k18 _ ev89 | exact at_if ev89 (k17 _ ev87) (k18 _ ev88) | exact at_if ev89 (k18 _ ev88) (k17 _ ev87))) (lv_sub hl [3, 4, 2, 1, 0] rfl)
                        · refine lv_aload_n hx hb dModel_lookAttribute_226 rfl (lv_at hl 3 rfl) ?_
                          refine md_gA S hC hM 18 (by decide) rfl qw_82ee92f611 dModel_lookAttribute_227 ?_
                          refine lv_iload_n hx hb dModel_lookAttribute_230 rfl (lv_at hl 1 rfl) ?_
                          refine md_ild S hC hM 18 14 1000 (τ 18) rfl rfl (by decide) rfl rfl (vin (by assumption) (by omega)) dModel_lookAttribute_231 ?_
                          refine lv_topi (fun v91 ev91 => ?_)
                          refine lv_i2l hx hb dModel_lookAttribute_232 rfl ?_
                          refine lv_topl (fun v92 ev92 => ?_)
                          refine lv_goto (tgt := 278) hx hb dModel_lookAttribute_233 (by decide) ?_
                          exact J278 ls v92 (at_b ev92 (by first | exact k19 _ ev91 | exact k17 _ ev91 | exact k18 _ ev91 | exact at_if ev91 (k17 _ ev87) (k18 _ ev88) | exact at_if ev91 (k18 _ ev88) (k17 _ ev87))) (lv_sub hl [3, 4, 2, 1, 0] rfl)
                      · refine lv_aload_n hx hb dModel_lookAttribute_209 rfl (lv_at hl 3 rfl) ?_
                        refine md_gA S hC hM 17 (by decide) rfl qw_94306de345 dModel_lookAttribute_210 ?_
                        refine lv_iload_n hx hb dModel_lookAttribute_213 rfl (lv_at hl 1 rfl) ?_
                        refine md_ild S hC hM 17 13 1000 (τ 17) rfl rfl (by decide) rfl rfl (vin (by assumption) (by omega)) dModel_lookAttribute_214 ?_
                        refine lv_topi (fun v93 ev93 => ?_)
                        refine lv_i2l hx hb dModel_lookAttribute_215 rfl ?_
                        refine lv_topl (fun v94 ev94 => ?_)
                        refine lv_goto (tgt := 278) hx hb dModel_lookAttribute_216 (by decide) ?_
                        exact J278 ls v94 (at_b ev94 (by first | exact k19 _ ev93 | exact k17 _ ev93 | exact k18 _ ev93 | exact at_if ev93 (k17 _ ev87) (k18 _ ev88) | exact at_if ev93 (k18 _ ev88) (k17 _ ev87))) (lv_sub hl [3, 4, 2, 1, 0] rfl)
                    · refine lv_aload_n hx hb dModel_lookAttribute_192 rfl (lv_at hl 3 rfl) ?_
                      refine md_gA S hC hM 19 (by decide) rfl qw_c139dbceda dModel_lookAttribute_193 ?_
                      refine lv_iload_n hx hb dModel_lookAttribute_196 rfl (lv_at hl 1 rfl) ?_
                      refine md_ild S hC hM 19 15 1000 (τ 19) rfl rfl (by decide) rfl rfl (vin (by assumption) (by omega)) dModel_lookAttribute_197 ?_
                      refine lv_topi (fun v95 ev95 => ?_)
                      refine lv_i2l hx hb dModel_lookAttribute_198 rfl ?_
                      refine lv_topl (fun v96 ev96 => ?_)
                      refine lv_goto (tgt := 278) hx hb dModel_lookAttribute_199 (by decide) ?_
                      exact J278 ls v96 (at_b ev96 (by first | exact k19 _ ev95 | exact k17 _ ev95 | exact k18 _ ev95 | exact at_if ev95 (k17 _ ev87) (k18 _ ev88) | exact at_if ev95 (k18 _ ev88) (k17 _ ev87))) (lv_sub hl [3, 4, 2, 1, 0] rfl)
                  · refine lv_iconst (v := 3) hx hb dModel_lookAttribute_170 (by decide) ?_
                    exact hE _ _ _ _ _ hS ⟨σr16, F, nu, hM, hZ, hF, hL, (fun h9 => absurd (show (0 : Int32) < 3 by decide) h9)⟩ dModel_lookAttribute_171
                · refine lv_aload_n hx hb dModel_lookAttribute_121 rfl (lv_at hl 3 rfl) ?_
                  refine md_gA S hC hM 22 (by decide) rfl qw_50c5849686 dModel_lookAttribute_122 ?_
                  refine lv_iload_n hx hb dModel_lookAttribute_125 rfl (lv_at hl 2 rfl) ?_
                  refine md_ild S hC hM 22 17 2000 (τ 22) rfl rfl (by decide) rfl rfl (vin (by assumption) (by omega)) dModel_lookAttribute_126 ?_
                  refine lv_topi (fun v97 ev97 => ?_)
                  refine lv_iconst (v := 1) hx hb dModel_lookAttribute_127 (by decide) ?_
                  refine lv_icmp_eq (tgt := 133) hx hb dModel_lookAttribute_128 (by decide) (fun c98 => ?_) (fun c98 => ?_)
                  · refine lv_iload hx hb dModel_lookAttribute_133 (lv_at hl 0 rfl) ?_
                    refine lv_bipush (v := 17) hx hb dModel_lookAttribute_135 (by decide) ?_
                    refine lv_icmp_ne (tgt := 149) hx hb dModel_lookAttribute_137 (by decide) (fun c99 => ?_) (fun c99 => ?_)
                    · refine lv_aload_n hx hb dModel_lookAttribute_149 rfl (lv_at hl 3 rfl) ?_
                      refine lv_iload_n hx hb dModel_lookAttribute_150 rfl (lv_at hl 4 rfl) ?_
                      refine lv_iconst (v := 1) hx hb dModel_lookAttribute_151 (by decide) ?_
                      refine lv_iconst (v := 0) hx hb dModel_lookAttribute_152 (by decide) ?_
                      refine lv_iconst (v := 0) hx hb dModel_lookAttribute_153 (by decide) ?_
                      have hnr100 : ∃ j, j ≤ 1000 ∧ 0 = nI j := ⟨0, by omega, rfl⟩
                      refine mu_Vv (rest := []) S hC (fun q h => hA q (Nat.le_trans hS.1 h)) (fun q h => h) hS (m_fact l γ a B Z κ b mn ν τ σr16 F nu hT x1 1 0 0 (vin (by assumption) (by omega)) hnr100) meModel_fact qw_02871250ec ⟨Nat.le_of_ble_eq_true rfl, Nat.le_of_ble_eq_true rfl⟩ (md_rv hC hM) hM rfl hl.1 rfl (Nat.le_of_ble_eq_true rfl) dModel_lookAttribute_154 ⟨Nat.le_refl _, Nat.le_refl _⟩ (fun H locs hPO hS _ _ => ?_)
                      obtain ⟨Fr100, nur100, hM, hqr100, hcr100⟩ := hPO
                      have hZ : SZ Fr100 := hZ.slt hqr100 hnr100
                      have hL : SL x1.toNatClampNeg F nu Fr100 nur100 := hL.trans (SL.slt hqr100)
                      have hK : GK x1.toNatClampNeg Fr100 nur100 := GK.zero hqr100
                      refine lv_goto (tgt := 279) hx hb dModel_lookAttribute_157 (by decide) ?_
                      exact J279 ls _ _ Fr100 nur100 hM hS hK hL hZ (lv_sub hl [3, 4, 2, 1, 0] rfl)
                    · refine lv_aload_n hx hb dModel_lookAttribute_140 rfl (lv_at hl 3 rfl) ?_
                      refine lv_iload_n hx hb dModel_lookAttribute_141 rfl (lv_at hl 4 rfl) ?_
                      refine lv_iload_n hx hb dModel_lookAttribute_142 rfl (lv_at hl 1 rfl) ?_
                      refine mu_Vv (rest := []) S hC (fun q h => hA q (Nat.le_trans hS.1 h)) (fun q h => h) hS (m_factOfType l γ a B Z κ b mn ν τ σr16 F nu hT x1 v22 (vin (by assumption) (by omega)) (vin (by assumption) (by omega))) meModel_factOfType qw_7a050de5f5 ⟨Nat.le_of_ble_eq_true rfl, Nat.le_of_ble_eq_true rfl⟩ (md_rv hC hM) hM rfl hl.1 rfl (Nat.le_of_ble_eq_true rfl) dModel_lookAttribute_143 ⟨Nat.le_refl _, Nat.le_refl _⟩ (fun H locs hPO hS _ _ => ?_)
                      obtain ⟨Fr101, nur101, cr101, nr101, hM, hqr101, hnr101⟩ := hPO
                      have hZ : SZ Fr101 := hZ.slt hqr101 hnr101
                      have hL : SL x1.toNatClampNeg F nu Fr101 nur101 := hL.trans (SL.slt hqr101)
                      have hK : GK x1.toNatClampNeg Fr101 nur101 := GK.zero hqr101
                      refine lv_goto (tgt := 279) hx hb dModel_lookAttribute_146 (by decide) ?_
                      exact J279 ls _ _ Fr101 nur101 hM hS hK hL hZ (lv_sub hl [3, 4, 2, 1, 0] rfl)
                  · refine lv_iconst (v := 2) hx hb dModel_lookAttribute_131 (by decide) ?_
                    exact hE _ _ _ _ _ hS ⟨σr16, F, nu, hM, hZ, hF, hL, (fun h9 => absurd (show (0 : Int32) < 2 by decide) h9)⟩ dModel_lookAttribute_132
              · refine lv_iconst (v := 2) hx hb dModel_lookAttribute_90 (by decide) ?_
                exact hE _ _ _ _ _ hS ⟨σr16, F, nu, hM, hZ, hF, hL, (fun h9 => absurd (show (0 : Int32) < 2 by decide) h9)⟩ dModel_lookAttribute_91
            · refine lv_iconst (v := 1) hx hb dModel_lookAttribute_80 (by decide) ?_
              exact hE _ _ _ _ _ hS ⟨σr16, F, nu, hM, hZ, hF, hL, (fun h9 => absurd (show (0 : Int32) < 1 by decide) h9)⟩ dModel_lookAttribute_81
          · refine lv_bipush (v := 11) hx hb dModel_lookAttribute_59 (by decide) ?_
            exact hE _ _ _ _ _ hS ⟨σ, F, nu, hM, hZ, hF, hL, (fun h9 => absurd (show (0 : Int32) < 11 by decide) h9)⟩ dModel_lookAttribute_61
theorem qw_6af1a66e4e : (Cond.methodLink R_Model 143 yModel_lookName) ∈ bs_W0 := bs_in (in_tables_1_6 (List.mem_of_getElem? (i := 63) rfl)) rfl
theorem qw_1225f40cc2 : (Cond.methodLink R_Model 151 yModel_lookRow) ∈ bs_W0 := bs_in (in_tables_1_6 (List.mem_of_getElem? (i := 91) rfl)) rfl
theorem qw_90669a19fa : (Cond.methodLink R_Model 157 yModel_lookUnary) ∈ bs_W0 := bs_in (in_tables_1_6 (List.mem_of_getElem? (i := 99) rfl)) rfl
theorem qw_3d76e3b1f6 : (Cond.methodLink R_Model 160 yModel_lookBinary) ∈ bs_W0 := bs_in (in_tables_1_6 (List.mem_of_getElem? (i := 116) rfl)) rfl
theorem qw_a9a4545182 : (Cond.methodLink R_Model 164 yModel_lookApply) ∈ bs_W0 := bs_in (in_tables_1_6 (List.mem_of_getElem? (i := 172) rfl)) rfl
theorem qw_66651c47c8 : (Cond.methodLink R_Model 167 yModel_lookSlice) ∈ bs_W0 := bs_in (in_tables_1_6 (List.mem_of_getElem? (i := 191) rfl)) rfl
theorem qw_1fe4047f8f : (Cond.methodLink R_Model 170 yModel_lookAttribute) ∈ bs_W0 := bs_in (in_tables_1_6 (List.mem_of_getElem? (i := 195) rfl)) rfl
set_option maxHeartbeats 4000000 in
set_option maxRecDepth 100000 in
theorem m_look (l : Launch) (γ : gE) (a : Nat) (B : Nat → Nat) (Z : Nat → Prop) (κ b mn : Nat → Nat) (ν : Nat → Int32) (τ : Nat → Nat → Int32) (σ : Nat → Int32) (F : Nat → Nat → Int32) (nu : Nat → Int64) (hT : ST κ b mn ν τ) (x1 : Int32) (hx1 : vp_in x1 (κ 0)) (hZ : SZ F) (hF : FD σ) (hG : GD F nu) (hgc : ¬ τ 2 x1.toNatClampNeg = 25 → ∀ i, i < mn x1.toNatClampNeg → GK (tX b x1.toNatClampNeg i - 1) F nu) : MU l yModel_look bModel_look 3 (some .int) 5 131 0 0 [.ref a, .int x1] γ Z (MD γ a B Z ν τ σ F nu) (mQi (fun r H => LKo γ a B Z ν τ x1.toNatClampNeg F nu r H) Z) := by
  refine mu_openI (by decide) (Nat.le_of_ble_eq_true rfl) ?_
  intro p e s m args below meth c ls Q S hnm hC hA hM hE hl
  have hS : va_S Z s.heap s.heap [] := va_S.rf
  obtain ⟨hx, hb, hml, hown, hW⟩ := id S
  obtain ⟨⟨hs0, hs1, hs2, hs3, hs4, hs5, hs6⟩, ⟨hv6, hv8, hv21, hv24, hv30, hv31⟩, hTR, hTY, hOB, hNM⟩ := id hT
  have hL : SL x1.toNatClampNeg F nu F nu := SL.rf
  have hl : lv_has ls 3 [(0, .ref a), (1, .int x1)] := hl
  refine lv_aload_n hx hb dModel_look_0 rfl (lv_at hl 0 rfl) ?_
  refine md_gA S hC hM 4 (by decide) rfl qw_a8caa30de3 dModel_look_1 ?_
  refine lv_iload_n hx hb dModel_look_4 rfl (lv_at hl 1 rfl) ?_
  refine md_ild S hC hM 4 2 4000 (τ 4) rfl rfl (by decide) rfl rfl (vin (by assumption) (by omega)) dModel_look_5 ?_
  refine lv_topi (fun v1 ev1 => ?_)
  refine lv_istore_n (lv' := [(2, .int v1), (0, .ref a), (1, .int x1)]) hx hb dModel_look_6 rfl hl (by decide) rfl (fun ls hl => ?_)
  obtain ⟨hmn, hmx⟩ := mn_of hTR hx1 ev1
  refine lv_aload_n hx hb dModel_look_7 rfl (lv_at hl 1 rfl) ?_
  refine md_gA S hC hM 2 (by decide) rfl qw_3471296067 dModel_look_8 ?_
  refine lv_iload_n hx hb dModel_look_11 rfl (lv_at hl 2 rfl) ?_
  refine md_ild S hC hM 2 0 4000 (τ 2) rfl rfl (by decide) rfl rfl (vin (by assumption) (by omega)) dModel_look_12 ?_
  refine lv_topi (fun v2 ev2 => ?_)
  by_cases k3 : v2 = 1
  · rw [k3]
    refine lv_tableIn (tgt := 128) hx hb dModel_look_13 (by decide) (by decide) rfl (by decide) ?_
    refine lv_iload_n hx hb dModel_look_128 rfl (lv_at hl 0 rfl) ?_
    refine lv_if_le (tgt := 137) hx hb dModel_look_129 (by decide) (fun c28 => ?_) (fun c28 => ?_)
    · refine lv_aload_n hx hb dModel_look_137 rfl (lv_at hl 1 rfl) ?_
      refine lv_iload_n hx hb dModel_look_138 rfl (lv_at hl 2 rfl) ?_
      refine mu_Vi (rest := []) S hC (fun q h => hA q (Nat.le_trans hS.1 h)) (fun q h => h) hS (m_lookName l γ a B Z κ b mn ν τ σ F nu hT x1 (vin (by assumption) (by omega)) hZ hF hG) meModel_lookName qw_6af1a66e4e ⟨Nat.le_of_ble_eq_true rfl, Nat.le_of_ble_eq_true rfl⟩ (md_rv hC hM) hM rfl hl.1 rfl (Nat.le_of_ble_eq_true rfl) dModel_look_139 ⟨Nat.le_refl _, Nat.le_refl _⟩ (fun r29 H locs hPO hS _ _ => ?_)
      obtain ⟨σr29, Fr29, nur29, hM, hZ, hF, hLr29, hRr29⟩ := hPO
      have hL : SL x1.toNatClampNeg F nu Fr29 nur29 := hL.trans hLr29
      exact hE _ _ _ _ _ hS ⟨σr29, Fr29, nur29, hM, hZ, hF, hL, hRr29⟩ dModel_look_142
    · refine lv_bipush (v := 11) hx hb dModel_look_132 (by decide) ?_
      refine lv_goto (tgt := 142) hx hb dModel_look_134 (by decide) ?_
      exact hE _ _ _ _ _ hS ⟨σ, F, nu, hM, hZ, hF, hL, (fun h9 => absurd (show (0 : Int32) < 11 by decide) h9)⟩ dModel_look_142
  by_cases k4 : v2 = 2
  · rw [k4]
    refine lv_tableIn (tgt := 143) hx hb dModel_look_13 (by decide) (by decide) rfl (by decide) ?_
    refine lv_aload_n hx hb dModel_look_143 rfl (lv_at hl 1 rfl) ?_
    refine lv_iload_n hx hb dModel_look_144 rfl (lv_at hl 2 rfl) ?_
    refine lv_iconst (v := 2) hx hb dModel_look_145 (by decide) ?_
    refine lv_iconst (v := 0) hx hb dModel_look_146 (by decide) ?_
    refine lv_iconst (v := 1) hx hb dModel_look_147 (by decide) ?_
    have hnr30 : ∃ j, j ≤ 1000 ∧ 0 = nI j := ⟨0, by omega, rfl⟩
    refine mu_Vv (rest := []) S hC (fun q h => hA q (Nat.le_trans hS.1 h)) (fun q h => h) hS (m_fact l γ a B Z κ b mn ν τ σ F nu hT x1 2 0 1 (vin (by assumption) (by omega)) hnr30) meModel_fact qw_02871250ec ⟨Nat.le_of_ble_eq_true rfl, Nat.le_of_ble_eq_true rfl⟩ (md_rv hC hM) hM rfl hl.1 rfl (Nat.le_of_ble_eq_true rfl) dModel_look_148 ⟨Nat.le_refl _, Nat.le_refl _⟩ (fun H locs hPO hS _ _ => ?_)
    obtain ⟨Fr30, nur30, hM, hqr30, hcr30⟩ := hPO
    have hZ : SZ Fr30 := hZ.slt hqr30 hnr30
    have hL : SL x1.toNatClampNeg F nu Fr30 nur30 := hL.trans (SL.slt hqr30)
    have hK : GK x1.toNatClampNeg Fr30 nur30 := GK.zero hqr30
    refine lv_aload_n hx hb dModel_look_151 rfl (lv_at hl 1 rfl) ?_
    refine md_gA S hC hM 13 (by decide) rfl qw_7b809afc8c dModel_look_152 ?_
    refine lv_iload_n hx hb dModel_look_155 rfl (lv_at hl 2 rfl) ?_
    refine lv_aload_n hx hb dModel_look_156 rfl (lv_at hl 1 rfl) ?_
    refine md_gA S hC hM 3 (by decide) rfl qw_9fb851a5fa dModel_look_157 ?_
    refine lv_iload_n hx hb dModel_look_160 rfl (lv_at hl 2 rfl) ?_
    refine md_ild S hC hM 3 1 4000 (τ 3) rfl rfl (by decide) rfl rfl (vin (by assumption) (by omega)) dModel_look_161 ?_
    refine lv_topi (fun v31 ev31 => ?_)
    refine lv_i2l hx hb dModel_look_162 rfl ?_
    refine lv_topl (fun v32 ev32 => ?_)
    refine md_lst S hC hM hS (vin (by assumption) (by omega)) dModel_look_163 (fun H locs hM hS => ?_)
    obtain ⟨nu33, enu33⟩ : ∃ z : Nat → Int64, z = vp_updL nur30 x1.toNatClampNeg v32 := ⟨_, rfl⟩
    rw [← enu33] at hM
    have hL : SL x1.toNatClampNeg F nu Fr30 nu33 := hL.trans (by rw [enu33]; exact SL.num)
    refine lv_iload_n hx hb dModel_look_164 rfl (lv_at hl 0 rfl) ?_
    have J177 : ∀ (ls : Array Slot), lv_has ls 3 [(0, .ref a), (1, .int x1), (2, .int v1)] → W p l e (bs_rm 5 0 0 131) s m args below meth c H locs 0 0 Q (F0 m 177 ls []) := by
      intro ls hl
      refine lv_bipush (v := 11) hx hb dModel_look_177 (by decide) ?_
      refine lv_goto (tgt := 183) hx hb dModel_look_179 (by decide) ?_
      exact hE _ _ _ _ _ hS ⟨σ, Fr30, nu33, hM, hZ, hF, hL, (fun h9 => absurd (show (0 : Int32) < 11 by decide) h9)⟩ dModel_look_183
    refine lv_if_gt (tgt := 177) hx hb dModel_look_165 (by decide) (fun c37 => ?_) (fun c37 => ?_)
    · exact J177 ls  (lv_sub hl [1, 2, 0] rfl)
    · refine lv_aload_n hx hb dModel_look_168 rfl (lv_at hl 1 rfl) ?_
      refine md_gA S hC hM 3 (by decide) rfl qw_9fb851a5fa dModel_look_169 ?_
      refine lv_iload_n hx hb dModel_look_172 rfl (lv_at hl 2 rfl) ?_
      refine md_ild S hC hM 3 1 4000 (τ 3) rfl rfl (by decide) rfl rfl (vin (by assumption) (by omega)) dModel_look_173 ?_
      refine lv_topi (fun v38 ev38 => ?_)
      refine lv_if_ge (tgt := 182) hx hb dModel_look_174 (by decide) (fun c39 => ?_) (fun c39 => ?_)
      · refine lv_iconst (v := 0) hx hb dModel_look_182 (by decide) ?_
        exact hE _ _ _ _ _ hS ⟨σ, Fr30, nu33, hM, hZ, hF, hL, (fun _ => by rw [enu33]; exact GK.num (fun _ => vb_ok ev32 ev31 ev38 (by assumption)))⟩ dModel_look_183
      · exact J177 ls  (lv_sub hl [1, 2, 0] rfl)
  by_cases k5 : v2 = 3
  · rw [k5]
    refine lv_tableIn (tgt := 184) hx hb dModel_look_13 (by decide) (by decide) rfl (by decide) ?_
    refine lv_aload_n hx hb dModel_look_184 rfl (lv_at hl 1 rfl) ?_
    refine lv_iload_n hx hb dModel_look_185 rfl (lv_at hl 2 rfl) ?_
    refine lv_iconst (v := 0) hx hb dModel_look_186 (by decide) ?_
    refine lv_iconst (v := 0) hx hb dModel_look_187 (by decide) ?_
    refine lv_iconst (v := 1) hx hb dModel_look_188 (by decide) ?_
    have hnr40 : ∃ j, j ≤ 1000 ∧ 0 = nI j := ⟨0, by omega, rfl⟩
    refine mu_Vv (rest := []) S hC (fun q h => hA q (Nat.le_trans hS.1 h)) (fun q h => h) hS (m_fact l γ a B Z κ b mn ν τ σ F nu hT x1 0 0 1 (vin (by assumption) (by omega)) hnr40) meModel_fact qw_02871250ec ⟨Nat.le_of_ble_eq_true rfl, Nat.le_of_ble_eq_true rfl⟩ (md_rv hC hM) hM rfl hl.1 rfl (Nat.le_of_ble_eq_true rfl) dModel_look_189 ⟨Nat.le_refl _, Nat.le_refl _⟩ (fun H locs hPO hS _ _ => ?_)
    obtain ⟨Fr40, nur40, hM, hqr40, hcr40⟩ := hPO
    have hZ : SZ Fr40 := hZ.slt hqr40 hnr40
    have hL : SL x1.toNatClampNeg F nu Fr40 nur40 := hL.trans (SL.slt hqr40)
    have hK : GK x1.toNatClampNeg Fr40 nur40 := GK.zero hqr40
    refine lv_aload_n hx hb dModel_look_192 rfl (lv_at hl 1 rfl) ?_
    refine md_gA S hC hM 13 (by decide) rfl qw_7b809afc8c dModel_look_193 ?_
    refine lv_iload_n hx hb dModel_look_196 rfl (lv_at hl 2 rfl) ?_
    refine lv_aload_n hx hb dModel_look_197 rfl (lv_at hl 1 rfl) ?_
    refine md_gA S hC hM 3 (by decide) rfl qw_9fb851a5fa dModel_look_198 ?_
    refine lv_iload_n hx hb dModel_look_201 rfl (lv_at hl 2 rfl) ?_
    refine md_ild S hC hM 3 1 4000 (τ 3) rfl rfl (by decide) rfl rfl (vin (by assumption) (by omega)) dModel_look_202 ?_
    refine lv_topi (fun v41 ev41 => ?_)
    refine lv_i2l hx hb dModel_look_203 rfl ?_
    refine lv_topl (fun v42 ev42 => ?_)
    have hgnu43 : Fr40 9 x1.toNatClampNeg = 2 → -2147483648 < (v42 : Int64).toInt ∧ (v42 : Int64).toInt < 2147483648 := (fun h9 => absurd ((slt9 hqr40).symm.trans h9) (by decide))
    refine md_lst S hC hM hS (vin (by assumption) (by omega)) dModel_look_204 (fun H locs hM hS => ?_)
    obtain ⟨nu43, enu43⟩ : ∃ z : Nat → Int64, z = vp_updL nur40 x1.toNatClampNeg v42 := ⟨_, rfl⟩
    rw [← enu43] at hM
    have hL : SL x1.toNatClampNeg F nu Fr40 nu43 := hL.trans (by rw [enu43]; exact SL.num)
    have hK : GK x1.toNatClampNeg Fr40 nu43 := by rw [enu43]; exact GK.num hgnu43
    refine lv_iload_n hx hb dModel_look_205 rfl (lv_at hl 0 rfl) ?_
    have J229 : ∀ (ls : Array Slot), lv_has ls 3 [(0, .ref a), (1, .int x1), (2, .int v1)] → W p l e (bs_rm 5 0 0 131) s m args below meth c H locs 0 0 Q (F0 m 229 ls []) := by
      intro ls hl
      refine lv_bipush (v := 11) hx hb dModel_look_229 (by decide) ?_
      refine lv_goto (tgt := 235) hx hb dModel_look_231 (by decide) ?_
      exact hE _ _ _ _ _ hS ⟨σ, Fr40, nu43, hM, hZ, hF, hL, (fun h9 => absurd (show (0 : Int32) < 11 by decide) h9)⟩ dModel_look_235
    refine lv_if_gt (tgt := 229) hx hb dModel_look_206 (by decide) (fun c49 => ?_) (fun c49 => ?_)
    · exact J229 ls  (lv_sub hl [1, 2, 0] rfl)
    · refine lv_aload_n hx hb dModel_look_209 rfl (lv_at hl 1 rfl) ?_
      refine md_gA S hC hM 3 (by decide) rfl qw_9fb851a5fa dModel_look_210 ?_
      refine lv_iload_n hx hb dModel_look_213 rfl (lv_at hl 2 rfl) ?_
      refine md_ild S hC hM 3 1 4000 (τ 3) rfl rfl (by decide) rfl rfl (vin (by assumption) (by omega)) dModel_look_214 ?_
      refine lv_topi (fun v50 ev50 => ?_)
      refine lv_if_lt (tgt := 229) hx hb dModel_look_215 (by decide) (fun c51 => ?_) (fun c51 => ?_)
      · exact J229 ls  (lv_sub hl [1, 2, 0] rfl)
      · refine lv_aload_n hx hb dModel_look_218 rfl (lv_at hl 1 rfl) ?_
        refine md_gA S hC hM 3 (by decide) rfl qw_9fb851a5fa dModel_look_219 ?_
        refine lv_iload_n hx hb dModel_look_222 rfl (lv_at hl 2 rfl) ?_
        refine md_ild S hC hM 3 1 4000 (τ 3) rfl rfl (by decide) rfl rfl (vin (by assumption) (by omega)) dModel_look_223 ?_
        refine lv_topi (fun v52 ev52 => ?_)
        refine lv_bipush (v := 8) hx hb dModel_look_224 (by decide) ?_
        refine lv_icmp_le (tgt := 234) hx hb dModel_look_226 (by decide) (fun c53 => ?_) (fun c53 => ?_)
        · refine lv_iconst (v := 0) hx hb dModel_look_234 (by decide) ?_
          exact hE _ _ _ _ _ hS ⟨σ, Fr40, nu43, hM, hZ, hF, hL, (fun _ => hK)⟩ dModel_look_235
        · exact J229 ls  (lv_sub hl [1, 2, 0] rfl)
  by_cases k6 : v2 = 4
  · rw [k6]
    refine lv_tableIn (tgt := 236) hx hb dModel_look_13 (by decide) (by decide) rfl (by decide) ?_
    refine lv_aload_n hx hb dModel_look_236 rfl (lv_at hl 1 rfl) ?_
    refine lv_iload_n hx hb dModel_look_237 rfl (lv_at hl 2 rfl) ?_
    refine mu_Vi (rest := []) S hC (fun q h => hA q (Nat.le_trans hS.1 h)) (fun q h => h) hS (m_lookRow l γ a B Z κ b mn ν τ σ F nu hT x1 (vin (by assumption) (by omega)) hZ hF) meModel_lookRow qw_1225f40cc2 ⟨Nat.le_of_ble_eq_true rfl, Nat.le_of_ble_eq_true rfl⟩ (md_rv hC hM) hM rfl hl.1 rfl (Nat.le_of_ble_eq_true rfl) dModel_look_238 ⟨Nat.le_refl _, Nat.le_refl _⟩ (fun r54 H locs hPO hS _ _ => ?_)
    obtain ⟨σr54, Fr54, nur54, hM, hZ, hF, hLr54, hRr54⟩ := hPO
    have hL : SL x1.toNatClampNeg F nu Fr54 nur54 := hL.trans hLr54
    exact hE _ _ _ _ _ hS ⟨σr54, Fr54, nur54, hM, hZ, hF, hL, hRr54⟩ dModel_look_241
  by_cases k7 : v2 = 5
  · rw [k7]
    refine lv_tableIn (tgt := 371) hx hb dModel_look_13 (by decide) (by decide) rfl (by decide) ?_
    refine lv_bipush (v := 11) hx hb dModel_look_371 (by decide) ?_
    exact hE _ _ _ _ _ hS ⟨σ, F, nu, hM, hZ, hF, hL, (fun h9 => absurd (show (0 : Int32) < 11 by decide) h9)⟩ dModel_look_373
  by_cases k8 : v2 = 6
  · rw [k8]
    refine lv_tableIn (tgt := 371) hx hb dModel_look_13 (by decide) (by decide) rfl (by decide) ?_
    refine lv_bipush (v := 11) hx hb dModel_look_371 (by decide) ?_
    exact hE _ _ _ _ _ hS ⟨σ, F, nu, hM, hZ, hF, hL, (fun h9 => absurd (show (0 : Int32) < 11 by decide) h9)⟩ dModel_look_373
  by_cases k9 : v2 = 7
  · rw [k9]
    refine lv_tableIn (tgt := 371) hx hb dModel_look_13 (by decide) (by decide) rfl (by decide) ?_
    refine lv_bipush (v := 11) hx hb dModel_look_371 (by decide) ?_
    exact hE _ _ _ _ _ hS ⟨σ, F, nu, hM, hZ, hF, hL, (fun h9 => absurd (show (0 : Int32) < 11 by decide) h9)⟩ dModel_look_373
  by_cases k10 : v2 = 8
  · rw [k10]
    refine lv_tableIn (tgt := 371) hx hb dModel_look_13 (by decide) (by decide) rfl (by decide) ?_
    refine lv_bipush (v := 11) hx hb dModel_look_371 (by decide) ?_
    exact hE _ _ _ _ _ hS ⟨σ, F, nu, hM, hZ, hF, hL, (fun h9 => absurd (show (0 : Int32) < 11 by decide) h9)⟩ dModel_look_373
  by_cases k11 : v2 = 9
  · rw [k11]
    refine lv_tableIn (tgt := 371) hx hb dModel_look_13 (by decide) (by decide) rfl (by decide) ?_
    refine lv_bipush (v := 11) hx hb dModel_look_371 (by decide) ?_
    exact hE _ _ _ _ _ hS ⟨σ, F, nu, hM, hZ, hF, hL, (fun h9 => absurd (show (0 : Int32) < 11 by decide) h9)⟩ dModel_look_373
  by_cases k12 : v2 = 10
  · rw [k12]
    refine lv_tableIn (tgt := 371) hx hb dModel_look_13 (by decide) (by decide) rfl (by decide) ?_
    refine lv_bipush (v := 11) hx hb dModel_look_371 (by decide) ?_
    exact hE _ _ _ _ _ hS ⟨σ, F, nu, hM, hZ, hF, hL, (fun h9 => absurd (show (0 : Int32) < 11 by decide) h9)⟩ dModel_look_373
  by_cases k13 : v2 = 11
  · rw [k13]
    refine lv_tableIn (tgt := 371) hx hb dModel_look_13 (by decide) (by decide) rfl (by decide) ?_
    refine lv_bipush (v := 11) hx hb dModel_look_371 (by decide) ?_
    exact hE _ _ _ _ _ hS ⟨σ, F, nu, hM, hZ, hF, hL, (fun h9 => absurd (show (0 : Int32) < 11 by decide) h9)⟩ dModel_look_373
  by_cases k14 : v2 = 12
  · rw [k14]
    refine lv_tableIn (tgt := 371) hx hb dModel_look_13 (by decide) (by decide) rfl (by decide) ?_
    refine lv_bipush (v := 11) hx hb dModel_look_371 (by decide) ?_
    exact hE _ _ _ _ _ hS ⟨σ, F, nu, hM, hZ, hF, hL, (fun h9 => absurd (show (0 : Int32) < 11 by decide) h9)⟩ dModel_look_373
  by_cases k15 : v2 = 13
  · rw [k15]
    refine lv_tableIn (tgt := 371) hx hb dModel_look_13 (by decide) (by decide) rfl (by decide) ?_
    refine lv_bipush (v := 11) hx hb dModel_look_371 (by decide) ?_
    exact hE _ _ _ _ _ hS ⟨σ, F, nu, hM, hZ, hF, hL, (fun h9 => absurd (show (0 : Int32) < 11 by decide) h9)⟩ dModel_look_373
  by_cases k16 : v2 = 14
  · rw [k16]
    refine lv_tableIn (tgt := 371) hx hb dModel_look_13 (by decide) (by decide) rfl (by decide) ?_
    refine lv_bipush (v := 11) hx hb dModel_look_371 (by decide) ?_
    exact hE _ _ _ _ _ hS ⟨σ, F, nu, hM, hZ, hF, hL, (fun h9 => absurd (show (0 : Int32) < 11 by decide) h9)⟩ dModel_look_373
  by_cases k17 : v2 = 15
  · rw [k17]
    refine lv_tableIn (tgt := 371) hx hb dModel_look_13 (by decide) (by decide) rfl (by decide) ?_
    refine lv_bipush (v := 11) hx hb dModel_look_371 (by decide) ?_
    exact hE _ _ _ _ _ hS ⟨σ, F, nu, hM, hZ, hF, hL, (fun h9 => absurd (show (0 : Int32) < 11 by decide) h9)⟩ dModel_look_373
  by_cases k18 : v2 = 16
  · rw [k18]
    refine lv_tableIn (tgt := 371) hx hb dModel_look_13 (by decide) (by decide) rfl (by decide) ?_
    refine lv_bipush (v := 11) hx hb dModel_look_371 (by decide) ?_
    exact hE _ _ _ _ _ hS ⟨σ, F, nu, hM, hZ, hF, hL, (fun h9 => absurd (show (0 : Int32) < 11 by decide) h9)⟩ dModel_look_373
  by_cases k19 : v2 = 17
  · rw [k19]
    refine lv_tableIn (tgt := 371) hx hb dModel_look_13 (by decide) (by decide) rfl (by decide) ?_
    refine lv_bipush (v := 11) hx hb dModel_look_371 (by decide) ?_
    exact hE _ _ _ _ _ hS ⟨σ, F, nu, hM, hZ, hF, hL, (fun h9 => absurd (show (0 : Int32) < 11 by decide) h9)⟩ dModel_look_373
  by_cases k20 : v2 = 18
  · rw [k20]
    refine lv_tableIn (tgt := 371) hx hb dModel_look_13 (by decide) (by decide) rfl (by decide) ?_
    refine lv_bipush (v := 11) hx hb dModel_look_371 (by decide) ?_
    exact hE _ _ _ _ _ hS ⟨σ, F, nu, hM, hZ, hF, hL, (fun h9 => absurd (show (0 : Int32) < 11 by decide) h9)⟩ dModel_look_373
  by_cases k21 : v2 = 19
  · rw [k21]
    refine lv_tableIn (tgt := 371) hx hb dModel_look_13 (by decide) (by decide) rfl (by decide) ?_
    refine lv_bipush (v := 11) hx hb dModel_look_371 (by decide) ?_
    exact hE _ _ _ _ _ hS ⟨σ, F, nu, hM, hZ, hF, hL, (fun h9 => absurd (show (0 : Int32) < 11 by decide) h9)⟩ dModel_look_373
  by_cases k22 : v2 = 20
  · rw [k22]
    refine lv_tableIn (tgt := 242) hx hb dModel_look_13 (by decide) (by decide) rfl (by decide) ?_
    refine lv_iload_n hx hb dModel_look_242 rfl (lv_at hl 0 rfl) ?_
    refine lv_iconst (v := 1) hx hb dModel_look_243 (by decide) ?_
    have J266 : ∀ (ls : Array Slot), lv_has ls 3 [(0, .ref a), (1, .int x1), (2, .int v1)] → W p l e (bs_rm 5 0 0 131) s m args below meth c s.heap [] 0 0 Q (F0 m 266 ls []) := by
      intro ls hl
      refine lv_bipush (v := 11) hx hb dModel_look_266 (by decide) ?_
      refine lv_goto (tgt := 282) hx hb dModel_look_268 (by decide) ?_
      exact hE _ _ _ _ _ hS ⟨σ, F, nu, hM, hZ, hF, hL, (fun h9 => absurd (show (0 : Int32) < 11 by decide) h9)⟩ dModel_look_282
    refine lv_icmp_ne (tgt := 266) hx hb dModel_look_244 (by decide) (fun c62 => ?_) (fun c62 => ?_)
    · exact J266 ls  (lv_sub hl [1, 2, 0] rfl)
    · refine lv_aload_n hx hb dModel_look_247 rfl (lv_at hl 1 rfl) ?_
      refine md_gA S hC hM 3 (by decide) rfl qw_9fb851a5fa dModel_look_248 ?_
      refine lv_iload_n hx hb dModel_look_251 rfl (lv_at hl 2 rfl) ?_
      refine md_ild S hC hM 3 1 4000 (τ 3) rfl rfl (by decide) rfl rfl (vin (by assumption) (by omega)) dModel_look_252 ?_
      refine lv_topi (fun v63 ev63 => ?_)
      refine lv_if_lt (tgt := 266) hx hb dModel_look_253 (by decide) (fun c64 => ?_) (fun c64 => ?_)
      · exact J266 ls  (lv_sub hl [1, 2, 0] rfl)
      · refine lv_aload_n hx hb dModel_look_256 rfl (lv_at hl 1 rfl) ?_
        refine md_gA S hC hM 3 (by decide) rfl qw_9fb851a5fa dModel_look_257 ?_
        refine lv_iload_n hx hb dModel_look_260 rfl (lv_at hl 2 rfl) ?_
        refine md_ild S hC hM 3 1 4000 (τ 3) rfl rfl (by decide) rfl rfl (vin (by assumption) (by omega)) dModel_look_261 ?_
        refine lv_topi (fun v65 ev65 => ?_)
        refine lv_iconst (v := 3) hx hb dModel_look_262 (by decide) ?_
        refine lv_icmp_le (tgt := 271) hx hb dModel_look_263 (by decide) (fun c66 => ?_) (fun c66 => ?_)
        · have hm1 := mn_eq1 hTR hx1 ev1 (by assumption)
          refine lv_aload_n hx hb dModel_look_271 rfl (lv_at hl 1 rfl) ?_
          refine lv_iload_n hx hb dModel_look_272 rfl (lv_at hl 2 rfl) ?_
          refine lv_aload_n hx hb dModel_look_273 rfl (lv_at hl 1 rfl) ?_
          refine lv_iload_n hx hb dModel_look_274 rfl (lv_at hl 2 rfl) ?_
          refine lv_iconst (v := 0) hx hb dModel_look_275 (by decide) ?_
          have hpr67 : vp_in x1 (κ 0) := (vin (by assumption) (by omega))
          have hjr67 : vp_in 0 (mn x1.toNatClampNeg) := (vp0 (by omega) (by omega))
          refine pu_Vi (rest := [.int x1, .ref a]) S hC (m_child l γ a B Z κ b mn ν τ σ F nu hT x1 0 hpr67 hjr67) meModel_child qw_a66d450e0a ⟨Nat.le_of_ble_eq_true rfl, Nat.le_of_ble_eq_true rfl⟩ (md_rv hC hM) hM rfl hl.1 rfl (Nat.le_of_ble_eq_true rfl) dModel_look_276 ⟨Nat.zero_le _, Nat.zero_le _⟩ (fun r67 hr67 => ?_)
          obtain ⟨hir67, hltr67, hxr67⟩ := ch_in hTR hs0 hpr67 hjr67 hr67
          refine mu_Vi (rest := []) S hC (fun q h => hA q (Nat.le_trans hS.1 h)) (fun q h => h) hS (m_lookUnary l γ a B Z κ b mn ν τ σ F nu hT x1 r67 (vin (by assumption) (by omega)) (vin (by assumption) (by omega)) (by assumption) hZ hF (by rw [hxr67]; exact hgc (by rw [← ev2, show v2 = 20 by assumption]; decide) _ (vix hjr67))) meModel_lookUnary qw_90669a19fa ⟨Nat.le_of_ble_eq_true rfl, Nat.le_of_ble_eq_true rfl⟩ (md_rv hC hM) hM rfl hl.1 rfl (Nat.le_of_ble_eq_true rfl) dModel_look_279 ⟨Nat.le_refl _, Nat.le_refl _⟩ (fun r68 H locs hPO hS _ _ => ?_)
          obtain ⟨σr68, Fr68, nur68, hM, hZ, hF, hLr68, hRr68⟩ := hPO
          have hL : SL x1.toNatClampNeg F nu Fr68 nur68 := hL.trans hLr68
          exact hE _ _ _ _ _ hS ⟨σr68, Fr68, nur68, hM, hZ, hF, hL, hRr68⟩ dModel_look_282
        · exact J266 ls  (lv_sub hl [1, 2, 0] rfl)
  by_cases k23 : v2 = 21
  · rw [k23]
    refine lv_tableIn (tgt := 283) hx hb dModel_look_13 (by decide) (by decide) rfl (by decide) ?_
    refine lv_iload_n hx hb dModel_look_283 rfl (lv_at hl 0 rfl) ?_
    refine lv_iconst (v := 2) hx hb dModel_look_284 (by decide) ?_
    have J308 : ∀ (ls : Array Slot), lv_has ls 3 [(0, .ref a), (1, .int x1), (2, .int v1)] → W p l e (bs_rm 5 0 0 131) s m args below meth c s.heap [] 0 0 Q (F0 m 308 ls []) := by
      intro ls hl
      refine lv_bipush (v := 11) hx hb dModel_look_308 (by decide) ?_
      refine lv_goto (tgt := 330) hx hb dModel_look_310 (by decide) ?_
      exact hE _ _ _ _ _ hS ⟨σ, F, nu, hM, hZ, hF, hL, (fun h9 => absurd (show (0 : Int32) < 11 by decide) h9)⟩ dModel_look_330
    refine lv_icmp_ne (tgt := 308) hx hb dModel_look_285 (by decide) (fun c77 => ?_) (fun c77 => ?_)
    · exact J308 ls  (lv_sub hl [1, 2, 0] rfl)
    · refine lv_aload_n hx hb dModel_look_288 rfl (lv_at hl 1 rfl) ?_
      refine md_gA S hC hM 3 (by decide) rfl qw_9fb851a5fa dModel_look_289 ?_
      refine lv_iload_n hx hb dModel_look_292 rfl (lv_at hl 2 rfl) ?_
      refine md_ild S hC hM 3 1 4000 (τ 3) rfl rfl (by decide) rfl rfl (vin (by assumption) (by omega)) dModel_look_293 ?_
      refine lv_topi (fun v78 ev78 => ?_)
      refine lv_if_lt (tgt := 308) hx hb dModel_look_294 (by decide) (fun c79 => ?_) (fun c79 => ?_)
      · exact J308 ls  (lv_sub hl [1, 2, 0] rfl)
      · refine lv_aload_n hx hb dModel_look_297 rfl (lv_at hl 1 rfl) ?_
        refine md_gA S hC hM 3 (by decide) rfl qw_9fb851a5fa dModel_look_298 ?_
        refine lv_iload_n hx hb dModel_look_301 rfl (lv_at hl 2 rfl) ?_
        refine md_ild S hC hM 3 1 4000 (τ 3) rfl rfl (by decide) rfl rfl (vin (by assumption) (by omega)) dModel_look_302 ?_
        refine lv_topi (fun v80 ev80 => ?_)
        refine lv_bipush (v := 20) hx hb dModel_look_303 (by decide) ?_
        refine lv_icmp_le (tgt := 313) hx hb dModel_look_305 (by decide) (fun c81 => ?_) (fun c81 => ?_)
        · have hm1 := mn_eq2 hTR hx1 ev1 (by assumption)
          refine lv_aload_n hx hb dModel_look_313 rfl (lv_at hl 1 rfl) ?_
          refine lv_iload_n hx hb dModel_look_314 rfl (lv_at hl 2 rfl) ?_
          refine lv_aload_n hx hb dModel_look_315 rfl (lv_at hl 1 rfl) ?_
          refine lv_iload_n hx hb dModel_look_316 rfl (lv_at hl 2 rfl) ?_
          refine lv_iconst (v := 1) hx hb dModel_look_317 (by decide) ?_
          have hpr82 : vp_in x1 (κ 0) := (vin (by assumption) (by omega))
          have hjr82 : vp_in 1 (mn x1.toNatClampNeg) := (vp1 (by omega) (by omega))
          refine pu_Vi (rest := [.int x1, .ref a]) S hC (m_child l γ a B Z κ b mn ν τ σ F nu hT x1 1 hpr82 hjr82) meModel_child qw_a66d450e0a ⟨Nat.le_of_ble_eq_true rfl, Nat.le_of_ble_eq_true rfl⟩ (md_rv hC hM) hM rfl hl.1 rfl (Nat.le_of_ble_eq_true rfl) dModel_look_318 ⟨Nat.zero_le _, Nat.zero_le _⟩ (fun r82 hr82 => ?_)
          obtain ⟨hir82, hltr82, hxr82⟩ := ch_in hTR hs0 hpr82 hjr82 hr82
          refine lv_aload_n hx hb dModel_look_321 rfl (lv_at hl 1 rfl) ?_
          refine lv_iload_n hx hb dModel_look_322 rfl (lv_at hl 2 rfl) ?_
          refine lv_iconst (v := 0) hx hb dModel_look_323 (by decide) ?_
          have hpr83 : vp_in x1 (κ 0) := (vin (by assumption) (by omega))
          have hjr83 : vp_in 0 (mn x1.toNatClampNeg) := (vp0 (by omega) (by omega))
          refine pu_Vi (rest := [.int r82, .int x1, .ref a]) S hC (m_child l γ a B Z κ b mn ν τ σ F nu hT x1 0 hpr83 hjr83) meModel_child qw_a66d450e0a ⟨Nat.le_of_ble_eq_true rfl, Nat.le_of_ble_eq_true rfl⟩ (md_rv hC hM) hM rfl hl.1 rfl (Nat.le_of_ble_eq_true rfl) dModel_look_324 ⟨Nat.zero_le _, Nat.zero_le _⟩ (fun r83 hr83 => ?_)
          obtain ⟨hir83, hltr83, hxr83⟩ := ch_in hTR hs0 hpr83 hjr83 hr83
          refine mu_Vi (rest := []) S hC (fun q h => hA q (Nat.le_trans hS.1 h)) (fun q h => h) hS (m_lookBinary l γ a B Z κ b mn ν τ σ F nu hT x1 r82 r83 (vin (by assumption) (by omega)) (vin (by assumption) (by omega)) (vin (by assumption) (by omega)) (by assumption) (by assumption) hZ hF) meModel_lookBinary qw_3d76e3b1f6 ⟨Nat.le_of_ble_eq_true rfl, Nat.le_of_ble_eq_true rfl⟩ (md_rv hC hM) hM rfl hl.1 rfl (Nat.le_of_ble_eq_true rfl) dModel_look_327 ⟨Nat.le_refl _, Nat.le_refl _⟩ (fun r84 H locs hPO hS _ _ => ?_)
          obtain ⟨σr84, Fr84, nur84, hM, hZ, hF, hLr84, hRr84⟩ := hPO
          have hL : SL x1.toNatClampNeg F nu Fr84 nur84 := hL.trans hLr84
          exact hE _ _ _ _ _ hS ⟨σr84, Fr84, nur84, hM, hZ, hF, hL, hRr84⟩ dModel_look_330
        · exact J308 ls  (lv_sub hl [1, 2, 0] rfl)
  by_cases k24 : v2 = 22
  · rw [k24]
    refine lv_tableIn (tgt := 331) hx hb dModel_look_13 (by decide) (by decide) rfl (by decide) ?_
    refine lv_aload_n hx hb dModel_look_331 rfl (lv_at hl 1 rfl) ?_
    refine lv_iload_n hx hb dModel_look_332 rfl (lv_at hl 2 rfl) ?_
    refine mu_Vi (rest := []) S hC (fun q h => hA q (Nat.le_trans hS.1 h)) (fun q h => h) hS (m_lookApply l γ a B Z κ b mn ν τ σ F nu hT x1 (vin (by assumption) (by omega)) hZ hF) meModel_lookApply qw_a9a4545182 ⟨Nat.le_of_ble_eq_true rfl, Nat.le_of_ble_eq_true rfl⟩ (md_rv hC hM) hM rfl hl.1 rfl (Nat.le_of_ble_eq_true rfl) dModel_look_333 ⟨Nat.le_refl _, Nat.le_refl _⟩ (fun r85 H locs hPO hS _ _ => ?_)
    obtain ⟨σr85, Fr85, nur85, hM, hZ, hF, hLr85, hRr85⟩ := hPO
    have hL : SL x1.toNatClampNeg F nu Fr85 nur85 := hL.trans hLr85
    exact hE _ _ _ _ _ hS ⟨σr85, Fr85, nur85, hM, hZ, hF, hL, hRr85⟩ dModel_look_336
  by_cases k25 : v2 = 23
  · rw [k25]
    refine lv_tableIn (tgt := 337) hx hb dModel_look_13 (by decide) (by decide) rfl (by decide) ?_
    refine lv_iload_n hx hb dModel_look_337 rfl (lv_at hl 0 rfl) ?_
    refine lv_iconst (v := 2) hx hb dModel_look_338 (by decide) ?_
    refine lv_icmp_eq (tgt := 347) hx hb dModel_look_339 (by decide) (fun c86 => ?_) (fun c86 => ?_)
    · have hm1 := mn_eq2 hTR hx1 ev1 (by assumption)
      refine lv_aload_n hx hb dModel_look_347 rfl (lv_at hl 1 rfl) ?_
      refine lv_iload_n hx hb dModel_look_348 rfl (lv_at hl 2 rfl) ?_
      refine lv_aload_n hx hb dModel_look_349 rfl (lv_at hl 1 rfl) ?_
      refine lv_iload_n hx hb dModel_look_350 rfl (lv_at hl 2 rfl) ?_
      refine lv_iconst (v := 1) hx hb dModel_look_351 (by decide) ?_
      have hpr87 : vp_in x1 (κ 0) := (vin (by assumption) (by omega))
      have hjr87 : vp_in 1 (mn x1.toNatClampNeg) := (vp1 (by omega) (by omega))
      refine pu_Vi (rest := [.int x1, .ref a]) S hC (m_child l γ a B Z κ b mn ν τ σ F nu hT x1 1 hpr87 hjr87) meModel_child qw_a66d450e0a ⟨Nat.le_of_ble_eq_true rfl, Nat.le_of_ble_eq_true rfl⟩ (md_rv hC hM) hM rfl hl.1 rfl (Nat.le_of_ble_eq_true rfl) dModel_look_352 ⟨Nat.zero_le _, Nat.zero_le _⟩ (fun r87 hr87 => ?_)
      obtain ⟨hir87, hltr87, hxr87⟩ := ch_in hTR hs0 hpr87 hjr87 hr87
      refine lv_aload_n hx hb dModel_look_355 rfl (lv_at hl 1 rfl) ?_
      refine lv_iload_n hx hb dModel_look_356 rfl (lv_at hl 2 rfl) ?_
      refine lv_iconst (v := 0) hx hb dModel_look_357 (by decide) ?_
      have hpr88 : vp_in x1 (κ 0) := (vin (by assumption) (by omega))
      have hjr88 : vp_in 0 (mn x1.toNatClampNeg) := (vp0 (by omega) (by omega))
      refine pu_Vi (rest := [.int r87, .int x1, .ref a]) S hC (m_child l γ a B Z κ b mn ν τ σ F nu hT x1 0 hpr88 hjr88) meModel_child qw_a66d450e0a ⟨Nat.le_of_ble_eq_true rfl, Nat.le_of_ble_eq_true rfl⟩ (md_rv hC hM) hM rfl hl.1 rfl (Nat.le_of_ble_eq_true rfl) dModel_look_358 ⟨Nat.zero_le _, Nat.zero_le _⟩ (fun r88 hr88 => ?_)
      obtain ⟨hir88, hltr88, hxr88⟩ := ch_in hTR hs0 hpr88 hjr88 hr88
      refine mu_Vi (rest := []) S hC (fun q h => hA q (Nat.le_trans hS.1 h)) (fun q h => h) hS (m_lookSlice l γ a B Z κ b mn ν τ σ F nu hT x1 r87 r88 (vin (by assumption) (by omega)) (vin (by assumption) (by omega)) (vin (by assumption) (by omega)) (by assumption) (by assumption) hZ hF) meModel_lookSlice qw_66651c47c8 ⟨Nat.le_of_ble_eq_true rfl, Nat.le_of_ble_eq_true rfl⟩ (md_rv hC hM) hM rfl hl.1 rfl (Nat.le_of_ble_eq_true rfl) dModel_look_361 ⟨Nat.le_refl _, Nat.le_refl _⟩ (fun r89 H locs hPO hS _ _ => ?_)
      obtain ⟨σr89, Fr89, nur89, hM, hZ, hF, hLr89, hRr89⟩ := hPO
      have hL : SL x1.toNatClampNeg F nu Fr89 nur89 := hL.trans hLr89
      exact hE _ _ _ _ _ hS ⟨σr89, Fr89, nur89, hM, hZ, hF, hL, hRr89⟩ dModel_look_364
    · refine lv_bipush (v := 11) hx hb dModel_look_342 (by decide) ?_
      refine lv_goto (tgt := 364) hx hb dModel_look_344 (by decide) ?_
      exact hE _ _ _ _ _ hS ⟨σ, F, nu, hM, hZ, hF, hL, (fun h9 => absurd (show (0 : Int32) < 11 by decide) h9)⟩ dModel_look_364
  by_cases k26 : v2 = 24
  · rw [k26]
    refine lv_tableIn (tgt := 337) hx hb dModel_look_13 (by decide) (by decide) rfl (by decide) ?_
    refine lv_iload_n hx hb dModel_look_337 rfl (lv_at hl 0 rfl) ?_
    refine lv_iconst (v := 2) hx hb dModel_look_338 (by decide) ?_
    refine lv_icmp_eq (tgt := 347) hx hb dModel_look_339 (by decide) (fun c90 => ?_) (fun c90 => ?_)
    · have hm1 := mn_eq2 hTR hx1 ev1 (by assumption)
      refine lv_aload_n hx hb dModel_look_347 rfl (lv_at hl 1 rfl) ?_
      refine lv_iload_n hx hb dModel_look_348 rfl (lv_at hl 2 rfl) ?_
      refine lv_aload_n hx hb dModel_look_349 rfl (lv_at hl 1 rfl) ?_
      refine lv_iload_n hx hb dModel_look_350 rfl (lv_at hl 2 rfl) ?_
      refine lv_iconst (v := 1) hx hb dModel_look_351 (by decide) ?_
      have hpr91 : vp_in x1 (κ 0) := (vin (by assumption) (by omega))
      have hjr91 : vp_in 1 (mn x1.toNatClampNeg) := (vp1 (by omega) (by omega))
      refine pu_Vi (rest := [.int x1, .ref a]) S hC (m_child l γ a B Z κ b mn ν τ σ F nu hT x1 1 hpr91 hjr91) meModel_child qw_a66d450e0a ⟨Nat.le_of_ble_eq_true rfl, Nat.le_of_ble_eq_true rfl⟩ (md_rv hC hM) hM rfl hl.1 rfl (Nat.le_of_ble_eq_true rfl) dModel_look_352 ⟨Nat.zero_le _, Nat.zero_le _⟩ (fun r91 hr91 => ?_)
      obtain ⟨hir91, hltr91, hxr91⟩ := ch_in hTR hs0 hpr91 hjr91 hr91
      refine lv_aload_n hx hb dModel_look_355 rfl (lv_at hl 1 rfl) ?_
      refine lv_iload_n hx hb dModel_look_356 rfl (lv_at hl 2 rfl) ?_
      refine lv_iconst (v := 0) hx hb dModel_look_357 (by decide) ?_
      have hpr92 : vp_in x1 (κ 0) := (vin (by assumption) (by omega))
      have hjr92 : vp_in 0 (mn x1.toNatClampNeg) := (vp0 (by omega) (by omega))
      refine pu_Vi (rest := [.int r91, .int x1, .ref a]) S hC (m_child l γ a B Z κ b mn ν τ σ F nu hT x1 0 hpr92 hjr92) meModel_child qw_a66d450e0a ⟨Nat.le_of_ble_eq_true rfl, Nat.le_of_ble_eq_true rfl⟩ (md_rv hC hM) hM rfl hl.1 rfl (Nat.le_of_ble_eq_true rfl) dModel_look_358 ⟨Nat.zero_le _, Nat.zero_le _⟩ (fun r92 hr92 => ?_)
      obtain ⟨hir92, hltr92, hxr92⟩ := ch_in hTR hs0 hpr92 hjr92 hr92
      refine mu_Vi (rest := []) S hC (fun q h => hA q (Nat.le_trans hS.1 h)) (fun q h => h) hS (m_lookSlice l γ a B Z κ b mn ν τ σ F nu hT x1 r91 r92 (vin (by assumption) (by omega)) (vin (by assumption) (by omega)) (vin (by assumption) (by omega)) (by assumption) (by assumption) hZ hF) meModel_lookSlice qw_66651c47c8 ⟨Nat.le_of_ble_eq_true rfl, Nat.le_of_ble_eq_true rfl⟩ (md_rv hC hM) hM rfl hl.1 rfl (Nat.le_of_ble_eq_true rfl) dModel_look_361 ⟨Nat.le_refl _, Nat.le_refl _⟩ (fun r93 H locs hPO hS _ _ => ?_)
      obtain ⟨σr93, Fr93, nur93, hM, hZ, hF, hLr93, hRr93⟩ := hPO
      have hL : SL x1.toNatClampNeg F nu Fr93 nur93 := hL.trans hLr93
      exact hE _ _ _ _ _ hS ⟨σr93, Fr93, nur93, hM, hZ, hF, hL, hRr93⟩ dModel_look_364
    · refine lv_bipush (v := 11) hx hb dModel_look_342 (by decide) ?_
      refine lv_goto (tgt := 364) hx hb dModel_look_344 (by decide) ?_
      exact hE _ _ _ _ _ hS ⟨σ, F, nu, hM, hZ, hF, hL, (fun h9 => absurd (show (0 : Int32) < 11 by decide) h9)⟩ dModel_look_364
  by_cases k27 : v2 = 25
  · rw [k27]
    refine lv_tableIn (tgt := 365) hx hb dModel_look_13 (by decide) (by decide) rfl (by decide) ?_
    refine lv_aload_n hx hb dModel_look_365 rfl (lv_at hl 1 rfl) ?_
    refine lv_iload_n hx hb dModel_look_366 rfl (lv_at hl 2 rfl) ?_
    refine mu_Vi (rest := []) S hC (fun q h => hA q (Nat.le_trans hS.1 h)) (fun q h => h) hS (m_lookAttribute l γ a B Z κ b mn ν τ σ F nu hT x1 (vin (by assumption) (by omega)) hZ hF) meModel_lookAttribute qw_1fe4047f8f ⟨Nat.le_of_ble_eq_true rfl, Nat.le_of_ble_eq_true rfl⟩ (md_rv hC hM) hM rfl hl.1 rfl (Nat.le_of_ble_eq_true rfl) dModel_look_367 ⟨Nat.le_refl _, Nat.le_refl _⟩ (fun r94 H locs hPO hS _ _ => ?_)
    obtain ⟨σr94, Fr94, nur94, hM, hZ, hF, hLr94, hRr94⟩ := hPO
    have hL : SL x1.toNatClampNeg F nu Fr94 nur94 := hL.trans hLr94
    exact hE _ _ _ _ _ hS ⟨σr94, Fr94, nur94, hM, hZ, hF, hL, hRr94⟩ dModel_look_370
  refine lv_tableOut (tgt := 371) hx hb dModel_look_13 (by have qk3 := lv_neT (a := 1) k3 (by decide); have qk4 := lv_neT (a := 2) k4 (by decide); have qk5 := lv_neT (a := 3) k5 (by decide); have qk6 := lv_neT (a := 4) k6 (by decide); have qk7 := lv_neT (a := 5) k7 (by decide); have qk8 := lv_neT (a := 6) k8 (by decide); have qk9 := lv_neT (a := 7) k9 (by decide); have qk10 := lv_neT (a := 8) k10 (by decide); have qk11 := lv_neT (a := 9) k11 (by decide); have qk12 := lv_neT (a := 10) k12 (by decide); have qk13 := lv_neT (a := 11) k13 (by decide); have qk14 := lv_neT (a := 12) k14 (by decide); have qk15 := lv_neT (a := 13) k15 (by decide); have qk16 := lv_neT (a := 14) k16 (by decide); have qk17 := lv_neT (a := 15) k17 (by decide); have qk18 := lv_neT (a := 16) k18 (by decide); have qk19 := lv_neT (a := 17) k19 (by decide); have qk20 := lv_neT (a := 18) k20 (by decide); have qk21 := lv_neT (a := 19) k21 (by decide); have qk22 := lv_neT (a := 20) k22 (by decide); have qk23 := lv_neT (a := 21) k23 (by decide); have qk24 := lv_neT (a := 22) k24 (by decide); have qk25 := lv_neT (a := 23) k25 (by decide); have qk26 := lv_neT (a := 24) k26 (by decide); have qk27 := lv_neT (a := 25) k27 (by decide); omega) (by decide) ?_
  refine lv_bipush (v := 11) hx hb dModel_look_371 (by decide) ?_
  exact hE _ _ _ _ _ hS ⟨σ, F, nu, hM, hZ, hF, hL, (fun h9 => absurd (show (0 : Int32) < 11 by decide) h9)⟩ dModel_look_373
theorem qw_d4a57461ea : (Cond.fieldLink R_Model 9 R_Model "place" "I") ∈ bs_W0 := bs_in (in_tables_1_5 (List.mem_of_getElem? (i := 154) rfl)) rfl
set_option maxHeartbeats 4000000 in
set_option maxRecDepth 100000 in
theorem m_wrong (l : Launch) (γ : gE) (a : Nat) (B : Nat → Nat) (Z : Nat → Prop) (κ b mn : Nat → Nat) (ν : Nat → Int32) (τ : Nat → Nat → Int32) (σ : Nat → Int32) (F : Nat → Nat → Int32) (nu : Nat → Int64) (hT : ST κ b mn ν τ) (x1 : Int32) (x2 : Int32) (hF : FD σ) : MU l yModel_wrong bModel_wrong 3 (some .int) 0 0 0 0 [.ref a, .int x1, .int x2] γ Z (MD γ a B Z ν τ σ F nu) (mQi (fun r H => ∃ σ' : Nat → Int32, MD γ a B Z ν τ σ' F nu H ∧ FD σ' ∧ σ' 0 = σ 0) Z) := by
  refine mu_openI (by decide) (Nat.le_of_ble_eq_true rfl) ?_
  intro p e s m args below meth c ls Q S hnm hC hA hM hE hl
  have hS : va_S Z s.heap s.heap [] := va_S.rf
  obtain ⟨hx, hb, hml, hown, hW⟩ := id S
  obtain ⟨⟨hs0, hs1, hs2, hs3, hs4, hs5, hs6⟩, ⟨hv6, hv8, hv21, hv24, hv30, hv31⟩, hTR, hTY, hOB, hNM⟩ := id hT
  have hl : lv_has ls 3 [(0, .ref a), (1, .int x1), (2, .int x2)] := hl
  refine lv_aload_n hx hb dModel_wrong_0 rfl (lv_at hl 0 rfl) ?_
  refine lv_iload_n hx hb dModel_wrong_1 rfl (lv_at hl 1 rfl) ?_
  refine md_pD S hC hM hS 1 rfl (by decide) rfl qw_d4a57461ea rfl (by decide +kernel) dModel_wrong_2 (fun H locs hM hS => ?_)
  obtain ⟨σ1, eσ1⟩ : ∃ z : Nat → Int32, z = upd σ 1 x1 := ⟨_, rfl⟩
  rw [← eσ1] at hM
  have hF : FD σ1 := hF.up eσ1 (by decide) (by decide)
  refine lv_iload_n hx hb dModel_wrong_5 rfl (lv_at hl 2 rfl) ?_
  refine lv_ineg hx hb dModel_wrong_6 ?_
  refine lv_topi (fun v2 ev2 => ?_)
  exact hE _ _ _ _ _ hS ⟨σ1, hM, hF, (by rw [eσ1, pk_un (by decide)])⟩ dModel_wrong_7
theorem qw_a6e9824456 : (Cond.methodLink R_Model 272 yModel_wrong) ∈ bs_W0 := bs_in (in_tables_1_6 (List.mem_of_getElem? (i := 199) rfl)) rfl
set_option maxHeartbeats 4000000 in
set_option maxRecDepth 100000 in
theorem m_constantFault (l : Launch) (γ : gE) (a : Nat) (B : Nat → Nat) (Z : Nat → Prop) (κ b mn : Nat → Nat) (ν : Nat → Int32) (τ : Nat → Nat → Int32) (σ : Nat → Int32) (F : Nat → Nat → Int32) (nu : Nat → Int64) (hT : ST κ b mn ν τ) (x1 : Int32) (hF : FD σ) : MU l yModel_constantFault bModel_constantFault 2 (some .int) 1 22 0 0 [.ref a, .int x1] γ Z (MD γ a B Z ν τ σ F nu) (mQi (fun r H => ∃ σ' : Nat → Int32, MD γ a B Z ν τ σ' F nu H ∧ FD σ' ∧ σ' 0 = σ 0) Z) := by
  refine mu_openI (by decide) (Nat.le_of_ble_eq_true rfl) ?_
  intro p e s m args below meth c ls Q S hnm hC hA hM hE hl
  have hS : va_S Z s.heap s.heap [] := va_S.rf
  obtain ⟨hx, hb, hml, hown, hW⟩ := id S
  obtain ⟨⟨hs0, hs1, hs2, hs3, hs4, hs5, hs6⟩, ⟨hv6, hv8, hv21, hv24, hv30, hv31⟩, hTR, hTY, hOB, hNM⟩ := id hT
  have hl : lv_has ls 2 [(0, .ref a), (1, .int x1)] := hl
  refine lv_aload_n hx hb dModel_constantFault_0 rfl (lv_at hl 0 rfl) ?_
  refine lv_iload_n hx hb dModel_constantFault_1 rfl (lv_at hl 1 rfl) ?_
  refine lv_iconst (v := 5) hx hb dModel_constantFault_2 (by decide) ?_
  refine mu_Vi (rest := []) S hC (fun q h => hA q (Nat.le_trans hS.1 h)) (fun q h => h) hS (m_wrong l γ a B Z κ b mn ν τ σ F nu hT x1 5 hF) meModel_wrong qw_a6e9824456 ⟨Nat.le_of_ble_eq_true rfl, Nat.le_of_ble_eq_true rfl⟩ (md_rv hC hM) hM rfl hl.1 rfl (Nat.le_of_ble_eq_true rfl) dModel_constantFault_3 ⟨Nat.le_refl _, Nat.le_refl _⟩ (fun r1 H locs hPO hS _ _ => ?_)
  obtain ⟨σr1, hM, hF, h0r1⟩ := hPO
  exact hE _ _ _ _ _ hS ⟨σr1, hM, hF, h0r1⟩ dModel_constantFault_6
theorem qw_46ebe17d7b : (Cond.methodLink R_Model 259 yModel_below) ∈ bs_W0 := bs_in (in_tables_1_6 (List.mem_of_getElem? (i := 55) rfl)) rfl
theorem qw_133a99c340 : (Cond.methodLink R_Model 263 yModel_look) ∈ bs_W0 := bs_in (in_tables_1_6 (List.mem_of_getElem? (i := 59) rfl)) rfl
set_option maxHeartbeats 4000000 in
set_option maxRecDepth 100000 in
theorem m_goThrough (l : Launch) (γ : gE) (a : Nat) (B : Nat → Nat) (Z : Nat → Prop) (κ b mn : Nat → Nat) (ν : Nat → Int32) (τ : Nat → Nat → Int32) (σ : Nat → Int32) (F : Nat → Nat → Int32) (nu : Nat → Int64) (hT : ST κ b mn ν τ) (x1 : Int32) (x2 : Int32) (hx1 : ¬ x1 < 0) (hx2 : x2.toInt < (κ 0 : Int)) (hcl : ∀ k : Nat, x1.toNatClampNeg ≤ k → (k : Int) ≤ x2.toInt → x1.toNatClampNeg ≤ b k) (hZ : SZ F) (hF : FD σ) (hG : GD F nu) : MU l yModel_goThrough bModel_goThrough 5 (some .int) 6 153 0 0 [.ref a, .int x1, .int x2] γ Z (MD γ a B Z ν τ σ F nu) (mQi (fun r H => ∃ (σ' : Nat → Int32) (F' : Nat → Nat → Int32) (nu' : Nat → Int64), MD γ a B Z ν τ σ' F' nu' H ∧ SZ F' ∧ FD σ' ∧ GD F' nu' ∧ (¬ 0 < r → ∀ j : Nat, x1.toNatClampNeg ≤ j → (j : Int) ≤ x2.toInt → ¬ hid τ b j x2.toNatClampNeg → GK j F' nu')) Z) := by
  refine mu_openI (by decide) (Nat.le_of_ble_eq_true rfl) ?_
  intro p e s m args below meth c ls Q S hnm hC hA hM hE hl
  have hS : va_S Z s.heap s.heap [] := va_S.rf
  obtain ⟨hx, hb, hml, hown, hW⟩ := id S
  obtain ⟨⟨hs0, hs1, hs2, hs3, hs4, hs5, hs6⟩, ⟨hv6, hv8, hv21, hv24, hv30, hv31⟩, hTR, hTY, hOB, hNM⟩ := id hT
  have hl : lv_has ls 5 [(0, .ref a), (1, .int x1), (2, .int x2)] := hl
  refine lv_iload_n hx hb dModel_goThrough_0 rfl (lv_at hl 1 rfl) ?_
  refine lv_istore_n (lv' := [(3, .int x1), (0, .ref a), (1, .int x1), (2, .int x2)]) hx hb dModel_goThrough_1 rfl hl (by decide) rfl (fun ls hl => ?_)
  have J2 : ∀ (N2 : Nat) (ls : Array Slot) (H : Heap) (locs : List Loc) (σ_2 : Nat → Int32) (F_2 : Nat → Nat → Int32) (nu_2 : Nat → Int64) (i3_2 : Int32), MD γ a B Z ν τ σ_2 F_2 nu_2 H → va_S Z s.heap H locs → (FD σ_2) → (GD F_2 nu_2) → (SZ F_2) → (¬ i3_2 < 0 ∧ x1.toNatClampNeg ≤ i3_2.toNatClampNeg) → (∀ j, x1.toNatClampNeg ≤ j → j < i3_2.toNatClampNeg → ¬ hid τ b j x2.toNatClampNeg → GK j F_2 nu_2) → (2147483647 - i3_2.toInt).toNat = N2 → lv_has ls 5 [(0, .ref a), (1, .int x1), (2, .int x2), (3, .int i3_2)] → W p l e (bs_rm 6 0 0 153) s m args below meth c H locs 0 0 Q (F0 m 2 ls []) := by
    intro N2
    induction N2 using Nat.strongRecOn with
    | ind N2 ih2 =>
      intro ls H locs σ_2 F_2 nu_2 i3_2 hM hS hF hG hZ hi3_2 hgd hm2 hl
      refine lv_iload_n hx hb dModel_goThrough_2 rfl (lv_at hl 3 rfl) ?_
      refine lv_iload_n hx hb dModel_goThrough_3 rfl (lv_at hl 2 rfl) ?_
      refine lv_icmp_gt (tgt := 42) hx hb dModel_goThrough_4 (by decide) (fun c1 => ?_) (fun c1 => ?_)
      · refine lv_aload_n hx hb dModel_goThrough_42 rfl (lv_at hl 0 rfl) ?_
        refine lv_iconst (v := (-1)) hx hb dModel_goThrough_43 (by decide) ?_
        refine md_pD S hC hM hS 1 rfl (by decide) rfl qw_d4a57461ea rfl (by decide +kernel) dModel_goThrough_44 (fun H locs hM hS => ?_)
        obtain ⟨σ2, eσ2⟩ : ∃ z : Nat → Int32, z = upd σ_2 1 (-1) := ⟨_, rfl⟩
        rw [← eσ2] at hM
        have hF : FD σ2 := hF.up eσ2 (by decide) (by decide)
        refine lv_iconst (v := 0) hx hb dModel_goThrough_47 (by decide) ?_
        exact hE _ _ _ _ _ hS ⟨σ2, F_2, nu_2, hM, hZ, hF, hG, (fun _ => gt_end hgd hi3_2.1 (by assumption))⟩ dModel_goThrough_48
      · obtain ⟨hin3, hle3⟩ := in_le (N := κ 0) hi3_2.1 (by assumption) hx2
        have hii := vin_int hin3
        have hlt3 : i3_2.toInt < 2147483647 := by omega
        refine lv_aload_n hx hb dModel_goThrough_7 rfl (lv_at hl 0 rfl) ?_
        refine lv_iload_n hx hb dModel_goThrough_8 rfl (lv_at hl 3 rfl) ?_
        refine lv_iload_n hx hb dModel_goThrough_9 rfl (lv_at hl 2 rfl) ?_
        refine pu_Vi (rest := []) S hC (m_below l γ a B Z κ b mn ν τ σ_2 F_2 nu_2 hT i3_2 x2 (vin (by assumption) (by omega)) (by assumption)) meModel_below qw_46ebe17d7b ⟨Nat.le_of_ble_eq_true rfl, Nat.le_of_ble_eq_true rfl⟩ (md_rv hC hM) hM rfl hl.1 rfl (Nat.le_of_ble_eq_true rfl) dModel_goThrough_10 ⟨Nat.zero_le _, Nat.zero_le _⟩ (fun r3 hr3 => ?_)
        have J36 : ∀ (ls : Array Slot) (H : Heap) (locs : List Loc) (σ_36 : Nat → Int32) (F_36 : Nat → Nat → Int32) (nu_36 : Nat → Int64), MD γ a B Z ν τ σ_36 F_36 nu_36 H → va_S Z s.heap H locs → (FD σ_36) → (GD F_36 nu_36) → (SZ F_36) → (∀ j, x1.toNatClampNeg ≤ j → j < i3_2.toNatClampNeg + 1 → ¬ hid τ b j x2.toNatClampNeg → GK j F_36 nu_36) → lv_has ls 5 [(0, .ref a), (1, .int x1), (2, .int x2), (3, .int i3_2)] → W p l e (bs_rm 6 0 0 153) s m args below meth c H locs 0 0 Q (F0 m 36 ls []) := by
          intro ls H locs σ_36 F_36 nu_36 hM hS hF hG hZ hgd2 hl
          obtain ⟨v9, ev9⟩ : ∃ y : Int32, y = i3_2 + 1 := ⟨_, rfl⟩
          refine lv_iinc (v := v9) (lv' := [(3, .int v9), (0, .ref a), (1, .int x1), (2, .int x2)]) hx hb dModel_goThrough_36 hl (k := 3) rfl (by rw [ev9]; rfl) (by decide) rfl (fun ls hl => ?_)
          refine lv_goto (tgt := 2) hx hb dModel_goThrough_39 (by decide) ?_
          exact ih2 _ (by have q1 : i3_2.toInt < 2147483647 := (by first | assumption | exact (mu_up (k := i3_2) (by assumption)).2); have q2 := mu_lt q1; rw [← ev9] at q2; omega) ls _ _ σ_36 F_36 nu_36 v9 hM hS hF hG hZ (by first | exact ⟨hx1, Nat.le_refl _⟩ | exact ⟨(ix_inc hin3 hs0 ev9).2, by rw [(ix_inc hin3 hs0 ev9).1]; omega⟩) (by rw [(ix_inc hin3 hs0 ev9).1]; exact hgd2) rfl (lv_sub hl [1, 2, 3, 0] rfl)
        refine lv_if_ne (tgt := 36) hx hb dModel_goThrough_13 (by decide) (fun c10 => ?_) (fun c10 => ?_)
        · exact J36 ls _ _ σ_2 F_2 nu_2 hM hS hF hG hZ (by first | exact gt_a hgd (bl_y hr3 (by assumption)) | exact gt_b hgd hLr5 (hRr5 (Int32.not_lt.mpr (by assumption)))) (lv_sub hl [0, 1, 2, 3] rfl)
        · have hnh := bl_n hr3 (by assumption)
          refine lv_aload_n hx hb dModel_goThrough_16 rfl (lv_at hl 0 rfl) ?_
          refine lv_iload_n hx hb dModel_goThrough_17 rfl (lv_at hl 3 rfl) ?_
          refine mu_Vi (rest := []) S hC (fun q h => hA q (Nat.le_trans hS.1 h)) (fun q h => h) hS (m_look l γ a B Z κ b mn ν τ σ_2 F_2 nu_2 hT i3_2 (vin (by assumption) (by omega)) hZ hF hG (fun h25 i hi => hgd _ (Nat.le_trans (hcl _ hi3_2.2 (by omega)) (ch_ge hTR (vix hin3) hi).1) (ch_ge hTR (vix hin3) hi).2 (hid_ch hTR (vix hin3) hi hnh h25))) meModel_look qw_133a99c340 ⟨Nat.le_of_ble_eq_true rfl, Nat.le_of_ble_eq_true rfl⟩ (md_rv hC hM) hM rfl hl.1 rfl (Nat.le_of_ble_eq_true rfl) dModel_goThrough_18 ⟨Nat.le_refl _, Nat.le_refl _⟩ (fun r11 H locs hPO hS _ _ => ?_)
          obtain ⟨σr11, Fr11, nur11, hM, hZ, hF, hLr11, hRr11⟩ := hPO
          have hG : GD Fr11 nur11 := hG.sl (by have := vix hin3; omega) hLr11
          refine lv_istore (lv' := [(4, .int r11), (0, .ref a), (1, .int x1), (2, .int x2), (3, .int i3_2)]) hx hb dModel_goThrough_21 hl (by decide) rfl (fun ls hl => ?_)
          refine lv_iload hx hb dModel_goThrough_23 (lv_at hl 0 rfl) ?_
          refine lv_if_le (tgt := 36) hx hb dModel_goThrough_25 (by decide) (fun c12 => ?_) (fun c12 => ?_)
          · exact J36 ls _ _ σr11 Fr11 nur11 hM hS hF hG hZ (by first | exact gt_a hgd (bl_y hr3 (by assumption)) | exact gt_b hgd hLr11 (hRr11 (Int32.not_lt.mpr (by assumption)))) (lv_sub hl [1, 2, 3, 4] rfl)
          · refine lv_aload_n hx hb dModel_goThrough_28 rfl (lv_at hl 1 rfl) ?_
            refine lv_iload_n hx hb dModel_goThrough_29 rfl (lv_at hl 4 rfl) ?_
            refine md_pD S hC hM hS 1 rfl (by decide) rfl qw_d4a57461ea rfl (by decide +kernel) dModel_goThrough_30 (fun H locs hM hS => ?_)
            obtain ⟨σ13, eσ13⟩ : ∃ z : Nat → Int32, z = upd σr11 1 i3_2 := ⟨_, rfl⟩
            rw [← eσ13] at hM
            have hF : FD σ13 := hF.up eσ13 (by decide) (by decide)
            refine lv_iload hx hb dModel_goThrough_33 (lv_at hl 0 rfl) ?_
            exact hE _ _ _ _ _ hS ⟨σ13, Fr11, nur11, hM, hZ, hF, hG, (fun h9 => absurd (Int32.not_le.mp (by assumption)) h9)⟩ dModel_goThrough_35
  exact J2 _ ls _ _ σ F nu x1 hM hS hF hG hZ (by first | exact ⟨hx1, Nat.le_refl _⟩ | exact ⟨(ix_inc hin3 hs0 ex1).2, by rw [(ix_inc hin3 hs0 ex1).1]; omega⟩) (fun j h8 h9 => absurd h8 (Nat.not_le.mpr h9)) rfl (lv_sub hl [1, 2, 3, 0] rfl)
theorem qw_bcd494e5c6 : (Cond.fieldLink R_Model 51 R_Model "seen" "[Z") ∈ bs_W0 := bs_in (in_tables_1_5 (List.mem_of_getElem? (i := 168) rfl)) rfl
set_option maxHeartbeats 4000000 in
set_option maxRecDepth 100000 in
theorem m_keep (l : Launch) (γ : gE) (a : Nat) (B : Nat → Nat) (Z : Nat → Prop) (κ b mn : Nat → Nat) (ν : Nat → Int32) (τ : Nat → Nat → Int32) (σ : Nat → Int32) (F : Nat → Nat → Int32) (nu : Nat → Int64) (hT : ST κ b mn ν τ) (x1 : Int32) (x2 : Int32) (hx1 : ¬ x1 < 0) (hx2 : x2.toInt < (κ 0 : Int)) (hZ : SZ F) (hG : GD F nu) (hgd : ∀ j : Nat, x1.toNatClampNeg ≤ j → (j : Int) ≤ x2.toInt → ¬ hid τ b j x2.toNatClampNeg → GK j F nu) : MU l yModel_keep bModel_keep 4 (none) 2 46 0 0 [.ref a, .int x1, .int x2] γ Z (MD γ a B Z ν τ σ F nu) (mQv (fun H => ∃ (F' : Nat → Nat → Int32) (nu' : Nat → Int64), MD γ a B Z ν τ σ F' nu' H ∧ SZ F' ∧ GD F' nu') Z) := by
  refine mu_openV (by decide) (Nat.le_of_ble_eq_true rfl) ?_
  intro p e s m args below meth c ls Q S hnm hC hA hM hE hl
  have hS : va_S Z s.heap s.heap [] := va_S.rf
  obtain ⟨hx, hb, hml, hown, hW⟩ := id S
  obtain ⟨⟨hs0, hs1, hs2, hs3, hs4, hs5, hs6⟩, ⟨hv6, hv8, hv21, hv24, hv30, hv31⟩, hTR, hTY, hOB, hNM⟩ := id hT
  have hl : lv_has ls 4 [(0, .ref a), (1, .int x1), (2, .int x2)] := hl
  refine lv_iload_n hx hb dModel_keep_0 rfl (lv_at hl 1 rfl) ?_
  refine lv_istore_n (lv' := [(3, .int x1), (0, .ref a), (1, .int x1), (2, .int x2)]) hx hb dModel_keep_1 rfl hl (by decide) rfl (fun ls hl => ?_)
  have J2 : ∀ (N2 : Nat) (ls : Array Slot) (H : Heap) (locs : List Loc) (F_2 : Nat → Nat → Int32) (nu_2 : Nat → Int64) (i3_2 : Int32), MD γ a B Z ν τ σ F_2 nu_2 H → va_S Z s.heap H locs → (GD F_2 nu_2) → (SZ F_2) → (¬ i3_2 < 0 ∧ x1.toNatClampNeg ≤ i3_2.toNatClampNeg) → (∀ j, j < 4000 → F_2 9 j = F 9 j ∧ nu_2 j = nu j) → (2147483647 - i3_2.toInt).toNat = N2 → lv_has ls 4 [(0, .ref a), (1, .int x1), (2, .int x2), (3, .int i3_2)] → W p l e (bs_rm 2 0 0 46) s m args below meth c H locs 0 0 Q (F0 m 2 ls []) := by
    intro N2
    induction N2 using Nat.strongRecOn with
    | ind N2 ih2 =>
      intro ls H locs F_2 nu_2 i3_2 hM hS hG hZ hi3_2 hlow hm2 hl
      refine lv_iload_n hx hb dModel_keep_2 rfl (lv_at hl 3 rfl) ?_
      refine lv_iload_n hx hb dModel_keep_3 rfl (lv_at hl 2 rfl) ?_
      refine lv_icmp_gt (tgt := 39) hx hb dModel_keep_4 (by decide) (fun c1 => ?_) (fun c1 => ?_)
      · exact hE _ _ _ _ hS ⟨F_2, nu_2, hM, hZ, hG⟩ dModel_keep_39
      · obtain ⟨hin3, hle3⟩ := in_le (N := κ 0) hi3_2.1 (by assumption) hx2
        have hii := vin_int hin3
        have hlt3 : i3_2.toInt < 2147483647 := by omega
        refine lv_aload_n hx hb dModel_keep_7 rfl (lv_at hl 0 rfl) ?_
        refine lv_iload_n hx hb dModel_keep_8 rfl (lv_at hl 3 rfl) ?_
        refine lv_iload_n hx hb dModel_keep_9 rfl (lv_at hl 2 rfl) ?_
        refine pu_Vi (rest := []) S hC (m_below l γ a B Z κ b mn ν τ σ F_2 nu_2 hT i3_2 x2 (vin (by assumption) (by omega)) (by assumption)) meModel_below qw_46ebe17d7b ⟨Nat.le_of_ble_eq_true rfl, Nat.le_of_ble_eq_true rfl⟩ (md_rv hC hM) hM rfl hl.1 rfl (Nat.le_of_ble_eq_true rfl) dModel_keep_10 ⟨Nat.zero_le _, Nat.zero_le _⟩ (fun r2 hr2 => ?_)
        have J33 : ∀ (ls : Array Slot) (H : Heap) (locs : List Loc) (F_33 : Nat → Nat → Int32) (nu_33 : Nat → Int64), MD γ a B Z ν τ σ F_33 nu_33 H → va_S Z s.heap H locs → (GD F_33 nu_33) → (SZ F_33) → (∀ j, j < 4000 → F_33 9 j = F 9 j ∧ nu_33 j = nu j) → lv_has ls 4 [(0, .ref a), (1, .int x1), (2, .int x2), (3, .int i3_2)] → W p l e (bs_rm 2 0 0 46) s m args below meth c H locs 0 0 Q (F0 m 33 ls []) := by
          intro ls H locs F_33 nu_33 hM hS hG hZ hlow hl
          obtain ⟨v8, ev8⟩ : ∃ y : Int32, y = i3_2 + 1 := ⟨_, rfl⟩
          refine lv_iinc (v := v8) (lv' := [(3, .int v8), (0, .ref a), (1, .int x1), (2, .int x2)]) hx hb dModel_keep_33 hl (k := 3) rfl (by rw [ev8]; rfl) (by decide) rfl (fun ls hl => ?_)
          refine lv_goto (tgt := 2) hx hb dModel_keep_36 (by decide) ?_
          exact ih2 _ (by have q1 : i3_2.toInt < 2147483647 := (by first | assumption | exact (mu_up (k := i3_2) (by assumption)).2); have q2 := mu_lt q1; rw [← ev8] at q2; omega) ls _ _ F_33 nu_33 v8 hM hS hG hZ (by first | exact ⟨hx1, Nat.le_refl _⟩ | exact ⟨(ix_inc hin3 hs0 ev8).2, by rw [(ix_inc hin3 hs0 ev8).1]; omega⟩) hlow rfl (lv_sub hl [1, 2, 3, 0] rfl)
        refine lv_if_ne (tgt := 33) hx hb dModel_keep_13 (by decide) (fun c9 => ?_) (fun c9 => ?_)
        · exact J33 ls _ _ F_2 nu_2 hM hS hG hZ (by first | assumption | exact low_au hlow eF_2 (by decide)) (lv_sub hl [0, 1, 2, 3] rfl)
        · have hnh := bl_n hr2 (by assumption)
          have hgk3 : GK i3_2.toNatClampNeg F_2 nu_2 := low_gk hlow (by have := vix hin3; omega) (hgd _ hi3_2.2 (by omega) hnh)
          refine lv_aload_n hx hb dModel_keep_16 rfl (lv_at hl 0 rfl) ?_
          refine lv_iload_n hx hb dModel_keep_17 rfl (lv_at hl 3 rfl) ?_
          refine lv_sipush (v := 4000) hx hb dModel_keep_18 (by decide) ?_
          refine lv_iload_n hx hb dModel_keep_21 rfl (lv_at hl 3 rfl) ?_
          refine lv_iadd hx hb dModel_keep_22 ?_
          refine lv_topi (fun v10 ev10 => ?_)
          have h4 := vin4 (vin hin3 (by omega)) ev10
          refine mu_Vv (rest := []) S hC (fun q h => hA q (Nat.le_trans hS.1 h)) (fun q h => h) hS (m_copy l γ a B Z κ b mn ν τ σ F_2 nu_2 hT i3_2 v10 (vin (by assumption) (by omega)) (vin h4.1 (by omega))) meModel_copy qw_7581103c83 ⟨Nat.le_of_ble_eq_true rfl, Nat.le_of_ble_eq_true rfl⟩ (md_rv hC hM) hM rfl hl.1 rfl (Nat.le_of_ble_eq_true rfl) dModel_keep_23 ⟨Nat.le_refl _, Nat.le_refl _⟩ (fun H locs hPO hS _ _ => ?_)
          obtain ⟨Fr11, nur11, hM, hqr11⟩ := hPO
          have hZ : SZ Fr11 := hZ.slt hqr11 (hZ _ (vix (vin hin3 (by omega))))
          have hG : GD Fr11 nur11 := hG.cp hqr11 hgk3
          have hlow := low_cp hlow hqr11 (by rw [h4.2]; omega)
          refine lv_aload_n hx hb dModel_keep_26 rfl (lv_at hl 0 rfl) ?_
          refine md_gA S hC hM 15 (by decide) rfl qw_bcd494e5c6 dModel_keep_27 ?_
          refine lv_iload_n hx hb dModel_keep_30 rfl (lv_at hl 3 rfl) ?_
          refine lv_iconst (v := 1) hx hb dModel_keep_31 (by decide) ?_
          refine md_zstD S hC hM hS 15 11 4000 rfl rfl (by decide) rfl rfl (vin (by assumption) (by omega)) dModel_keep_32 (fun H locs hM hS => ?_)
          obtain ⟨F12, eF12⟩ : ∃ z : Nat → Nat → Int32, z = Au Fr11 15 i3_2.toNatClampNeg (vp_nar .boolean 1) := ⟨_, rfl⟩
          rw [← eF12] at hM
          have hZ : SZ F12 := hZ.au eF12 (by decide)
          have hG : GD F12 nur11 := hG.au eF12 (by decide)
          exact J33 ls _ _ F12 nur11 hM hS hG hZ (by first | assumption | exact low_au hlow eF12 (by decide)) (lv_sub hl [0, 1, 2, 3] rfl)
  exact J2 _ ls _ _ F nu x1 hM hS hG hZ (by first | exact ⟨hx1, Nat.le_refl _⟩ | exact ⟨(ix_inc hin3 hs0 ex1).2, by rw [(ix_inc hin3 hs0 ex1).1]; omega⟩) (fun j _ => ⟨rfl, rfl⟩) rfl (lv_sub hl [1, 2, 3, 0] rfl)
set_option maxHeartbeats 4000000 in
set_option maxRecDepth 100000 in
theorem m_newType (l : Launch) (γ : gE) (a : Nat) (B : Nat → Nat) (Z : Nat → Prop) (κ b mn : Nat → Nat) (ν : Nat → Int32) (τ : Nat → Nat → Int32) (σ : Nat → Int32) (F : Nat → Nat → Int32) (nu : Nat → Int64) (hT : ST κ b mn ν τ) (x1 : Int32) (x2 : Int32) (x3 : Int32) (x4 : Int32) (x5 : Int32) (hN : κ 2 < 1000) (hrow : ROWP x1 x2 x3 x4 (vp_nar .boolean x5)) : MU l yModel_newType bModel_newType 6 (some .int) 0 0 0 0 [.ref a, .int x1, .int x2, .int x3, .int x4, .int x5] γ Z (MD γ a B Z ν τ σ F nu) (mQi (fun r H => r = nI (κ 2) ∧ ∃ (ν' : Nat → Int32) (τ' : Nat → Nat → Int32), MD γ a B Z ν' τ' σ F nu H ∧ ST (ku κ 2 (κ 2 + 1)) b mn ν' τ') Z) := by
  refine mu_openI (by decide) (Nat.le_of_ble_eq_true rfl) ?_
  intro p e s m args below meth c ls Q S hnm hC hA hM hE hl
  have hS : va_S Z s.heap s.heap [] := va_S.rf
  obtain ⟨hx, hb, hml, hown, hW⟩ := id S
  obtain ⟨⟨hs0, hs1, hs2, hs3, hs4, hs5, hs6⟩, ⟨hv6, hv8, hv21, hv24, hv30, hv31⟩, hTR, hTY, hOB, hNM⟩ := id hT
  have hl : lv_has ls 6 [(0, .ref a), (1, .int x1), (2, .int x2), (3, .int x3), (4, .int x4), (5, .int x5)] := hl
  refine lv_aload_n hx hb dModel_newType_0 rfl (lv_at hl 0 rfl) ?_
  refine md_gA S hC hM 16 (by decide) rfl qw_9bd8ea24bb dModel_newType_1 ?_
  refine lv_aload_n hx hb dModel_newType_4 rfl (lv_at hl 0 rfl) ?_
  refine md_gI S hC hM 21 (v := nI (κ 2)) hv21 (by decide) rfl qw_c82bee9e97 dModel_newType_5 ?_
  refine lv_topi (fun v1 ev1 => ?_)
  refine lv_iload_n hx hb dModel_newType_8 rfl (lv_at hl 1 rfl) ?_
  refine md_istS S hC hM hS 16 12 1000 rfl rfl (by decide) rfl rfl (vin_of ev1 (by omega) (by omega)) dModel_newType_9 (fun H locs hM hS => ?_)
  obtain ⟨τ3, eτ3⟩ : ∃ z : Nat → Nat → Int32, z = Au τ 16 v1.toNatClampNeg x1 := ⟨_, rfl⟩
  rw [← eτ3] at hM
  refine lv_aload_n hx hb dModel_newType_10 rfl (lv_at hl 0 rfl) ?_
  refine md_gA S hC hM 17 (by decide) rfl qw_94306de345 dModel_newType_11 ?_
  refine lv_aload_n hx hb dModel_newType_14 rfl (lv_at hl 0 rfl) ?_
  refine md_gI S hC hM 21 (v := nI (κ 2)) hv21 (by decide) rfl qw_c82bee9e97 dModel_newType_15 ?_
  refine lv_topi (fun v4 ev4 => ?_)
  refine lv_iload_n hx hb dModel_newType_18 rfl (lv_at hl 2 rfl) ?_
  refine md_istS S hC hM hS 17 13 1000 rfl rfl (by decide) rfl rfl (vin_of ev4 (by omega) (by omega)) dModel_newType_19 (fun H locs hM hS => ?_)
  obtain ⟨τ6, eτ6⟩ : ∃ z : Nat → Nat → Int32, z = Au τ3 17 v4.toNatClampNeg x2 := ⟨_, rfl⟩
  rw [← eτ6] at hM
  refine lv_aload_n hx hb dModel_newType_20 rfl (lv_at hl 0 rfl) ?_
  refine md_gA S hC hM 18 (by decide) rfl qw_82ee92f611 dModel_newType_21 ?_
  refine lv_aload_n hx hb dModel_newType_24 rfl (lv_at hl 0 rfl) ?_
  refine md_gI S hC hM 21 (v := nI (κ 2)) hv21 (by decide) rfl qw_c82bee9e97 dModel_newType_25 ?_
  refine lv_topi (fun v7 ev7 => ?_)
  refine lv_iload_n hx hb dModel_newType_28 rfl (lv_at hl 3 rfl) ?_
  refine md_istS S hC hM hS 18 14 1000 rfl rfl (by decide) rfl rfl (vin_of ev7 (by omega) (by omega)) dModel_newType_29 (fun H locs hM hS => ?_)
  obtain ⟨τ9, eτ9⟩ : ∃ z : Nat → Nat → Int32, z = Au τ6 18 v7.toNatClampNeg x3 := ⟨_, rfl⟩
  rw [← eτ9] at hM
  refine lv_aload_n hx hb dModel_newType_30 rfl (lv_at hl 0 rfl) ?_
  refine md_gA S hC hM 19 (by decide) rfl qw_c139dbceda dModel_newType_31 ?_
  refine lv_aload_n hx hb dModel_newType_34 rfl (lv_at hl 0 rfl) ?_
  refine md_gI S hC hM 21 (v := nI (κ 2)) hv21 (by decide) rfl qw_c82bee9e97 dModel_newType_35 ?_
  refine lv_topi (fun v10 ev10 => ?_)
  refine lv_iload hx hb dModel_newType_38 (lv_at hl 4 rfl) ?_
  refine md_istS S hC hM hS 19 15 1000 rfl rfl (by decide) rfl rfl (vin_of ev10 (by omega) (by omega)) dModel_newType_40 (fun H locs hM hS => ?_)
  obtain ⟨τ12, eτ12⟩ : ∃ z : Nat → Nat → Int32, z = Au τ9 19 v10.toNatClampNeg x4 := ⟨_, rfl⟩
  rw [← eτ12] at hM
  refine lv_aload_n hx hb dModel_newType_41 rfl (lv_at hl 0 rfl) ?_
  refine md_gA S hC hM 20 (by decide) rfl qw_1579022aeb dModel_newType_42 ?_
  refine lv_aload_n hx hb dModel_newType_45 rfl (lv_at hl 0 rfl) ?_
  refine md_gI S hC hM 21 (v := nI (κ 2)) hv21 (by decide) rfl qw_c82bee9e97 dModel_newType_46 ?_
  refine lv_topi (fun v13 ev13 => ?_)
  refine lv_iload hx hb dModel_newType_49 (lv_at hl 5 rfl) ?_
  refine md_zstS S hC hM hS 20 16 1000 rfl rfl (by decide) rfl rfl (vin_of ev13 (by omega) (by omega)) dModel_newType_51 (fun H locs hM hS => ?_)
  obtain ⟨τ15, eτ15⟩ : ∃ z : Nat → Nat → Int32, z = Au τ12 20 v13.toNatClampNeg (vp_nar .boolean x5) := ⟨_, rfl⟩
  rw [← eτ15] at hM
  refine lv_aload_n hx hb dModel_newType_52 rfl (lv_at hl 0 rfl) ?_
  refine lv_dup hx hb dModel_newType_53 rfl ?_
  refine md_gI S hC hM 21 (v := nI (κ 2)) hv21 (by decide) rfl qw_c82bee9e97 dModel_newType_54 ?_
  refine lv_topi (fun v16 ev16 => ?_)
  refine lv_iconst (v := 1) hx hb dModel_newType_57 (by decide) ?_
  refine lv_iadd hx hb dModel_newType_58 ?_
  refine lv_topi (fun v17 ev17 => ?_)
  refine md_pS S hC hM hS 21 rfl (by decide) rfl qw_c82bee9e97 rfl (by decide +kernel) dModel_newType_59 (fun H locs hM hS => ?_)
  obtain ⟨ν19, eν19⟩ : ∃ z : Nat → Int32, z = upd ν 21 v17 := ⟨_, rfl⟩
  rw [← eν19] at hM
  refine lv_aload_n hx hb dModel_newType_62 rfl (lv_at hl 0 rfl) ?_
  refine md_gI S hC hM 21 (v := ν19 21) rfl (by decide) rfl qw_c82bee9e97 dModel_newType_63 ?_
  refine lv_topi (fun v20 ev20 => ?_)
  refine lv_iconst (v := 1) hx hb dModel_newType_66 (by decide) ?_
  refine lv_isub hx hb dModel_newType_67 ?_
  refine lv_topi (fun v21 ev21 => ?_)
  exact hE _ _ _ _ _ hS ⟨(by rw [ev21, ev20, eν19, pk_us, inc_n ev16 ev17]; exact nI_pred _), _, _, hM, nt_st hT hN eτ3 eτ6 eτ9 eτ12 eτ15 (ixn ev1 (by omega)) (ixn ev4 (by omega)) (ixn ev7 (by omega)) (ixn ev10 (by omega)) (ixn ev13 (by omega)) eν19 (inc_n ev16 ev17) hrow⟩ dModel_newType_68
set_option maxHeartbeats 4000000 in
set_option maxRecDepth 100000 in
theorem m_name (l : Launch) (γ : gE) (a : Nat) (B : Nat → Nat) (Z : Nat → Prop) (κ b mn : Nat → Nat) (ν : Nat → Int32) (τ : Nat → Nat → Int32) (σ : Nat → Int32) (F : Nat → Nat → Int32) (nu : Nat → Int64) (hT : ST κ b mn ν τ) (x1 : Int32) (x2 : Int32) (x3 : Int32) (x4 : Int32) (hN : κ 4 < 3000) (hm : (x2 = 1 → ∃ o, o < 2000 ∧ x3 = nI o) ∧ (x2 = 2 → ∃ o, o ≤ 1000 ∧ x3 = nI o) ∧ (x2 = 4 → ¬ 11 < x3)) : MU l yModel_name bModel_name 5 (none) 0 0 0 0 [.ref a, .int x1, .int x2, .int x3, .int x4] γ Z (MD γ a B Z ν τ σ F nu) (mQv (fun H => ∃ (ν' : Nat → Int32) (τ' : Nat → Nat → Int32), MD γ a B Z ν' τ' σ F nu H ∧ ST (ku κ 4 (κ 4 + 1)) b mn ν' τ') Z) := by
  refine mu_openV (by decide) (Nat.le_of_ble_eq_true rfl) ?_
  intro p e s m args below meth c ls Q S hnm hC hA hM hE hl
  have hS : va_S Z s.heap s.heap [] := va_S.rf
  obtain ⟨hx, hb, hml, hown, hW⟩ := id S
  obtain ⟨⟨hs0, hs1, hs2, hs3, hs4, hs5, hs6⟩, ⟨hv6, hv8, hv21, hv24, hv30, hv31⟩, hTR, hTY, hOB, hNM⟩ := id hT
  have hl : lv_has ls 5 [(0, .ref a), (1, .int x1), (2, .int x2), (3, .int x3), (4, .int x4)] := hl
  refine lv_aload_n hx hb dModel_name_0 rfl (lv_at hl 0 rfl) ?_
  refine md_gA S hC hM 25 (by decide) rfl qw_0f8ce80864 dModel_name_1 ?_
  refine lv_aload_n hx hb dModel_name_4 rfl (lv_at hl 0 rfl) ?_
  refine md_gI S hC hM 30 (v := nI (κ 4)) hv30 (by decide) rfl qw_8d5d48b583 dModel_name_5 ?_
  refine lv_topi (fun v1 ev1 => ?_)
  refine lv_iload_n hx hb dModel_name_8 rfl (lv_at hl 1 rfl) ?_
  refine md_istS S hC hM hS 25 19 3000 rfl rfl (by decide) rfl rfl (vin_of ev1 (by omega) (by omega)) dModel_name_9 (fun H locs hM hS => ?_)
  obtain ⟨τ3, eτ3⟩ : ∃ z : Nat → Nat → Int32, z = Au τ 25 v1.toNatClampNeg x1 := ⟨_, rfl⟩
  rw [← eτ3] at hM
  refine lv_aload_n hx hb dModel_name_10 rfl (lv_at hl 0 rfl) ?_
  refine md_gA S hC hM 26 (by decide) rfl qw_e95de6bb1e dModel_name_11 ?_
  refine lv_aload_n hx hb dModel_name_14 rfl (lv_at hl 0 rfl) ?_
  refine md_gI S hC hM 30 (v := nI (κ 4)) hv30 (by decide) rfl qw_8d5d48b583 dModel_name_15 ?_
  refine lv_topi (fun v4 ev4 => ?_)
  refine lv_iload_n hx hb dModel_name_18 rfl (lv_at hl 2 rfl) ?_
  refine md_istS S hC hM hS 26 20 3000 rfl rfl (by decide) rfl rfl (vin_of ev4 (by omega) (by omega)) dModel_name_19 (fun H locs hM hS => ?_)
  obtain ⟨τ6, eτ6⟩ : ∃ z : Nat → Nat → Int32, z = Au τ3 26 v4.toNatClampNeg x2 := ⟨_, rfl⟩
  rw [← eτ6] at hM
  refine lv_aload_n hx hb dModel_name_20 rfl (lv_at hl 0 rfl) ?_
  refine md_gA S hC hM 27 (by decide) rfl qw_5b2f86bc41 dModel_name_21 ?_
  refine lv_aload_n hx hb dModel_name_24 rfl (lv_at hl 0 rfl) ?_
  refine md_gI S hC hM 30 (v := nI (κ 4)) hv30 (by decide) rfl qw_8d5d48b583 dModel_name_25 ?_
  refine lv_topi (fun v7 ev7 => ?_)
  refine lv_iload_n hx hb dModel_name_28 rfl (lv_at hl 3 rfl) ?_
  refine md_istS S hC hM hS 27 21 3000 rfl rfl (by decide) rfl rfl (vin_of ev7 (by omega) (by omega)) dModel_name_29 (fun H locs hM hS => ?_)
  obtain ⟨τ9, eτ9⟩ : ∃ z : Nat → Nat → Int32, z = Au τ6 27 v7.toNatClampNeg x3 := ⟨_, rfl⟩
  rw [← eτ9] at hM
  refine lv_aload_n hx hb dModel_name_30 rfl (lv_at hl 0 rfl) ?_
  refine md_gA S hC hM 28 (by decide) rfl qw_73fdadc701 dModel_name_31 ?_
  refine lv_aload_n hx hb dModel_name_34 rfl (lv_at hl 0 rfl) ?_
  refine md_gI S hC hM 30 (v := nI (κ 4)) hv30 (by decide) rfl qw_8d5d48b583 dModel_name_35 ?_
  refine lv_topi (fun v10 ev10 => ?_)
  refine lv_iload hx hb dModel_name_38 (lv_at hl 4 rfl) ?_
  refine md_istS S hC hM hS 28 22 3000 rfl rfl (by decide) rfl rfl (vin_of ev10 (by omega) (by omega)) dModel_name_40 (fun H locs hM hS => ?_)
  obtain ⟨τ12, eτ12⟩ : ∃ z : Nat → Nat → Int32, z = Au τ9 28 v10.toNatClampNeg x4 := ⟨_, rfl⟩
  rw [← eτ12] at hM
  refine lv_aload_n hx hb dModel_name_41 rfl (lv_at hl 0 rfl) ?_
  refine md_gA S hC hM 29 (by decide) rfl qw_6551c8877a dModel_name_42 ?_
  refine lv_aload_n hx hb dModel_name_45 rfl (lv_at hl 0 rfl) ?_
  refine md_gI S hC hM 30 (v := nI (κ 4)) hv30 (by decide) rfl qw_8d5d48b583 dModel_name_46 ?_
  refine lv_topi (fun v13 ev13 => ?_)
  refine lv_aload_n hx hb dModel_name_49 rfl (lv_at hl 0 rfl) ?_
  refine md_gI S hC hM 31 (v := nI (κ 5)) hv31 (by decide) rfl qw_e3979b88d4 dModel_name_50 ?_
  refine lv_topi (fun v14 ev14 => ?_)
  refine md_istS S hC hM hS 29 23 3000 rfl rfl (by decide) rfl rfl (vin_of ev13 (by omega) (by omega)) dModel_name_53 (fun H locs hM hS => ?_)
  obtain ⟨τ16, eτ16⟩ : ∃ z : Nat → Nat → Int32, z = Au τ12 29 v13.toNatClampNeg v14 := ⟨_, rfl⟩
  rw [← eτ16] at hM
  refine lv_aload_n hx hb dModel_name_54 rfl (lv_at hl 0 rfl) ?_
  refine lv_dup hx hb dModel_name_55 rfl ?_
  refine md_gI S hC hM 30 (v := nI (κ 4)) hv30 (by decide) rfl qw_8d5d48b583 dModel_name_56 ?_
  refine lv_topi (fun v17 ev17 => ?_)
  refine lv_iconst (v := 1) hx hb dModel_name_59 (by decide) ?_
  refine lv_iadd hx hb dModel_name_60 ?_
  refine lv_topi (fun v18 ev18 => ?_)
  refine md_pS S hC hM hS 30 rfl (by decide) rfl qw_8d5d48b583 rfl (by decide +kernel) dModel_name_61 (fun H locs hM hS => ?_)
  obtain ⟨ν20, eν20⟩ : ∃ z : Nat → Int32, z = upd ν 30 v18 := ⟨_, rfl⟩
  rw [← eν20] at hM
  exact hE _ _ _ _ hS ⟨_, _, hM, nm_st hT hN eτ3 eτ6 eτ9 eτ12 eτ16 (ixn ev4 (by omega)) (ixn ev7 (by omega)) eν20 (inc_n ev17 ev18) hm⟩ dModel_name_64
theorem qw_0b242dc29a : (Cond.fieldLink R_Model 108 R_Model "rootCount" "I") ∈ bs_W0 := bs_in (in_tables_1_5 (List.mem_of_getElem? (i := 161) rfl)) rfl
set_option maxHeartbeats 4000000 in
set_option maxRecDepth 100000 in
theorem m_clear (l : Launch) (γ : gE) (a : Nat) (B : Nat → Nat) (Z : Nat → Prop) (κ b mn : Nat → Nat) (ν : Nat → Int32) (τ : Nat → Nat → Int32) (σ : Nat → Int32) (F : Nat → Nat → Int32) (nu : Nat → Int64) (hT : ST κ b mn ν τ)  (hZ : SZ F) (hF : FD σ) (hG : GD F nu) : MU l yModel_clear bModel_clear 2 (some .int) 0 0 0 0 [.ref a] γ Z (MD γ a B Z ν τ σ F nu) (mQi (fun r H => r = nI (κ 0) ∧ ∃ cd : Int32, MI γ a B Z (ku (ku κ 0 0) 1 0) cd H) Z) := by
  refine mu_openI (by decide) (Nat.le_of_ble_eq_true rfl) ?_
  intro p e s m args below meth c ls Q S hnm hC hA hM hE hl
  have hS : va_S Z s.heap s.heap [] := va_S.rf
  obtain ⟨hx, hb, hml, hown, hW⟩ := id S
  obtain ⟨⟨hs0, hs1, hs2, hs3, hs4, hs5, hs6⟩, ⟨hv6, hv8, hv21, hv24, hv30, hv31⟩, hTR, hTY, hOB, hNM⟩ := id hT
  have hl : lv_has ls 2 [(0, .ref a)] := hl
  refine lv_aload_n hx hb dModel_clear_0 rfl (lv_at hl 0 rfl) ?_
  refine lv_iconst (v := 0) hx hb dModel_clear_1 (by decide) ?_
  refine md_pD S hC hM hS 0 rfl (by decide) rfl qw_53e275eed6 rfl (by decide +kernel) dModel_clear_2 (fun H locs hM hS => ?_)
  obtain ⟨σ1, eσ1⟩ : ∃ z : Nat → Int32, z = upd σ 0 0 := ⟨_, rfl⟩
  rw [← eσ1] at hM
  have hF : FD σ1 := hF.up eσ1 (by decide) (by decide)
  refine lv_aload_n hx hb dModel_clear_5 rfl (lv_at hl 0 rfl) ?_
  refine md_gI S hC hM 6 (v := nI (κ 0)) hv6 (by decide) rfl qw_f42008621b dModel_clear_6 ?_
  refine lv_topi (fun v2 ev2 => ?_)
  refine lv_istore_n (lv' := [(1, .int v2), (0, .ref a)]) hx hb dModel_clear_9 rfl hl (by decide) rfl (fun ls hl => ?_)
  refine lv_aload_n hx hb dModel_clear_10 rfl (lv_at hl 1 rfl) ?_
  refine lv_iconst (v := 0) hx hb dModel_clear_11 (by decide) ?_
  refine md_pS S hC hM hS 6 rfl (by decide) rfl qw_f42008621b rfl (by decide +kernel) dModel_clear_12 (fun H locs hM hS => ?_)
  obtain ⟨ν4, eν4⟩ : ∃ z : Nat → Int32, z = upd ν 6 0 := ⟨_, rfl⟩
  rw [← eν4] at hM
  refine lv_aload_n hx hb dModel_clear_15 rfl (lv_at hl 1 rfl) ?_
  refine lv_iconst (v := 0) hx hb dModel_clear_16 (by decide) ?_
  refine md_pS S hC hM hS 8 rfl (by decide) rfl qw_0b242dc29a rfl (by decide +kernel) dModel_clear_17 (fun H locs hM hS => ?_)
  obtain ⟨ν6, eν6⟩ : ∃ z : Nat → Int32, z = upd ν4 8 0 := ⟨_, rfl⟩
  rw [← eν6] at hM
  refine lv_iload_n hx hb dModel_clear_20 rfl (lv_at hl 0 rfl) ?_
  exact hE _ _ _ _ _ hS ⟨by assumption, _, b, mn, ν6, τ, σ1, F, nu, st_cl hT eν4 eν6, hZ, hF, hG, rfl, hM⟩ dModel_clear_21
set_option maxHeartbeats 4000000 in
set_option maxRecDepth 100000 in
theorem m_place (l : Launch) (γ : gE) (a : Nat) (B : Nat → Nat) (Z : Nat → Prop) (κ b mn : Nat → Nat) (ν : Nat → Int32) (τ : Nat → Nat → Int32) (σ : Nat → Int32) (F : Nat → Nat → Int32) (nu : Nat → Int64) (hT : ST κ b mn ν τ)  (hZ : SZ F) (hF : FD σ) (hG : GD F nu) : MU l yModel_place bModel_place 1 (some .int) 0 0 0 0 [.ref a] γ Z (MD γ a B Z ν τ σ F nu) (mQi (fun r H => ∃ (κ' : Nat → Nat) (cd : Int32), (κ' 5 = κ 5 ∧ κ' 0 = κ 0 ∧ κ' 1 = κ 1) ∧ MI γ a B Z κ' cd H) Z) := by
  refine mu_openI (by decide) (Nat.le_of_ble_eq_true rfl) ?_
  intro p e s m args below meth c ls Q S hnm hC hA hM hE hl
  have hS : va_S Z s.heap s.heap [] := va_S.rf
  obtain ⟨hx, hb, hml, hown, hW⟩ := id S
  obtain ⟨⟨hs0, hs1, hs2, hs3, hs4, hs5, hs6⟩, ⟨hv6, hv8, hv21, hv24, hv30, hv31⟩, hTR, hTY, hOB, hNM⟩ := id hT
  have hl : lv_has ls 1 [(0, .ref a)] := hl
  refine lv_aload_n hx hb dModel_place_0 rfl (lv_at hl 0 rfl) ?_
  refine lv_iconst (v := 0) hx hb dModel_place_1 (by decide) ?_
  refine md_pD S hC hM hS 0 rfl (by decide) rfl qw_53e275eed6 rfl (by decide +kernel) dModel_place_2 (fun H locs hM hS => ?_)
  obtain ⟨σ1, eσ1⟩ : ∃ z : Nat → Int32, z = upd σ 0 0 := ⟨_, rfl⟩
  rw [← eσ1] at hM
  have hF : FD σ1 := hF.up eσ1 (by decide) (by decide)
  refine lv_aload_n hx hb dModel_place_5 rfl (lv_at hl 0 rfl) ?_
  refine md_gI S hC hM 1 (v := σ1 1) rfl (by decide) rfl qw_d4a57461ea dModel_place_6 ?_
  refine lv_topi (fun v2 ev2 => ?_)
  exact hE _ _ _ _ _ hS ⟨κ, _, ⟨rfl, rfl, rfl⟩, b, mn, ν, τ, σ1, F, nu, hT, hZ, hF, hG, rfl, hM⟩ dModel_place_9
theorem qw_0ba745738d : (Cond.methodLink R_Model 288 yModel_noType) ∈ bs_W0 := bs_in (in_tables_1_6 (List.mem_of_getElem? (i := 227) rfl)) rfl
set_option maxHeartbeats 4000000 in
set_option maxRecDepth 100000 in
theorem m_typeOf (l : Launch) (γ : gE) (a : Nat) (B : Nat → Nat) (Z : Nat → Prop) (κ b mn : Nat → Nat) (ν : Nat → Int32) (τ : Nat → Nat → Int32) (σ : Nat → Int32) (F : Nat → Nat → Int32) (nu : Nat → Int64) (hT : ST κ b mn ν τ) (x1 : Int32) (x2 : Int32) (hZ : SZ F) (hF : FD σ) (hG : GD F nu) : MU l yModel_typeOf bModel_typeOf 3 (some .int) 1 21 0 0 [.ref a, .int x1, .int x2] γ Z (MD γ a B Z ν τ σ F nu) (mQi (fun r H => ∃ (κ' : Nat → Nat) (cd : Int32), (κ' 5 = κ 5 ∧ κ' 0 = κ 0 ∧ κ' 1 = κ 1) ∧ MI γ a B Z κ' cd H) Z) := by
  refine mu_openI (by decide) (Nat.le_of_ble_eq_true rfl) ?_
  intro p e s m args below meth c ls Q S hnm hC hA hM hE hl
  have hS : va_S Z s.heap s.heap [] := va_S.rf
  obtain ⟨hx, hb, hml, hown, hW⟩ := id S
  obtain ⟨⟨hs0, hs1, hs2, hs3, hs4, hs5, hs6⟩, ⟨hv6, hv8, hv21, hv24, hv30, hv31⟩, hTR, hTY, hOB, hNM⟩ := id hT
  have hl : lv_has ls 3 [(0, .ref a), (1, .int x1), (2, .int x2)] := hl
  refine lv_aload_n hx hb dModel_typeOf_0 rfl (lv_at hl 0 rfl) ?_
  refine lv_aload_n hx hb dModel_typeOf_1 rfl (lv_at hl 0 rfl) ?_
  refine lv_iload_n hx hb dModel_typeOf_2 rfl (lv_at hl 1 rfl) ?_
  refine pu_Vi (rest := [.ref a]) S hC (m_noType l γ a B Z κ b mn ν τ σ F nu hT x1 ) meModel_noType qw_0ba745738d ⟨Nat.le_of_ble_eq_true rfl, Nat.le_of_ble_eq_true rfl⟩ (md_rv hC hM) hM rfl hl.1 rfl (Nat.le_of_ble_eq_true rfl) dModel_typeOf_3 ⟨Nat.zero_le _, Nat.zero_le _⟩ (fun r1 hr1 => ?_)
  have J23 : ∀ (ls : Array Slot) (t0_23 : Int32), (0 < t0_23 ∨ (t0_23 = 0 ∧ vp_in x1 (κ 2))) → lv_has ls 3 [(0, .ref a), (1, .int x1), (2, .int x2)] → W p l e (bs_rm 1 0 0 21) s m args below meth c s.heap [] 0 0 Q (F0 m 23 ls [.int t0_23, .ref a]) := by
    intro ls t0_23 ht0_23 hl
    refine md_pD S hC hM hS 0 rfl (by decide) rfl qw_53e275eed6 rfl (by decide +kernel) dModel_typeOf_23 (fun H locs hM hS => ?_)
    obtain ⟨σ18, eσ18⟩ : ∃ z : Nat → Int32, z = upd σ 0 t0_23 := ⟨_, rfl⟩
    rw [← eσ18] at hM
    have hF : FD σ18 := hF.up eσ18 (by decide) (by decide)
    refine lv_aload_n hx hb dModel_typeOf_26 rfl (lv_at hl 0 rfl) ?_
    refine md_gI S hC hM 0 (v := σ18 0) rfl (by decide) rfl qw_53e275eed6 dModel_typeOf_27 ?_
    refine lv_topi (fun v19 ev19 => ?_)
    refine lv_if_le (tgt := 35) hx hb dModel_typeOf_30 (by decide) (fun c20 => ?_) (fun c20 => ?_)
    · have hx1 : vp_in x1 (κ 2) := cd_0 eσ18 ev19 (by assumption) ht0_23
      refine lv_iload_n hx hb dModel_typeOf_35 rfl (lv_at hl 2 rfl) ?_
      refine lv_if_ne (tgt := 48) hx hb dModel_typeOf_36 (by decide) (fun c21 => ?_) (fun c21 => ?_)
      · refine lv_iload_n hx hb dModel_typeOf_48 rfl (lv_at hl 2 rfl) ?_
        refine lv_iconst (v := 1) hx hb dModel_typeOf_49 (by decide) ?_
        refine lv_icmp_ne (tgt := 62) hx hb dModel_typeOf_50 (by decide) (fun c22 => ?_) (fun c22 => ?_)
        · refine lv_iload_n hx hb dModel_typeOf_62 rfl (lv_at hl 2 rfl) ?_
          refine lv_iconst (v := 2) hx hb dModel_typeOf_63 (by decide) ?_
          refine lv_icmp_ne (tgt := 76) hx hb dModel_typeOf_64 (by decide) (fun c23 => ?_) (fun c23 => ?_)
          · refine lv_iload_n hx hb dModel_typeOf_76 rfl (lv_at hl 2 rfl) ?_
            refine lv_iconst (v := 3) hx hb dModel_typeOf_77 (by decide) ?_
            refine lv_icmp_ne (tgt := 90) hx hb dModel_typeOf_78 (by decide) (fun c24 => ?_) (fun c24 => ?_)
            · refine lv_aload_n hx hb dModel_typeOf_90 rfl (lv_at hl 0 rfl) ?_
              refine md_gA S hC hM 20 (by decide) rfl qw_1579022aeb dModel_typeOf_91 ?_
              refine lv_iload_n hx hb dModel_typeOf_94 rfl (lv_at hl 1 rfl) ?_
              refine md_zld S hC hM 20 16 1000 (τ 20) rfl rfl (by decide) rfl rfl (vin (by assumption) (by omega)) dModel_typeOf_95 ?_
              refine lv_topi (fun v25 ev25 => ?_)
              refine lv_if_eq (tgt := 103) hx hb dModel_typeOf_96 (by decide) (fun c26 => ?_) (fun c26 => ?_)
              · refine lv_iconst (v := 0) hx hb dModel_typeOf_103 (by decide) ?_
                exact hE _ _ _ _ _ hS ⟨κ, _, ⟨rfl, rfl, rfl⟩, b, mn, ν, τ, σ18, F, nu, hT, hZ, hF, hG, rfl, hM⟩ dModel_typeOf_104
              · refine lv_iconst (v := 1) hx hb dModel_typeOf_99 (by decide) ?_
                refine lv_goto (tgt := 104) hx hb dModel_typeOf_100 (by decide) ?_
                exact hE _ _ _ _ _ hS ⟨κ, _, ⟨rfl, rfl, rfl⟩, b, mn, ν, τ, σ18, F, nu, hT, hZ, hF, hG, rfl, hM⟩ dModel_typeOf_104
            · refine lv_aload_n hx hb dModel_typeOf_81 rfl (lv_at hl 0 rfl) ?_
              refine md_gA S hC hM 19 (by decide) rfl qw_c139dbceda dModel_typeOf_82 ?_
              refine lv_iload_n hx hb dModel_typeOf_85 rfl (lv_at hl 1 rfl) ?_
              refine md_ild S hC hM 19 15 1000 (τ 19) rfl rfl (by decide) rfl rfl (vin (by assumption) (by omega)) dModel_typeOf_86 ?_
              refine lv_topi (fun v27 ev27 => ?_)
              refine lv_goto (tgt := 104) hx hb dModel_typeOf_87 (by decide) ?_
              exact hE _ _ _ _ _ hS ⟨κ, _, ⟨rfl, rfl, rfl⟩, b, mn, ν, τ, σ18, F, nu, hT, hZ, hF, hG, rfl, hM⟩ dModel_typeOf_104
          · refine lv_aload_n hx hb dModel_typeOf_67 rfl (lv_at hl 0 rfl) ?_
            refine md_gA S hC hM 18 (by decide) rfl qw_82ee92f611 dModel_typeOf_68 ?_
            refine lv_iload_n hx hb dModel_typeOf_71 rfl (lv_at hl 1 rfl) ?_
            refine md_ild S hC hM 18 14 1000 (τ 18) rfl rfl (by decide) rfl rfl (vin (by assumption) (by omega)) dModel_typeOf_72 ?_
            refine lv_topi (fun v28 ev28 => ?_)
            refine lv_goto (tgt := 104) hx hb dModel_typeOf_73 (by decide) ?_
            exact hE _ _ _ _ _ hS ⟨κ, _, ⟨rfl, rfl, rfl⟩, b, mn, ν, τ, σ18, F, nu, hT, hZ, hF, hG, rfl, hM⟩ dModel_typeOf_104
        · refine lv_aload_n hx hb dModel_typeOf_53 rfl (lv_at hl 0 rfl) ?_
          refine md_gA S hC hM 17 (by decide) rfl qw_94306de345 dModel_typeOf_54 ?_
          refine lv_iload_n hx hb dModel_typeOf_57 rfl (lv_at hl 1 rfl) ?_
          refine md_ild S hC hM 17 13 1000 (τ 17) rfl rfl (by decide) rfl rfl (vin (by assumption) (by omega)) dModel_typeOf_58 ?_
          refine lv_topi (fun v29 ev29 => ?_)
          refine lv_goto (tgt := 104) hx hb dModel_typeOf_59 (by decide) ?_
          exact hE _ _ _ _ _ hS ⟨κ, _, ⟨rfl, rfl, rfl⟩, b, mn, ν, τ, σ18, F, nu, hT, hZ, hF, hG, rfl, hM⟩ dModel_typeOf_104
      · refine lv_aload_n hx hb dModel_typeOf_39 rfl (lv_at hl 0 rfl) ?_
        refine md_gA S hC hM 16 (by decide) rfl qw_9bd8ea24bb dModel_typeOf_40 ?_
        refine lv_iload_n hx hb dModel_typeOf_43 rfl (lv_at hl 1 rfl) ?_
        refine md_ild S hC hM 16 12 1000 (τ 16) rfl rfl (by decide) rfl rfl (vin (by assumption) (by omega)) dModel_typeOf_44 ?_
        refine lv_topi (fun v30 ev30 => ?_)
        refine lv_goto (tgt := 104) hx hb dModel_typeOf_45 (by decide) ?_
        exact hE _ _ _ _ _ hS ⟨κ, _, ⟨rfl, rfl, rfl⟩, b, mn, ν, τ, σ18, F, nu, hT, hZ, hF, hG, rfl, hM⟩ dModel_typeOf_104
    · refine lv_iconst (v := 0) hx hb dModel_typeOf_33 (by decide) ?_
      exact hE _ _ _ _ _ hS ⟨κ, _, ⟨rfl, rfl, rfl⟩, b, mn, ν, τ, σ18, F, nu, hT, hZ, hF, hG, rfl, hM⟩ dModel_typeOf_34
  have J18 : ∀ (ls : Array Slot), lv_has ls 3 [(0, .ref a), (1, .int x1), (2, .int x2)] → W p l e (bs_rm 1 0 0 21) s m args below meth c s.heap [] 0 0 Q (F0 m 18 ls [.ref a]) := by
    intro ls hl
    refine lv_iconst (v := 1) hx hb dModel_typeOf_18 (by decide) ?_
    refine lv_goto (tgt := 23) hx hb dModel_typeOf_19 (by decide) ?_
    exact J23 ls 1 (by first | exact Or.inl (by decide) | exact Or.inr ⟨rfl, hr1 (by assumption)⟩) (lv_sub hl [0, 1, 2] rfl)
  refine lv_if_ne (tgt := 18) hx hb dModel_typeOf_6 (by decide) (fun c31 => ?_) (fun c31 => ?_)
  · exact J18 ls  (lv_sub hl [0, 1, 2] rfl)
  · refine lv_iload_n hx hb dModel_typeOf_9 rfl (lv_at hl 2 rfl) ?_
    refine lv_if_lt (tgt := 18) hx hb dModel_typeOf_10 (by decide) (fun c32 => ?_) (fun c32 => ?_)
    · exact J18 ls  (lv_sub hl [0, 1, 2] rfl)
    · refine lv_iload_n hx hb dModel_typeOf_13 rfl (lv_at hl 2 rfl) ?_
      refine lv_iconst (v := 4) hx hb dModel_typeOf_14 (by decide) ?_
      refine lv_icmp_le (tgt := 22) hx hb dModel_typeOf_15 (by decide) (fun c33 => ?_) (fun c33 => ?_)
      · refine lv_iconst (v := 0) hx hb dModel_typeOf_22 (by decide) ?_
        exact J23 ls 0 (by first | exact Or.inl (by decide) | exact Or.inr ⟨rfl, hr1 (by assumption)⟩) (lv_sub hl [0, 1, 2] rfl)
      · exact J18 ls  (lv_sub hl [0, 1, 2] rfl)
theorem qw_c926675227 : (Cond.methodLink R_Model 266 yModel_noNode) ∈ bs_W0 := bs_in (in_tables_1_6 (List.mem_of_getElem? (i := 47) rfl)) rfl
set_option maxHeartbeats 4000000 in
set_option maxRecDepth 100000 in
theorem m_about (l : Launch) (γ : gE) (a : Nat) (B : Nat → Nat) (Z : Nat → Prop) (κ b mn : Nat → Nat) (ν : Nat → Int32) (τ : Nat → Nat → Int32) (σ : Nat → Int32) (F : Nat → Nat → Int32) (nu : Nat → Int64) (hT : ST κ b mn ν τ) (x1 : Int32) (x2 : Int32) (hZ : SZ F) (hF : FD σ) (hG : GD F nu) : MU l yModel_about bModel_about 4 (some .int) 1 21 0 0 [.ref a, .int x1, .int x2] γ Z (MD γ a B Z ν τ σ F nu) (mQi (fun r H => ∃ (κ' : Nat → Nat) (cd : Int32), (κ' 5 = κ 5 ∧ κ' 0 = κ 0 ∧ κ' 1 = κ 1) ∧ MI γ a B Z κ' cd H) Z) := by
  refine mu_openI (by decide) (Nat.le_of_ble_eq_true rfl) ?_
  intro p e s m args below meth c ls Q S hnm hC hA hM hE hl
  have hS : va_S Z s.heap s.heap [] := va_S.rf
  obtain ⟨hx, hb, hml, hown, hW⟩ := id S
  obtain ⟨⟨hs0, hs1, hs2, hs3, hs4, hs5, hs6⟩, ⟨hv6, hv8, hv21, hv24, hv30, hv31⟩, hTR, hTY, hOB, hNM⟩ := id hT
  have hl : lv_has ls 4 [(0, .ref a), (1, .int x1), (2, .int x2)] := hl
  refine lv_aload_n hx hb dModel_about_0 rfl (lv_at hl 0 rfl) ?_
  refine lv_aload_n hx hb dModel_about_1 rfl (lv_at hl 0 rfl) ?_
  refine lv_iload_n hx hb dModel_about_2 rfl (lv_at hl 1 rfl) ?_
  refine pu_Vi (rest := [.ref a]) S hC (m_noNode l γ a B Z κ b mn ν τ σ F nu hT x1 ) meModel_noNode qw_c926675227 ⟨Nat.le_of_ble_eq_true rfl, Nat.le_of_ble_eq_true rfl⟩ (md_rv hC hM) hM rfl hl.1 rfl (Nat.le_of_ble_eq_true rfl) dModel_about_3 ⟨Nat.zero_le _, Nat.zero_le _⟩ (fun r1 hr1 => ?_)
  have J23 : ∀ (ls : Array Slot) (t0_23 : Int32), (0 < t0_23 ∨ (t0_23 = 0 ∧ vp_in x1 (κ 0))) → lv_has ls 4 [(0, .ref a), (1, .int x1), (2, .int x2)] → W p l e (bs_rm 1 0 0 21) s m args below meth c s.heap [] 0 0 Q (F0 m 23 ls [.int t0_23, .ref a]) := by
    intro ls t0_23 ht0_23 hl
    refine md_pD S hC hM hS 0 rfl (by decide) rfl qw_53e275eed6 rfl (by decide +kernel) dModel_about_23 (fun H locs hM hS => ?_)
    obtain ⟨σ19, eσ19⟩ : ∃ z : Nat → Int32, z = upd σ 0 t0_23 := ⟨_, rfl⟩
    rw [← eσ19] at hM
    have hF : FD σ19 := hF.up eσ19 (by decide) (by decide)
    refine lv_aload_n hx hb dModel_about_26 rfl (lv_at hl 0 rfl) ?_
    refine md_gI S hC hM 0 (v := σ19 0) rfl (by decide) rfl qw_53e275eed6 dModel_about_27 ?_
    refine lv_topi (fun v20 ev20 => ?_)
    refine lv_if_le (tgt := 35) hx hb dModel_about_30 (by decide) (fun c21 => ?_) (fun c21 => ?_)
    · have hx1 : vp_in x1 (κ 0) := cd_0 eσ19 ev20 (by assumption) ht0_23
      refine lv_aload_n hx hb dModel_about_35 rfl (lv_at hl 0 rfl) ?_
      refine md_gA S hC hM 15 (by decide) rfl qw_bcd494e5c6 dModel_about_36 ?_
      refine lv_iload_n hx hb dModel_about_39 rfl (lv_at hl 1 rfl) ?_
      refine md_zld S hC hM 15 11 4000 (F 15) rfl rfl (by decide) rfl rfl (vin (by assumption) (by omega)) dModel_about_40 ?_
      refine lv_topi (fun v22 ev22 => ?_)
      refine lv_if_ne (tgt := 46) hx hb dModel_about_41 (by decide) (fun c23 => ?_) (fun c23 => ?_)
      · refine lv_sipush (v := 4000) hx hb dModel_about_46 (by decide) ?_
        refine lv_iload_n hx hb dModel_about_49 rfl (lv_at hl 1 rfl) ?_
        refine lv_iadd hx hb dModel_about_50 ?_
        refine lv_topi (fun v24 ev24 => ?_)
        refine lv_istore_n (lv' := [(3, .int v24), (0, .ref a), (1, .int x1), (2, .int x2)]) hx hb dModel_about_51 rfl hl (by decide) rfl (fun ls hl => ?_)
        have h4 : vp_in v24 8000 := (vin4 (vin hx1 (by omega)) ev24).1
        refine lv_iload_n hx hb dModel_about_52 rfl (lv_at hl 3 rfl) ?_
        refine lv_if_ne (tgt := 65) hx hb dModel_about_53 (by decide) (fun c25 => ?_) (fun c25 => ?_)
        · refine lv_iload_n hx hb dModel_about_65 rfl (lv_at hl 3 rfl) ?_
          refine lv_iconst (v := 1) hx hb dModel_about_66 (by decide) ?_
          refine lv_icmp_ne (tgt := 79) hx hb dModel_about_67 (by decide) (fun c26 => ?_) (fun c26 => ?_)
          · refine lv_iload_n hx hb dModel_about_79 rfl (lv_at hl 3 rfl) ?_
            refine lv_iconst (v := 2) hx hb dModel_about_80 (by decide) ?_
            refine lv_icmp_ne (tgt := 101) hx hb dModel_about_81 (by decide) (fun c27 => ?_) (fun c27 => ?_)
            · refine lv_aload_n hx hb dModel_about_101 rfl (lv_at hl 1 rfl) ?_
              refine md_gA S hC hM 12 (by decide) rfl qw_19df235c4a dModel_about_102 ?_
              refine lv_iload_n hx hb dModel_about_105 rfl (lv_at hl 0 rfl) ?_
              refine md_ild S hC hM 12 8 10000 (F 12) rfl rfl (by decide) rfl rfl (vin (by assumption) (by omega)) dModel_about_106 ?_
              refine lv_topi (fun v28 ev28 => ?_)
              exact hE _ _ _ _ _ hS ⟨κ, _, ⟨rfl, rfl, rfl⟩, b, mn, ν, τ, σ19, F, nu, hT, hZ, hF, hG, rfl, hM⟩ dModel_about_107
            · refine lv_aload_n hx hb dModel_about_84 rfl (lv_at hl 1 rfl) ?_
              refine md_gA S hC hM 11 (by decide) rfl qw_88b9028ba7 dModel_about_85 ?_
              refine lv_iload_n hx hb dModel_about_88 rfl (lv_at hl 0 rfl) ?_
              refine md_zld S hC hM 11 7 10000 (F 11) rfl rfl (by decide) rfl rfl (vin (by assumption) (by omega)) dModel_about_89 ?_
              refine lv_topi (fun v29 ev29 => ?_)
              refine lv_if_eq (tgt := 97) hx hb dModel_about_90 (by decide) (fun c30 => ?_) (fun c30 => ?_)
              · refine lv_iconst (v := 0) hx hb dModel_about_97 (by decide) ?_
                refine lv_goto (tgt := 107) hx hb dModel_about_98 (by decide) ?_
                exact hE _ _ _ _ _ hS ⟨κ, _, ⟨rfl, rfl, rfl⟩, b, mn, ν, τ, σ19, F, nu, hT, hZ, hF, hG, rfl, hM⟩ dModel_about_107
              · refine lv_iconst (v := 1) hx hb dModel_about_93 (by decide) ?_
                refine lv_goto (tgt := 107) hx hb dModel_about_94 (by decide) ?_
                exact hE _ _ _ _ _ hS ⟨κ, _, ⟨rfl, rfl, rfl⟩, b, mn, ν, τ, σ19, F, nu, hT, hZ, hF, hG, rfl, hM⟩ dModel_about_107
          · refine lv_aload_n hx hb dModel_about_70 rfl (lv_at hl 1 rfl) ?_
            refine md_gA S hC hM 10 (by decide) rfl qw_bd0251c605 dModel_about_71 ?_
            refine lv_iload_n hx hb dModel_about_74 rfl (lv_at hl 0 rfl) ?_
            refine md_ild S hC hM 10 6 10000 (F 10) rfl rfl (by decide) rfl rfl (vin (by assumption) (by omega)) dModel_about_75 ?_
            refine lv_topi (fun v31 ev31 => ?_)
            refine lv_goto (tgt := 107) hx hb dModel_about_76 (by decide) ?_
            exact hE _ _ _ _ _ hS ⟨κ, _, ⟨rfl, rfl, rfl⟩, b, mn, ν, τ, σ19, F, nu, hT, hZ, hF, hG, rfl, hM⟩ dModel_about_107
        · refine lv_aload_n hx hb dModel_about_56 rfl (lv_at hl 1 rfl) ?_
          refine md_gA S hC hM 9 (by decide) rfl qw_a119aeeca0 dModel_about_57 ?_
          refine lv_iload_n hx hb dModel_about_60 rfl (lv_at hl 0 rfl) ?_
          refine md_ild S hC hM 9 5 10000 (F 9) rfl rfl (by decide) rfl rfl (vin (by assumption) (by omega)) dModel_about_61 ?_
          refine lv_topi (fun v32 ev32 => ?_)
          refine lv_goto (tgt := 107) hx hb dModel_about_62 (by decide) ?_
          exact hE _ _ _ _ _ hS ⟨κ, _, ⟨rfl, rfl, rfl⟩, b, mn, ν, τ, σ19, F, nu, hT, hZ, hF, hG, rfl, hM⟩ dModel_about_107
      · refine lv_iconst (v := (-1)) hx hb dModel_about_44 (by decide) ?_
        exact hE _ _ _ _ _ hS ⟨κ, _, ⟨rfl, rfl, rfl⟩, b, mn, ν, τ, σ19, F, nu, hT, hZ, hF, hG, rfl, hM⟩ dModel_about_45
    · refine lv_iconst (v := 0) hx hb dModel_about_33 (by decide) ?_
      exact hE _ _ _ _ _ hS ⟨κ, _, ⟨rfl, rfl, rfl⟩, b, mn, ν, τ, σ19, F, nu, hT, hZ, hF, hG, rfl, hM⟩ dModel_about_34
  have J18 : ∀ (ls : Array Slot), lv_has ls 4 [(0, .ref a), (1, .int x1), (2, .int x2)] → W p l e (bs_rm 1 0 0 21) s m args below meth c s.heap [] 0 0 Q (F0 m 18 ls [.ref a]) := by
    intro ls hl
    refine lv_iconst (v := 1) hx hb dModel_about_18 (by decide) ?_
    refine lv_goto (tgt := 23) hx hb dModel_about_19 (by decide) ?_
    exact J23 ls 1 (by first | exact Or.inl (by decide) | exact Or.inr ⟨rfl, hr1 (by assumption)⟩) (lv_sub hl [0, 1, 2] rfl)
  refine lv_if_ne (tgt := 18) hx hb dModel_about_6 (by decide) (fun c33 => ?_) (fun c33 => ?_)
  · exact J18 ls  (lv_sub hl [0, 1, 2] rfl)
  · refine lv_iload_n hx hb dModel_about_9 rfl (lv_at hl 2 rfl) ?_
    refine lv_if_lt (tgt := 18) hx hb dModel_about_10 (by decide) (fun c34 => ?_) (fun c34 => ?_)
    · exact J18 ls  (lv_sub hl [0, 1, 2] rfl)
    · refine lv_iload_n hx hb dModel_about_13 rfl (lv_at hl 2 rfl) ?_
      refine lv_iconst (v := 3) hx hb dModel_about_14 (by decide) ?_
      refine lv_icmp_le (tgt := 22) hx hb dModel_about_15 (by decide) (fun c35 => ?_) (fun c35 => ?_)
      · refine lv_iconst (v := 0) hx hb dModel_about_22 (by decide) ?_
        exact J23 ls 0 (by first | exact Or.inl (by decide) | exact Or.inr ⟨rfl, hr1 (by assumption)⟩) (lv_sub hl [0, 1, 2] rfl)
      · exact J18 ls  (lv_sub hl [0, 1, 2] rfl)
set_option maxHeartbeats 4000000 in
set_option maxRecDepth 100000 in
theorem m_value (l : Launch) (γ : gE) (a : Nat) (B : Nat → Nat) (Z : Nat → Prop) (κ b mn : Nat → Nat) (ν : Nat → Int32) (τ : Nat → Nat → Int32) (σ : Nat → Int32) (F : Nat → Nat → Int32) (nu : Nat → Int64) (hT : ST κ b mn ν τ) (x1 : Int32) (x2 : Int32) (hZ : SZ F) (hF : FD σ) (hG : GD F nu) : MU l yModel_value bModel_value 5 (some .int) 1 22 0 0 [.ref a, .int x1, .int x2] γ Z (MD γ a B Z ν τ σ F nu) (mQi (fun r H => ∃ (κ' : Nat → Nat) (cd : Int32), (κ' 5 = κ 5 ∧ κ' 0 = κ 0 ∧ κ' 1 = κ 1) ∧ MI γ a B Z κ' cd H) Z) := by
  refine mu_openI (by decide) (Nat.le_of_ble_eq_true rfl) ?_
  intro p e s m args below meth c ls Q S hnm hC hA hM hE hl
  have hS : va_S Z s.heap s.heap [] := va_S.rf
  obtain ⟨hx, hb, hml, hown, hW⟩ := id S
  obtain ⟨⟨hs0, hs1, hs2, hs3, hs4, hs5, hs6⟩, ⟨hv6, hv8, hv21, hv24, hv30, hv31⟩, hTR, hTY, hOB, hNM⟩ := id hT
  have hl : lv_has ls 5 [(0, .ref a), (1, .int x1), (2, .int x2)] := hl
  refine lv_aload_n hx hb dModel_value_0 rfl (lv_at hl 0 rfl) ?_
  refine lv_aload_n hx hb dModel_value_1 rfl (lv_at hl 0 rfl) ?_
  refine lv_iload_n hx hb dModel_value_2 rfl (lv_at hl 1 rfl) ?_
  refine pu_Vi (rest := [.ref a]) S hC (m_noNode l γ a B Z κ b mn ν τ σ F nu hT x1 ) meModel_noNode qw_c926675227 ⟨Nat.le_of_ble_eq_true rfl, Nat.le_of_ble_eq_true rfl⟩ (md_rv hC hM) hM rfl hl.1 rfl (Nat.le_of_ble_eq_true rfl) dModel_value_3 ⟨Nat.zero_le _, Nat.zero_le _⟩ (fun r1 hr1 => ?_)
  have J14 : ∀ (ls : Array Slot) (t0_14 : Int32), (0 < t0_14 ∨ (t0_14 = 0 ∧ vp_in x1 (κ 0))) → lv_has ls 5 [(0, .ref a), (1, .int x1), (2, .int x2)] → W p l e (bs_rm 1 0 0 22) s m args below meth c s.heap [] 0 0 Q (F0 m 14 ls [.int t0_14, .ref a]) := by
    intro ls t0_14 ht0_14 hl
    refine md_pD S hC hM hS 0 rfl (by decide) rfl qw_53e275eed6 rfl (by decide +kernel) dModel_value_14 (fun H locs hM hS => ?_)
    obtain ⟨σ26, eσ26⟩ : ∃ z : Nat → Int32, z = upd σ 0 t0_14 := ⟨_, rfl⟩
    rw [← eσ26] at hM
    have hF : FD σ26 := hF.up eσ26 (by decide) (by decide)
    refine lv_aload_n hx hb dModel_value_17 rfl (lv_at hl 0 rfl) ?_
    refine md_gI S hC hM 0 (v := σ26 0) rfl (by decide) rfl qw_53e275eed6 dModel_value_18 ?_
    refine lv_topi (fun v27 ev27 => ?_)
    refine lv_if_le (tgt := 26) hx hb dModel_value_21 (by decide) (fun c28 => ?_) (fun c28 => ?_)
    · have hx1 : vp_in x1 (κ 0) := cd_0 eσ26 ev27 (by assumption) ht0_14
      refine lv_sipush (v := 4000) hx hb dModel_value_26 (by decide) ?_
      refine lv_iload_n hx hb dModel_value_29 rfl (lv_at hl 1 rfl) ?_
      refine lv_iadd hx hb dModel_value_30 ?_
      refine lv_topi (fun v29 ev29 => ?_)
      refine lv_istore_n (lv' := [(3, .int v29), (0, .ref a), (1, .int x1), (2, .int x2)]) hx hb dModel_value_31 rfl hl (by decide) rfl (fun ls hl => ?_)
      have h4 : vp_in v29 8000 := (vin4 (vin hx1 (by omega)) ev29).1
      refine lv_aload_n hx hb dModel_value_32 rfl (lv_at hl 1 rfl) ?_
      refine md_gA S hC hM 15 (by decide) rfl qw_bcd494e5c6 dModel_value_33 ?_
      refine lv_iload_n hx hb dModel_value_36 rfl (lv_at hl 2 rfl) ?_
      refine md_zld S hC hM 15 11 4000 (F 15) rfl rfl (by decide) rfl rfl (vin (by assumption) (by omega)) dModel_value_37 ?_
      refine lv_topi (fun v30 ev30 => ?_)
      have J56 : ∀ (ls : Array Slot) (t0_56 : Int32), lv_has ls 5 [(0, .ref a), (1, .int x1), (2, .int x2), (3, .int v29)] → W p l e (bs_rm 1 0 0 22) s m args below meth c H locs 0 0 Q (F0 m 56 ls [.int t0_56]) := by
        intro ls t0_56 hl
        refine lv_istore (lv' := [(4, .int t0_56), (0, .ref a), (1, .int x1), (2, .int x2), (3, .int v29)]) hx hb dModel_value_56 hl (by decide) rfl (fun ls hl => ?_)
        refine lv_aload_n hx hb dModel_value_58 rfl (lv_at hl 1 rfl) ?_
        refine lv_iload hx hb dModel_value_59 (lv_at hl 0 rfl) ?_
        have J105 : ∀ (ls : Array Slot) (t0_105 : Int32), (0 < t0_105 ∨ (t0_105 = 0 ∧ (¬ t0_56 = 0 → vp_in x2 1000))) → lv_has ls 5 [(0, .ref a), (1, .int x1), (2, .int x2), (3, .int v29), (4, .int t0_56)] → W p l e (bs_rm 1 0 0 22) s m args below meth c H locs 0 0 Q (F0 m 105 ls [.int t0_105, .ref a]) := by
          intro ls t0_105 ht0_105 hl
          refine md_pD S hC hM hS 0 rfl (by decide) rfl qw_53e275eed6 rfl (by decide +kernel) dModel_value_105 (fun H locs hM hS => ?_)
          obtain ⟨σ64, eσ64⟩ : ∃ z : Nat → Int32, z = upd σ26 0 t0_105 := ⟨_, rfl⟩
          rw [← eσ64] at hM
          have hF : FD σ64 := hF.up eσ64 (by decide) (by decide)
          refine lv_aload_n hx hb dModel_value_108 rfl (lv_at hl 0 rfl) ?_
          refine md_gI S hC hM 0 (v := σ64 0) rfl (by decide) rfl qw_53e275eed6 dModel_value_109 ?_
          refine lv_topi (fun v65 ev65 => ?_)
          refine lv_if_le (tgt := 117) hx hb dModel_value_112 (by decide) (fun c66 => ?_) (fun c66 => ?_)
          · have hk2 : ¬ t0_56 = 0 → vp_in x2 1000 := cd_0 eσ64 ev65 (by assumption) ht0_105
            refine lv_iload hx hb dModel_value_117 (lv_at hl 4 rfl) ?_
            refine lv_if_eq (tgt := 131) hx hb dModel_value_119 (by decide) (fun c67 => ?_) (fun c67 => ?_)
            · refine lv_aload_n hx hb dModel_value_131 rfl (lv_at hl 0 rfl) ?_
              refine md_gA S hC hM 13 (by decide) rfl qw_7b809afc8c dModel_value_132 ?_
              refine lv_iload_n hx hb dModel_value_135 rfl (lv_at hl 3 rfl) ?_
              refine md_lld S hC hM (vin (by assumption) (by omega)) dModel_value_136 ?_
              refine lv_topl (fun v68 ev68 => ?_)
              have ev68 : v68 = nu v29.toNatClampNeg := ev68
              refine lv_l2i hx hb dModel_value_137 rfl ?_
              refine lv_topi (fun v69 ev69 => ?_)
              exact hE _ _ _ _ _ hS ⟨κ, _, ⟨rfl, rfl, rfl⟩, b, mn, ν, τ, σ64, F, nu, hT, hZ, hF, hG, rfl, hM⟩ dModel_value_138
            · have hx2 := hk2 (by assumption)
              refine lv_aload_n hx hb dModel_value_122 rfl (lv_at hl 0 rfl) ?_
              refine lv_iload_n hx hb dModel_value_123 rfl (lv_at hl 3 rfl) ?_
              refine lv_iload_n hx hb dModel_value_124 rfl (lv_at hl 2 rfl) ?_
              refine pu_Vi (rest := []) S hC (m_element l γ a B Z κ b mn ν τ σ64 F nu hT v29 x2 (el_in (by assumption) (by assumption) (by omega))) meModel_element qw_ceb3d87d61 ⟨Nat.le_of_ble_eq_true rfl, Nat.le_of_ble_eq_true rfl⟩ (md_rv hC hM) hM rfl hl.1 rfl (Nat.le_of_ble_eq_true rfl) dModel_value_125 ⟨Nat.zero_le _, Nat.zero_le _⟩ (fun r70 hr70 => ?_)
              refine lv_goto (tgt := 138) hx hb dModel_value_128 (by decide) ?_
              exact hE _ _ _ _ _ hS ⟨κ, _, ⟨rfl, rfl, rfl⟩, b, mn, ν, τ, σ64, F, nu, hT, hZ, hF, hG, rfl, hM⟩ dModel_value_138
          · refine lv_iconst (v := 0) hx hb dModel_value_115 (by decide) ?_
            exact hE _ _ _ _ _ hS ⟨κ, _, ⟨rfl, rfl, rfl⟩, b, mn, ν, τ, σ64, F, nu, hT, hZ, hF, hG, rfl, hM⟩ dModel_value_116
        have J82 : ∀ (ls : Array Slot), (¬ t0_56 = 0 → vp_in x2 1000) → lv_has ls 5 [(0, .ref a), (1, .int x1), (2, .int x2), (3, .int v29), (4, .int t0_56)] → W p l e (bs_rm 1 0 0 22) s m args below meth c H locs 0 0 Q (F0 m 82 ls [.ref a]) := by
          intro ls h82 hl
          refine lv_aload_n hx hb dModel_value_82 rfl (lv_at hl 0 rfl) ?_
          refine md_gA S hC hM 15 (by decide) rfl qw_bcd494e5c6 dModel_value_83 ?_
          refine lv_iload_n hx hb dModel_value_86 rfl (lv_at hl 1 rfl) ?_
          refine md_zld S hC hM 15 11 4000 (F 15) rfl rfl (by decide) rfl rfl (vin (by assumption) (by omega)) dModel_value_87 ?_
          refine lv_topi (fun v71 ev71 => ?_)
          have J100 : ∀ (ls : Array Slot), lv_has ls 5 [(0, .ref a), (1, .int x1), (2, .int x2), (3, .int v29), (4, .int t0_56)] → W p l e (bs_rm 1 0 0 22) s m args below meth c H locs 0 0 Q (F0 m 100 ls [.ref a]) := by
            intro ls hl
            refine lv_iconst (v := 2) hx hb dModel_value_100 (by decide) ?_
            refine lv_goto (tgt := 105) hx hb dModel_value_101 (by decide) ?_
            exact J105 ls 2 (by first | exact Or.inl (by decide) | exact Or.inr ⟨rfl, h82⟩) (lv_sub hl [0, 1, 2, 3, 4] rfl)
          refine lv_if_eq (tgt := 100) hx hb dModel_value_88 (by decide) (fun c75 => ?_) (fun c75 => ?_)
          · exact J100 ls  (lv_sub hl [0, 1, 2, 3, 4] rfl)
          · refine lv_aload_n hx hb dModel_value_91 rfl (lv_at hl 0 rfl) ?_
            refine md_gA S hC hM 11 (by decide) rfl qw_88b9028ba7 dModel_value_92 ?_
            refine lv_iload_n hx hb dModel_value_95 rfl (lv_at hl 3 rfl) ?_
            refine md_zld S hC hM 11 7 10000 (F 11) rfl rfl (by decide) rfl rfl (vin (by assumption) (by omega)) dModel_value_96 ?_
            refine lv_topi (fun v76 ev76 => ?_)
            refine lv_if_ne (tgt := 104) hx hb dModel_value_97 (by decide) (fun c77 => ?_) (fun c77 => ?_)
            · refine lv_iconst (v := 0) hx hb dModel_value_104 (by decide) ?_
              exact J105 ls 0 (by first | exact Or.inl (by decide) | exact Or.inr ⟨rfl, h82⟩) (lv_sub hl [0, 1, 2, 3, 4] rfl)
            · exact J100 ls  (lv_sub hl [0, 1, 2, 3, 4] rfl)
        refine lv_if_eq (tgt := 82) hx hb dModel_value_61 (by decide) (fun c78 => ?_) (fun c78 => ?_)
        · exact J82 ls (by first | exact (fun h9 => absurd (by assumption) h9) | exact (fun _ => vsz hZ (vix (vin h4 (by omega))) (by assumption) (by assumption) (lt_nge (by assumption)))) (lv_sub hl [1, 2, 3, 4, 0] rfl)
        · refine lv_iload_n hx hb dModel_value_64 rfl (lv_at hl 3 rfl) ?_
          have J78 : ∀ (ls : Array Slot), lv_has ls 5 [(0, .ref a), (1, .int x1), (2, .int x2), (3, .int v29), (4, .int t0_56)] → W p l e (bs_rm 1 0 0 22) s m args below meth c H locs 0 0 Q (F0 m 78 ls [.ref a]) := by
            intro ls hl
            refine lv_iconst (v := 1) hx hb dModel_value_78 (by decide) ?_
            refine lv_goto (tgt := 105) hx hb dModel_value_79 (by decide) ?_
            exact J105 ls 1 (by first | exact Or.inl (by decide) | exact Or.inr ⟨rfl, h82⟩) (lv_sub hl [0, 1, 2, 3, 4] rfl)
          refine lv_if_lt (tgt := 78) hx hb dModel_value_65 (by decide) (fun c82 => ?_) (fun c82 => ?_)
          · exact J78 ls  (lv_sub hl [1, 2, 3, 4, 0] rfl)
          · refine lv_iload_n hx hb dModel_value_68 rfl (lv_at hl 3 rfl) ?_
            refine lv_aload_n hx hb dModel_value_69 rfl (lv_at hl 1 rfl) ?_
            refine md_gA S hC hM 10 (by decide) rfl qw_bd0251c605 dModel_value_70 ?_
            refine lv_iload_n hx hb dModel_value_73 rfl (lv_at hl 4 rfl) ?_
            refine md_ild S hC hM 10 6 10000 (F 10) rfl rfl (by decide) rfl rfl (vin (by assumption) (by omega)) dModel_value_74 ?_
            refine lv_topi (fun v83 ev83 => ?_)
            refine lv_icmp_lt (tgt := 82) hx hb dModel_value_75 (by decide) (fun c84 => ?_) (fun c84 => ?_)
            · exact J82 ls (by first | exact (fun h9 => absurd (by assumption) h9) | exact (fun _ => vsz hZ (vix (vin h4 (by omega))) (by assumption) (by assumption) (lt_nge (by assumption)))) (lv_sub hl [1, 2, 3, 4, 0] rfl)
            · exact J78 ls  (lv_sub hl [1, 2, 3, 4, 0] rfl)
      have J55 : ∀ (ls : Array Slot), lv_has ls 5 [(0, .ref a), (1, .int x1), (2, .int x2), (3, .int v29)] → W p l e (bs_rm 1 0 0 22) s m args below meth c H locs 0 0 Q (F0 m 55 ls []) := by
        intro ls hl
        refine lv_iconst (v := 0) hx hb dModel_value_55 (by decide) ?_
        exact J56 ls 0 (lv_sub hl [0, 1, 2, 3] rfl)
      refine lv_if_eq (tgt := 55) hx hb dModel_value_38 (by decide) (fun c85 => ?_) (fun c85 => ?_)
      · exact J55 ls  (lv_sub hl [1, 2, 3, 0] rfl)
      · refine lv_aload_n hx hb dModel_value_41 rfl (lv_at hl 1 rfl) ?_
        refine md_gA S hC hM 9 (by decide) rfl qw_a119aeeca0 dModel_value_42 ?_
        refine lv_iload_n hx hb dModel_value_45 rfl (lv_at hl 0 rfl) ?_
        refine md_ild S hC hM 9 5 10000 (F 9) rfl rfl (by decide) rfl rfl (vin (by assumption) (by omega)) dModel_value_46 ?_
        refine lv_topi (fun v86 ev86 => ?_)
        refine lv_iconst (v := 3) hx hb dModel_value_47 (by decide) ?_
        refine lv_icmp_ne (tgt := 55) hx hb dModel_value_48 (by decide) (fun c87 => ?_) (fun c87 => ?_)
        · exact J55 ls  (lv_sub hl [1, 2, 3, 0] rfl)
        · refine lv_iconst (v := 1) hx hb dModel_value_51 (by decide) ?_
          refine lv_goto (tgt := 56) hx hb dModel_value_52 (by decide) ?_
          exact J56 ls 1 (lv_sub hl [1, 2, 3, 0] rfl)
    · refine lv_iconst (v := 0) hx hb dModel_value_24 (by decide) ?_
      exact hE _ _ _ _ _ hS ⟨κ, _, ⟨rfl, rfl, rfl⟩, b, mn, ν, τ, σ26, F, nu, hT, hZ, hF, hG, rfl, hM⟩ dModel_value_25
  refine lv_if_eq (tgt := 13) hx hb dModel_value_6 (by decide) (fun c88 => ?_) (fun c88 => ?_)
  · refine lv_iconst (v := 0) hx hb dModel_value_13 (by decide) ?_
    exact J14 ls 0 (by first | exact Or.inl (by decide) | exact Or.inr ⟨rfl, hr1 (by assumption)⟩) (lv_sub hl [0, 1, 2] rfl)
  · refine lv_iconst (v := 1) hx hb dModel_value_9 (by decide) ?_
    refine lv_goto (tgt := 14) hx hb dModel_value_10 (by decide) ?_
    exact J14 ls 1 (by first | exact Or.inl (by decide) | exact Or.inr ⟨rfl, hr1 (by assumption)⟩) (lv_sub hl [0, 1, 2] rfl)
