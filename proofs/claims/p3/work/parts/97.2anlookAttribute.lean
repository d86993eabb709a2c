set_option maxHeartbeats 4000000 in
set_option maxRecDepth 100000 in
theorem m_lookAttribute (l : Launch) (γ : gE) (a : Nat) (B : Nat → Nat) (Z : Nat → Prop) (κ b mn : Nat → Nat) (ν : Nat → Int32) (τ : Nat → Nat → Int32) (σ : Nat → Int32) (F : Nat → Nat → Int32) (nu : Nat → Int64) (hT : ST κ b mn ν τ) (x1 : Int32) (hx1 : vp_in x1 (κ 0)) (hZ : SZ F) (hF : FD σ) : MU l yModel_lookAttribute bModel_lookAttribute 5 (some .int) 3 70 0 0 [.ref a, .int x1] γ Z (MD γ a B Z ν τ σ F nu) (mQi (fun r H => LKo γ a B Z ν τ x1.toNatClampNeg F nu r H) Z) := by
  refine mu_openI (by decide) (Nat.le_of_ble_eq_true rfl) ?_
  intro p e s m args below meth c ls Q S hnm hC hA hM hE hl
  have hS : va_S Z s.heap s.heap [] := va_S.rf
  obtain ⟨hx, hb, hml, hown, hW⟩ := id S
  obtain ⟨⟨hs0, hs1, hs2, hs3, hs4, hs5, hs6⟩, ⟨hv6, hv8, hv21, hv24, hv30, hv31⟩, hTR, hTY, hOB, hNM⟩ := id hT
  have hL : SL x1.toNatClampNeg F nu F nu := SL.rf
  have hl : lv_has ls 5 [(0, .ref a), (1, .int x1)] := hl
  refine lv_aload_n hx hb dModel_lookAttribute_0 rfl (lv_at hl 0 rfl) ?_
  refine md_gA S hC hM 4 (by decide) rfl qw_a8caa30de3 dModel_lookAttribute_1 ?_
  refine lv_iload_n hx hb dModel_lookAttribute_4 rfl (lv_at hl 1 rfl) ?_
  refine md_ild S hC hM 4 2 4000 (τ 4) rfl rfl (by decide) rfl rfl (vin (by assumption) (by omega)) dModel_lookAttribute_5 ?_
  refine lv_topi (fun v1 ev1 => ?_)
  refine lv_iconst (v := 1) hx hb dModel_lookAttribute_6 (by decide) ?_
  refine lv_icmp_ne (tgt := 59) hx hb dModel_lookAttribute_7 (by decide) (fun c2 => ?_) (fun c2 => ?_)
  · refine lv_bipush (v := 11) hx hb dModel_lookAttribute_59 (by decide) ?_
    exact hE _ _ _ _ _ hS ⟨σ, F, nu, hM, hZ, hF, hL, (fun h9 => absurd (show (0 : Int32) < 11 by decide) h9)⟩ dModel_lookAttribute_61
  · have hm1 := mn_eq1 hTR hx1 ev1 (by assumption)
    refine lv_aload_n hx hb dModel_lookAttribute_10 rfl (lv_at hl 0 rfl) ?_
    refine md_gA S hC hM 2 (by decide) rfl qw_3471296067 dModel_lookAttribute_11 ?_
    refine lv_iload_n hx hb dModel_lookAttribute_14 rfl (lv_at hl 1 rfl) ?_
    refine lv_iconst (v := 1) hx hb dModel_lookAttribute_15 (by decide) ?_
    refine lv_isub hx hb dModel_lookAttribute_16 ?_
    refine lv_topi (fun v3 ev3 => ?_)
    refine md_ild S hC hM 2 0 4000 (τ 2) rfl rfl (by decide) rfl rfl (vin (pr_in hTR hs0 hx1 (by omega) ev3) (by omega)) dModel_lookAttribute_17 ?_
    refine lv_topi (fun v4 ev4 => ?_)
    refine lv_iconst (v := 1) hx hb dModel_lookAttribute_18 (by decide) ?_
    refine lv_icmp_ne (tgt := 59) hx hb dModel_lookAttribute_19 (by decide) (fun c5 => ?_) (fun c5 => ?_)
    · refine lv_bipush (v := 11) hx hb dModel_lookAttribute_59 (by decide) ?_
      exact hE _ _ _ _ _ hS ⟨σ, F, nu, hM, hZ, hF, hL, (fun h9 => absurd (show (0 : Int32) < 11 by decide) h9)⟩ dModel_lookAttribute_61
    · refine lv_aload_n hx hb dModel_lookAttribute_22 rfl (lv_at hl 0 rfl) ?_
      refine md_gA S hC hM 4 (by decide) rfl qw_a8caa30de3 dModel_lookAttribute_23 ?_
      refine lv_iload_n hx hb dModel_lookAttribute_26 rfl (lv_at hl 1 rfl) ?_
      refine lv_iconst (v := 1) hx hb dModel_lookAttribute_27 (by decide) ?_
      refine lv_isub hx hb dModel_lookAttribute_28 ?_
      refine lv_topi (fun v6 ev6 => ?_)
      refine md_ild S hC hM 4 2 4000 (τ 4) rfl rfl (by decide) rfl rfl (vin (pr_in hTR hs0 hx1 (by omega) ev6) (by omega)) dModel_lookAttribute_29 ?_
      refine lv_topi (fun v7 ev7 => ?_)
      refine lv_if_gt (tgt := 59) hx hb dModel_lookAttribute_30 (by decide) (fun c8 => ?_) (fun c8 => ?_)
      · refine lv_bipush (v := 11) hx hb dModel_lookAttribute_59 (by decide) ?_
        exact hE _ _ _ _ _ hS ⟨σ, F, nu, hM, hZ, hF, hL, (fun h9 => absurd (show (0 : Int32) < 11 by decide) h9)⟩ dModel_lookAttribute_61
      · refine lv_aload_n hx hb dModel_lookAttribute_33 rfl (lv_at hl 0 rfl) ?_
        refine md_gA S hC hM 3 (by decide) rfl qw_9fb851a5fa dModel_lookAttribute_34 ?_
        refine lv_iload_n hx hb dModel_lookAttribute_37 rfl (lv_at hl 1 rfl) ?_
        refine lv_iconst (v := 1) hx hb dModel_lookAttribute_38 (by decide) ?_
        refine lv_isub hx hb dModel_lookAttribute_39 ?_
        refine lv_topi (fun v9 ev9 => ?_)
        refine md_ild S hC hM 3 1 4000 (τ 3) rfl rfl (by decide) rfl rfl (vin (pr_in hTR hs0 hx1 (by omega) ev9) (by omega)) dModel_lookAttribute_40 ?_
        refine lv_topi (fun v10 ev10 => ?_)
        refine lv_bipush (v := 15) hx hb dModel_lookAttribute_41 (by decide) ?_
        refine lv_icmp_lt (tgt := 59) hx hb dModel_lookAttribute_43 (by decide) (fun c11 => ?_) (fun c11 => ?_)
        · refine lv_bipush (v := 11) hx hb dModel_lookAttribute_59 (by decide) ?_
          exact hE _ _ _ _ _ hS ⟨σ, F, nu, hM, hZ, hF, hL, (fun h9 => absurd (show (0 : Int32) < 11 by decide) h9)⟩ dModel_lookAttribute_61
        · refine lv_aload_n hx hb dModel_lookAttribute_46 rfl (lv_at hl 0 rfl) ?_
          refine md_gA S hC hM 3 (by decide) rfl qw_9fb851a5fa dModel_lookAttribute_47 ?_
          refine lv_iload_n hx hb dModel_lookAttribute_50 rfl (lv_at hl 1 rfl) ?_
          refine lv_iconst (v := 1) hx hb dModel_lookAttribute_51 (by decide) ?_
          refine lv_isub hx hb dModel_lookAttribute_52 ?_
          refine lv_topi (fun v12 ev12 => ?_)
          refine md_ild S hC hM 3 1 4000 (τ 3) rfl rfl (by decide) rfl rfl (vin (pr_in hTR hs0 hx1 (by omega) ev12) (by omega)) dModel_lookAttribute_53 ?_
          refine lv_topi (fun v13 ev13 => ?_)
          refine lv_bipush (v := 22) hx hb dModel_lookAttribute_54 (by decide) ?_
          refine lv_icmp_le (tgt := 62) hx hb dModel_lookAttribute_56 (by decide) (fun c14 => ?_) (fun c14 => ?_)
          · refine lv_aload_n hx hb dModel_lookAttribute_62 rfl (lv_at hl 0 rfl) ?_
            refine lv_aload_n hx hb dModel_lookAttribute_63 rfl (lv_at hl 0 rfl) ?_
            refine md_gA S hC hM 3 (by decide) rfl qw_9fb851a5fa dModel_lookAttribute_64 ?_
            refine lv_iload_n hx hb dModel_lookAttribute_67 rfl (lv_at hl 1 rfl) ?_
            refine md_ild S hC hM 3 1 4000 (τ 3) rfl rfl (by decide) rfl rfl (vin (by assumption) (by omega)) dModel_lookAttribute_68 ?_
            refine lv_topi (fun v15 ev15 => ?_)
            refine mu_Vv (rest := []) S hC (fun q h => hA q (Nat.le_trans hS.1 h)) (fun q h => h) hS (m_find l γ a B Z κ b mn ν τ σ F nu hT v15 ) meModel_find qw_ece0c598e8 ⟨Nat.le_of_ble_eq_true rfl, Nat.le_of_ble_eq_true rfl⟩ (md_rv hC hM) hM rfl hl.1 rfl (Nat.le_of_ble_eq_true rfl) dModel_lookAttribute_69 ⟨Nat.le_refl _, Nat.le_refl _⟩ (fun H locs hPO hS _ _ => ?_)
            obtain ⟨σr16, hM, hF⟩ := hPO
            refine lv_aload_n hx hb dModel_lookAttribute_72 rfl (lv_at hl 0 rfl) ?_
            refine md_gI S hC hM 32 (v := σr16 32) rfl (by decide) rfl qw_9d5e299446 dModel_lookAttribute_73 ?_
            refine lv_topi (fun v17 ev17 => ?_)
            refine lv_iconst (v := 5) hx hb dModel_lookAttribute_76 (by decide) ?_
            refine lv_icmp_ne (tgt := 82) hx hb dModel_lookAttribute_77 (by decide) (fun c18 => ?_) (fun c18 => ?_)
            · refine lv_aload_n hx hb dModel_lookAttribute_82 rfl (lv_at hl 0 rfl) ?_
              refine md_gI S hC hM 32 (v := σr16 32) rfl (by decide) rfl qw_9d5e299446 dModel_lookAttribute_83 ?_
              refine lv_topi (fun v19 ev19 => ?_)
              refine lv_iconst (v := 1) hx hb dModel_lookAttribute_86 (by decide) ?_
              refine lv_icmp_eq (tgt := 92) hx hb dModel_lookAttribute_87 (by decide) (fun c20 => ?_) (fun c20 => ?_)
              · obtain ⟨o, ho, hoe⟩ := hF.1 (ev19.symm.trans (by assumption))
                refine lv_aload_n hx hb dModel_lookAttribute_92 rfl (lv_at hl 0 rfl) ?_
                refine md_gI S hC hM 33 (v := σr16 33) rfl (by decide) rfl qw_c60a40a4a7 dModel_lookAttribute_93 ?_
                refine lv_topi (fun v21 ev21 => ?_)
                refine lv_istore_n (lv' := [(2, .int v21), (0, .ref a), (1, .int x1)]) hx hb dModel_lookAttribute_96 rfl hl (by decide) rfl (fun ls hl => ?_)
                have hio : vp_in v21 2000 := vin_of (ev21.trans hoe) ho (by omega)
                refine lv_aload_n hx hb dModel_lookAttribute_97 rfl (lv_at hl 1 rfl) ?_
                refine md_gA S hC hM 23 (by decide) rfl qw_bd9bcb35cb dModel_lookAttribute_98 ?_
                refine lv_iload_n hx hb dModel_lookAttribute_101 rfl (lv_at hl 0 rfl) ?_
                refine md_ild S hC hM 23 18 2000 (τ 23) rfl rfl (by decide) rfl rfl hio dModel_lookAttribute_102 ?_
                refine lv_topi (fun v22 ev22 => ?_)
                refine lv_istore_n (lv' := [(3, .int v22), (2, .int v21), (0, .ref a), (1, .int x1)]) hx hb dModel_lookAttribute_103 rfl hl (by decide) rfl (fun ls hl => ?_)
                have hit : vp_in v22 1000 := ob_in hOB hio ev22
                refine lv_aload_n hx hb dModel_lookAttribute_104 rfl (lv_at hl 2 rfl) ?_
                refine md_gA S hC hM 3 (by decide) rfl qw_9fb851a5fa dModel_lookAttribute_105 ?_
                refine lv_iload_n hx hb dModel_lookAttribute_108 rfl (lv_at hl 3 rfl) ?_
                refine lv_iconst (v := 1) hx hb dModel_lookAttribute_109 (by decide) ?_
                refine lv_isub hx hb dModel_lookAttribute_110 ?_
                refine lv_topi (fun v23 ev23 => ?_)
                refine md_ild S hC hM 3 1 4000 (τ 3) rfl rfl (by decide) rfl rfl (vin (pr_in hTR hs0 hx1 (by omega) ev23) (by omega)) dModel_lookAttribute_111 ?_
                refine lv_topi (fun v24 ev24 => ?_)
                refine lv_istore (lv' := [(4, .int v24), (3, .int v22), (2, .int v21), (0, .ref a), (1, .int x1)]) hx hb dModel_lookAttribute_112 hl (by decide) rfl (fun ls hl => ?_)
                refine lv_iload hx hb dModel_lookAttribute_114 (lv_at hl 0 rfl) ?_
                refine lv_bipush (v := 18) hx hb dModel_lookAttribute_116 (by decide) ?_
                have J279 : ∀ (ls : Array Slot) (H : Heap) (locs : List Loc) (F_279 : Nat → Nat → Int32) (nu_279 : Nat → Int64), MD γ a B Z ν τ σr16 F_279 nu_279 H → va_S Z s.heap H locs → (GK x1.toNatClampNeg F_279 nu_279) → (SL x1.toNatClampNeg F nu F_279 nu_279) → (SZ F_279) → lv_has ls 5 [(0, .ref a), (1, .int x1), (2, .int v21), (3, .int v22), (4, .int v24)] → W p l e (bs_rm 3 0 0 70) s m args below meth c H locs 0 0 Q (F0 m 279 ls []) := by
                  intro ls H locs F_279 nu_279 hM hS hK hL hZ hl
                  refine lv_aload_n hx hb dModel_lookAttribute_279 rfl (lv_at hl 0 rfl) ?_
                  refine md_gA S hC hM 12 (by decide) rfl qw_19df235c4a dModel_lookAttribute_280 ?_
                  refine lv_iload_n hx hb dModel_lookAttribute_283 rfl (lv_at hl 1 rfl) ?_
                  refine lv_iload_n hx hb dModel_lookAttribute_284 rfl (lv_at hl 2 rfl) ?_
                  refine md_istD S hC hM hS 12 8 10000 rfl rfl (by decide) rfl rfl (vin (by assumption) (by omega)) dModel_lookAttribute_285 (fun H locs hM hS => ?_)
                  obtain ⟨F54, eF54⟩ : ∃ z : Nat → Nat → Int32, z = Au F_279 12 x1.toNatClampNeg v21 := ⟨_, rfl⟩
                  rw [← eF54] at hM
                  have hZ : SZ F54 := hZ.au eF54 (by decide)
                  have hL : SL x1.toNatClampNeg F nu F54 nu_279 := hL.au eF54 (by decide)
                  have hK : GK x1.toNatClampNeg F54 nu_279 := hK.au eF54 (by decide)
                  refine lv_iconst (v := 0) hx hb dModel_lookAttribute_286 (by decide) ?_
                  exact hE _ _ _ _ _ hS ⟨σr16, F54, nu_279, hM, hZ, hF, hL, (fun _ => hK)⟩ dModel_lookAttribute_287
                refine lv_icmp_ge (tgt := 160) hx hb dModel_lookAttribute_118 (by decide) (fun c55 => ?_) (fun c55 => ?_)
                · refine lv_aload_n hx hb dModel_lookAttribute_160 rfl (lv_at hl 3 rfl) ?_
                  refine md_gA S hC hM 16 (by decide) rfl qw_9bd8ea24bb dModel_lookAttribute_161 ?_
                  refine lv_iload_n hx hb dModel_lookAttribute_164 rfl (lv_at hl 1 rfl) ?_
                  refine md_ild S hC hM 16 12 1000 (τ 16) rfl rfl (by decide) rfl rfl (vin (by assumption) (by omega)) dModel_lookAttribute_165 ?_
                  refine lv_topi (fun v56 ev56 => ?_)
                  refine lv_iconst (v := 3) hx hb dModel_lookAttribute_166 (by decide) ?_
                  refine lv_icmp_eq (tgt := 172) hx hb dModel_lookAttribute_167 (by decide) (fun c57 => ?_) (fun c57 => ?_)
                  · obtain ⟨lo, hi, cn, h17, h18, h19, hlo, hhi, hd1, hd2, hcn, hup, hdn⟩ := hTY _ (vix hit) (ev56.symm.trans (by assumption))
                    have k17 : ∀ v : Int32, v = τ 17 v22.toNatClampNeg → ∃ j, j < 2 ^ 31 ∧ v = nI j := fun v h9 => ⟨lo, hlo, h9.trans h17⟩
                    have k18 : ∀ v : Int32, v = τ 18 v22.toNatClampNeg → ∃ j, j < 2 ^ 31 ∧ v = nI j := fun v h9 => ⟨hi, hhi, h9.trans h18⟩
                    have k19 : ∀ v : Int32, v = τ 19 v22.toNatClampNeg → ∃ j, j < 2 ^ 31 ∧ v = nI j := fun v h9 => ⟨cn, by omega, h9.trans h19⟩
                    refine lv_aload_n hx hb dModel_lookAttribute_172 rfl (lv_at hl 3 rfl) ?_
                    refine lv_iload_n hx hb dModel_lookAttribute_173 rfl (lv_at hl 4 rfl) ?_
                    refine lv_iconst (v := 2) hx hb dModel_lookAttribute_174 (by decide) ?_
                    refine lv_iconst (v := 0) hx hb dModel_lookAttribute_175 (by decide) ?_
                    refine lv_iconst (v := 1) hx hb dModel_lookAttribute_176 (by decide) ?_
                    have hnr58 : ∃ j, j ≤ 1000 ∧ 0 = nI j := ⟨0, by omega, rfl⟩
                    refine mu_Vv (rest := []) S hC (fun q h => hA q (Nat.le_trans hS.1 h)) (fun q h => h) hS (m_fact l γ a B Z κ b mn ν τ σr16 F nu hT x1 2 0 1 (vin (by assumption) (by omega)) hnr58) meModel_fact qw_02871250ec ⟨Nat.le_of_ble_eq_true rfl, Nat.le_of_ble_eq_true rfl⟩ (md_rv hC hM) hM rfl hl.1 rfl (Nat.le_of_ble_eq_true rfl) dModel_lookAttribute_177 ⟨Nat.le_refl _, Nat.le_refl _⟩ (fun H locs hPO hS _ _ => ?_)
                    obtain ⟨Fr58, nur58, hM, hqr58, hcr58⟩ := hPO
                    have hZ : SZ Fr58 := hZ.slt hqr58 hnr58
                    have hL : SL x1.toNatClampNeg F nu Fr58 nur58 := hL.trans (SL.slt hqr58)
                    have hK : GK x1.toNatClampNeg Fr58 nur58 := GK.zero hqr58
                    refine lv_aload_n hx hb dModel_lookAttribute_180 rfl (lv_at hl 3 rfl) ?_
                    refine md_gA S hC hM 13 (by decide) rfl qw_7b809afc8c dModel_lookAttribute_181 ?_
                    refine lv_iload_n hx hb dModel_lookAttribute_184 rfl (lv_at hl 4 rfl) ?_
                    refine lv_iload hx hb dModel_lookAttribute_185 (lv_at hl 0 rfl) ?_
                    refine lv_bipush (v := 18) hx hb dModel_lookAttribute_187 (by decide) ?_
                    have J278 : ∀ (ls : Array Slot) (t0_278 : Int64), (-2147483648 < t0_278.toInt ∧ t0_278.toInt < 2147483648) → lv_has ls 5 [(0, .ref a), (1, .int x1), (2, .int v21), (3, .int v22), (4, .int v24)] → W p l e (bs_rm 3 0 0 70) s m args below meth c H locs 0 0 Q (F0 m 278 ls [.long t0_278, .int x1, .ref (B 13)]) := by
                      intro ls t0_278 ht0_278 hl
                      have hgnu78 : Fr58 9 x1.toNatClampNeg = 2 → -2147483648 < (t0_278 : Int64).toInt ∧ (t0_278 : Int64).toInt < 2147483648 := (fun _ => ht0_278)
                      refine md_lst S hC hM hS (vin (by assumption) (by omega)) dModel_lookAttribute_278 (fun H locs hM hS => ?_)
                      obtain ⟨nu78, enu78⟩ : ∃ z : Nat → Int64, z = vp_updL nur58 x1.toNatClampNeg t0_278 := ⟨_, rfl⟩
                      rw [← enu78] at hM
                      have hL : SL x1.toNatClampNeg F nu Fr58 nu78 := hL.trans (by rw [enu78]; exact SL.num)
                      have hK : GK x1.toNatClampNeg Fr58 nu78 := by rw [enu78]; exact GK.num hgnu78
                      exact J279 ls _ _ Fr58 nu78 hM hS hK hL hZ (lv_sub hl [0, 1, 2, 3, 4] rfl)
                    refine lv_icmp_ne (tgt := 202) hx hb dModel_lookAttribute_189 (by decide) (fun c79 => ?_) (fun c79 => ?_)
                    · refine lv_iload hx hb dModel_lookAttribute_202 (lv_at hl 0 rfl) ?_
                      refine lv_bipush (v := 19) hx hb dModel_lookAttribute_204 (by decide) ?_
                      refine lv_icmp_ne (tgt := 219) hx hb dModel_lookAttribute_206 (by decide) (fun c80 => ?_) (fun c80 => ?_)
                      · refine lv_iload hx hb dModel_lookAttribute_219 (lv_at hl 0 rfl) ?_
                        refine lv_bipush (v := 20) hx hb dModel_lookAttribute_221 (by decide) ?_
                        refine lv_icmp_ne (tgt := 236) hx hb dModel_lookAttribute_223 (by decide) (fun c81 => ?_) (fun c81 => ?_)
                        · refine lv_iload hx hb dModel_lookAttribute_236 (lv_at hl 0 rfl) ?_
                          refine lv_bipush (v := 21) hx hb dModel_lookAttribute_238 (by decide) ?_
                          refine lv_icmp_ne (tgt := 262) hx hb dModel_lookAttribute_240 (by decide) (fun c82 => ?_) (fun c82 => ?_)
                          · refine lv_aload_n hx hb dModel_lookAttribute_262 rfl (lv_at hl 3 rfl) ?_
                            refine md_gA S hC hM 17 (by decide) rfl qw_94306de345 dModel_lookAttribute_263 ?_
                            refine lv_iload_n hx hb dModel_lookAttribute_266 rfl (lv_at hl 1 rfl) ?_
                            refine md_ild S hC hM 17 13 1000 (τ 17) rfl rfl (by decide) rfl rfl (vin (by assumption) (by omega)) dModel_lookAttribute_267 ?_
                            refine lv_topi (fun v83 ev83 => ?_)
                            refine lv_aload_n hx hb dModel_lookAttribute_268 rfl (lv_at hl 3 rfl) ?_
                            refine md_gA S hC hM 18 (by decide) rfl qw_82ee92f611 dModel_lookAttribute_269 ?_
                            refine lv_iload_n hx hb dModel_lookAttribute_272 rfl (lv_at hl 1 rfl) ?_
                            refine md_ild S hC hM 18 14 1000 (τ 18) rfl rfl (by decide) rfl rfl (vin (by assumption) (by omega)) dModel_lookAttribute_273 ?_
                            refine lv_topi (fun v84 ev84 => ?_)
                            refine va_mmin (rest := [.int x1, .ref (B 13)]) hx hb (hml.trans hl.1.symm) hown (hW _ qw_31ea7262cf) (hW _ qw_1a05fe5770) (hW _ qw_0001fcaade) (hW _ qw_5e99ca5e66) (Nat.le_of_ble_eq_true rfl) (Nat.le_of_ble_eq_true rfl) (Nat.zero_le _) (Nat.zero_le _) dModel_lookAttribute_274 ?_
                            refine lv_topi (fun v85 ev85 => ?_)
                            refine lv_i2l hx hb dModel_lookAttribute_277 rfl ?_
                            refine lv_topl (fun v86 ev86 => ?_)
                            exact J278 ls v86 (at_b ev86 (by first | exact k19 _ ev85 | exact k17 _ ev85 | exact k18 _ ev85 | exact at_if ev85 (k17 _ ev83) (k18 _ ev84) | exact at_if ev85 (k18 _ ev84) (k17 _ ev83))) (lv_sub hl [3, 4, 2, 1, 0] rfl)
                          · refine lv_aload_n hx hb dModel_lookAttribute_243 rfl (lv_at hl 3 rfl) ?_
                            refine md_gA S hC hM 17 (by decide) rfl qw_94306de345 dModel_lookAttribute_244 ?_
                            refine lv_iload_n hx hb dModel_lookAttribute_247 rfl (lv_at hl 1 rfl) ?_
                            refine md_ild S hC hM 17 13 1000 (τ 17) rfl rfl (by decide) rfl rfl (vin (by assumption) (by omega)) dModel_lookAttribute_248 ?_
                            refine lv_topi (fun v87 ev87 => ?_)
                            refine lv_aload_n hx hb dModel_lookAttribute_249 rfl (lv_at hl 3 rfl) ?_
                            refine md_gA S hC hM 18 (by decide) rfl qw_82ee92f611 dModel_lookAttribute_250 ?_
                            refine lv_iload_n hx hb dModel_lookAttribute_253 rfl (lv_at hl 1 rfl) ?_
                            refine md_ild S hC hM 18 14 1000 (τ 18) rfl rfl (by decide) rfl rfl (vin (by assumption) (by omega)) dModel_lookAttribute_254 ?_
                            refine lv_topi (fun v88 ev88 => ?_)
                            refine va_mmax (rest := [.int x1, .ref (B 13)]) hx hb (hml.trans hl.1.symm) hown (hW _ qw_f0aff25a97) (hW _ qw_7cc87a9f9b) (hW _ qw_0001fcaade) (hW _ qw_6b973c1ba4) (Nat.le_of_ble_eq_true rfl) (Nat.le_of_ble_eq_true rfl) (Nat.zero_le _) (Nat.zero_le _) dModel_lookAttribute_255 ?_
                            refine lv_topi (fun v89 ev89 => ?_)
                            refine lv_i2l hx hb dModel_lookAttribute_258 rfl ?_
                            refine lv_topl (fun v90 ev90 => ?_)
                            refine lv_goto (tgt := 278) hx hb dModel_lookAttribute_259 (by decide) ?_
                            exact J278 ls v90 (at_b ev90 (by first | exact k19 _ ev89 | exact k17 _ ev89 | exact k18 _ ev89 | exact at_if ev89 (k17 _ ev87) (k18 _ ev88) | exact at_if ev89 (k18 _ ev88) (k17 _ ev87))) (lv_sub hl [3, 4, 2, 1, 0] rfl)
                        · refine lv_aload_n hx hb dModel_lookAttribute_226 rfl (lv_at hl 3 rfl) ?_
                          refine md_gA S hC hM 18 (by decide) rfl qw_82ee92f611 dModel_lookAttribute_227 ?_
                          refine lv_iload_n hx hb dModel_lookAttribute_230 rfl (lv_at hl 1 rfl) ?_
                          refine md_ild S hC hM 18 14 1000 (τ 18) rfl rfl (by decide) rfl rfl (vin (by assumption) (by omega)) dModel_lookAttribute_231 ?_
                          refine lv_topi (fun v91 ev91 => ?_)
                          refine lv_i2l hx hb dModel_lookAttribute_232 rfl ?_
                          refine lv_topl (fun v92 ev92 => ?_)
                          refine lv_goto (tgt := 278) hx hb dModel_lookAttribute_233 (by decide) ?_
                          exact J278 ls v92 (at_b ev92 (by first | exact k19 _ ev91 | exact k17 _ ev91 | exact k18 _ ev91 | exact at_if ev91 (k17 _ ev87) (k18 _ ev88) | exact at_if ev91 (k18 _ ev88) (k17 _ ev87))) (lv_sub hl [3, 4, 2, 1, 0] rfl)
                      · refine lv_aload_n hx hb dModel_lookAttribute_209 rfl (lv_at hl 3 rfl) ?_
                        refine md_gA S hC hM 17 (by decide) rfl qw_94306de345 dModel_lookAttribute_210 ?_
                        refine lv_iload_n hx hb dModel_lookAttribute_213 rfl (lv_at hl 1 rfl) ?_
                        refine md_ild S hC hM 17 13 1000 (τ 17) rfl rfl (by decide) rfl rfl (vin (by assumption) (by omega)) dModel_lookAttribute_214 ?_
                        refine lv_topi (fun v93 ev93 => ?_)
                        refine lv_i2l hx hb dModel_lookAttribute_215 rfl ?_
                        refine lv_topl (fun v94 ev94 => ?_)
                        refine lv_goto (tgt := 278) hx hb dModel_lookAttribute_216 (by decide) ?_
                        exact J278 ls v94 (at_b ev94 (by first | exact k19 _ ev93 | exact k17 _ ev93 | exact k18 _ ev93 | exact at_if ev93 (k17 _ ev87) (k18 _ ev88) | exact at_if ev93 (k18 _ ev88) (k17 _ ev87))) (lv_sub hl [3, 4, 2, 1, 0] rfl)
                    · refine lv_aload_n hx hb dModel_lookAttribute_192 rfl (lv_at hl 3 rfl) ?_
                      refine md_gA S hC hM 19 (by decide) rfl qw_c139dbceda dModel_lookAttribute_193 ?_
                      refine lv_iload_n hx hb dModel_lookAttribute_196 rfl (lv_at hl 1 rfl) ?_
                      refine md_ild S hC hM 19 15 1000 (τ 19) rfl rfl (by decide) rfl rfl (vin (by assumption) (by omega)) dModel_lookAttribute_197 ?_
                      refine lv_topi (fun v95 ev95 => ?_)
                      refine lv_i2l hx hb dModel_lookAttribute_198 rfl ?_
                      refine lv_topl (fun v96 ev96 => ?_)
                      refine lv_goto (tgt := 278) hx hb dModel_lookAttribute_199 (by decide) ?_
                      exact J278 ls v96 (at_b ev96 (by first | exact k19 _ ev95 | exact k17 _ ev95 | exact k18 _ ev95 | exact at_if ev95 (k17 _ ev87) (k18 _ ev88) | exact at_if ev95 (k18 _ ev88) (k17 _ ev87))) (lv_sub hl [3, 4, 2, 1, 0] rfl)
                  · refine lv_iconst (v := 3) hx hb dModel_lookAttribute_170 (by decide) ?_
                    exact hE _ _ _ _ _ hS ⟨σr16, F, nu, hM, hZ, hF, hL, (fun h9 => absurd (show (0 : Int32) < 3 by decide) h9)⟩ dModel_lookAttribute_171
                · refine lv_aload_n hx hb dModel_lookAttribute_121 rfl (lv_at hl 3 rfl) ?_
                  refine md_gA S hC hM 22 (by decide) rfl qw_50c5849686 dModel_lookAttribute_122 ?_
                  refine lv_iload_n hx hb dModel_lookAttribute_125 rfl (lv_at hl 2 rfl) ?_
                  refine md_ild S hC hM 22 17 2000 (τ 22) rfl rfl (by decide) rfl rfl (vin (by assumption) (by omega)) dModel_lookAttribute_126 ?_
                  refine lv_topi (fun v97 ev97 => ?_)
                  refine lv_iconst (v := 1) hx hb dModel_lookAttribute_127 (by decide) ?_
                  refine lv_icmp_eq (tgt := 133) hx hb dModel_lookAttribute_128 (by decide) (fun c98 => ?_) (fun c98 => ?_)
                  · refine lv_iload hx hb dModel_lookAttribute_133 (lv_at hl 0 rfl) ?_
                    refine lv_bipush (v := 17) hx hb dModel_lookAttribute_135 (by decide) ?_
                    refine lv_icmp_ne (tgt := 149) hx hb dModel_lookAttribute_137 (by decide) (fun c99 => ?_) (fun c99 => ?_)
                    · refine lv_aload_n hx hb dModel_lookAttribute_149 rfl (lv_at hl 3 rfl) ?_
                      refine lv_iload_n hx hb dModel_lookAttribute_150 rfl (lv_at hl 4 rfl) ?_
                      refine lv_iconst (v := 1) hx hb dModel_lookAttribute_151 (by decide) ?_
                      refine lv_iconst (v := 0) hx hb dModel_lookAttribute_152 (by decide) ?_
                      refine lv_iconst (v := 0) hx hb dModel_lookAttribute_153 (by decide) ?_
                      have hnr100 : ∃ j, j ≤ 1000 ∧ 0 = nI j := ⟨0, by omega, rfl⟩
                      refine mu_Vv (rest := []) S hC (fun q h => hA q (Nat.le_trans hS.1 h)) (fun q h => h) hS (m_fact l γ a B Z κ b mn ν τ σr16 F nu hT x1 1 0 0 (vin (by assumption) (by omega)) hnr100) meModel_fact qw_02871250ec ⟨Nat.le_of_ble_eq_true rfl, Nat.le_of_ble_eq_true rfl⟩ (md_rv hC hM) hM rfl hl.1 rfl (Nat.le_of_ble_eq_true rfl) dModel_lookAttribute_154 ⟨Nat.le_refl _, Nat.le_refl _⟩ (fun H locs hPO hS _ _ => ?_)
                      obtain ⟨Fr100, nur100, hM, hqr100, hcr100⟩ := hPO
                      have hZ : SZ Fr100 := hZ.slt hqr100 hnr100
                      have hL : SL x1.toNatClampNeg F nu Fr100 nur100 := hL.trans (SL.slt hqr100)
                      have hK : GK x1.toNatClampNeg Fr100 nur100 := GK.zero hqr100
                      refine lv_goto (tgt := 279) hx hb dModel_lookAttribute_157 (by decide) ?_
                      exact J279 ls _ _ Fr100 nur100 hM hS hK hL hZ (lv_sub hl [3, 4, 2, 1, 0] rfl)
                    · refine lv_aload_n hx hb dModel_lookAttribute_140 rfl (lv_at hl 3 rfl) ?_
                      refine lv_iload_n hx hb dModel_lookAttribute_141 rfl (lv_at hl 4 rfl) ?_
                      refine lv_iload_n hx hb dModel_lookAttribute_142 rfl (lv_at hl 1 rfl) ?_
                      refine mu_Vv (rest := []) S hC (fun q h => hA q (Nat.le_trans hS.1 h)) (fun q h => h) hS (m_factOfType l γ a B Z κ b mn ν τ σr16 F nu hT x1 v22 (vin (by assumption) (by omega)) (vin (by assumption) (by omega))) meModel_factOfType qw_7a050de5f5 ⟨Nat.le_of_ble_eq_true rfl, Nat.le_of_ble_eq_true rfl⟩ (md_rv hC hM) hM rfl hl.1 rfl (Nat.le_of_ble_eq_true rfl) dModel_lookAttribute_143 ⟨Nat.le_refl _, Nat.le_refl _⟩ (fun H locs hPO hS _ _ => ?_)
                      obtain ⟨Fr101, nur101, cr101, nr101, hM, hqr101, hnr101⟩ := hPO
                      have hZ : SZ Fr101 := hZ.slt hqr101 hnr101
                      have hL : SL x1.toNatClampNeg F nu Fr101 nur101 := hL.trans (SL.slt hqr101)
                      have hK : GK x1.toNatClampNeg Fr101 nur101 := GK.zero hqr101
                      refine lv_goto (tgt := 279) hx hb dModel_lookAttribute_146 (by decide) ?_
                      exact J279 ls _ _ Fr101 nur101 hM hS hK hL hZ (lv_sub hl [3, 4, 2, 1, 0] rfl)
                  · refine lv_iconst (v := 2) hx hb dModel_lookAttribute_131 (by decide) ?_
                    exact hE _ _ _ _ _ hS ⟨σr16, F, nu, hM, hZ, hF, hL, (fun h9 => absurd (show (0 : Int32) < 2 by decide) h9)⟩ dModel_lookAttribute_132
              · refine lv_iconst (v := 2) hx hb dModel_lookAttribute_90 (by decide) ?_
                exact hE _ _ _ _ _ hS ⟨σr16, F, nu, hM, hZ, hF, hL, (fun h9 => absurd (show (0 : Int32) < 2 by decide) h9)⟩ dModel_lookAttribute_91
            · refine lv_iconst (v := 1) hx hb dModel_lookAttribute_80 (by decide) ?_
              exact hE _ _ _ _ _ hS ⟨σr16, F, nu, hM, hZ, hF, hL, (fun h9 => absurd (show (0 : Int32) < 1 by decide) h9)⟩ dModel_lookAttribute_81
          · refine lv_bipush (v := 11) hx hb dModel_lookAttribute_59 (by decide) ?_
            exact hE _ _ _ _ _ hS ⟨σ, F, nu, hM, hZ, hF, hL, (fun h9 => absurd (show (0 : Int32) < 11 by decide) h9)⟩ dModel_lookAttribute_61
