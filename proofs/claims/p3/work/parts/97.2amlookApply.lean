theorem qw_f33503df7d : (Cond.methodLink R_Model 250 yModel_rowObject) ∈ bs_W0 := bs_in (in_tables_1_6 (List.mem_of_getElem? (i := 177) rfl)) rfl
theorem qw_5fce476f55 : (Cond.methodLink R_Model 253 yModel_within) ∈ bs_W0 := bs_in (in_tables_1_6 (List.mem_of_getElem? (i := 181) rfl)) rfl
theorem qw_66cde9f86f : (Cond.methodLink R_Model 247 yModel_lookFunction) ∈ bs_W0 := bs_in (in_tables_1_6 (List.mem_of_getElem? (i := 172) rfl)) rfl
set_option maxHeartbeats 4000000 in
set_option maxRecDepth 100000 in
theorem m_lookApply (l : Launch) (γ : gE) (a : Nat) (B : Nat → Nat) (Z : Nat → Prop) (κ b mn : Nat → Nat) (ν : Nat → Int32) (τ : Nat → Nat → Int32) (σ : Nat → Int32) (F : Nat → Nat → Int32) (nu : Nat → Int64) (hT : ST κ b mn ν τ) (x1 : Int32) (hx1 : vp_in x1 (κ 0)) (hZ : SZ F) (hF : FD σ) : MU l yModel_lookApply bModel_lookApply 6 (some .int) 3 73 0 0 [.ref a, .int x1] γ Z (MD γ a B Z ν τ σ F nu) (mQi (fun r H => LKo γ a B Z ν τ x1.toNatClampNeg F nu r H) Z) := by
  refine mu_openI (by decide) (Nat.le_of_ble_eq_true rfl) ?_
  intro p e s m args below meth c ls Q S hnm hC hA hM hE hl
  have hS : va_S Z s.heap s.heap [] := va_S.rf
  obtain ⟨hx, hb, hml, hown, hW⟩ := id S
  obtain ⟨⟨hs0, hs1, hs2, hs3, hs4, hs5, hs6⟩, ⟨hv6, hv8, hv21, hv24, hv30, hv31⟩, hTR, hTY, hOB, hNM⟩ := id hT
  have hL : SL x1.toNatClampNeg F nu F nu := SL.rf
  have hl : lv_has ls 6 [(0, .ref a), (1, .int x1)] := hl
  refine lv_aload_n hx hb dModel_lookApply_0 rfl (lv_at hl 0 rfl) ?_
  refine lv_aload_n hx hb dModel_lookApply_1 rfl (lv_at hl 0 rfl) ?_
  refine md_gA S hC hM 3 (by decide) rfl qw_9fb851a5fa dModel_lookApply_2 ?_
  refine lv_iload_n hx hb dModel_lookApply_5 rfl (lv_at hl 1 rfl) ?_
  refine md_ild S hC hM 3 1 4000 (τ 3) rfl rfl (by decide) rfl rfl (vin (by assumption) (by omega)) dModel_lookApply_6 ?_
  refine lv_topi (fun v1 ev1 => ?_)
  refine mu_Vv (rest := []) S hC (fun q h => hA q (Nat.le_trans hS.1 h)) (fun q h => h) hS (m_find l γ a B Z κ b mn ν τ σ F nu hT v1 ) meModel_find qw_ece0c598e8 ⟨Nat.le_of_ble_eq_true rfl, Nat.le_of_ble_eq_true rfl⟩ (md_rv hC hM) hM rfl hl.1 rfl (Nat.le_of_ble_eq_true rfl) dModel_lookApply_7 ⟨Nat.le_refl _, Nat.le_refl _⟩ (fun H locs hPO hS _ _ => ?_)
  obtain ⟨σr2, hM, hF⟩ := hPO
  refine lv_aload_n hx hb dModel_lookApply_10 rfl (lv_at hl 0 rfl) ?_
  refine md_gI S hC hM 32 (v := σr2 32) rfl (by decide) rfl qw_9d5e299446 dModel_lookApply_11 ?_
  refine lv_topi (fun v3 ev3 => ?_)
  refine lv_iconst (v := 4) hx hb dModel_lookApply_14 (by decide) ?_
  refine lv_icmp_ne (tgt := 28) hx hb dModel_lookApply_15 (by decide) (fun c4 => ?_) (fun c4 => ?_)
  · refine lv_aload_n hx hb dModel_lookApply_28 rfl (lv_at hl 0 rfl) ?_
    refine lv_aload_n hx hb dModel_lookApply_29 rfl (lv_at hl 0 rfl) ?_
    refine md_gA S hC hM 3 (by decide) rfl qw_9fb851a5fa dModel_lookApply_30 ?_
    refine lv_iload_n hx hb dModel_lookApply_33 rfl (lv_at hl 1 rfl) ?_
    refine md_ild S hC hM 3 1 4000 (τ 3) rfl rfl (by decide) rfl rfl (vin (by assumption) (by omega)) dModel_lookApply_34 ?_
    refine lv_topi (fun v5 ev5 => ?_)
    refine mu_Vi (rest := []) S hC (fun q h => hA q (Nat.le_trans hS.1 h)) (fun q h => h) hS (m_rowObject l γ a B Z κ b mn ν τ σr2 F nu hT v5 ) meModel_rowObject qw_f33503df7d ⟨Nat.le_of_ble_eq_true rfl, Nat.le_of_ble_eq_true rfl⟩ (md_rv hC hM) hM rfl hl.1 rfl (Nat.le_of_ble_eq_true rfl) dModel_lookApply_35 ⟨Nat.le_refl _, Nat.le_refl _⟩ (fun r6 H locs hPO hS _ _ => ?_)
    obtain ⟨σr6, hM, hF, hror6⟩ := hPO
    refine lv_istore_n (lv' := [(2, .int r6), (0, .ref a), (1, .int x1)]) hx hb dModel_lookApply_38 rfl hl (by decide) rfl (fun ls hl => ?_)
    refine lv_iload_n hx hb dModel_lookApply_39 rfl (lv_at hl 0 rfl) ?_
    refine lv_if_le (tgt := 45) hx hb dModel_lookApply_40 (by decide) (fun c7 => ?_) (fun c7 => ?_)
    · obtain ⟨o, t, ho, ht, hoe, hot, htc⟩ := hror6.resolve_left (Int32.not_lt.mpr (by assumption))
      obtain ⟨lo, hi, cn, h17, h18, h19, hlo, hhi, hd1, hd2, hcn, hup, hdn⟩ := hTY t ht htc
      refine lv_aload_n hx hb dModel_lookApply_45 rfl (lv_at hl 1 rfl) ?_
      refine md_gA S hC hM 4 (by decide) rfl qw_a8caa30de3 dModel_lookApply_46 ?_
      refine lv_iload_n hx hb dModel_lookApply_49 rfl (lv_at hl 2 rfl) ?_
      refine md_ild S hC hM 4 2 4000 (τ 4) rfl rfl (by decide) rfl rfl (vin (by assumption) (by omega)) dModel_lookApply_50 ?_
      refine lv_topi (fun v8 ev8 => ?_)
      refine lv_iconst (v := 1) hx hb dModel_lookApply_51 (by decide) ?_
      refine lv_icmp_eq (tgt := 58) hx hb dModel_lookApply_52 (by decide) (fun c9 => ?_) (fun c9 => ?_)
      · have hm1 := mn_eq1 hTR hx1 ev8 (by assumption)
        refine lv_aload_n hx hb dModel_lookApply_58 rfl (lv_at hl 1 rfl) ?_
        refine lv_iload_n hx hb dModel_lookApply_59 rfl (lv_at hl 2 rfl) ?_
        refine lv_iconst (v := 0) hx hb dModel_lookApply_60 (by decide) ?_
        have hpr10 : vp_in x1 (κ 0) := (vin (by assumption) (by omega))
        have hjr10 : vp_in 0 (mn x1.toNatClampNeg) := (vp0 (by omega) (by omega))
        refine pu_Vi (rest := []) S hC (m_child l γ a B Z κ b mn ν τ σr6 F nu hT x1 0 hpr10 hjr10) meModel_child qw_a66d450e0a ⟨Nat.le_of_ble_eq_true rfl, Nat.le_of_ble_eq_true rfl⟩ (md_rv hC hM) hM rfl hl.1 rfl (Nat.le_of_ble_eq_true rfl) dModel_lookApply_61 ⟨Nat.zero_le _, Nat.zero_le _⟩ (fun r10 hr10 => ?_)
        obtain ⟨hir10, hltr10, hxr10⟩ := ch_in hTR hs0 hpr10 hjr10 hr10
        refine lv_istore_n (lv' := [(3, .int r10), (2, .int r6), (0, .ref a), (1, .int x1)]) hx hb dModel_lookApply_64 rfl hl (by decide) rfl (fun ls hl => ?_)
        refine lv_aload_n hx hb dModel_lookApply_65 rfl (lv_at hl 2 rfl) ?_
        refine md_gI S hC hM 33 (v := σr6 33) rfl (by decide) rfl qw_c60a40a4a7 dModel_lookApply_66 ?_
        refine lv_topi (fun v11 ev11 => ?_)
        refine lv_istore (lv' := [(4, .int v11), (3, .int r10), (2, .int r6), (0, .ref a), (1, .int x1)]) hx hb dModel_lookApply_69 hl (by decide) rfl (fun ls hl => ?_)
        have hio : vp_in v11 2000 := vin_of (ev11.trans hoe) ho (by omega)
        refine lv_aload_n hx hb dModel_lookApply_71 rfl (lv_at hl 3 rfl) ?_
        refine md_gA S hC hM 23 (by decide) rfl qw_bd9bcb35cb dModel_lookApply_72 ?_
        refine lv_iload hx hb dModel_lookApply_75 (lv_at hl 0 rfl) ?_
        refine md_ild S hC hM 23 18 2000 (τ 23) rfl rfl (by decide) rfl rfl hio dModel_lookApply_77 ?_
        refine lv_topi (fun v12 ev12 => ?_)
        refine lv_istore (lv' := [(5, .int v12), (4, .int v11), (3, .int r10), (2, .int r6), (0, .ref a), (1, .int x1)]) hx hb dModel_lookApply_78 hl (by decide) rfl (fun ls hl => ?_)
        have hit : vp_in v12 1000 := ob_in hOB hio ev12
        have hio2 : v11.toNatClampNeg = o := (by rw [ev11, hoe]; exact nI_clamp (by omega))
        have hit2 : v12.toNatClampNeg = t := (by rw [ev12, hio2, hot]; exact nI_clamp (by omega))
        refine lv_aload_n hx hb dModel_lookApply_80 rfl (lv_at hl 4 rfl) ?_
        refine md_gA S hC hM 9 (by decide) rfl qw_a119aeeca0 dModel_lookApply_81 ?_
        refine lv_iload_n hx hb dModel_lookApply_84 rfl (lv_at hl 2 rfl) ?_
        refine md_ild S hC hM 9 5 10000 (F 9) rfl rfl (by decide) rfl rfl (vin (by assumption) (by omega)) dModel_lookApply_85 ?_
        refine lv_topi (fun v13 ev13 => ?_)
        refine lv_iconst (v := 2) hx hb dModel_lookApply_86 (by decide) ?_
        refine lv_icmp_eq (tgt := 92) hx hb dModel_lookApply_87 (by decide) (fun c14 => ?_) (fun c14 => ?_)
        · refine lv_aload_n hx hb dModel_lookApply_92 rfl (lv_at hl 4 rfl) ?_
          refine md_gA S hC hM 11 (by decide) rfl qw_88b9028ba7 dModel_lookApply_93 ?_
          refine lv_iload_n hx hb dModel_lookApply_96 rfl (lv_at hl 2 rfl) ?_
          refine md_zld S hC hM 11 7 10000 (F 11) rfl rfl (by decide) rfl rfl (vin (by assumption) (by omega)) dModel_lookApply_97 ?_
          refine lv_topi (fun v15 ev15 => ?_)
          have J119 : ∀ (ls : Array Slot), (F 11 r10.toNatClampNeg = 0 ∨ ((lo : Int) ≤ (nu r10.toNatClampNeg).toInt ∧ (nu r10.toNatClampNeg).toInt ≤ (hi : Int) ∨ (hi : Int) ≤ (nu r10.toNatClampNeg).toInt ∧ (nu r10.toNatClampNeg).toInt ≤ (lo : Int))) → lv_has ls 6 [(0, .ref a), (1, .int x1), (2, .int r6), (3, .int r10), (4, .int v11), (5, .int v12)] → W p l e (bs_rm 3 0 0 73) s m args below meth c H locs 0 0 Q (F0 m 119 ls []) := by
            intro ls hw119 hl
            refine lv_aload_n hx hb dModel_lookApply_119 rfl (lv_at hl 0 rfl) ?_
            refine lv_iload_n hx hb dModel_lookApply_120 rfl (lv_at hl 1 rfl) ?_
            refine lv_iconst (v := 0) hx hb dModel_lookApply_121 (by decide) ?_
            refine lv_iconst (v := 0) hx hb dModel_lookApply_122 (by decide) ?_
            refine lv_aload_n hx hb dModel_lookApply_123 rfl (lv_at hl 0 rfl) ?_
            refine md_gA S hC hM 11 (by decide) rfl qw_88b9028ba7 dModel_lookApply_124 ?_
            refine lv_iload_n hx hb dModel_lookApply_127 rfl (lv_at hl 3 rfl) ?_
            refine md_zld S hC hM 11 7 10000 (F 11) rfl rfl (by decide) rfl rfl (vin (by assumption) (by omega)) dModel_lookApply_128 ?_
            refine lv_topi (fun v46 ev46 => ?_)
            have J147 : ∀ (ls : Array Slot) (t0_147 : Int32), (t0_147 = 0 ∨ ¬ F 11 r10.toNatClampNeg = 0) → lv_has ls 6 [(0, .ref a), (1, .int x1), (2, .int r6), (3, .int r10), (4, .int v11), (5, .int v12)] → W p l e (bs_rm 3 0 0 73) s m args below meth c H locs 0 0 Q (F0 m 147 ls [.int t0_147, .int 0, .int 0, .int x1, .ref a]) := by
              intro ls t0_147 ht0_147 hl
              have hnr72 : ∃ j, j ≤ 1000 ∧ 0 = nI j := ⟨0, by omega, rfl⟩
              refine mu_Vv (rest := []) S hC (fun q h => hA q (Nat.le_trans hS.1 h)) (fun q h => h) hS (m_fact l γ a B Z κ b mn ν τ σr6 F nu hT x1 0 0 t0_147 (vin (by assumption) (by omega)) hnr72) meModel_fact qw_02871250ec ⟨Nat.le_of_ble_eq_true rfl, Nat.le_of_ble_eq_true rfl⟩ (md_rv hC hM) hM rfl hl.1 rfl (Nat.le_of_ble_eq_true rfl) dModel_lookApply_147 ⟨Nat.le_refl _, Nat.le_refl _⟩ (fun H locs hPO hS _ _ => ?_)
              obtain ⟨Fr72, nur72, hM, hqr72, hcr72⟩ := hPO
              have hZ : SZ Fr72 := hZ.slt hqr72 hnr72
              have hL : SL x1.toNatClampNeg F nu Fr72 nur72 := hL.trans (SL.slt hqr72)
              have hK : GK x1.toNatClampNeg Fr72 nur72 := GK.zero hqr72
              refine lv_aload_n hx hb dModel_lookApply_150 rfl (lv_at hl 0 rfl) ?_
              refine md_gA S hC hM 11 (by decide) rfl qw_88b9028ba7 dModel_lookApply_151 ?_
              refine lv_iload_n hx hb dModel_lookApply_154 rfl (lv_at hl 1 rfl) ?_
              refine md_zld S hC hM 11 7 10000 (Fr72 11) rfl rfl (by decide) rfl rfl (vin (by assumption) (by omega)) dModel_lookApply_155 ?_
              refine lv_topi (fun v73 ev73 => ?_)
              have J228 : ∀ (ls : Array Slot) (H : Heap) (locs : List Loc) (nu_228 : Nat → Int64), MD γ a B Z ν τ σr6 Fr72 nu_228 H → va_S Z s.heap H locs → (GK x1.toNatClampNeg Fr72 nu_228) → (SL x1.toNatClampNeg F nu Fr72 nu_228) → lv_has ls 6 [(0, .ref a), (1, .int x1), (2, .int r6), (3, .int r10), (4, .int v11), (5, .int v12)] → W p l e (bs_rm 3 0 0 73) s m args below meth c H locs 0 0 Q (F0 m 228 ls []) := by
                intro ls H locs nu_228 hM hS hK hL hl
                refine lv_aload_n hx hb dModel_lookApply_228 rfl (lv_at hl 0 rfl) ?_
                refine md_gA S hC hM 12 (by decide) rfl qw_19df235c4a dModel_lookApply_229 ?_
                refine lv_iload_n hx hb dModel_lookApply_232 rfl (lv_at hl 1 rfl) ?_
                refine lv_iload hx hb dModel_lookApply_233 (lv_at hl 4 rfl) ?_
                refine md_istD S hC hM hS 12 8 10000 rfl rfl (by decide) rfl rfl (vin (by assumption) (by omega)) dModel_lookApply_235 (fun H locs hM hS => ?_)
                obtain ⟨F94, eF94⟩ : ∃ z : Nat → Nat → Int32, z = Au Fr72 12 x1.toNatClampNeg v11 := ⟨_, rfl⟩
                rw [← eF94] at hM
                have hZ : SZ F94 := hZ.au eF94 (by decide)
                have hL : SL x1.toNatClampNeg F nu F94 nu_228 := hL.au eF94 (by decide)
                have hK : GK x1.toNatClampNeg F94 nu_228 := hK.au eF94 (by decide)
                refine lv_iconst (v := 0) hx hb dModel_lookApply_236 (by decide) ?_
                exact hE _ _ _ _ _ hS ⟨σr6, F94, nu_228, hM, hZ, hF, hL, (fun _ => hK)⟩ dModel_lookApply_237
              refine lv_if_eq (tgt := 228) hx hb dModel_lookApply_156 (by decide) (fun c95 => ?_) (fun c95 => ?_)
              · exact J228 ls _ _ nur72 hM hS hK hL (lv_sub hl [0, 1, 2, 3, 4, 5] rfl)
              · have hwi := hw119.resolve_left (ap_ok ev73 hcr72 (by assumption) ht0_147)
                have hnn : nur72 r10.toNatClampNeg = nu r10.toNatClampNeg := sltnn hqr72 (Nat.ne_of_lt (by assumption))
                rw [← hnn] at hwi
                refine lv_aload_n hx hb dModel_lookApply_159 rfl (lv_at hl 0 rfl) ?_
                refine md_gA S hC hM 13 (by decide) rfl qw_7b809afc8c dModel_lookApply_160 ?_
                refine lv_iload_n hx hb dModel_lookApply_163 rfl (lv_at hl 1 rfl) ?_
                refine lv_aload_n hx hb dModel_lookApply_164 rfl (lv_at hl 0 rfl) ?_
                refine lv_sipush (v := 8000) hx hb dModel_lookApply_165 (by decide) ?_
                refine lv_iload hx hb dModel_lookApply_168 (lv_at hl 4 rfl) ?_
                refine lv_iadd hx hb dModel_lookApply_170 ?_
                refine lv_topi (fun v96 ev96 => ?_)
                refine lv_aload_n hx hb dModel_lookApply_171 rfl (lv_at hl 0 rfl) ?_
                refine md_gA S hC hM 18 (by decide) rfl qw_82ee92f611 dModel_lookApply_172 ?_
                refine lv_iload hx hb dModel_lookApply_175 (lv_at hl 5 rfl) ?_
                refine md_ild S hC hM 18 14 1000 (τ 18) rfl rfl (by decide) rfl rfl (vin (by assumption) (by omega)) dModel_lookApply_177 ?_
                refine lv_topi (fun v97 ev97 => ?_)
                refine lv_i2l hx hb dModel_lookApply_178 rfl ?_
                refine lv_topl (fun v98 ev98 => ?_)
                refine lv_aload_n hx hb dModel_lookApply_179 rfl (lv_at hl 0 rfl) ?_
                refine md_gA S hC hM 13 (by decide) rfl qw_7b809afc8c dModel_lookApply_180 ?_
                refine lv_iload_n hx hb dModel_lookApply_183 rfl (lv_at hl 3 rfl) ?_
                refine md_lld S hC hM (vin (by assumption) (by omega)) dModel_lookApply_184 ?_
                refine lv_topl (fun v99 ev99 => ?_)
                have ev99 : v99 = nur72 r10.toNatClampNeg := ev99
                refine W.lcmp hx hb dModel_lookApply_185 ?_
                refine lv_topi (fun v100 ev100 => ?_)
                have J222 : ∀ (ls : Array Slot) (t0_222 : Int64), (0 ≤ t0_222.toInt ∧ t0_222.toInt ≤ 63) → lv_has ls 6 [(0, .ref a), (1, .int x1), (2, .int r6), (3, .int r10), (4, .int v11), (5, .int v12)] → W p l e (bs_rm 3 0 0 73) s m args below meth c H locs 0 0 Q (F0 m 222 ls [.long t0_222, .int v96, .ref a, .int x1, .ref (B 13)]) := by
                  intro ls t0_222 ht0_222 hl
                  refine lv_l2i hx hb dModel_lookApply_222 rfl ?_
                  refine lv_topi (fun v114 ev114 => ?_)
                  have hdx : vp_in v114 64 := l2i_in ev114 ht0_222.1 (by omega) (by omega)
                  have h8 := (vin8 hio ev96).1
                  refine pu_Vi (rest := [.int x1, .ref (B 13)]) S hC (m_element l γ a B Z κ b mn ν τ σr6 Fr72 nur72 hT v96 v114 (el_in (by assumption) (by assumption) (by omega))) meModel_element qw_ceb3d87d61 ⟨Nat.le_of_ble_eq_true rfl, Nat.le_of_ble_eq_true rfl⟩ (md_rv hC hM) hM rfl hl.1 rfl (Nat.le_of_ble_eq_true rfl) dModel_lookApply_223 ⟨Nat.zero_le _, Nat.zero_le _⟩ (fun r115 hr115 => ?_)
                  refine lv_i2l hx hb dModel_lookApply_226 rfl ?_
                  refine lv_topl (fun v116 ev116 => ?_)
                  have hgnu117 : Fr72 9 x1.toNatClampNeg = 2 → -2147483648 < (v116 : Int64).toInt ∧ (v116 : Int64).toInt < 2147483648 := (fun h9 => absurd ((slt9 hqr72).symm.trans h9) (by decide))
                  refine md_lst S hC hM hS (vin (by assumption) (by omega)) dModel_lookApply_227 (fun H locs hM hS => ?_)
                  obtain ⟨nu117, enu117⟩ : ∃ z : Nat → Int64, z = vp_updL nur72 x1.toNatClampNeg v116 := ⟨_, rfl⟩
                  rw [← enu117] at hM
                  have hL : SL x1.toNatClampNeg F nu Fr72 nu117 := hL.trans (by rw [enu117]; exact SL.num)
                  have hK : GK x1.toNatClampNeg Fr72 nu117 := by rw [enu117]; exact GK.num hgnu117
                  exact J228 ls _ _ nu117 hM hS hK hL (lv_sub hl [0, 1, 2, 3, 4, 5] rfl)
                refine lv_if_le (tgt := 207) hx hb dModel_lookApply_186 (by decide) (fun c118 => ?_) (fun c118 => ?_)
                · refine lv_aload_n hx hb dModel_lookApply_207 rfl (lv_at hl 0 rfl) ?_
                  refine md_gA S hC hM 13 (by decide) rfl qw_7b809afc8c dModel_lookApply_208 ?_
                  refine lv_iload_n hx hb dModel_lookApply_211 rfl (lv_at hl 3 rfl) ?_
                  refine md_lld S hC hM (vin (by assumption) (by omega)) dModel_lookApply_212 ?_
                  refine lv_topl (fun v119 ev119 => ?_)
                  have ev119 : v119 = nur72 r10.toNatClampNeg := ev119
                  refine lv_aload_n hx hb dModel_lookApply_213 rfl (lv_at hl 0 rfl) ?_
                  refine md_gA S hC hM 18 (by decide) rfl qw_82ee92f611 dModel_lookApply_214 ?_
                  refine lv_iload hx hb dModel_lookApply_217 (lv_at hl 5 rfl) ?_
                  refine md_ild S hC hM 18 14 1000 (τ 18) rfl rfl (by decide) rfl rfl (vin (by assumption) (by omega)) dModel_lookApply_219 ?_
                  refine lv_topi (fun v120 ev120 => ?_)
                  refine lv_i2l hx hb dModel_lookApply_220 rfl ?_
                  refine lv_topl (fun v121 ev121 => ?_)
                  refine lv_lsub hx hb dModel_lookApply_221 ?_
                  refine lv_topl (fun v122 ev122 => ?_)
                  exact J222 ls v122 (by first | exact ap_d1 hlo hhi hd1 hd2 hwi (hi_int ev97 (by rw [hit2]; exact h18) ev98 hhi) ev99 ev100 (by assumption) (hi_int ev106 (by rw [hit2]; exact h18) ev107 hhi) ev108 ev122 | exact ap_d2 hlo hhi hd1 hd2 hwi (hi_int ev97 (by rw [hit2]; exact h18) ev98 hhi) ev99 ev100 (by assumption) (hi_int ev120 (by rw [hit2]; exact h18) ev121 hhi) ev119 ev122) (lv_sub hl [0, 1, 2, 3, 4, 5] rfl)
                · refine lv_aload_n hx hb dModel_lookApply_189 rfl (lv_at hl 0 rfl) ?_
                  refine md_gA S hC hM 18 (by decide) rfl qw_82ee92f611 dModel_lookApply_190 ?_
                  refine lv_iload hx hb dModel_lookApply_193 (lv_at hl 5 rfl) ?_
                  refine md_ild S hC hM 18 14 1000 (τ 18) rfl rfl (by decide) rfl rfl (vin (by assumption) (by omega)) dModel_lookApply_195 ?_
                  refine lv_topi (fun v123 ev123 => ?_)
                  refine lv_i2l hx hb dModel_lookApply_196 rfl ?_
                  refine lv_topl (fun v124 ev124 => ?_)
                  refine lv_aload_n hx hb dModel_lookApply_197 rfl (lv_at hl 0 rfl) ?_
                  refine md_gA S hC hM 13 (by decide) rfl qw_7b809afc8c dModel_lookApply_198 ?_
                  refine lv_iload_n hx hb dModel_lookApply_201 rfl (lv_at hl 3 rfl) ?_
                  refine md_lld S hC hM (vin (by assumption) (by omega)) dModel_lookApply_202 ?_
                  refine lv_topl (fun v125 ev125 => ?_)
                  have ev125 : v125 = nur72 r10.toNatClampNeg := ev125
                  refine lv_lsub hx hb dModel_lookApply_203 ?_
                  refine lv_topl (fun v126 ev126 => ?_)
                  refine lv_goto (tgt := 222) hx hb dModel_lookApply_204 (by decide) ?_
                  exact J222 ls v126 (by first | exact ap_d1 hlo hhi hd1 hd2 hwi (hi_int ev97 (by rw [hit2]; exact h18) ev98 hhi) ev99 ev100 (by assumption) (hi_int ev123 (by rw [hit2]; exact h18) ev124 hhi) ev125 ev126 | exact ap_d2 hlo hhi hd1 hd2 hwi (hi_int ev97 (by rw [hit2]; exact h18) ev98 hhi) ev99 ev100 (by assumption) (hi_int ev120 (by rw [hit2]; exact h18) ev121 hhi) ev119 ev126) (lv_sub hl [0, 1, 2, 3, 4, 5] rfl)
            have J146 : ∀ (ls : Array Slot), lv_has ls 6 [(0, .ref a), (1, .int x1), (2, .int r6), (3, .int r10), (4, .int v11), (5, .int v12)] → W p l e (bs_rm 3 0 0 73) s m args below meth c H locs 0 0 Q (F0 m 146 ls [.int 0, .int 0, .int x1, .ref a]) := by
              intro ls hl
              refine lv_iconst (v := 0) hx hb dModel_lookApply_146 (by decide) ?_
              exact J147 ls 0 (by first | exact Or.inl rfl | exact Or.inr (fun h9 => absurd (ev46.trans h9) (by assumption))) (lv_sub hl [0, 1, 2, 3, 4, 5] rfl)
            refine lv_if_eq (tgt := 146) hx hb dModel_lookApply_129 (by decide) (fun c127 => ?_) (fun c127 => ?_)
            · exact J146 ls  (lv_sub hl [0, 1, 2, 3, 4, 5] rfl)
            · refine lv_aload_n hx hb dModel_lookApply_132 rfl (lv_at hl 0 rfl) ?_
              refine md_gA S hC hM 22 (by decide) rfl qw_50c5849686 dModel_lookApply_133 ?_
              refine lv_iload hx hb dModel_lookApply_136 (lv_at hl 4 rfl) ?_
              refine md_ild S hC hM 22 17 2000 (τ 22) rfl rfl (by decide) rfl rfl (vin (by assumption) (by omega)) dModel_lookApply_138 ?_
              refine lv_topi (fun v128 ev128 => ?_)
              refine lv_if_ne (tgt := 146) hx hb dModel_lookApply_139 (by decide) (fun c129 => ?_) (fun c129 => ?_)
              · exact J146 ls  (lv_sub hl [0, 1, 2, 3, 4, 5] rfl)
              · refine lv_iconst (v := 1) hx hb dModel_lookApply_142 (by decide) ?_
                refine lv_goto (tgt := 147) hx hb dModel_lookApply_143 (by decide) ?_
                exact J147 ls 1 (by first | exact Or.inl rfl | exact Or.inr (fun h9 => absurd (ev46.trans h9) (by assumption))) (lv_sub hl [0, 1, 2, 3, 4, 5] rfl)
          refine lv_if_eq (tgt := 119) hx hb dModel_lookApply_98 (by decide) (fun c130 => ?_) (fun c130 => ?_)
          · exact J119 ls (by first | exact Or.inl (ev15.symm.trans (by assumption)) | (refine Or.inr ?_; rw [← ev17]; exact (hr18.resolve_left (by assumption)) lo hi (by rw [hit2]; exact h17) (by rw [hit2]; exact h18) hlo hhi)) (lv_sub hl [4, 5, 3, 2, 1, 0] rfl)
          · refine lv_aload_n hx hb dModel_lookApply_101 rfl (lv_at hl 4 rfl) ?_
            refine lv_iload hx hb dModel_lookApply_102 (lv_at hl 0 rfl) ?_
            refine lv_aload_n hx hb dModel_lookApply_104 rfl (lv_at hl 4 rfl) ?_
            refine md_gA S hC hM 13 (by decide) rfl qw_7b809afc8c dModel_lookApply_105 ?_
            refine lv_iload_n hx hb dModel_lookApply_108 rfl (lv_at hl 2 rfl) ?_
            refine md_lld S hC hM (vin (by assumption) (by omega)) dModel_lookApply_109 ?_
            refine lv_topl (fun v131 ev131 => ?_)
            have ev131 : v131 = nu r10.toNatClampNeg := ev131
            refine pu_Vi (rest := []) S hC (m_within l γ a B Z κ b mn ν τ σr6 F nu hT v12 v131 (vin (by assumption) (by omega))) meModel_within qw_5fce476f55 ⟨Nat.le_of_ble_eq_true rfl, Nat.le_of_ble_eq_true rfl⟩ (md_rv hC hM) hM rfl hl.1 rfl (Nat.le_of_ble_eq_true rfl) dModel_lookApply_110 ⟨Nat.zero_le _, Nat.zero_le _⟩ (fun r132 hr132 => ?_)
            refine lv_if_ne (tgt := 119) hx hb dModel_lookApply_113 (by decide) (fun c133 => ?_) (fun c133 => ?_)
            · exact J119 ls (by first | exact Or.inl (ev15.symm.trans (by assumption)) | (refine Or.inr ?_; rw [← ev131]; exact (hr132.resolve_left (by assumption)) lo hi (by rw [hit2]; exact h17) (by rw [hit2]; exact h18) hlo hhi)) (lv_sub hl [4, 5, 3, 2, 1, 0] rfl)
            · refine lv_bipush (v := 6) hx hb dModel_lookApply_116 (by decide) ?_
              exact hE _ _ _ _ _ hS ⟨σr6, F, nu, hM, hZ, hF, hL, (fun h9 => absurd (show (0 : Int32) < 6 by decide) h9)⟩ dModel_lookApply_118
        · refine lv_iconst (v := 3) hx hb dModel_lookApply_90 (by decide) ?_
          exact hE _ _ _ _ _ hS ⟨σr6, F, nu, hM, hZ, hF, hL, (fun h9 => absurd (show (0 : Int32) < 3 by decide) h9)⟩ dModel_lookApply_91
      · refine lv_bipush (v := 11) hx hb dModel_lookApply_55 (by decide) ?_
        exact hE _ _ _ _ _ hS ⟨σr6, F, nu, hM, hZ, hF, hL, (fun h9 => absurd (show (0 : Int32) < 11 by decide) h9)⟩ dModel_lookApply_57
    · refine lv_iload_n hx hb dModel_lookApply_43 rfl (lv_at hl 0 rfl) ?_
      exact hE _ _ _ _ _ hS ⟨σr6, F, nu, hM, hZ, hF, hL, (fun h9 => absurd (Int32.not_le.mp (by assumption)) h9)⟩ dModel_lookApply_44
  · refine lv_aload_n hx hb dModel_lookApply_18 rfl (lv_at hl 0 rfl) ?_
    refine lv_iload_n hx hb dModel_lookApply_19 rfl (lv_at hl 1 rfl) ?_
    refine lv_aload_n hx hb dModel_lookApply_20 rfl (lv_at hl 0 rfl) ?_
    refine md_gI S hC hM 33 (v := σr2 33) rfl (by decide) rfl qw_c60a40a4a7 dModel_lookApply_21 ?_
    refine lv_topi (fun v134 ev134 => ?_)
    have hf4 : ¬ 11 < v134 := (by rw [ev134]; exact hF.2.2 (ev3.symm.trans (by assumption)))
    refine mu_Vi (rest := []) S hC (fun q h => hA q (Nat.le_trans hS.1 h)) (fun q h => h) hS (m_lookFunction l γ a B Z κ b mn ν τ σr2 F nu hT x1 v134 (vin (by assumption) (by omega)) (by assumption) hZ hF) meModel_lookFunction qw_66cde9f86f ⟨Nat.le_of_ble_eq_true rfl, Nat.le_of_ble_eq_true rfl⟩ (md_rv hC hM) hM rfl hl.1 rfl (Nat.le_of_ble_eq_true rfl) dModel_lookApply_24 ⟨Nat.le_refl _, Nat.le_refl _⟩ (fun r135 H locs hPO hS _ _ => ?_)
    obtain ⟨σr135, Fr135, nur135, hM, hZ, hF, hLr135, hRr135⟩ := hPO
    have hL : SL x1.toNatClampNeg F nu Fr135 nur135 := hL.trans hLr135
    exact hE _ _ _ _ _ hS ⟨σr135, Fr135, nur135, hM, hZ, hF, hL, hRr135⟩ dModel_lookApply_27
theorem qw_1579022aeb : (Cond.fieldLink R_Model 66 R_Model "down" "[Z") ∈ bs_W0 := bs_in (in_tables_1_5 (List.mem_of_getElem? (i := 173) rfl)) rfl
set_option maxHeartbeats 4000000 in
set_option maxRecDepth 100000 in
theorem m_lookSlice (l : Launch) (γ : gE) (a : Nat) (B : Nat → Nat) (Z : Nat → Prop) (κ b mn : Nat → Nat) (ν : Nat → Int32) (τ : Nat → Nat → Int32) (σ : Nat → Int32) (F : Nat → Nat → Int32) (nu : Nat → Int64) (hT : ST κ b mn ν τ) (x1 : Int32) (x2 : Int32) (x3 : Int32) (hx1 : vp_in x1 (κ 0)) (hx2 : vp_in x2 (κ 0)) (hx3 : vp_in x3 (κ 0)) (ha : x2.toNatClampNeg < x1.toNatClampNeg) (hbk : x3.toNatClampNeg < x1.toNatClampNeg) (hZ : SZ F) (hF : FD σ) : MU l yModel_lookSlice bModel_lookSlice 12 (some .int) 2 48 0 0 [.ref a, .int x1, .int x2, .int x3] γ Z (MD γ a B Z ν τ σ F nu) (mQi (fun r H => LKo γ a B Z ν τ x1.toNatClampNeg F nu r H) Z) := by
  refine mu_openI (by decide) (Nat.le_of_ble_eq_true rfl) ?_
  intro p e s m args below meth c ls Q S hnm hC hA hM hE hl
  have hS : va_S Z s.heap s.heap [] := va_S.rf
  obtain ⟨hx, hb, hml, hown, hW⟩ := id S
  obtain ⟨⟨hs0, hs1, hs2, hs3, hs4, hs5, hs6⟩, ⟨hv6, hv8, hv21, hv24, hv30, hv31⟩, hTR, hTY, hOB, hNM⟩ := id hT
  have hL : SL x1.toNatClampNeg F nu F nu := SL.rf
  have hl : lv_has ls 12 [(0, .ref a), (1, .int x1), (2, .int x2), (3, .int x3)] := hl
  refine lv_aload_n hx hb dModel_lookSlice_0 rfl (lv_at hl 0 rfl) ?_
  refine lv_aload_n hx hb dModel_lookSlice_1 rfl (lv_at hl 0 rfl) ?_
  refine md_gA S hC hM 3 (by decide) rfl qw_9fb851a5fa dModel_lookSlice_2 ?_
  refine lv_iload_n hx hb dModel_lookSlice_5 rfl (lv_at hl 1 rfl) ?_
  refine md_ild S hC hM 3 1 4000 (τ 3) rfl rfl (by decide) rfl rfl (vin (by assumption) (by omega)) dModel_lookSlice_6 ?_
  refine lv_topi (fun v1 ev1 => ?_)
  refine mu_Vi (rest := []) S hC (fun q h => hA q (Nat.le_trans hS.1 h)) (fun q h => h) hS (m_rowObject l γ a B Z κ b mn ν τ σ F nu hT v1 ) meModel_rowObject qw_f33503df7d ⟨Nat.le_of_ble_eq_true rfl, Nat.le_of_ble_eq_true rfl⟩ (md_rv hC hM) hM rfl hl.1 rfl (Nat.le_of_ble_eq_true rfl) dModel_lookSlice_7 ⟨Nat.le_refl _, Nat.le_refl _⟩ (fun r2 H locs hPO hS _ _ => ?_)
  obtain ⟨σr2, hM, hF, hror2⟩ := hPO
  refine lv_istore (lv' := [(4, .int r2), (0, .ref a), (1, .int x1), (2, .int x2), (3, .int x3)]) hx hb dModel_lookSlice_10 hl (by decide) rfl (fun ls hl => ?_)
  refine lv_iload hx hb dModel_lookSlice_12 (lv_at hl 0 rfl) ?_
  refine lv_if_le (tgt := 20) hx hb dModel_lookSlice_14 (by decide) (fun c3 => ?_) (fun c3 => ?_)
  · obtain ⟨o, t, ho, ht, hoe, hot, htc⟩ := hror2.resolve_left (Int32.not_lt.mpr (by assumption))
    obtain ⟨lo, hi, cn, h17, h18, h19, hlo, hhi, hd1, hd2, hcn, hup, hdn⟩ := hTY t ht htc
    refine lv_aload_n hx hb dModel_lookSlice_20 rfl (lv_at hl 1 rfl) ?_
    refine md_gI S hC hM 33 (v := σr2 33) rfl (by decide) rfl qw_c60a40a4a7 dModel_lookSlice_21 ?_
    refine lv_topi (fun v4 ev4 => ?_)
    refine lv_istore (lv' := [(5, .int v4), (4, .int r2), (0, .ref a), (1, .int x1), (2, .int x2), (3, .int x3)]) hx hb dModel_lookSlice_24 hl (by decide) rfl (fun ls hl => ?_)
    have hio : vp_in v4 2000 := vin_of (ev4.trans hoe) ho (by omega)
    refine lv_aload_n hx hb dModel_lookSlice_26 rfl (lv_at hl 2 rfl) ?_
    refine md_gA S hC hM 23 (by decide) rfl qw_bd9bcb35cb dModel_lookSlice_27 ?_
    refine lv_iload hx hb dModel_lookSlice_30 (lv_at hl 0 rfl) ?_
    refine md_ild S hC hM 23 18 2000 (τ 23) rfl rfl (by decide) rfl rfl hio dModel_lookSlice_32 ?_
    refine lv_topi (fun v5 ev5 => ?_)
    refine lv_istore (lv' := [(6, .int v5), (5, .int v4), (4, .int r2), (0, .ref a), (1, .int x1), (2, .int x2), (3, .int x3)]) hx hb dModel_lookSlice_33 hl (by decide) rfl (fun ls hl => ?_)
    have hit : vp_in v5 1000 := ob_in hOB hio ev5
    have hio2 : v4.toNatClampNeg = o := (by rw [ev4, hoe]; exact nI_clamp (by omega))
    have hit2 : v5.toNatClampNeg = t := (by rw [ev5, hio2, hot]; exact nI_clamp (by omega))
    refine lv_aload_n hx hb dModel_lookSlice_35 rfl (lv_at hl 3 rfl) ?_
    refine md_gA S hC hM 9 (by decide) rfl qw_a119aeeca0 dModel_lookSlice_36 ?_
    refine lv_iload_n hx hb dModel_lookSlice_39 rfl (lv_at hl 5 rfl) ?_
    refine md_ild S hC hM 9 5 10000 (F 9) rfl rfl (by decide) rfl rfl (vin (by assumption) (by omega)) dModel_lookSlice_40 ?_
    refine lv_topi (fun v6 ev6 => ?_)
    refine lv_iconst (v := 2) hx hb dModel_lookSlice_41 (by decide) ?_
    refine lv_icmp_ne (tgt := 55) hx hb dModel_lookSlice_42 (by decide) (fun c7 => ?_) (fun c7 => ?_)
    · refine lv_iconst (v := 3) hx hb dModel_lookSlice_55 (by decide) ?_
      exact hE _ _ _ _ _ hS ⟨σr2, F, nu, hM, hZ, hF, hL, (fun h9 => absurd (show (0 : Int32) < 3 by decide) h9)⟩ dModel_lookSlice_56
    · refine lv_aload_n hx hb dModel_lookSlice_45 rfl (lv_at hl 3 rfl) ?_
      refine md_gA S hC hM 9 (by decide) rfl qw_a119aeeca0 dModel_lookSlice_46 ?_
      refine lv_iload_n hx hb dModel_lookSlice_49 rfl (lv_at hl 6 rfl) ?_
      refine md_ild S hC hM 9 5 10000 (F 9) rfl rfl (by decide) rfl rfl (vin (by assumption) (by omega)) dModel_lookSlice_50 ?_
      refine lv_topi (fun v8 ev8 => ?_)
      refine lv_iconst (v := 2) hx hb dModel_lookSlice_51 (by decide) ?_
      refine lv_icmp_eq (tgt := 57) hx hb dModel_lookSlice_52 (by decide) (fun c9 => ?_) (fun c9 => ?_)
      · refine lv_aload_n hx hb dModel_lookSlice_57 rfl (lv_at hl 3 rfl) ?_
        refine md_gA S hC hM 11 (by decide) rfl qw_88b9028ba7 dModel_lookSlice_58 ?_
        refine lv_iload_n hx hb dModel_lookSlice_61 rfl (lv_at hl 5 rfl) ?_
        refine md_zld S hC hM 11 7 10000 (F 11) rfl rfl (by decide) rfl rfl (vin (by assumption) (by omega)) dModel_lookSlice_62 ?_
        refine lv_topi (fun v10 ev10 => ?_)
        refine lv_if_eq (tgt := 75) hx hb dModel_lookSlice_63 (by decide) (fun c11 => ?_) (fun c11 => ?_)
        · refine lv_iconst (v := 5) hx hb dModel_lookSlice_75 (by decide) ?_
          exact hE _ _ _ _ _ hS ⟨σr2, F, nu, hM, hZ, hF, hL, (fun h9 => absurd (show (0 : Int32) < 5 by decide) h9)⟩ dModel_lookSlice_76
        · refine lv_aload_n hx hb dModel_lookSlice_66 rfl (lv_at hl 3 rfl) ?_
          refine md_gA S hC hM 11 (by decide) rfl qw_88b9028ba7 dModel_lookSlice_67 ?_
          refine lv_iload_n hx hb dModel_lookSlice_70 rfl (lv_at hl 6 rfl) ?_
          refine md_zld S hC hM 11 7 10000 (F 11) rfl rfl (by decide) rfl rfl (vin (by assumption) (by omega)) dModel_lookSlice_71 ?_
          refine lv_topi (fun v12 ev12 => ?_)
          refine lv_if_ne (tgt := 77) hx hb dModel_lookSlice_72 (by decide) (fun c13 => ?_) (fun c13 => ?_)
          · refine lv_aload_n hx hb dModel_lookSlice_77 rfl (lv_at hl 3 rfl) ?_
            refine md_gA S hC hM 2 (by decide) rfl qw_3471296067 dModel_lookSlice_78 ?_
            refine lv_iload_n hx hb dModel_lookSlice_81 rfl (lv_at hl 4 rfl) ?_
            refine md_ild S hC hM 2 0 4000 (τ 2) rfl rfl (by decide) rfl rfl (vin (by assumption) (by omega)) dModel_lookSlice_82 ?_
            refine lv_topi (fun v14 ev14 => ?_)
            refine lv_bipush (v := 24) hx hb dModel_lookSlice_83 (by decide) ?_
            have J93 : ∀ (ls : Array Slot) (t0_93 : Int32), lv_has ls 12 [(0, .ref a), (1, .int x1), (2, .int x2), (3, .int x3), (4, .int r2), (5, .int v4), (6, .int v5)] → W p l e (bs_rm 2 0 0 48) s m args below meth c H locs 0 0 Q (F0 m 93 ls [.int t0_93]) := by
              intro ls t0_93 hl
              refine lv_istore (lv' := [(7, .int t0_93), (0, .ref a), (1, .int x1), (2, .int x2), (3, .int x3), (4, .int r2), (5, .int v4), (6, .int v5)]) hx hb dModel_lookSlice_93 hl (by decide) rfl (fun ls hl => ?_)
              refine lv_iload hx hb dModel_lookSlice_95 (lv_at hl 0 rfl) ?_
              have J133 : ∀ (ls : Array Slot) (t0_133 : Int64), ((¬ t0_93 = 0 ∧ t0_133 = nu x2.toNatClampNeg - nu x3.toNatClampNeg + 1) ∨ (t0_93 = 0 ∧ t0_133 = nu x3.toNatClampNeg - nu x2.toNatClampNeg + 1)) → lv_has ls 12 [(0, .ref a), (1, .int x1), (2, .int x2), (3, .int x3), (4, .int r2), (5, .int v4), (6, .int v5), (7, .int t0_93)] → W p l e (bs_rm 2 0 0 48) s m args below meth c H locs 0 0 Q (F0 m 133 ls [.long t0_133]) := by
                intro ls t0_133 ht0_133 hl
                refine lv_lstore (lv' := [(8, .long t0_133), (0, .ref a), (1, .int x1), (2, .int x2), (3, .int x3), (4, .int r2), (5, .int v4), (6, .int v5), (7, .int t0_93)]) hx hb dModel_lookSlice_133 hl (by decide) rfl (fun ls hl => ?_)
                refine lv_iload hx hb dModel_lookSlice_135 (lv_at hl 8 rfl) ?_
                refine lv_aload_n hx hb dModel_lookSlice_137 rfl (lv_at hl 1 rfl) ?_
                refine md_gA S hC hM 20 (by decide) rfl qw_1579022aeb dModel_lookSlice_138 ?_
                refine lv_iload hx hb dModel_lookSlice_141 (lv_at hl 7 rfl) ?_
                refine md_zld S hC hM 20 16 1000 (τ 20) rfl rfl (by decide) rfl rfl (vin (by assumption) (by omega)) dModel_lookSlice_143 ?_
                refine lv_topi (fun v104 ev104 => ?_)
                refine lv_icmp_ne (tgt := 184) hx hb dModel_lookSlice_144 (by decide) (fun c105 => ?_) (fun c105 => ?_)
                · refine lv_bipush (v := 6) hx hb dModel_lookSlice_184 (by decide) ?_
                  exact hE _ _ _ _ _ hS ⟨σr2, F, nu, hM, hZ, hF, hL, (fun h9 => absurd (show (0 : Int32) < 6 by decide) h9)⟩ dModel_lookSlice_186
                · refine lv_lload hx hb dModel_lookSlice_147 (lv_at hl 0 rfl) ?_
                  refine lv_lconst (v := 1) hx hb dModel_lookSlice_149 (by decide) ?_
                  refine W.lcmp hx hb dModel_lookSlice_150 ?_
                  refine lv_topi (fun v106 ev106 => ?_)
                  refine lv_if_lt (tgt := 184) hx hb dModel_lookSlice_151 (by decide) (fun c107 => ?_) (fun c107 => ?_)
                  · refine lv_bipush (v := 6) hx hb dModel_lookSlice_184 (by decide) ?_
                    exact hE _ _ _ _ _ hS ⟨σr2, F, nu, hM, hZ, hF, hL, (fun h9 => absurd (show (0 : Int32) < 6 by decide) h9)⟩ dModel_lookSlice_186
                  · refine lv_aload_n hx hb dModel_lookSlice_154 rfl (lv_at hl 1 rfl) ?_
                    refine lv_iload hx hb dModel_lookSlice_155 (lv_at hl 7 rfl) ?_
                    refine lv_aload_n hx hb dModel_lookSlice_157 rfl (lv_at hl 1 rfl) ?_
                    refine md_gA S hC hM 13 (by decide) rfl qw_7b809afc8c dModel_lookSlice_158 ?_
                    refine lv_iload_n hx hb dModel_lookSlice_161 rfl (lv_at hl 3 rfl) ?_
                    refine md_lld S hC hM (vin (by assumption) (by omega)) dModel_lookSlice_162 ?_
                    refine lv_topl (fun v108 ev108 => ?_)
                    have ev108 : v108 = nu x2.toNatClampNeg := ev108
                    refine pu_Vi (rest := []) S hC (m_within l γ a B Z κ b mn ν τ σr2 F nu hT v5 v108 (vin (by assumption) (by omega))) meModel_within qw_5fce476f55 ⟨Nat.le_of_ble_eq_true rfl, Nat.le_of_ble_eq_true rfl⟩ (md_rv hC hM) hM rfl hl.1 rfl (Nat.le_of_ble_eq_true rfl) dModel_lookSlice_163 ⟨Nat.zero_le _, Nat.zero_le _⟩ (fun r109 hr109 => ?_)
                    refine lv_if_eq (tgt := 184) hx hb dModel_lookSlice_166 (by decide) (fun c110 => ?_) (fun c110 => ?_)
                    · refine lv_bipush (v := 6) hx hb dModel_lookSlice_184 (by decide) ?_
                      exact hE _ _ _ _ _ hS ⟨σr2, F, nu, hM, hZ, hF, hL, (fun h9 => absurd (show (0 : Int32) < 6 by decide) h9)⟩ dModel_lookSlice_186
                    · refine lv_aload_n hx hb dModel_lookSlice_169 rfl (lv_at hl 1 rfl) ?_
                      refine lv_iload hx hb dModel_lookSlice_170 (lv_at hl 7 rfl) ?_
                      refine lv_aload_n hx hb dModel_lookSlice_172 rfl (lv_at hl 1 rfl) ?_
                      refine md_gA S hC hM 13 (by decide) rfl qw_7b809afc8c dModel_lookSlice_173 ?_
                      refine lv_iload_n hx hb dModel_lookSlice_176 rfl (lv_at hl 4 rfl) ?_
                      refine md_lld S hC hM (vin (by assumption) (by omega)) dModel_lookSlice_177 ?_
                      refine lv_topl (fun v111 ev111 => ?_)
                      have ev111 : v111 = nu x3.toNatClampNeg := ev111
                      refine pu_Vi (rest := []) S hC (m_within l γ a B Z κ b mn ν τ σr2 F nu hT v5 v111 (vin (by assumption) (by omega))) meModel_within qw_5fce476f55 ⟨Nat.le_of_ble_eq_true rfl, Nat.le_of_ble_eq_true rfl⟩ (md_rv hC hM) hM rfl hl.1 rfl (Nat.le_of_ble_eq_true rfl) dModel_lookSlice_178 ⟨Nat.zero_le _, Nat.zero_le _⟩ (fun r112 hr112 => ?_)
                      refine lv_if_ne (tgt := 187) hx hb dModel_lookSlice_181 (by decide) (fun c113 => ?_) (fun c113 => ?_)
                      · have h1n : 1 ≤ t0_133.toInt := c_ge1 ev106 (by assumption)
                        have hwa := (hr109.resolve_left (by assumption)) lo hi (by rw [hit2]; exact h17) (by rw [hit2]; exact h18) hlo hhi
                        have hwb := (hr112.resolve_left (by assumption)) lo hi (by rw [hit2]; exact h17) (by rw [hit2]; exact h18) hlo hhi
                        rw [ev108] at hwa
                        rw [ev111] at hwb
                        have hsl := sl_ok hlo hhi hd1 hd2 (fun h9 => hup (by rw [← hit2, ← ev104]; exact h9)) (fun h9 => hdn (by rw [← hit2, ← ev104]; exact h9)) (by assumption) hwa hwb ht0_133 h1n
                        refine lv_aload_n hx hb dModel_lookSlice_187 rfl (lv_at hl 1 rfl) ?_
                        refine lv_iload_n hx hb dModel_lookSlice_188 rfl (lv_at hl 2 rfl) ?_
                        refine lv_iconst (v := 3) hx hb dModel_lookSlice_189 (by decide) ?_
                        refine lv_lload hx hb dModel_lookSlice_190 (lv_at hl 0 rfl) ?_
                        refine lv_l2i hx hb dModel_lookSlice_192 rfl ?_
                        refine lv_topi (fun v114 ev114 => ?_)
                        refine lv_aload_n hx hb dModel_lookSlice_193 rfl (lv_at hl 1 rfl) ?_
                        refine md_gA S hC hM 22 (by decide) rfl qw_50c5849686 dModel_lookSlice_194 ?_
                        refine lv_iload hx hb dModel_lookSlice_197 (lv_at hl 6 rfl) ?_
                        refine md_ild S hC hM 22 17 2000 (τ 22) rfl rfl (by decide) rfl rfl (vin (by assumption) (by omega)) dModel_lookSlice_199 ?_
                        refine lv_topi (fun v115 ev115 => ?_)
                        have J208 : ∀ (ls : Array Slot) (t0_208 : Int32), lv_has ls 12 [(0, .ref a), (1, .int x1), (2, .int x2), (3, .int x3), (4, .int r2), (5, .int v4), (6, .int v5), (7, .int t0_93), (8, .long t0_133)] → W p l e (bs_rm 2 0 0 48) s m args below meth c H locs 0 0 Q (F0 m 208 ls [.int t0_208, .int v114, .int 3, .int x1, .ref a]) := by
                          intro ls t0_208 hl
                          have hnr139 : ∃ j, j ≤ 1000 ∧ v114 = nI j := (sz_of h1n hsl.1 ev114)
                          refine mu_Vv (rest := []) S hC (fun q h => hA q (Nat.le_trans hS.1 h)) (fun q h => h) hS (m_fact l γ a B Z κ b mn ν τ σr2 F nu hT x1 3 v114 t0_208 (vin (by assumption) (by omega)) hnr139) meModel_fact qw_02871250ec ⟨Nat.le_of_ble_eq_true rfl, Nat.le_of_ble_eq_true rfl⟩ (md_rv hC hM) hM rfl hl.1 rfl (Nat.le_of_ble_eq_true rfl) dModel_lookSlice_208 ⟨Nat.le_refl _, Nat.le_refl _⟩ (fun H locs hPO hS _ _ => ?_)
                          obtain ⟨Fr139, nur139, hM, hqr139, hcr139⟩ := hPO
                          have hZ : SZ Fr139 := hZ.slt hqr139 hnr139
                          have hL : SL x1.toNatClampNeg F nu Fr139 nur139 := hL.trans (SL.slt hqr139)
                          have hK : GK x1.toNatClampNeg Fr139 nur139 := GK.zero hqr139
                          have hnn : nur139 x3.toNatClampNeg = nu x3.toNatClampNeg := sltnn hqr139 (Nat.ne_of_lt hbk)
                          refine lv_iload hx hb dModel_lookSlice_211 (lv_at hl 7 rfl) ?_
                          have J249 : ∀ (ls : Array Slot) (t0_249 : Int64), (0 ≤ t0_249.toInt ∧ t0_249.toInt + t0_133.toInt ≤ 64) → lv_has ls 12 [(0, .ref a), (1, .int x1), (2, .int x2), (3, .int x3), (4, .int r2), (5, .int v4), (6, .int v5), (7, .int t0_93), (8, .long t0_133)] → W p l e (bs_rm 2 0 0 48) s m args below meth c H locs 0 0 Q (F0 m 249 ls [.long t0_249]) := by
                            intro ls t0_249 ht0_249 hl
                            refine lv_l2i hx hb dModel_lookSlice_249 rfl ?_
                            refine lv_topi (fun v161 ev161 => ?_)
                            refine lv_istore (lv' := [(10, .int v161), (0, .ref a), (1, .int x1), (2, .int x2), (3, .int x3), (4, .int r2), (5, .int v4), (6, .int v5), (7, .int t0_93), (8, .long t0_133)]) hx hb dModel_lookSlice_250 hl (by decide) rfl (fun ls hl => ?_)
                            refine lv_iconst (v := 0) hx hb dModel_lookSlice_252 (by decide) ?_
                            refine lv_istore (lv' := [(11, .int 0), (10, .int v161), (0, .ref a), (1, .int x1), (2, .int x2), (3, .int x3), (4, .int r2), (5, .int v4), (6, .int v5), (7, .int t0_93), (8, .long t0_133)]) hx hb dModel_lookSlice_253 hl (by decide) rfl (fun ls hl => ?_)
                            have J255 : ∀ (N255 : Nat) (ls : Array Slot) (H : Heap) (locs : List Loc) (F_255 : Nat → Nat → Int32) (i11_255 : Int32), MD γ a B Z ν τ σr2 F_255 nur139 H → va_S Z s.heap H locs → (GK x1.toNatClampNeg F_255 nur139) → (SL x1.toNatClampNeg F nu F_255 nur139) → (SZ F_255) → (¬ i11_255 < 0) → (2147483647 - i11_255.toInt).toNat = N255 → lv_has ls 12 [(0, .ref a), (1, .int x1), (2, .int x2), (3, .int x3), (4, .int r2), (5, .int v4), (6, .int v5), (7, .int t0_93), (8, .long t0_133), (10, .int v161), (11, .int i11_255)] → W p l e (bs_rm 2 0 0 48) s m args below meth c H locs 0 0 Q (F0 m 255 ls []) := by
                              intro N255
                              induction N255 using Nat.strongRecOn with
                              | ind N255 ih255 =>
                                intro ls H locs F_255 i11_255 hM hS hK hL hZ hi11_255 hm255 hl
                                refine lv_iload hx hb dModel_lookSlice_255 (lv_at hl 10 rfl) ?_
                                refine lv_i2l hx hb dModel_lookSlice_257 rfl ?_
                                refine lv_topl (fun v162 ev162 => ?_)
                                refine lv_lload hx hb dModel_lookSlice_258 (lv_at hl 8 rfl) ?_
                                refine W.lcmp hx hb dModel_lookSlice_260 ?_
                                refine lv_topi (fun v163 ev163 => ?_)
                                have J302 : ∀ (ls : Array Slot), lv_has ls 12 [(0, .ref a), (1, .int x1), (2, .int x2), (3, .int x3), (4, .int r2), (5, .int v4), (6, .int v5), (7, .int t0_93), (8, .long t0_133), (10, .int v161), (11, .int i11_255)] → W p l e (bs_rm 2 0 0 48) s m args below meth c H locs 0 0 Q (F0 m 302 ls []) := by
                                  intro ls hl
                                  refine lv_aload_n hx hb dModel_lookSlice_302 rfl (lv_at hl 0 rfl) ?_
                                  refine md_gA S hC hM 12 (by decide) rfl qw_19df235c4a dModel_lookSlice_303 ?_
                                  refine lv_iload_n hx hb dModel_lookSlice_306 rfl (lv_at hl 1 rfl) ?_
                                  refine lv_iload hx hb dModel_lookSlice_307 (lv_at hl 5 rfl) ?_
                                  refine md_istD S hC hM hS 12 8 10000 rfl rfl (by decide) rfl rfl (vin (by assumption) (by omega)) dModel_lookSlice_309 (fun H locs hM hS => ?_)
                                  obtain ⟨F173, eF173⟩ : ∃ z : Nat → Nat → Int32, z = Au F_255 12 x1.toNatClampNeg v4 := ⟨_, rfl⟩
                                  rw [← eF173] at hM
                                  have hZ : SZ F173 := hZ.au eF173 (by decide)
                                  have hL : SL x1.toNatClampNeg F nu F173 nur139 := hL.au eF173 (by decide)
                                  have hK : GK x1.toNatClampNeg F173 nur139 := hK.au eF173 (by decide)
                                  refine lv_iconst (v := 0) hx hb dModel_lookSlice_310 (by decide) ?_
                                  exact hE _ _ _ _ _ hS ⟨σr2, F173, nur139, hM, hZ, hF, hL, (fun _ => hK)⟩ dModel_lookSlice_311
                                refine lv_if_ge (tgt := 302) hx hb dModel_lookSlice_261 (by decide) (fun c174 => ?_) (fun c174 => ?_)
                                · exact J302 ls  (lv_sub hl [0, 1, 2, 3, 4, 5, 6, 7, 8, 9, 10] rfl)
                                · obtain ⟨hj1, hj2, hj3⟩ := sl_j (by assumption) ev162 ev163 (by assumption) hsl.1
                                  refine lv_aload_n hx hb dModel_lookSlice_264 rfl (lv_at hl 0 rfl) ?_
                                  refine md_gA S hC hM 22 (by decide) rfl qw_50c5849686 dModel_lookSlice_265 ?_
                                  refine lv_iload hx hb dModel_lookSlice_268 (lv_at hl 5 rfl) ?_
                                  refine md_ild S hC hM 22 17 2000 (τ 22) rfl rfl (by decide) rfl rfl (vin (by assumption) (by omega)) dModel_lookSlice_270 ?_
                                  refine lv_topi (fun v175 ev175 => ?_)
                                  refine lv_if_ne (tgt := 302) hx hb dModel_lookSlice_271 (by decide) (fun c176 => ?_) (fun c176 => ?_)
                                  · exact J302 ls  (lv_sub hl [0, 1, 2, 3, 4, 5, 6, 7, 8, 9, 10] rfl)
                                  · refine lv_aload_n hx hb dModel_lookSlice_274 rfl (lv_at hl 0 rfl) ?_
                                    refine lv_iload_n hx hb dModel_lookSlice_275 rfl (lv_at hl 1 rfl) ?_
                                    refine lv_iload hx hb dModel_lookSlice_276 (lv_at hl 10 rfl) ?_
                                    refine lv_aload_n hx hb dModel_lookSlice_278 rfl (lv_at hl 0 rfl) ?_
                                    refine lv_sipush (v := 8000) hx hb dModel_lookSlice_279 (by decide) ?_
                                    refine lv_iload hx hb dModel_lookSlice_282 (lv_at hl 5 rfl) ?_
                                    refine lv_iadd hx hb dModel_lookSlice_284 ?_
                                    refine lv_topi (fun v177 ev177 => ?_)
                                    refine lv_iload hx hb dModel_lookSlice_285 (lv_at hl 9 rfl) ?_
                                    refine lv_iload hx hb dModel_lookSlice_287 (lv_at hl 10 rfl) ?_
                                    refine lv_iadd hx hb dModel_lookSlice_289 ?_
                                    refine lv_topi (fun v178 ev178 => ?_)
                                    have h8 := (vin8 hio ev177).1
                                    have hle : vp_in v178 64 := sl_e ev161 ht0_249.1 ht0_249.2 hj1 hj3 ev178
                                    refine pu_Vi (rest := [.int i11_255, .int x1, .ref a]) S hC (m_element l γ a B Z κ b mn ν τ σr2 F_255 nur139 hT v177 v178 (el_in (by assumption) (by assumption) (by omega))) meModel_element qw_ceb3d87d61 ⟨Nat.le_of_ble_eq_true rfl, Nat.le_of_ble_eq_true rfl⟩ (md_rv hC hM) hM rfl hl.1 rfl (Nat.le_of_ble_eq_true rfl) dModel_lookSlice_290 ⟨Nat.zero_le _, Nat.zero_le _⟩ (fun r179 hr179 => ?_)
                                    refine mu_Vv (rest := []) S hC (fun q h => hA q (Nat.le_trans hS.1 h)) (fun q h => h) hS (m_setElement l γ a B Z κ b mn ν τ σr2 F_255 nur139 hT x1 i11_255 r179 (el_in (by assumption) (by assumption) (by omega))) meModel_setElement qw_143403ccb9 ⟨Nat.le_of_ble_eq_true rfl, Nat.le_of_ble_eq_true rfl⟩ (md_rv hC hM) hM rfl hl.1 rfl (Nat.le_of_ble_eq_true rfl) dModel_lookSlice_293 ⟨Nat.le_refl _, Nat.le_refl _⟩ (fun H locs hPO hS _ _ => ?_)
                                    obtain ⟨Fr180, hM, hqr180⟩ := hPO
                                    have hZ : SZ Fr180 := hZ.e14 hqr180
                                    have hL : SL x1.toNatClampNeg F nu Fr180 nur139 := hL.trans (SL.e14 hqr180)
                                    have hK : GK x1.toNatClampNeg Fr180 nur139 := hK.e14 hqr180
                                    obtain ⟨v181, ev181⟩ : ∃ y : Int32, y = i11_255 + 1 := ⟨_, rfl⟩
                                    refine lv_iinc (v := v181) (lv' := [(11, .int v181), (0, .ref a), (1, .int x1), (2, .int x2), (3, .int x3), (4, .int r2), (5, .int v4), (6, .int v5), (7, .int t0_93), (8, .long t0_133), (10, .int v161)]) hx hb dModel_lookSlice_296 hl (k := 10) rfl (by rw [ev181]; rfl) (by decide) rfl (fun ls hl => ?_)
                                    refine lv_goto (tgt := 255) hx hb dModel_lookSlice_299 (by decide) ?_
                                    exact ih255 _ (by have q1 : i11_255.toInt < 2147483647 := (by first | assumption | exact (mu_up (k := i11_255) (by assumption)).2); have q2 := mu_lt q1; rw [← ev181] at q2; omega) ls _ _ Fr180 v181 hM hS hK hL hZ (by first | decide | exact nn_inc2 (by assumption) (by assumption) hj2) rfl (lv_sub hl [1, 2, 3, 4, 5, 6, 7, 8, 9, 10, 0] rfl)
                            exact J255 _ ls _ _ Fr139 0 hM hS hK hL hZ (by first | decide | exact nn_inc2 (by assumption) (by assumption) hj2) rfl (lv_sub hl [2, 3, 4, 5, 6, 7, 8, 9, 10, 1, 0] rfl)
                          refine lv_if_eq (tgt := 234) hx hb dModel_lookSlice_213 (by decide) (fun c182 => ?_) (fun c182 => ?_)
                          · refine lv_aload_n hx hb dModel_lookSlice_234 rfl (lv_at hl 0 rfl) ?_
                            refine md_gA S hC hM 18 (by decide) rfl qw_82ee92f611 dModel_lookSlice_235 ?_
                            refine lv_iload hx hb dModel_lookSlice_238 (lv_at hl 6 rfl) ?_
                            refine md_ild S hC hM 18 14 1000 (τ 18) rfl rfl (by decide) rfl rfl (vin (by assumption) (by omega)) dModel_lookSlice_240 ?_
                            refine lv_topi (fun v183 ev183 => ?_)
                            refine lv_i2l hx hb dModel_lookSlice_241 rfl ?_
                            refine lv_topl (fun v184 ev184 => ?_)
                            refine lv_aload_n hx hb dModel_lookSlice_242 rfl (lv_at hl 0 rfl) ?_
                            refine md_gA S hC hM 13 (by decide) rfl qw_7b809afc8c dModel_lookSlice_243 ?_
                            refine lv_iload_n hx hb dModel_lookSlice_246 rfl (lv_at hl 3 rfl) ?_
                            refine md_lld S hC hM (vin (by assumption) (by omega)) dModel_lookSlice_247 ?_
                            refine lv_topl (fun v185 ev185 => ?_)
                            have ev185 : v185 = nur139 x3.toNatClampNeg := ev185
                            refine lv_lsub hx hb dModel_lookSlice_248 ?_
                            refine lv_topl (fun v186 ev186 => ?_)
                            exact J249 ls v186 (by first | exact sl_d1 hhi hsl.2 (by assumption) (ev145.trans hnn) (hi_int ev146 (by rw [hit2]; exact h18) ev147 hhi) ev186 h1n | exact sl_d2 hhi hsl.2 (by assumption) (ev185.trans hnn) (hi_int ev183 (by rw [hit2]; exact h18) ev184 hhi) ev186 h1n) (lv_sub hl [0, 1, 2, 3, 4, 5, 6, 7, 8] rfl)
                          · refine lv_aload_n hx hb dModel_lookSlice_216 rfl (lv_at hl 0 rfl) ?_
                            refine md_gA S hC hM 13 (by decide) rfl qw_7b809afc8c dModel_lookSlice_217 ?_
                            refine lv_iload_n hx hb dModel_lookSlice_220 rfl (lv_at hl 3 rfl) ?_
                            refine md_lld S hC hM (vin (by assumption) (by omega)) dModel_lookSlice_221 ?_
                            refine lv_topl (fun v187 ev187 => ?_)
                            have ev187 : v187 = nur139 x3.toNatClampNeg := ev187
                            refine lv_aload_n hx hb dModel_lookSlice_222 rfl (lv_at hl 0 rfl) ?_
                            refine md_gA S hC hM 18 (by decide) rfl qw_82ee92f611 dModel_lookSlice_223 ?_
                            refine lv_iload hx hb dModel_lookSlice_226 (lv_at hl 6 rfl) ?_
                            refine md_ild S hC hM 18 14 1000 (τ 18) rfl rfl (by decide) rfl rfl (vin (by assumption) (by omega)) dModel_lookSlice_228 ?_
                            refine lv_topi (fun v188 ev188 => ?_)
                            refine lv_i2l hx hb dModel_lookSlice_229 rfl ?_
                            refine lv_topl (fun v189 ev189 => ?_)
                            refine lv_lsub hx hb dModel_lookSlice_230 ?_
                            refine lv_topl (fun v190 ev190 => ?_)
                            refine lv_goto (tgt := 249) hx hb dModel_lookSlice_231 (by decide) ?_
                            exact J249 ls v190 (by first | exact sl_d1 hhi hsl.2 (by assumption) (ev187.trans hnn) (hi_int ev188 (by rw [hit2]; exact h18) ev189 hhi) ev190 h1n | exact sl_d2 hhi hsl.2 (by assumption) (ev185.trans hnn) (hi_int ev183 (by rw [hit2]; exact h18) ev184 hhi) ev190 h1n) (lv_sub hl [0, 1, 2, 3, 4, 5, 6, 7, 8] rfl)
                        refine lv_if_ne (tgt := 207) hx hb dModel_lookSlice_200 (by decide) (fun c191 => ?_) (fun c191 => ?_)
                        · refine lv_iconst (v := 0) hx hb dModel_lookSlice_207 (by decide) ?_
                          exact J208 ls 0 (lv_sub hl [1, 2, 3, 4, 5, 6, 7, 8, 0] rfl)
                        · refine lv_iconst (v := 1) hx hb dModel_lookSlice_203 (by decide) ?_
                          refine lv_goto (tgt := 208) hx hb dModel_lookSlice_204 (by decide) ?_
                          exact J208 ls 1 (lv_sub hl [1, 2, 3, 4, 5, 6, 7, 8, 0] rfl)
                      · refine lv_bipush (v := 6) hx hb dModel_lookSlice_184 (by decide) ?_
                        exact hE _ _ _ _ _ hS ⟨σr2, F, nu, hM, hZ, hF, hL, (fun h9 => absurd (show (0 : Int32) < 6 by decide) h9)⟩ dModel_lookSlice_186
              refine lv_if_eq (tgt := 118) hx hb dModel_lookSlice_97 (by decide) (fun c192 => ?_) (fun c192 => ?_)
              · refine lv_aload_n hx hb dModel_lookSlice_118 rfl (lv_at hl 1 rfl) ?_
                refine md_gA S hC hM 13 (by decide) rfl qw_7b809afc8c dModel_lookSlice_119 ?_
                refine lv_iload_n hx hb dModel_lookSlice_122 rfl (lv_at hl 4 rfl) ?_
                refine md_lld S hC hM (vin (by assumption) (by omega)) dModel_lookSlice_123 ?_
                refine lv_topl (fun v193 ev193 => ?_)
                have ev193 : v193 = nu x3.toNatClampNeg := ev193
                refine lv_aload_n hx hb dModel_lookSlice_124 rfl (lv_at hl 1 rfl) ?_
                refine md_gA S hC hM 13 (by decide) rfl qw_7b809afc8c dModel_lookSlice_125 ?_
                refine lv_iload_n hx hb dModel_lookSlice_128 rfl (lv_at hl 3 rfl) ?_
                refine md_lld S hC hM (vin (by assumption) (by omega)) dModel_lookSlice_129 ?_
                refine lv_topl (fun v194 ev194 => ?_)
                have ev194 : v194 = nu x2.toNatClampNeg := ev194
                refine lv_lsub hx hb dModel_lookSlice_130 ?_
                refine lv_topl (fun v195 ev195 => ?_)
                refine lv_lconst (v := 1) hx hb dModel_lookSlice_131 (by decide) ?_
                refine lv_ladd hx hb dModel_lookSlice_132 ?_
                refine lv_topl (fun v196 ev196 => ?_)
                exact J133 ls v196 (by first | exact Or.inl ⟨by assumption, by rw [ev196, ev195, ev194, ev193]⟩ | exact Or.inr ⟨by assumption, by rw [ev196, ev195, ev194, ev193]⟩) (lv_sub hl [1, 2, 3, 4, 5, 6, 7, 0] rfl)
              · refine lv_aload_n hx hb dModel_lookSlice_100 rfl (lv_at hl 1 rfl) ?_
                refine md_gA S hC hM 13 (by decide) rfl qw_7b809afc8c dModel_lookSlice_101 ?_
                refine lv_iload_n hx hb dModel_lookSlice_104 rfl (lv_at hl 3 rfl) ?_
                refine md_lld S hC hM (vin (by assumption) (by omega)) dModel_lookSlice_105 ?_
                refine lv_topl (fun v197 ev197 => ?_)
                have ev197 : v197 = nu x2.toNatClampNeg := ev197
                refine lv_aload_n hx hb dModel_lookSlice_106 rfl (lv_at hl 1 rfl) ?_
                refine md_gA S hC hM 13 (by decide) rfl qw_7b809afc8c dModel_lookSlice_107 ?_
                refine lv_iload_n hx hb dModel_lookSlice_110 rfl (lv_at hl 4 rfl) ?_
                refine md_lld S hC hM (vin (by assumption) (by omega)) dModel_lookSlice_111 ?_
                refine lv_topl (fun v198 ev198 => ?_)
                have ev198 : v198 = nu x3.toNatClampNeg := ev198
                refine lv_lsub hx hb dModel_lookSlice_112 ?_
                refine lv_topl (fun v199 ev199 => ?_)
                refine lv_lconst (v := 1) hx hb dModel_lookSlice_113 (by decide) ?_
                refine lv_ladd hx hb dModel_lookSlice_114 ?_
                refine lv_topl (fun v200 ev200 => ?_)
                refine lv_goto (tgt := 133) hx hb dModel_lookSlice_115 (by decide) ?_
                exact J133 ls v200 (by first | exact Or.inl ⟨by assumption, by rw [ev200, ev199, ev197, ev198]⟩ | exact Or.inr ⟨by assumption, by rw [ev200, ev199, ev197, ev198]⟩) (lv_sub hl [1, 2, 3, 4, 5, 6, 7, 0] rfl)
            refine lv_icmp_ne (tgt := 92) hx hb dModel_lookSlice_85 (by decide) (fun c201 => ?_) (fun c201 => ?_)
            · refine lv_iconst (v := 0) hx hb dModel_lookSlice_92 (by decide) ?_
              exact J93 ls 0 (lv_sub hl [3, 4, 5, 6, 2, 1, 0] rfl)
            · refine lv_iconst (v := 1) hx hb dModel_lookSlice_88 (by decide) ?_
              refine lv_goto (tgt := 93) hx hb dModel_lookSlice_89 (by decide) ?_
              exact J93 ls 1 (lv_sub hl [3, 4, 5, 6, 2, 1, 0] rfl)
          · refine lv_iconst (v := 5) hx hb dModel_lookSlice_75 (by decide) ?_
            exact hE _ _ _ _ _ hS ⟨σr2, F, nu, hM, hZ, hF, hL, (fun h9 => absurd (show (0 : Int32) < 5 by decide) h9)⟩ dModel_lookSlice_76
      · refine lv_iconst (v := 3) hx hb dModel_lookSlice_55 (by decide) ?_
        exact hE _ _ _ _ _ hS ⟨σr2, F, nu, hM, hZ, hF, hL, (fun h9 => absurd (show (0 : Int32) < 3 by decide) h9)⟩ dModel_lookSlice_56
  · refine lv_iload hx hb dModel_lookSlice_17 (lv_at hl 0 rfl) ?_
    exact hE _ _ _ _ _ hS ⟨σr2, F, nu, hM, hZ, hF, hL, (fun h9 => absurd (Int32.not_le.mp (by assumption)) h9)⟩ dModel_lookSlice_19
