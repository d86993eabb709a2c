set_option maxHeartbeats 4000000 in
set_option maxRecDepth 100000 in
theorem m_enumeration (l : Launch) (γ : gE) (a : Nat) (B : Nat → Nat) (Z : Nat → Prop) (κ b mn : Nat → Nat) (ν : Nat → Int32) (τ : Nat → Nat → Int32) (σ : Nat → Int32) (F : Nat → Nat → Int32) (nu : Nat → Int64) (hT : ST κ b mn ν τ) (x1 : Int32) (hZ : SZ F) (hF : FD σ) (hG : GD F nu) : MU l yModel_enumeration bModel_enumeration 7 (some .int) 1 25 0 0 [.ref a, .int x1] γ Z (MD γ a B Z ν τ σ F nu) (mQi (fun r H => ∃ (κ' : Nat → Nat) (cd : Int32), (κ' 5 = κ 5 ∧ κ' 0 = κ 0 ∧ κ' 1 = κ 1) ∧ MI γ a B Z κ' cd H) Z) := by
  refine mu_openI (by decide) (Nat.le_of_ble_eq_true rfl) ?_
  intro p e s m args below meth c ls Q S hnm hC hA hM hE hl
  have hS : va_S Z s.heap s.heap [] := va_S.rf
  obtain ⟨hx, hb, hml, hown, hW⟩ := id S
  obtain ⟨⟨hs0, hs1, hs2, hs3, hs4, hs5, hs6⟩, ⟨hv6, hv8, hv21, hv24, hv30, hv31⟩, hTR, hTY, hOB, hNM⟩ := id hT
  have hl : lv_has ls 7 [(0, .ref a), (1, .int x1)] := hl
  refine lv_aload_n hx hb dModel_enumeration_0 rfl (lv_at hl 0 rfl) ?_
  refine lv_aload_n hx hb dModel_enumeration_1 rfl (lv_at hl 0 rfl) ?_
  refine lv_iload_n hx hb dModel_enumeration_2 rfl (lv_at hl 1 rfl) ?_
  refine pu_Vi (rest := [.ref a]) S hC (m_noNode l γ a B Z κ b mn ν τ σ F nu hT x1 ) meModel_noNode qw_c926675227 ⟨Nat.le_of_ble_eq_true rfl, Nat.le_of_ble_eq_true rfl⟩ (md_rv hC hM) hM rfl hl.1 rfl (Nat.le_of_ble_eq_true rfl) dModel_enumeration_3 ⟨Nat.zero_le _, Nat.zero_le _⟩ (fun r1 hr1 => ?_)
  have J14 : ∀ (ls : Array Slot) (t0_14 : Int32), (0 < t0_14 ∨ (t0_14 = 0 ∧ vp_in x1 (κ 0))) → lv_has ls 7 [(0, .ref a), (1, .int x1)] → W p l e (bs_rm 1 0 0 25) s m args below meth c s.heap [] 0 0 Q (F0 m 14 ls [.int t0_14, .ref a]) := by
    intro ls t0_14 ht0_14 hl
    refine md_pD S hC hM hS 0 rfl (by decide) rfl qw_53e275eed6 rfl (by decide +kernel) dModel_enumeration_14 (fun H locs hM hS => ?_)
    obtain ⟨σ64, eσ64⟩ : ∃ z : Nat → Int32, z = upd σ 0 t0_14 := ⟨_, rfl⟩
    rw [← eσ64] at hM
    have hF : FD σ64 := hF.up eσ64 (by decide) (by decide)
    refine lv_aload_n hx hb dModel_enumeration_17 rfl (lv_at hl 0 rfl) ?_
    refine md_gI S hC hM 0 (v := σ64 0) rfl (by decide) rfl qw_53e275eed6 dModel_enumeration_18 ?_
    refine lv_topi (fun v65 ev65 => ?_)
    refine lv_if_le (tgt := 26) hx hb dModel_enumeration_21 (by decide) (fun c66 => ?_) (fun c66 => ?_)
    · have hx1 : vp_in x1 (κ 0) := cd_0 eσ64 ev65 (by assumption) ht0_14
      refine lv_aload_n hx hb dModel_enumeration_26 rfl (lv_at hl 0 rfl) ?_
      refine md_gA S hC hM 4 (by decide) rfl qw_a8caa30de3 dModel_enumeration_27 ?_
      refine lv_iload_n hx hb dModel_enumeration_30 rfl (lv_at hl 1 rfl) ?_
      refine md_ild S hC hM 4 2 4000 (τ 4) rfl rfl (by decide) rfl rfl (vin (by assumption) (by omega)) dModel_enumeration_31 ?_
      refine lv_topi (fun v67 ev67 => ?_)
      refine lv_istore_n (lv' := [(2, .int v67), (0, .ref a), (1, .int x1)]) hx hb dModel_enumeration_32 rfl hl (by decide) rfl (fun ls hl => ?_)
      obtain ⟨hn2, hmx⟩ := mn_of hTR hx1 ev67
      refine lv_aload_n hx hb dModel_enumeration_33 rfl (lv_at hl 1 rfl) ?_
      refine md_gA S hC hM 2 (by decide) rfl qw_3471296067 dModel_enumeration_34 ?_
      refine lv_iload_n hx hb dModel_enumeration_37 rfl (lv_at hl 2 rfl) ?_
      refine md_ild S hC hM 2 0 4000 (τ 2) rfl rfl (by decide) rfl rfl (vin (by assumption) (by omega)) dModel_enumeration_38 ?_
      refine lv_topi (fun v68 ev68 => ?_)
      refine lv_bipush (v := 53) hx hb dModel_enumeration_39 (by decide) ?_
      have J60 : ∀ (ls : Array Slot) (t0_60 : Int32), (t0_60 = 0 ∨ mn x1.toNatClampNeg ≤ 64) → lv_has ls 7 [(0, .ref a), (1, .int x1), (2, .int v67)] → W p l e (bs_rm 1 0 0 25) s m args below meth c H locs 0 0 Q (F0 m 60 ls [.int t0_60]) := by
        intro ls t0_60 ht0_60 hl
        refine lv_istore_n (lv' := [(3, .int t0_60), (0, .ref a), (1, .int x1), (2, .int v67)]) hx hb dModel_enumeration_60 rfl hl (by decide) rfl (fun ls hl => ?_)
        refine lv_iconst (v := 0) hx hb dModel_enumeration_61 (by decide) ?_
        refine lv_istore (lv' := [(4, .int 0), (3, .int t0_60), (0, .ref a), (1, .int x1), (2, .int v67)]) hx hb dModel_enumeration_62 hl (by decide) rfl (fun ls hl => ?_)
        have J64 : ∀ (N64 : Nat) (ls : Array Slot) (i4_64 : Int32) (i3_64 : Int32), (¬ i4_64 < 0) → (i3_64 = 0 ∨ mn x1.toNatClampNeg ≤ 64) → (2147483647 - i4_64.toInt).toNat = N64 → lv_has ls 7 [(0, .ref a), (1, .int x1), (2, .int v67), (3, .int i3_64), (4, .int i4_64)] → W p l e (bs_rm 1 0 0 25) s m args below meth c H locs 0 0 Q (F0 m 64 ls []) := by
          intro N64
          induction N64 using Nat.strongRecOn with
          | ind N64 ih64 =>
            intro ls i4_64 i3_64 hi4_64 hi3_64 hm64 hl
            refine lv_iload hx hb dModel_enumeration_64 (lv_at hl 4 rfl) ?_
            refine lv_iload_n hx hb dModel_enumeration_66 rfl (lv_at hl 2 rfl) ?_
            have J117 : ∀ (ls : Array Slot), lv_has ls 7 [(0, .ref a), (1, .int x1), (2, .int v67), (3, .int i3_64), (4, .int i4_64)] → W p l e (bs_rm 1 0 0 25) s m args below meth c H locs 0 0 Q (F0 m 117 ls []) := by
              intro ls hl
              refine lv_iload_n hx hb dModel_enumeration_117 rfl (lv_at hl 3 rfl) ?_
              refine lv_if_ne (tgt := 129) hx hb dModel_enumeration_118 (by decide) (fun c178 => ?_) (fun c178 => ?_)
              · have h64 : mn x1.toNatClampNeg ≤ 64 := hi3_64.resolve_left (by assumption)
                refine lv_aload_n hx hb dModel_enumeration_129 rfl (lv_at hl 0 rfl) ?_
                refine lv_aload_n hx hb dModel_enumeration_130 rfl (lv_at hl 0 rfl) ?_
                refine md_gA S hC hM 3 (by decide) rfl qw_9fb851a5fa dModel_enumeration_131 ?_
                refine lv_iload_n hx hb dModel_enumeration_134 rfl (lv_at hl 1 rfl) ?_
                refine md_ild S hC hM 3 1 4000 (τ 3) rfl rfl (by decide) rfl rfl (vin (by assumption) (by omega)) dModel_enumeration_135 ?_
                refine lv_topi (fun v179 ev179 => ?_)
                refine pu_Vi (rest := []) S hC (m_hasHere l γ a B Z κ b mn ν τ σ64 F nu hT v179 ) meModel_hasHere qw_52fabcdf69 ⟨Nat.le_of_ble_eq_true rfl, Nat.le_of_ble_eq_true rfl⟩ (md_rv hC hM) hM rfl hl.1 rfl (Nat.le_of_ble_eq_true rfl) dModel_enumeration_136 ⟨Nat.zero_le _, Nat.zero_le _⟩ (fun r180 hr180 => ?_)
                refine lv_if_eq (tgt := 150) hx hb dModel_enumeration_139 (by decide) (fun c181 => ?_) (fun c181 => ?_)
                · refine lv_iload_n hx hb dModel_enumeration_150 rfl (lv_at hl 1 rfl) ?_
                  refine lv_iload_n hx hb dModel_enumeration_151 rfl (lv_at hl 2 rfl) ?_
                  refine lv_isub hx hb dModel_enumeration_152 ?_
                  refine lv_topi (fun v182 ev182 => ?_)
                  refine lv_istore (lv' := [(4, .int v182), (0, .ref a), (1, .int x1), (2, .int v67), (3, .int i3_64)]) hx hb dModel_enumeration_153 hl (by decide) rfl (fun ls hl => ?_)
                  have J155 : ∀ (N155 : Nat) (ls : Array Slot) (H : Heap) (locs : List Loc) (σ_155 : Nat → Int32) (F_155 : Nat → Nat → Int32) (nu_155 : Nat → Int64) (i4_155 : Int32), MD γ a B Z ν τ σ_155 F_155 nu_155 H → va_S Z s.heap H locs → (FD σ_155) → (GD F_155 nu_155) → (SZ F_155) → (¬ i4_155 < 0) → (2147483647 - i4_155.toInt).toNat = N155 → lv_has ls 7 [(0, .ref a), (1, .int x1), (2, .int v67), (3, .int i3_64), (4, .int i4_155)] → W p l e (bs_rm 1 0 0 25) s m args below meth c H locs 0 0 Q (F0 m 155 ls []) := by
                    intro N155
                    induction N155 using Nat.strongRecOn with
                    | ind N155 ih155 =>
                      intro ls H locs σ_155 F_155 nu_155 i4_155 hM hS hF hG hZ hi4_155 hm155 hl
                      refine lv_iload hx hb dModel_enumeration_155 (lv_at hl 4 rfl) ?_
                      refine lv_iload_n hx hb dModel_enumeration_157 rfl (lv_at hl 1 rfl) ?_
                      refine lv_icmp_ge (tgt := 265) hx hb dModel_enumeration_158 (by decide) (fun c183 => ?_) (fun c183 => ?_)
                      · refine lv_aload_n hx hb dModel_enumeration_265 rfl (lv_at hl 0 rfl) ?_
                        refine lv_aload_n hx hb dModel_enumeration_266 rfl (lv_at hl 0 rfl) ?_
                        refine md_gI S hC hM 21 (v := nI (κ 2)) hv21 (by decide) rfl qw_c82bee9e97 dModel_enumeration_267 ?_
                        refine lv_topi (fun v184 ev184 => ?_)
                        refine lv_sipush (v := 1000) hx hb dModel_enumeration_270 (by decide) ?_
                        have J295 : ∀ (ls : Array Slot) (t0_295 : Int32), (0 < t0_295 ∨ (t0_295 = 0 ∧ κ 2 < 1000 ∧ κ 4 + mn x1.toNatClampNeg + 1 ≤ 3000)) → lv_has ls 7 [(0, .ref a), (1, .int x1), (2, .int v67), (3, .int i3_64), (4, .int i4_155)] → W p l e (bs_rm 1 0 0 25) s m args below meth c H locs 0 0 Q (F0 m 295 ls [.int t0_295, .ref a]) := by
                          intro ls t0_295 ht0_295 hl
                          refine md_pD S hC hM hS 0 rfl (by decide) rfl qw_53e275eed6 rfl (by decide +kernel) dModel_enumeration_295 (fun H locs hM hS => ?_)
                          obtain ⟨σ204, eσ204⟩ : ∃ z : Nat → Int32, z = upd σ_155 0 t0_295 := ⟨_, rfl⟩
                          rw [← eσ204] at hM
                          have hF : FD σ204 := hF.up eσ204 (by decide) (by decide)
                          refine lv_aload_n hx hb dModel_enumeration_298 rfl (lv_at hl 0 rfl) ?_
                          refine md_gI S hC hM 0 (v := σ204 0) rfl (by decide) rfl qw_53e275eed6 dModel_enumeration_299 ?_
                          refine lv_topi (fun v205 ev205 => ?_)
                          refine lv_if_le (tgt := 307) hx hb dModel_enumeration_302 (by decide) (fun c206 => ?_) (fun c206 => ?_)
                          · obtain ⟨hN2, hN4⟩ := cd_0 eσ204 ev205 (by assumption) ht0_295
                            refine lv_aload_n hx hb dModel_enumeration_307 rfl (lv_at hl 0 rfl) ?_
                            refine lv_iconst (v := (-1)) hx hb dModel_enumeration_308 (by decide) ?_
                            refine md_pD S hC hM hS 1 rfl (by decide) rfl qw_d4a57461ea rfl (by decide +kernel) dModel_enumeration_309 (fun H locs hM hS => ?_)
                            obtain ⟨σ207, eσ207⟩ : ∃ z : Nat → Int32, z = upd σ204 1 (-1) := ⟨_, rfl⟩
                            rw [← eσ207] at hM
                            have hF : FD σ207 := hF.up eσ207 (by decide) (by decide)
                            refine lv_aload_n hx hb dModel_enumeration_312 rfl (lv_at hl 0 rfl) ?_
                            refine lv_iconst (v := 4) hx hb dModel_enumeration_313 (by decide) ?_
                            refine lv_iconst (v := 0) hx hb dModel_enumeration_314 (by decide) ?_
                            refine lv_iload_n hx hb dModel_enumeration_315 rfl (lv_at hl 2 rfl) ?_
                            refine lv_iconst (v := 1) hx hb dModel_enumeration_316 (by decide) ?_
                            refine lv_isub hx hb dModel_enumeration_317 ?_
                            refine lv_topi (fun v208 ev208 => ?_)
                            refine lv_iload_n hx hb dModel_enumeration_318 rfl (lv_at hl 2 rfl) ?_
                            refine lv_iconst (v := 0) hx hb dModel_enumeration_319 (by decide) ?_
                            refine mu_Vi (rest := []) S hC (fun q h => hA q (Nat.le_trans hS.1 h)) (fun q h => h) hS (m_newType l γ a B Z κ b mn ν τ σ207 F_155 nu_155 hT 4 0 v208 v67 0 (by omega) (fun h9 => absurd h9 (by decide))) meModel_newType qw_90495fa5dd ⟨Nat.le_of_ble_eq_true rfl, Nat.le_of_ble_eq_true rfl⟩ (md_rv hC hM) hM rfl hl.1 rfl (Nat.le_of_ble_eq_true rfl) dModel_enumeration_320 ⟨Nat.le_refl _, Nat.le_refl _⟩ (fun r209 H locs hPO hS _ _ => ?_)
                            obtain ⟨hrr209, ν_r209, τ_r209, hM, hT_r209⟩ := hPO
                            obtain ⟨κ_r209, hκ_r209⟩ : ∃ z : Nat → Nat, z = ku κ 2 (κ 2 + 1) := ⟨_, rfl⟩
                            rw [← hκ_r209] at hT_r209
                            obtain ⟨⟨hs0_r209, hs1_r209, hs2_r209, hs3_r209, hs4_r209, hs5_r209, hs6_r209⟩, ⟨hv6_r209, hv8_r209, hv21_r209, hv24_r209, hv30_r209, hv31_r209⟩, hTR_r209, hTY_r209, hOB_r209, hNM_r209⟩ := id hT_r209
                            have hk4_r209 : κ_r209 4 = κ 4 := (by rw [hκ_r209]; rfl)
                            have hk5_r209 : κ_r209 5 = κ 5 := (by rw [hκ_r209]; rfl)
                            have hk0_r209 : κ_r209 0 = κ 0 := (by rw [hκ_r209]; rfl)
                            have hk1_r209 : κ_r209 1 = κ 1 := (by rw [hκ_r209]; rfl)
                            refine lv_istore (lv' := [(4, .int r209), (0, .ref a), (1, .int x1), (2, .int v67), (3, .int i3_64)]) hx hb dModel_enumeration_323 hl (by decide) rfl (fun ls hl => ?_)
                            refine lv_aload_n hx hb dModel_enumeration_325 rfl (lv_at hl 1 rfl) ?_
                            refine lv_aload_n hx hb dModel_enumeration_326 rfl (lv_at hl 1 rfl) ?_
                            refine md_gA S hC hM 3 (by decide) rfl qw_9fb851a5fa dModel_enumeration_327 ?_
                            refine lv_iload_n hx hb dModel_enumeration_330 rfl (lv_at hl 2 rfl) ?_
                            refine md_ild S hC hM 3 1 4000 (τ_r209 3) rfl rfl (by decide) rfl rfl (vin (by assumption) (by omega)) dModel_enumeration_331 ?_
                            refine lv_topi (fun v210 ev210 => ?_)
                            refine lv_iconst (v := 0) hx hb dModel_enumeration_332 (by decide) ?_
                            refine lv_iload hx hb dModel_enumeration_333 (lv_at hl 0 rfl) ?_
                            refine lv_iconst (v := 0) hx hb dModel_enumeration_335 (by decide) ?_
                            refine mu_Vv (rest := []) S hC (fun q h => hA q (Nat.le_trans hS.1 h)) (fun q h => h) hS (m_name l γ a B Z κ_r209 b mn ν_r209 τ_r209 σ207 F_155 nu_155 hT_r209 v210 0 r209 0 (by omega) ⟨fun h9 => absurd h9 (by decide), fun h9 => absurd h9 (by decide), fun h9 => absurd h9 (by decide)⟩) meModel_name qw_8127fdf1ea ⟨Nat.le_of_ble_eq_true rfl, Nat.le_of_ble_eq_true rfl⟩ (md_rv hC hM) hM rfl hl.1 rfl (Nat.le_of_ble_eq_true rfl) dModel_enumeration_336 ⟨Nat.le_refl _, Nat.le_refl _⟩ (fun H locs hPO hS _ _ => ?_)
                            obtain ⟨ν_r211, τ_r211, hM, hT_r211⟩ := hPO
                            obtain ⟨κ_r211, hκ_r211⟩ : ∃ z : Nat → Nat, z = ku κ_r209 4 (κ_r209 4 + 1) := ⟨_, rfl⟩
                            rw [← hκ_r211] at hT_r211
                            obtain ⟨⟨hs0_r211, hs1_r211, hs2_r211, hs3_r211, hs4_r211, hs5_r211, hs6_r211⟩, ⟨hv6_r211, hv8_r211, hv21_r211, hv24_r211, hv30_r211, hv31_r211⟩, hTR_r211, hTY_r211, hOB_r211, hNM_r211⟩ := id hT_r211
                            have hk4_r211 : κ_r211 4 = κ_r209 4 + 1 := (by rw [hκ_r211]; rfl)
                            have hk5_r211 : κ_r211 5 = κ_r209 5 := (by rw [hκ_r211]; rfl)
                            have hk0_r211 : κ_r211 0 = κ_r209 0 := (by rw [hκ_r211]; rfl)
                            have hk1_r211 : κ_r211 1 = κ_r209 1 := (by rw [hκ_r211]; rfl)
                            refine lv_iconst (v := 0) hx hb dModel_enumeration_339 (by decide) ?_
                            refine lv_istore (lv' := [(5, .int 0), (4, .int r209), (0, .ref a), (1, .int x1), (2, .int v67), (3, .int i3_64)]) hx hb dModel_enumeration_340 hl (by decide) rfl (fun ls hl => ?_)
                            have J342 : ∀ (N342 : Nat) (ls : Array Slot) (H : Heap) (locs : List Loc) (κ_342 : Nat → Nat) (b_342 : Nat → Nat) (mn_342 : Nat → Nat) (ν_342 : Nat → Int32) (τ_342 : Nat → Nat → Int32) (i5_342 : Int32), MD γ a B Z ν_342 τ_342 σ207 F_155 nu_155 H → va_S Z s.heap H locs → ST κ_342 b_342 mn_342 ν_342 τ_342 → (¬ i5_342 < 0) → (κ_342 4 + mn x1.toNatClampNeg ≤ 3000 + i5_342.toNatClampNeg) → (κ_342 5 = κ 5 ∧ κ_342 0 = κ 0 ∧ κ_342 1 = κ 1) → (2147483647 - i5_342.toInt).toNat = N342 → lv_has ls 7 [(0, .ref a), (1, .int x1), (2, .int v67), (3, .int i3_64), (4, .int r209), (5, .int i5_342)] → W p l e (bs_rm 1 0 0 25) s m args below meth c H locs 0 0 Q (F0 m 342 ls []) := by
                              intro N342
                              induction N342 using Nat.strongRecOn with
                              | ind N342 ih342 =>
                                intro ls H locs κ_342 b_342 mn_342 ν_342 τ_342 i5_342 hM hS hT_342 hi5_342 hk4 hk5 hm342 hl
                                obtain ⟨⟨hs0_342, hs1_342, hs2_342, hs3_342, hs4_342, hs5_342, hs6_342⟩, ⟨hv6_342, hv8_342, hv21_342, hv24_342, hv30_342, hv31_342⟩, hTR_342, hTY_342, hOB_342, hNM_342⟩ := id hT_342
                                refine lv_iload hx hb dModel_enumeration_342 (lv_at hl 5 rfl) ?_
                                refine lv_iload_n hx hb dModel_enumeration_344 rfl (lv_at hl 2 rfl) ?_
                                refine lv_icmp_ge (tgt := 374) hx hb dModel_enumeration_345 (by decide) (fun c212 => ?_) (fun c212 => ?_)
                                · refine lv_iload hx hb dModel_enumeration_374 (lv_at hl 4 rfl) ?_
                                  exact hE _ _ _ _ _ hS ⟨κ_342, _, hk5, b_342, mn_342, ν_342, τ_342, σ207, F_155, nu_155, hT_342, hZ, hF, hG, rfl, hM⟩ dModel_enumeration_376
                                · have hj5 : vp_in i5_342 (mn x1.toNatClampNeg) := vcmp (by assumption) hn2 (by assumption) (by omega)
                                  refine lv_aload_n hx hb dModel_enumeration_348 rfl (lv_at hl 0 rfl) ?_
                                  refine lv_aload_n hx hb dModel_enumeration_349 rfl (lv_at hl 0 rfl) ?_
                                  refine md_gA S hC hM 3 (by decide) rfl qw_9fb851a5fa dModel_enumeration_350 ?_
                                  refine lv_iload_n hx hb dModel_enumeration_353 rfl (lv_at hl 1 rfl) ?_
                                  refine lv_iload_n hx hb dModel_enumeration_354 rfl (lv_at hl 2 rfl) ?_
                                  refine lv_isub hx hb dModel_enumeration_355 ?_
                                  refine lv_topi (fun v213 ev213 => ?_)
                                  refine lv_iload hx hb dModel_enumeration_356 (lv_at hl 5 rfl) ?_
                                  refine lv_iadd hx hb dModel_enumeration_358 ?_
                                  refine lv_topi (fun v214 ev214 => ?_)
                                  refine md_ild S hC hM 3 1 4000 (τ_342 3) rfl rfl (by decide) rfl rfl (en_ix hTR hs0 hx1 hn2 ev213 hj5 ev214) dModel_enumeration_359 ?_
                                  refine lv_topi (fun v215 ev215 => ?_)
                                  refine lv_iconst (v := 2) hx hb dModel_enumeration_360 (by decide) ?_
                                  refine lv_iload hx hb dModel_enumeration_361 (lv_at hl 4 rfl) ?_
                                  refine lv_iload hx hb dModel_enumeration_363 (lv_at hl 5 rfl) ?_
                                  refine mu_Vv (rest := []) S hC (fun q h => hA q (Nat.le_trans hS.1 h)) (fun q h => h) hS (m_name l γ a B Z κ_342 b_342 mn_342 ν_342 τ_342 σ207 F_155 nu_155 hT_342 v215 2 r209 i5_342 (by have := vix hj5; omega) ⟨fun h9 => absurd h9 (by decide), fun _ => ⟨_, hs2, hrr209⟩, fun h9 => absurd h9 (by decide)⟩) meModel_name qw_8127fdf1ea ⟨Nat.le_of_ble_eq_true rfl, Nat.le_of_ble_eq_true rfl⟩ (md_rv hC hM) hM rfl hl.1 rfl (Nat.le_of_ble_eq_true rfl) dModel_enumeration_365 ⟨Nat.le_refl _, Nat.le_refl _⟩ (fun H locs hPO hS _ _ => ?_)
                                  obtain ⟨ν_r216, τ_r216, hM, hT_r216⟩ := hPO
                                  obtain ⟨κ_r216, hκ_r216⟩ : ∃ z : Nat → Nat, z = ku κ_342 4 (κ_342 4 + 1) := ⟨_, rfl⟩
                                  rw [← hκ_r216] at hT_r216
                                  obtain ⟨⟨hs0_r216, hs1_r216, hs2_r216, hs3_r216, hs4_r216, hs5_r216, hs6_r216⟩, ⟨hv6_r216, hv8_r216, hv21_r216, hv24_r216, hv30_r216, hv31_r216⟩, hTR_r216, hTY_r216, hOB_r216, hNM_r216⟩ := id hT_r216
                                  have hk4_r216 : κ_r216 4 = κ_342 4 + 1 := (by rw [hκ_r216]; rfl)
                                  have hk5_r216 : κ_r216 5 = κ_342 5 := (by rw [hκ_r216]; rfl)
                                  have hk0_r216 : κ_r216 0 = κ_342 0 := (by rw [hκ_r216]; rfl)
                                  have hk1_r216 : κ_r216 1 = κ_342 1 := (by rw [hκ_r216]; rfl)
                                  obtain ⟨v217, ev217⟩ : ∃ y : Int32, y = i5_342 + 1 := ⟨_, rfl⟩
                                  refine lv_iinc (v := v217) (lv' := [(5, .int v217), (0, .ref a), (1, .int x1), (2, .int v67), (3, .int i3_64), (4, .int r209)]) hx hb dModel_enumeration_368 hl (k := 5) rfl (by rw [ev217]; rfl) (by decide) rfl (fun ls hl => ?_)
                                  refine lv_goto (tgt := 342) hx hb dModel_enumeration_371 (by decide) ?_
                                  exact ih342 _ (by have q1 : i5_342.toInt < 2147483647 := (by first | assumption | exact (mu_up (k := i5_342) (by assumption)).2); have q2 := mu_lt q1; rw [← ev217] at q2; omega) ls _ _ κ_r216 b_342 mn_342 ν_r216 τ_r216 v217 hM hS hT_r216 (by first | decide | exact nn_inc (by assumption) (by assumption) (by assumption)) (by rw [(ix_inc hj5 hmx ev217).1]; omega) (by omega) rfl (lv_sub hl [1, 2, 3, 4, 5, 0] rfl)
                            exact J342 _ ls _ _ κ_r211 b mn ν_r211 τ_r211 0 hM hS hT_r211 (by first | decide | exact nn_inc (by assumption) (by assumption) (by assumption)) (by show _ ≤ 3000 + 0; omega) (by omega) rfl (lv_sub hl [2, 3, 4, 5, 1, 0] rfl)
                          · refine lv_iconst (v := 0) hx hb dModel_enumeration_305 (by decide) ?_
                            exact hE _ _ _ _ _ hS ⟨κ, _, ⟨rfl, rfl, rfl⟩, b, mn, ν, τ, σ204, F_155, nu_155, hT, hZ, hF, hG, rfl, hM⟩ dModel_enumeration_306
                        have J290 : ∀ (ls : Array Slot), lv_has ls 7 [(0, .ref a), (1, .int x1), (2, .int v67), (3, .int i3_64), (4, .int i4_155)] → W p l e (bs_rm 1 0 0 25) s m args below meth c H locs 0 0 Q (F0 m 290 ls [.ref a]) := by
                          intro ls hl
                          refine lv_iconst (v := 2) hx hb dModel_enumeration_290 (by decide) ?_
                          refine lv_goto (tgt := 295) hx hb dModel_enumeration_291 (by decide) ?_
                          exact J295 ls 2 (by first | exact Or.inl (by decide) | exact Or.inr ⟨rfl, ne_lt ev184 (by assumption) rfl hs2, en_le ev186 hn2 ev187 ev188 (by assumption) (by omega) (by omega)⟩) (lv_sub hl [0, 1, 2, 3, 4] rfl)
                        refine lv_icmp_eq (tgt := 290) hx hb dModel_enumeration_273 (by decide) (fun c218 => ?_) (fun c218 => ?_)
                        · exact J290 ls  (lv_sub hl [0, 1, 2, 3, 4] rfl)
                        · refine lv_aload_n hx hb dModel_enumeration_276 rfl (lv_at hl 0 rfl) ?_
                          refine md_gI S hC hM 30 (v := nI (κ 4)) hv30 (by decide) rfl qw_8d5d48b583 dModel_enumeration_277 ?_
                          refine lv_topi (fun v219 ev219 => ?_)
                          refine lv_iload_n hx hb dModel_enumeration_280 rfl (lv_at hl 2 rfl) ?_
                          refine lv_iadd hx hb dModel_enumeration_281 ?_
                          refine lv_topi (fun v220 ev220 => ?_)
                          refine lv_iconst (v := 1) hx hb dModel_enumeration_282 (by decide) ?_
                          refine lv_iadd hx hb dModel_enumeration_283 ?_
                          refine lv_topi (fun v221 ev221 => ?_)
                          refine lv_sipush (v := 3000) hx hb dModel_enumeration_284 (by decide) ?_
                          refine lv_icmp_le (tgt := 294) hx hb dModel_enumeration_287 (by decide) (fun c222 => ?_) (fun c222 => ?_)
                          · refine lv_iconst (v := 0) hx hb dModel_enumeration_294 (by decide) ?_
                            exact J295 ls 0 (by first | exact Or.inl (by decide) | exact Or.inr ⟨rfl, ne_lt ev184 (by assumption) rfl hs2, en_le ev219 hn2 ev220 ev221 (by assumption) (by omega) (by omega)⟩) (lv_sub hl [0, 1, 2, 3, 4] rfl)
                          · exact J290 ls  (lv_sub hl [0, 1, 2, 3, 4] rfl)
                      · have hin4 : vp_in i4_155 (κ 0) := vin (vcmp (by assumption) (vnI hx1) (by assumption) (by have := vix hx1; omega)) (Nat.le_of_lt (vix hx1))
                        refine lv_aload_n hx hb dModel_enumeration_161 rfl (lv_at hl 0 rfl) ?_
                        refine lv_aload_n hx hb dModel_enumeration_162 rfl (lv_at hl 0 rfl) ?_
                        refine md_gA S hC hM 3 (by decide) rfl qw_9fb851a5fa dModel_enumeration_163 ?_
                        refine lv_iload hx hb dModel_enumeration_166 (lv_at hl 4 rfl) ?_
                        refine md_ild S hC hM 3 1 4000 (τ 3) rfl rfl (by decide) rfl rfl (vin (by assumption) (by omega)) dModel_enumeration_168 ?_
                        refine lv_topi (fun v223 ev223 => ?_)
                        refine pu_Vi (rest := []) S hC (m_hasHere l γ a B Z κ b mn ν τ σ_155 F_155 nu_155 hT v223 ) meModel_hasHere qw_52fabcdf69 ⟨Nat.le_of_ble_eq_true rfl, Nat.le_of_ble_eq_true rfl⟩ (md_rv hC hM) hM rfl hl.1 rfl (Nat.le_of_ble_eq_true rfl) dModel_enumeration_169 ⟨Nat.zero_le _, Nat.zero_le _⟩ (fun r224 hr224 => ?_)
                        have J196 : ∀ (ls : Array Slot) (t0_196 : Int32), lv_has ls 7 [(0, .ref a), (1, .int x1), (2, .int v67), (3, .int i3_64), (4, .int i4_155)] → W p l e (bs_rm 1 0 0 25) s m args below meth c H locs 0 0 Q (F0 m 196 ls [.int t0_196]) := by
                          intro ls t0_196 hl
                          refine lv_istore (lv' := [(5, .int t0_196), (0, .ref a), (1, .int x1), (2, .int v67), (3, .int i3_64), (4, .int i4_155)]) hx hb dModel_enumeration_196 hl (by decide) rfl (fun ls hl => ?_)
                          refine lv_iload_n hx hb dModel_enumeration_198 rfl (lv_at hl 2 rfl) ?_
                          refine lv_iload_n hx hb dModel_enumeration_199 rfl (lv_at hl 3 rfl) ?_
                          refine lv_isub hx hb dModel_enumeration_200 ?_
                          refine lv_topi (fun v239 ev239 => ?_)
                          refine lv_istore (lv' := [(6, .int v239), (5, .int t0_196), (0, .ref a), (1, .int x1), (2, .int v67), (3, .int i3_64), (4, .int i4_155)]) hx hb dModel_enumeration_201 hl (by decide) rfl (fun ls hl => ?_)
                          have J203 : ∀ (N203 : Nat) (ls : Array Slot) (i6_203 : Int32) (i5_203 : Int32), (¬ i6_203 < 0) → (2147483647 - i6_203.toInt).toNat = N203 → lv_has ls 7 [(0, .ref a), (1, .int x1), (2, .int v67), (3, .int i3_64), (4, .int i4_155), (5, .int i5_203), (6, .int i6_203)] → W p l e (bs_rm 1 0 0 25) s m args below meth c H locs 0 0 Q (F0 m 203 ls []) := by
                            intro N203
                            induction N203 using Nat.strongRecOn with
                            | ind N203 ih203 =>
                              intro ls i6_203 i5_203 hi6_203 hm203 hl
                              refine lv_iload hx hb dModel_enumeration_203 (lv_at hl 6 rfl) ?_
                              refine lv_iload hx hb dModel_enumeration_205 (lv_at hl 4 rfl) ?_
                              refine lv_icmp_ge (tgt := 245) hx hb dModel_enumeration_207 (by decide) (fun c240 => ?_) (fun c240 => ?_)
                              · refine lv_iload hx hb dModel_enumeration_245 (lv_at hl 5 rfl) ?_
                                refine lv_if_eq (tgt := 259) hx hb dModel_enumeration_247 (by decide) (fun c241 => ?_) (fun c241 => ?_)
                                · obtain ⟨v242, ev242⟩ : ∃ y : Int32, y = i4_155 + 1 := ⟨_, rfl⟩
                                  refine lv_iinc (v := v242) (lv' := [(4, .int v242), (0, .ref a), (1, .int x1), (2, .int v67), (3, .int i3_64), (5, .int i5_203), (6, .int i6_203)]) hx hb dModel_enumeration_259 hl (k := 4) rfl (by rw [ev242]; rfl) (by decide) rfl (fun ls hl => ?_)
                                  refine lv_goto (tgt := 155) hx hb dModel_enumeration_262 (by decide) ?_
                                  exact ih155 _ (by have q1 : i4_155.toInt < 2147483647 := (by first | assumption | exact (mu_up (k := i4_155) (by assumption)).2); have q2 := mu_lt q1; rw [← ev242] at q2; omega) ls _ _ σ_155 F_155 nu_155 v242 hM hS hF hG hZ (by first | exact (sub_nn hTR hs0 hx1 hn2 ev242).1 | exact nn_inc (by assumption) (by assumption) (by assumption)) rfl (lv_sub hl [1, 2, 3, 4, 0] rfl)
                                · refine lv_aload_n hx hb dModel_enumeration_250 rfl (lv_at hl 0 rfl) ?_
                                  refine lv_iload hx hb dModel_enumeration_251 (lv_at hl 4 rfl) ?_
                                  refine lv_bipush (v := 7) hx hb dModel_enumeration_253 (by decide) ?_
                                  refine mu_Vi (rest := []) S hC (fun q h => hA q (Nat.le_trans hS.1 h)) (fun q h => h) hS (m_wrong l γ a B Z κ b mn ν τ σ_155 F_155 nu_155 hT i4_155 7 hF) meModel_wrong qw_a6e9824456 ⟨Nat.le_of_ble_eq_true rfl, Nat.le_of_ble_eq_true rfl⟩ (md_rv hC hM) hM rfl hl.1 rfl (Nat.le_of_ble_eq_true rfl) dModel_enumeration_255 ⟨Nat.le_refl _, Nat.le_refl _⟩ (fun r243 H locs hPO hS _ _ => ?_)
                                  obtain ⟨σr243, hM, hF, h0r243⟩ := hPO
                                  exact hE _ _ _ _ _ hS ⟨κ, _, ⟨rfl, rfl, rfl⟩, b, mn, ν, τ, σr243, F_155, nu_155, hT, hZ, hF, hG, rfl, hM⟩ dModel_enumeration_258
                              · have hin6 : vp_in i6_203 (κ 0) := vin (vcmp (by assumption) (vnI hin4) (by assumption) (by have := vix hin4; omega)) (Nat.le_of_lt (vix hin4))
                                refine lv_iload hx hb dModel_enumeration_210 (lv_at hl 5 rfl) ?_
                                have J237 : ∀ (ls : Array Slot) (t0_237 : Int32), lv_has ls 7 [(0, .ref a), (1, .int x1), (2, .int v67), (3, .int i3_64), (4, .int i4_155), (5, .int i5_203), (6, .int i6_203)] → W p l e (bs_rm 1 0 0 25) s m args below meth c H locs 0 0 Q (F0 m 237 ls [.int t0_237]) := by
                                  intro ls t0_237 hl
                                  refine lv_istore (lv' := [(5, .int t0_237), (0, .ref a), (1, .int x1), (2, .int v67), (3, .int i3_64), (4, .int i4_155), (6, .int i6_203)]) hx hb dModel_enumeration_237 hl (by decide) rfl (fun ls hl => ?_)
                                  obtain ⟨v249, ev249⟩ : ∃ y : Int32, y = i6_203 + 1 := ⟨_, rfl⟩
                                  refine lv_iinc (v := v249) (lv' := [(6, .int v249), (5, .int t0_237), (0, .ref a), (1, .int x1), (2, .int v67), (3, .int i3_64), (4, .int i4_155)]) hx hb dModel_enumeration_239 hl (k := 6) rfl (by rw [ev249]; rfl) (by decide) rfl (fun ls hl => ?_)
                                  refine lv_goto (tgt := 203) hx hb dModel_enumeration_242 (by decide) ?_
                                  exact ih203 _ (by have q1 : i6_203.toInt < 2147483647 := (by first | assumption | exact (mu_up (k := i6_203) (by assumption)).2); have q2 := mu_lt q1; rw [← ev249] at q2; omega) ls v249 t0_237 (by first | exact (sub_nn hTR hs0 hx1 hn2 ev249).1 | exact nn_inc (by assumption) (by assumption) (by assumption)) rfl (lv_sub hl [2, 3, 4, 5, 6, 1, 0] rfl)
                                have J232 : ∀ (ls : Array Slot), lv_has ls 7 [(0, .ref a), (1, .int x1), (2, .int v67), (3, .int i3_64), (4, .int i4_155), (5, .int i5_203), (6, .int i6_203)] → W p l e (bs_rm 1 0 0 25) s m args below meth c H locs 0 0 Q (F0 m 232 ls []) := by
                                  intro ls hl
                                  refine lv_iconst (v := 1) hx hb dModel_enumeration_232 (by decide) ?_
                                  refine lv_goto (tgt := 237) hx hb dModel_enumeration_233 (by decide) ?_
                                  exact J237 ls 1 (lv_sub hl [0, 1, 2, 3, 4, 5, 6] rfl)
                                refine lv_if_ne (tgt := 232) hx hb dModel_enumeration_212 (by decide) (fun c250 => ?_) (fun c250 => ?_)
                                · exact J232 ls  (lv_sub hl [0, 1, 2, 3, 4, 5, 6] rfl)
                                · refine lv_aload_n hx hb dModel_enumeration_215 rfl (lv_at hl 0 rfl) ?_
                                  refine md_gA S hC hM 3 (by decide) rfl qw_9fb851a5fa dModel_enumeration_216 ?_
                                  refine lv_iload hx hb dModel_enumeration_219 (lv_at hl 6 rfl) ?_
                                  refine md_ild S hC hM 3 1 4000 (τ 3) rfl rfl (by decide) rfl rfl (vin (by assumption) (by omega)) dModel_enumeration_221 ?_
                                  refine lv_topi (fun v251 ev251 => ?_)
                                  refine lv_aload_n hx hb dModel_enumeration_222 rfl (lv_at hl 0 rfl) ?_
                                  refine md_gA S hC hM 3 (by decide) rfl qw_9fb851a5fa dModel_enumeration_223 ?_
                                  refine lv_iload hx hb dModel_enumeration_226 (lv_at hl 4 rfl) ?_
                                  refine md_ild S hC hM 3 1 4000 (τ 3) rfl rfl (by decide) rfl rfl (vin (by assumption) (by omega)) dModel_enumeration_228 ?_
                                  refine lv_topi (fun v252 ev252 => ?_)
                                  refine lv_icmp_ne (tgt := 236) hx hb dModel_enumeration_229 (by decide) (fun c253 => ?_) (fun c253 => ?_)
                                  · refine lv_iconst (v := 0) hx hb dModel_enumeration_236 (by decide) ?_
                                    exact J237 ls 0 (lv_sub hl [0, 1, 2, 3, 4, 5, 6] rfl)
                                  · exact J232 ls  (lv_sub hl [0, 1, 2, 3, 4, 5, 6] rfl)
                          exact J203 _ ls v239 t0_196 (by first | exact (sub_nn hTR hs0 hx1 hn2 ev239).1 | exact nn_inc (by assumption) (by assumption) (by assumption)) rfl (lv_sub hl [2, 3, 4, 5, 6, 1, 0] rfl)
                        have J191 : ∀ (ls : Array Slot), lv_has ls 7 [(0, .ref a), (1, .int x1), (2, .int v67), (3, .int i3_64), (4, .int i4_155)] → W p l e (bs_rm 1 0 0 25) s m args below meth c H locs 0 0 Q (F0 m 191 ls []) := by
                          intro ls hl
                          refine lv_iconst (v := 1) hx hb dModel_enumeration_191 (by decide) ?_
                          refine lv_goto (tgt := 196) hx hb dModel_enumeration_192 (by decide) ?_
                          exact J196 ls 1 (lv_sub hl [0, 1, 2, 3, 4] rfl)
                        refine lv_if_ne (tgt := 191) hx hb dModel_enumeration_172 (by decide) (fun c254 => ?_) (fun c254 => ?_)
                        · exact J191 ls  (lv_sub hl [0, 1, 2, 3, 4] rfl)
                        · refine lv_aload_n hx hb dModel_enumeration_175 rfl (lv_at hl 0 rfl) ?_
                          refine md_gA S hC hM 3 (by decide) rfl qw_9fb851a5fa dModel_enumeration_176 ?_
                          refine lv_iload hx hb dModel_enumeration_179 (lv_at hl 4 rfl) ?_
                          refine md_ild S hC hM 3 1 4000 (τ 3) rfl rfl (by decide) rfl rfl (vin (by assumption) (by omega)) dModel_enumeration_181 ?_
                          refine lv_topi (fun v255 ev255 => ?_)
                          refine lv_aload_n hx hb dModel_enumeration_182 rfl (lv_at hl 0 rfl) ?_
                          refine md_gA S hC hM 3 (by decide) rfl qw_9fb851a5fa dModel_enumeration_183 ?_
                          refine lv_iload_n hx hb dModel_enumeration_186 rfl (lv_at hl 1 rfl) ?_
                          refine md_ild S hC hM 3 1 4000 (τ 3) rfl rfl (by decide) rfl rfl (vin (by assumption) (by omega)) dModel_enumeration_187 ?_
                          refine lv_topi (fun v256 ev256 => ?_)
                          refine lv_icmp_ne (tgt := 195) hx hb dModel_enumeration_188 (by decide) (fun c257 => ?_) (fun c257 => ?_)
                          · refine lv_iconst (v := 0) hx hb dModel_enumeration_195 (by decide) ?_
                            exact J196 ls 0 (lv_sub hl [0, 1, 2, 3, 4] rfl)
                          · exact J191 ls  (lv_sub hl [0, 1, 2, 3, 4] rfl)
                  exact J155 _ ls _ _ σ64 F nu v182 hM hS hF hG hZ (by first | exact (sub_nn hTR hs0 hx1 hn2 ev182).1 | exact nn_inc (by assumption) (by assumption) (by assumption)) rfl (lv_sub hl [1, 2, 3, 4, 0] rfl)
                · refine lv_aload_n hx hb dModel_enumeration_142 rfl (lv_at hl 0 rfl) ?_
                  refine lv_iload_n hx hb dModel_enumeration_143 rfl (lv_at hl 1 rfl) ?_
                  refine lv_bipush (v := 7) hx hb dModel_enumeration_144 (by decide) ?_
                  refine mu_Vi (rest := []) S hC (fun q h => hA q (Nat.le_trans hS.1 h)) (fun q h => h) hS (m_wrong l γ a B Z κ b mn ν τ σ64 F nu hT x1 7 hF) meModel_wrong qw_a6e9824456 ⟨Nat.le_of_ble_eq_true rfl, Nat.le_of_ble_eq_true rfl⟩ (md_rv hC hM) hM rfl hl.1 rfl (Nat.le_of_ble_eq_true rfl) dModel_enumeration_146 ⟨Nat.le_refl _, Nat.le_refl _⟩ (fun r258 H locs hPO hS _ _ => ?_)
                  obtain ⟨σr258, hM, hF, h0r258⟩ := hPO
                  exact hE _ _ _ _ _ hS ⟨κ, _, ⟨rfl, rfl, rfl⟩, b, mn, ν, τ, σr258, F, nu, hT, hZ, hF, hG, rfl, hM⟩ dModel_enumeration_149
              · refine lv_aload_n hx hb dModel_enumeration_121 rfl (lv_at hl 0 rfl) ?_
                refine lv_iload_n hx hb dModel_enumeration_122 rfl (lv_at hl 1 rfl) ?_
                refine lv_bipush (v := 11) hx hb dModel_enumeration_123 (by decide) ?_
                refine mu_Vi (rest := []) S hC (fun q h => hA q (Nat.le_trans hS.1 h)) (fun q h => h) hS (m_wrong l γ a B Z κ b mn ν τ σ64 F nu hT x1 11 hF) meModel_wrong qw_a6e9824456 ⟨Nat.le_of_ble_eq_true rfl, Nat.le_of_ble_eq_true rfl⟩ (md_rv hC hM) hM rfl hl.1 rfl (Nat.le_of_ble_eq_true rfl) dModel_enumeration_125 ⟨Nat.le_refl _, Nat.le_refl _⟩ (fun r259 H locs hPO hS _ _ => ?_)
                obtain ⟨σr259, hM, hF, h0r259⟩ := hPO
                exact hE _ _ _ _ _ hS ⟨κ, _, ⟨rfl, rfl, rfl⟩, b, mn, ν, τ, σr259, F, nu, hT, hZ, hF, hG, rfl, hM⟩ dModel_enumeration_128
            refine lv_icmp_ge (tgt := 117) hx hb dModel_enumeration_67 (by decide) (fun c260 => ?_) (fun c260 => ?_)
            · exact J117 ls  (lv_sub hl [0, 1, 2, 3, 4] rfl)
            · refine lv_iload_n hx hb dModel_enumeration_70 rfl (lv_at hl 3 rfl) ?_
              refine lv_if_eq (tgt := 117) hx hb dModel_enumeration_71 (by decide) (fun c261 => ?_) (fun c261 => ?_)
              · exact J117 ls  (lv_sub hl [0, 1, 2, 3, 4] rfl)
              · have hj4 : vp_in i4_64 (mn x1.toNatClampNeg) := vcmp (by assumption) hn2 (by assumption) (by omega)
                refine lv_aload_n hx hb dModel_enumeration_74 rfl (lv_at hl 0 rfl) ?_
                refine md_gA S hC hM 2 (by decide) rfl qw_3471296067 dModel_enumeration_75 ?_
                refine lv_aload_n hx hb dModel_enumeration_78 rfl (lv_at hl 0 rfl) ?_
                refine lv_iload_n hx hb dModel_enumeration_79 rfl (lv_at hl 1 rfl) ?_
                refine lv_iload hx hb dModel_enumeration_80 (lv_at hl 4 rfl) ?_
                have hpr262 : vp_in x1 (κ 0) := (vin (by assumption) (by omega))
                have hjr262 : vp_in i4_64 (mn x1.toNatClampNeg) := (by assumption)
                refine pu_Vi (rest := [.ref (B 2)]) S hC (m_child l γ a B Z κ b mn ν τ σ64 F nu hT x1 i4_64 hpr262 hjr262) meModel_child qw_a66d450e0a ⟨Nat.le_of_ble_eq_true rfl, Nat.le_of_ble_eq_true rfl⟩ (md_rv hC hM) hM rfl hl.1 rfl (Nat.le_of_ble_eq_true rfl) dModel_enumeration_82 ⟨Nat.zero_le _, Nat.zero_le _⟩ (fun r262 hr262 => ?_)
                obtain ⟨hir262, hltr262, hxr262⟩ := ch_in hTR hs0 hpr262 hjr262 hr262
                refine md_ild S hC hM 2 0 4000 (τ 2) rfl rfl (by decide) rfl rfl (vin (by assumption) (by omega)) dModel_enumeration_85 ?_
                refine lv_topi (fun v263 ev263 => ?_)
                refine lv_iconst (v := 1) hx hb dModel_enumeration_86 (by decide) ?_
                have J110 : ∀ (ls : Array Slot) (t0_110 : Int32), (t0_110 = 0 ∨ mn x1.toNatClampNeg ≤ 64) → lv_has ls 7 [(0, .ref a), (1, .int x1), (2, .int v67), (3, .int i3_64), (4, .int i4_64)] → W p l e (bs_rm 1 0 0 25) s m args below meth c H locs 0 0 Q (F0 m 110 ls [.int t0_110]) := by
                  intro ls t0_110 ht0_110 hl
                  refine lv_istore_n (lv' := [(3, .int t0_110), (0, .ref a), (1, .int x1), (2, .int v67), (4, .int i4_64)]) hx hb dModel_enumeration_110 rfl hl (by decide) rfl (fun ls hl => ?_)
                  obtain ⟨v269, ev269⟩ : ∃ y : Int32, y = i4_64 + 1 := ⟨_, rfl⟩
                  refine lv_iinc (v := v269) (lv' := [(4, .int v269), (3, .int t0_110), (0, .ref a), (1, .int x1), (2, .int v67)]) hx hb dModel_enumeration_111 hl (k := 4) rfl (by rw [ev269]; rfl) (by decide) rfl (fun ls hl => ?_)
                  refine lv_goto (tgt := 64) hx hb dModel_enumeration_114 (by decide) ?_
                  exact ih64 _ (by have q1 : i4_64.toInt < 2147483647 := (by first | assumption | exact (mu_up (k := i4_64) (by assumption)).2); have q2 := mu_lt q1; rw [← ev269] at q2; omega) ls v269 t0_110 (by first | decide | exact nn_inc (by assumption) (by assumption) (by assumption)) (by first | assumption | exact Or.inl rfl) rfl (lv_sub hl [2, 3, 4, 1, 0] rfl)
                have J109 : ∀ (ls : Array Slot), lv_has ls 7 [(0, .ref a), (1, .int x1), (2, .int v67), (3, .int i3_64), (4, .int i4_64)] → W p l e (bs_rm 1 0 0 25) s m args below meth c H locs 0 0 Q (F0 m 109 ls []) := by
                  intro ls hl
                  refine lv_iconst (v := 0) hx hb dModel_enumeration_109 (by decide) ?_
                  exact J110 ls 0 (by first | exact Or.inl rfl | exact Or.inr (hi3_64.resolve_left (by assumption))) (lv_sub hl [0, 1, 2, 3, 4] rfl)
                refine lv_icmp_ne (tgt := 109) hx hb dModel_enumeration_87 (by decide) (fun c270 => ?_) (fun c270 => ?_)
                · exact J109 ls  (lv_sub hl [0, 1, 2, 3, 4] rfl)
                · refine lv_aload_n hx hb dModel_enumeration_90 rfl (lv_at hl 0 rfl) ?_
                  refine md_gA S hC hM 4 (by decide) rfl qw_a8caa30de3 dModel_enumeration_91 ?_
                  refine lv_aload_n hx hb dModel_enumeration_94 rfl (lv_at hl 0 rfl) ?_
                  refine lv_iload_n hx hb dModel_enumeration_95 rfl (lv_at hl 1 rfl) ?_
                  refine lv_iload hx hb dModel_enumeration_96 (lv_at hl 4 rfl) ?_
                  have hpr271 : vp_in x1 (κ 0) := (vin (by assumption) (by omega))
                  have hjr271 : vp_in i4_64 (mn x1.toNatClampNeg) := (by assumption)
                  refine pu_Vi (rest := [.ref (B 4)]) S hC (m_child l γ a B Z κ b mn ν τ σ64 F nu hT x1 i4_64 hpr271 hjr271) meModel_child qw_a66d450e0a ⟨Nat.le_of_ble_eq_true rfl, Nat.le_of_ble_eq_true rfl⟩ (md_rv hC hM) hM rfl hl.1 rfl (Nat.le_of_ble_eq_true rfl) dModel_enumeration_98 ⟨Nat.zero_le _, Nat.zero_le _⟩ (fun r271 hr271 => ?_)
                  obtain ⟨hir271, hltr271, hxr271⟩ := ch_in hTR hs0 hpr271 hjr271 hr271
                  refine md_ild S hC hM 4 2 4000 (τ 4) rfl rfl (by decide) rfl rfl (vin (by assumption) (by omega)) dModel_enumeration_101 ?_
                  refine lv_topi (fun v272 ev272 => ?_)
                  refine lv_if_ne (tgt := 109) hx hb dModel_enumeration_102 (by decide) (fun c273 => ?_) (fun c273 => ?_)
                  · exact J109 ls  (lv_sub hl [0, 1, 2, 3, 4] rfl)
                  · refine lv_iconst (v := 1) hx hb dModel_enumeration_105 (by decide) ?_
                    refine lv_goto (tgt := 110) hx hb dModel_enumeration_106 (by decide) ?_
                    exact J110 ls 1 (by first | exact Or.inl rfl | exact Or.inr (hi3_64.resolve_left (by assumption))) (lv_sub hl [0, 1, 2, 3, 4] rfl)
        exact J64 _ ls 0 t0_60 (by first | decide | exact nn_inc (by assumption) (by assumption) (by assumption)) (by first | assumption | exact Or.inl rfl) rfl (lv_sub hl [2, 3, 4, 1, 0] rfl)
      have J59 : ∀ (ls : Array Slot), lv_has ls 7 [(0, .ref a), (1, .int x1), (2, .int v67)] → W p l e (bs_rm 1 0 0 25) s m args below meth c H locs 0 0 Q (F0 m 59 ls []) := by
        intro ls hl
        refine lv_iconst (v := 0) hx hb dModel_enumeration_59 (by decide) ?_
        exact J60 ls 0 (by first | exact Or.inl rfl | exact Or.inr (lr_64 hn2 (by omega) (by assumption))) (lv_sub hl [0, 1, 2] rfl)
      refine lv_icmp_ne (tgt := 59) hx hb dModel_enumeration_41 (by decide) (fun c274 => ?_) (fun c274 => ?_)
      · exact J59 ls  (lv_sub hl [1, 2, 0] rfl)
      · refine lv_iload_n hx hb dModel_enumeration_44 rfl (lv_at hl 0 rfl) ?_
        refine lv_iconst (v := 1) hx hb dModel_enumeration_45 (by decide) ?_
        refine lv_icmp_lt (tgt := 59) hx hb dModel_enumeration_46 (by decide) (fun c275 => ?_) (fun c275 => ?_)
        · exact J59 ls  (lv_sub hl [1, 2, 0] rfl)
        · refine lv_iload_n hx hb dModel_enumeration_49 rfl (lv_at hl 0 rfl) ?_
          refine lv_bipush (v := 64) hx hb dModel_enumeration_50 (by decide) ?_
          refine lv_icmp_gt (tgt := 59) hx hb dModel_enumeration_52 (by decide) (fun c276 => ?_) (fun c276 => ?_)
          · exact J59 ls  (lv_sub hl [1, 2, 0] rfl)
          · refine lv_iconst (v := 1) hx hb dModel_enumeration_55 (by decide) ?_
            refine lv_goto (tgt := 60) hx hb dModel_enumeration_56 (by decide) ?_
            exact J60 ls 1 (by first | exact Or.inl rfl | exact Or.inr (lr_64 hn2 (by omega) (by assumption))) (lv_sub hl [1, 2, 0] rfl)
    · refine lv_iconst (v := 0) hx hb dModel_enumeration_24 (by decide) ?_
      exact hE _ _ _ _ _ hS ⟨κ, _, ⟨rfl, rfl, rfl⟩, b, mn, ν, τ, σ64, F, nu, hT, hZ, hF, hG, rfl, hM⟩ dModel_enumeration_25
  refine lv_if_eq (tgt := 13) hx hb dModel_enumeration_6 (by decide) (fun c277 => ?_) (fun c277 => ?_)
  · refine lv_iconst (v := 0) hx hb dModel_enumeration_13 (by decide) ?_
    exact J14 ls 0 (by first | exact Or.inl (by decide) | exact Or.inr ⟨rfl, hr1 (by assumption)⟩) (lv_sub hl [0, 1] rfl)
  · refine lv_iconst (v := 1) hx hb dModel_enumeration_9 (by decide) ?_
    refine lv_goto (tgt := 14) hx hb dModel_enumeration_10 (by decide) ?_
    exact J14 ls 1 (by first | exact Or.inl (by decide) | exact Or.inr ⟨rfl, hr1 (by assumption)⟩) (lv_sub hl [0, 1] rfl)
