theorem qw_3f44df6941 : (Cond.constantLong R_Model 257 64) ∈ bs_W0 := bs_in (in_tables_1_6 (List.mem_of_getElem? (i := 176) rfl)) rfl
set_option maxHeartbeats 4000000 in
set_option maxRecDepth 100000 in
theorem m_lookFunction (l : Launch) (γ : gE) (a : Nat) (B : Nat → Nat) (Z : Nat → Prop) (κ b mn : Nat → Nat) (ν : Nat → Int32) (τ : Nat → Nat → Int32) (σ : Nat → Int32) (F : Nat → Nat → Int32) (nu : Nat → Int64) (hT : ST κ b mn ν τ) (x1 : Int32) (x2 : Int32) (hx1 : vp_in x1 (κ 0)) (hf : ¬ 11 < x2) (hZ : SZ F) (hF : FD σ) : MU l yModel_lookFunction bModel_lookFunction 6 (some .int) 2 48 0 0 [.ref a, .int x1, .int x2] γ Z (MD γ a B Z ν τ σ F nu) (mQi (fun r H => LKo γ a B Z ν τ x1.toNatClampNeg F nu r H) Z) := by
  refine mu_openI (by decide) (Nat.le_of_ble_eq_true rfl) ?_
  intro p e s m args below meth c ls Q S hnm hC hA hM hE hl
  have hS : va_S Z s.heap s.heap [] := va_S.rf
  obtain ⟨hx, hb, hml, hown, hW⟩ := id S
  obtain ⟨⟨hs0, hs1, hs2, hs3, hs4, hs5, hs6⟩, ⟨hv6, hv8, hv21, hv24, hv30, hv31⟩, hTR, hTY, hOB, hNM⟩ := id hT
  have hL : SL x1.toNatClampNeg F nu F nu := SL.rf
  have hl : lv_has ls 6 [(0, .ref a), (1, .int x1), (2, .int x2)] := hl
  refine lv_aload_n hx hb dModel_lookFunction_0 rfl (lv_at hl 0 rfl) ?_
  refine md_gA S hC hM 4 (by decide) rfl qw_a8caa30de3 dModel_lookFunction_1 ?_
  refine lv_iload_n hx hb dModel_lookFunction_4 rfl (lv_at hl 1 rfl) ?_
  refine md_ild S hC hM 4 2 4000 (τ 4) rfl rfl (by decide) rfl rfl (vin (by assumption) (by omega)) dModel_lookFunction_5 ?_
  refine lv_topi (fun v1 ev1 => ?_)
  refine lv_iload_n hx hb dModel_lookFunction_6 rfl (lv_at hl 2 rfl) ?_
  refine lv_bipush (v := 11) hx hb dModel_lookFunction_7 (by decide) ?_
  have J17 : ∀ (ls : Array Slot) (t0_17 : Int32), ((t0_17 = 2 ∧ x2 = 11 ∧ a = a) ∨ (t0_17 = 1 ∧ ¬ x2 = 11)) → lv_has ls 6 [(0, .ref a), (1, .int x1), (2, .int x2)] → W p l e (bs_rm 2 0 0 48) s m args below meth c s.heap [] 0 0 Q (F0 m 17 ls [.int t0_17, .int v1]) := by
    intro ls t0_17 ht0_17 hl
    refine lv_icmp_eq (tgt := 23) hx hb dModel_lookFunction_17 (by decide) (fun c57 => ?_) (fun c57 => ?_)
    · have hm2 := lf_mn hTR hx1 ev1 (by assumption) ht0_17
      refine lv_aload_n hx hb dModel_lookFunction_23 rfl (lv_at hl 0 rfl) ?_
      refine lv_iload_n hx hb dModel_lookFunction_24 rfl (lv_at hl 1 rfl) ?_
      refine lv_iconst (v := 0) hx hb dModel_lookFunction_25 (by decide) ?_
      have hpr58 : vp_in x1 (κ 0) := (vin (by assumption) (by omega))
      have hjr58 : vp_in 0 (mn x1.toNatClampNeg) := (vp0 (by omega) (by omega))
      refine pu_Vi (rest := []) S hC (m_child l γ a B Z κ b mn ν τ σ F nu hT x1 0 hpr58 hjr58) meModel_child qw_a66d450e0a ⟨Nat.le_of_ble_eq_true rfl, Nat.le_of_ble_eq_true rfl⟩ (md_rv hC hM) hM rfl hl.1 rfl (Nat.le_of_ble_eq_true rfl) dModel_lookFunction_26 ⟨Nat.zero_le _, Nat.zero_le _⟩ (fun r58 hr58 => ?_)
      obtain ⟨hir58, hltr58, hxr58⟩ := ch_in hTR hs0 hpr58 hjr58 hr58
      refine lv_istore_n (lv' := [(3, .int r58), (0, .ref a), (1, .int x1), (2, .int x2)]) hx hb dModel_lookFunction_29 rfl hl (by decide) rfl (fun ls hl => ?_)
      have hb4 : vp_in r58 (κ 0) := by assumption
      refine lv_iload_n hx hb dModel_lookFunction_30 rfl (lv_at hl 3 rfl) ?_
      refine lv_bipush (v := 10) hx hb dModel_lookFunction_31 (by decide) ?_
      refine lv_icmp_ge (tgt := 115) hx hb dModel_lookFunction_33 (by decide) (fun c59 => ?_) (fun c59 => ?_)
      · refine lv_iload_n hx hb dModel_lookFunction_115 rfl (lv_at hl 3 rfl) ?_
        refine lv_bipush (v := 10) hx hb dModel_lookFunction_116 (by decide) ?_
        refine lv_icmp_ne (tgt := 212) hx hb dModel_lookFunction_118 (by decide) (fun c60 => ?_) (fun c60 => ?_)
        · have hm3 : mn x1.toNatClampNeg = 2 := hm2.2 (f11 (by assumption) (by assumption) hf)
          refine lv_aload_n hx hb dModel_lookFunction_212 rfl (lv_at hl 1 rfl) ?_
          refine lv_iload_n hx hb dModel_lookFunction_213 rfl (lv_at hl 2 rfl) ?_
          refine lv_iconst (v := 1) hx hb dModel_lookFunction_214 (by decide) ?_
          have hpr61 : vp_in x1 (κ 0) := (vin (by assumption) (by omega))
          have hjr61 : vp_in 1 (mn x1.toNatClampNeg) := (vp1 (by omega) (by omega))
          refine pu_Vi (rest := []) S hC (m_child l γ a B Z κ b mn ν τ σ F nu hT x1 1 hpr61 hjr61) meModel_child qw_a66d450e0a ⟨Nat.le_of_ble_eq_true rfl, Nat.le_of_ble_eq_true rfl⟩ (md_rv hC hM) hM rfl hl.1 rfl (Nat.le_of_ble_eq_true rfl) dModel_lookFunction_215 ⟨Nat.zero_le _, Nat.zero_le _⟩ (fun r61 hr61 => ?_)
          obtain ⟨hir61, hltr61, hxr61⟩ := ch_in hTR hs0 hpr61 hjr61 hr61
          refine lv_istore (lv' := [(4, .int r61), (3, .int r58), (0, .ref a), (1, .int x1), (2, .int x2)]) hx hb dModel_lookFunction_218 hl (by decide) rfl (fun ls hl => ?_)
          refine lv_aload_n hx hb dModel_lookFunction_220 rfl (lv_at hl 2 rfl) ?_
          refine md_gA S hC hM 9 (by decide) rfl qw_a119aeeca0 dModel_lookFunction_221 ?_
          refine lv_iload hx hb dModel_lookFunction_224 (lv_at hl 0 rfl) ?_
          refine md_ild S hC hM 9 5 10000 (F 9) rfl rfl (by decide) rfl rfl (vin (by assumption) (by omega)) dModel_lookFunction_226 ?_
          refine lv_topi (fun v62 ev62 => ?_)
          refine lv_iconst (v := 2) hx hb dModel_lookFunction_227 (by decide) ?_
          refine lv_icmp_ne (tgt := 241) hx hb dModel_lookFunction_228 (by decide) (fun c63 => ?_) (fun c63 => ?_)
          · refine lv_iconst (v := 3) hx hb dModel_lookFunction_241 (by decide) ?_
            exact hE _ _ _ _ _ hS ⟨σ, F, nu, hM, hZ, hF, hL, (fun h9 => absurd (show (0 : Int32) < 3 by decide) h9)⟩ dModel_lookFunction_242
          · refine lv_aload_n hx hb dModel_lookFunction_231 rfl (lv_at hl 2 rfl) ?_
            refine md_gA S hC hM 9 (by decide) rfl qw_a119aeeca0 dModel_lookFunction_232 ?_
            refine lv_iload_n hx hb dModel_lookFunction_235 rfl (lv_at hl 1 rfl) ?_
            refine md_ild S hC hM 9 5 10000 (F 9) rfl rfl (by decide) rfl rfl (vin (by assumption) (by omega)) dModel_lookFunction_236 ?_
            refine lv_topi (fun v64 ev64 => ?_)
            refine lv_iconst (v := 2) hx hb dModel_lookFunction_237 (by decide) ?_
            refine lv_icmp_eq (tgt := 243) hx hb dModel_lookFunction_238 (by decide) (fun c65 => ?_) (fun c65 => ?_)
            · refine lv_aload_n hx hb dModel_lookFunction_243 rfl (lv_at hl 2 rfl) ?_
              refine md_gA S hC hM 11 (by decide) rfl qw_88b9028ba7 dModel_lookFunction_244 ?_
              refine lv_iload_n hx hb dModel_lookFunction_247 rfl (lv_at hl 1 rfl) ?_
              refine md_zld S hC hM 11 7 10000 (F 11) rfl rfl (by decide) rfl rfl (vin (by assumption) (by omega)) dModel_lookFunction_248 ?_
              refine lv_topi (fun v66 ev66 => ?_)
              have J278 : ∀ (ls : Array Slot), (F 11 r58.toNatClampNeg = 0 ∨ (1 ≤ (nu r58.toNatClampNeg).toInt ∧ (nu r58.toNatClampNeg).toInt ≤ 64)) → lv_has ls 6 [(0, .ref a), (1, .int x1), (2, .int x2), (3, .int r58), (4, .int r61)] → W p l e (bs_rm 2 0 0 48) s m args below meth c s.heap [] 0 0 Q (F0 m 278 ls []) := by
                intro ls h278 hl
                refine lv_aload_n hx hb dModel_lookFunction_278 rfl (lv_at hl 0 rfl) ?_
                refine md_gA S hC hM 11 (by decide) rfl qw_88b9028ba7 dModel_lookFunction_279 ?_
                refine lv_iload_n hx hb dModel_lookFunction_282 rfl (lv_at hl 3 rfl) ?_
                refine md_zld S hC hM 11 7 10000 (F 11) rfl rfl (by decide) rfl rfl (vin (by assumption) (by omega)) dModel_lookFunction_283 ?_
                refine lv_topi (fun v85 ev85 => ?_)
                refine lv_if_ne (tgt := 289) hx hb dModel_lookFunction_284 (by decide) (fun c86 => ?_) (fun c86 => ?_)
                · refine lv_aload_n hx hb dModel_lookFunction_289 rfl (lv_at hl 0 rfl) ?_
                  refine lv_iload_n hx hb dModel_lookFunction_290 rfl (lv_at hl 1 rfl) ?_
                  refine lv_iconst (v := 3) hx hb dModel_lookFunction_291 (by decide) ?_
                  refine lv_aload_n hx hb dModel_lookFunction_292 rfl (lv_at hl 0 rfl) ?_
                  refine md_gA S hC hM 13 (by decide) rfl qw_7b809afc8c dModel_lookFunction_293 ?_
                  refine lv_iload_n hx hb dModel_lookFunction_296 rfl (lv_at hl 3 rfl) ?_
                  refine md_lld S hC hM (vin (by assumption) (by omega)) dModel_lookFunction_297 ?_
                  refine lv_topl (fun v87 ev87 => ?_)
                  have ev87 : v87 = nu r58.toNatClampNeg := ev87
                  refine lv_l2i hx hb dModel_lookFunction_298 rfl ?_
                  refine lv_topi (fun v88 ev88 => ?_)
                  refine lv_aload_n hx hb dModel_lookFunction_299 rfl (lv_at hl 0 rfl) ?_
                  refine md_gA S hC hM 11 (by decide) rfl qw_88b9028ba7 dModel_lookFunction_300 ?_
                  refine lv_iload hx hb dModel_lookFunction_303 (lv_at hl 4 rfl) ?_
                  refine md_zld S hC hM 11 7 10000 (F 11) rfl rfl (by decide) rfl rfl (vin (by assumption) (by omega)) dModel_lookFunction_305 ?_
                  refine lv_topi (fun v89 ev89 => ?_)
                  have hnr90 : ∃ j, j ≤ 1000 ∧ v88 = nI j := (fb_ok h278 ev85 (by assumption) ev87 ev88)
                  refine mu_Vv (rest := []) S hC (fun q h => hA q (Nat.le_trans hS.1 h)) (fun q h => h) hS (m_fact l γ a B Z κ b mn ν τ σ F nu hT x1 3 v88 v89 (vin (by assumption) (by omega)) hnr90) meModel_fact qw_02871250ec ⟨Nat.le_of_ble_eq_true rfl, Nat.le_of_ble_eq_true rfl⟩ (md_rv hC hM) hM rfl hl.1 rfl (Nat.le_of_ble_eq_true rfl) dModel_lookFunction_306 ⟨Nat.le_refl _, Nat.le_refl _⟩ (fun H locs hPO hS _ _ => ?_)
                  obtain ⟨Fr90, nur90, hM, hqr90, hcr90⟩ := hPO
                  have hZ : SZ Fr90 := hZ.slt hqr90 hnr90
                  have hL : SL x1.toNatClampNeg F nu Fr90 nur90 := hL.trans (SL.slt hqr90)
                  have hK : GK x1.toNatClampNeg Fr90 nur90 := GK.zero hqr90
                  refine lv_aload_n hx hb dModel_lookFunction_309 rfl (lv_at hl 0 rfl) ?_
                  refine md_gA S hC hM 11 (by decide) rfl qw_88b9028ba7 dModel_lookFunction_310 ?_
                  refine lv_iload hx hb dModel_lookFunction_313 (lv_at hl 4 rfl) ?_
                  refine md_zld S hC hM 11 7 10000 (Fr90 11) rfl rfl (by decide) rfl rfl (vin (by assumption) (by omega)) dModel_lookFunction_315 ?_
                  refine lv_topi (fun v91 ev91 => ?_)
                  have J331 : ∀ (ls : Array Slot) (H : Heap) (locs : List Loc) (F_331 : Nat → Nat → Int32), MD γ a B Z ν τ σ F_331 nur90 H → va_S Z s.heap H locs → (GK x1.toNatClampNeg F_331 nur90) → (SL x1.toNatClampNeg F nu F_331 nur90) → (SZ F_331) → lv_has ls 6 [(0, .ref a), (1, .int x1), (2, .int x2), (3, .int r58), (4, .int r61)] → W p l e (bs_rm 2 0 0 48) s m args below meth c H locs 0 0 Q (F0 m 331 ls []) := by
                    intro ls H locs F_331 hM hS hK hL hZ hl
                    refine lv_aload_n hx hb dModel_lookFunction_331 rfl (lv_at hl 0 rfl) ?_
                    refine md_gA S hC hM 12 (by decide) rfl qw_19df235c4a dModel_lookFunction_332 ?_
                    refine lv_iload_n hx hb dModel_lookFunction_335 rfl (lv_at hl 1 rfl) ?_
                    refine lv_sipush (v := 3000) hx hb dModel_lookFunction_336 (by decide) ?_
                    refine md_istD S hC hM hS 12 8 10000 rfl rfl (by decide) rfl rfl (vin (by assumption) (by omega)) dModel_lookFunction_339 (fun H locs hM hS => ?_)
                    obtain ⟨F96, eF96⟩ : ∃ z : Nat → Nat → Int32, z = Au F_331 12 x1.toNatClampNeg 3000 := ⟨_, rfl⟩
                    rw [← eF96] at hM
                    have hZ : SZ F96 := hZ.au eF96 (by decide)
                    have hL : SL x1.toNatClampNeg F nu F96 nur90 := hL.au eF96 (by decide)
                    have hK : GK x1.toNatClampNeg F96 nur90 := hK.au eF96 (by decide)
                    refine lv_iconst (v := 0) hx hb dModel_lookFunction_340 (by decide) ?_
                    exact hE _ _ _ _ _ hS ⟨σ, F96, nur90, hM, hZ, hF, hL, (fun _ => hK)⟩ dModel_lookFunction_341
                  refine lv_if_eq (tgt := 331) hx hb dModel_lookFunction_316 (by decide) (fun c97 => ?_) (fun c97 => ?_)
                  · exact J331 ls _ _ Fr90 hM hS hK hL hZ (lv_sub hl [0, 1, 2, 3, 4] rfl)
                  · refine lv_aload_n hx hb dModel_lookFunction_319 rfl (lv_at hl 0 rfl) ?_
                    refine lv_iload_n hx hb dModel_lookFunction_320 rfl (lv_at hl 1 rfl) ?_
                    refine lv_aload_n hx hb dModel_lookFunction_321 rfl (lv_at hl 0 rfl) ?_
                    refine md_gA S hC hM 13 (by decide) rfl qw_7b809afc8c dModel_lookFunction_322 ?_
                    refine lv_iload hx hb dModel_lookFunction_325 (lv_at hl 4 rfl) ?_
                    refine md_lld S hC hM (vin (by assumption) (by omega)) dModel_lookFunction_327 ?_
                    refine lv_topl (fun v98 ev98 => ?_)
                    have ev98 : v98 = nur90 r61.toNatClampNeg := ev98
                    refine mu_Vv (rest := []) S hC (fun q h => hA q (Nat.le_trans hS.1 h)) (fun q h => h) hS (m_bits l γ a B Z κ b mn ν τ σ Fr90 nur90 hT x1 v98 (vin (by assumption) (by omega)) hZ) meModel_bits qw_be891c2f99 ⟨Nat.le_of_ble_eq_true rfl, Nat.le_of_ble_eq_true rfl⟩ (md_rv hC hM) hM rfl hl.1 rfl (Nat.le_of_ble_eq_true rfl) dModel_lookFunction_328 ⟨Nat.le_refl _, Nat.le_refl _⟩ (fun H locs hPO hS _ _ => ?_)
                    obtain ⟨Fr99, hM, hqr99⟩ := hPO
                    have hZ : SZ Fr99 := hZ.e14 hqr99
                    have hL : SL x1.toNatClampNeg F nu Fr99 nur90 := hL.trans (SL.e14 hqr99)
                    have hK : GK x1.toNatClampNeg Fr99 nur90 := hK.e14 hqr99
                    exact J331 ls _ _ Fr99 hM hS hK hL hZ (lv_sub hl [0, 1, 2, 3, 4] rfl)
                · refine lv_iconst (v := 5) hx hb dModel_lookFunction_287 (by decide) ?_
                  exact hE _ _ _ _ _ hS ⟨σ, F, nu, hM, hZ, hF, hL, (fun h9 => absurd (show (0 : Int32) < 5 by decide) h9)⟩ dModel_lookFunction_288
              refine lv_if_eq (tgt := 278) hx hb dModel_lookFunction_249 (by decide) (fun c100 => ?_) (fun c100 => ?_)
              · exact J278 ls (by first | exact Or.inl (ev66.symm.trans (by assumption)) | exact Or.inr ⟨(by rw [← ev68]; exact c_ge1 ev69 (by assumption)), (by rw [← ev71]; exact c_le64 ev72 (by assumption))⟩) (lv_sub hl [2, 3, 4, 1, 0] rfl)
              · refine lv_aload_n hx hb dModel_lookFunction_252 rfl (lv_at hl 2 rfl) ?_
                refine md_gA S hC hM 13 (by decide) rfl qw_7b809afc8c dModel_lookFunction_253 ?_
                refine lv_iload_n hx hb dModel_lookFunction_256 rfl (lv_at hl 1 rfl) ?_
                refine md_lld S hC hM (vin (by assumption) (by omega)) dModel_lookFunction_257 ?_
                refine lv_topl (fun v101 ev101 => ?_)
                have ev101 : v101 = nu r58.toNatClampNeg := ev101
                refine lv_lconst (v := 1) hx hb dModel_lookFunction_258 (by decide) ?_
                refine W.lcmp hx hb dModel_lookFunction_259 ?_
                refine lv_topi (fun v102 ev102 => ?_)
                refine lv_if_lt (tgt := 276) hx hb dModel_lookFunction_260 (by decide) (fun c103 => ?_) (fun c103 => ?_)
                · refine lv_iconst (v := 4) hx hb dModel_lookFunction_276 (by decide) ?_
                  exact hE _ _ _ _ _ hS ⟨σ, F, nu, hM, hZ, hF, hL, (fun h9 => absurd (show (0 : Int32) < 4 by decide) h9)⟩ dModel_lookFunction_277
                · refine lv_aload_n hx hb dModel_lookFunction_263 rfl (lv_at hl 2 rfl) ?_
                  refine md_gA S hC hM 13 (by decide) rfl qw_7b809afc8c dModel_lookFunction_264 ?_
                  refine lv_iload_n hx hb dModel_lookFunction_267 rfl (lv_at hl 1 rfl) ?_
                  refine md_lld S hC hM (vin (by assumption) (by omega)) dModel_lookFunction_268 ?_
                  refine lv_topl (fun v104 ev104 => ?_)
                  have ev104 : v104 = nu r58.toNatClampNeg := ev104
                  refine lv_ldc2 (v := 64) hx hb hown (hW _ qw_3f44df6941) dModel_lookFunction_269 ?_
                  refine W.lcmp hx hb dModel_lookFunction_272 ?_
                  refine lv_topi (fun v105 ev105 => ?_)
                  refine lv_if_le (tgt := 278) hx hb dModel_lookFunction_273 (by decide) (fun c106 => ?_) (fun c106 => ?_)
                  · exact J278 ls (by first | exact Or.inl (ev66.symm.trans (by assumption)) | exact Or.inr ⟨(by rw [← ev101]; exact c_ge1 ev102 (by assumption)), (by rw [← ev104]; exact c_le64 ev105 (by assumption))⟩) (lv_sub hl [2, 3, 4, 1, 0] rfl)
                  · refine lv_iconst (v := 4) hx hb dModel_lookFunction_276 (by decide) ?_
                    exact hE _ _ _ _ _ hS ⟨σ, F, nu, hM, hZ, hF, hL, (fun h9 => absurd (show (0 : Int32) < 4 by decide) h9)⟩ dModel_lookFunction_277
            · refine lv_iconst (v := 3) hx hb dModel_lookFunction_241 (by decide) ?_
              exact hE _ _ _ _ _ hS ⟨σ, F, nu, hM, hZ, hF, hL, (fun h9 => absurd (show (0 : Int32) < 3 by decide) h9)⟩ dModel_lookFunction_242
        · refine lv_aload_n hx hb dModel_lookFunction_121 rfl (lv_at hl 1 rfl) ?_
          refine md_gA S hC hM 9 (by decide) rfl qw_a119aeeca0 dModel_lookFunction_122 ?_
          refine lv_iload_n hx hb dModel_lookFunction_125 rfl (lv_at hl 0 rfl) ?_
          refine md_ild S hC hM 9 5 10000 (F 9) rfl rfl (by decide) rfl rfl (vin (by assumption) (by omega)) dModel_lookFunction_126 ?_
          refine lv_topi (fun v107 ev107 => ?_)
          refine lv_iconst (v := 3) hx hb dModel_lookFunction_127 (by decide) ?_
          refine lv_icmp_eq (tgt := 133) hx hb dModel_lookFunction_128 (by decide) (fun c108 => ?_) (fun c108 => ?_)
          · refine lv_aload_n hx hb dModel_lookFunction_133 rfl (lv_at hl 1 rfl) ?_
            refine lv_iload_n hx hb dModel_lookFunction_134 rfl (lv_at hl 2 rfl) ?_
            refine lv_iconst (v := 2) hx hb dModel_lookFunction_135 (by decide) ?_
            refine lv_iconst (v := 0) hx hb dModel_lookFunction_136 (by decide) ?_
            refine lv_aload_n hx hb dModel_lookFunction_137 rfl (lv_at hl 1 rfl) ?_
            refine md_gA S hC hM 11 (by decide) rfl qw_88b9028ba7 dModel_lookFunction_138 ?_
            refine lv_iload_n hx hb dModel_lookFunction_141 rfl (lv_at hl 0 rfl) ?_
            refine md_zld S hC hM 11 7 10000 (F 11) rfl rfl (by decide) rfl rfl (vin (by assumption) (by omega)) dModel_lookFunction_142 ?_
            refine lv_topi (fun v109 ev109 => ?_)
            have hnr110 : ∃ j, j ≤ 1000 ∧ 0 = nI j := ⟨0, by omega, rfl⟩
            refine mu_Vv (rest := []) S hC (fun q h => hA q (Nat.le_trans hS.1 h)) (fun q h => h) hS (m_fact l γ a B Z κ b mn ν τ σ F nu hT x1 2 0 v109 (vin (by assumption) (by omega)) hnr110) meModel_fact qw_02871250ec ⟨Nat.le_of_ble_eq_true rfl, Nat.le_of_ble_eq_true rfl⟩ (md_rv hC hM) hM rfl hl.1 rfl (Nat.le_of_ble_eq_true rfl) dModel_lookFunction_143 ⟨Nat.le_refl _, Nat.le_refl _⟩ (fun H locs hPO hS _ _ => ?_)
            obtain ⟨Fr110, nur110, hM, hqr110, hcr110⟩ := hPO
            have hZ : SZ Fr110 := hZ.slt hqr110 hnr110
            have hL : SL x1.toNatClampNeg F nu Fr110 nur110 := hL.trans (SL.slt hqr110)
            have hK : GK x1.toNatClampNeg Fr110 nur110 := GK.zero hqr110
            refine lv_aload_n hx hb dModel_lookFunction_146 rfl (lv_at hl 1 rfl) ?_
            refine md_gA S hC hM 12 (by decide) rfl qw_19df235c4a dModel_lookFunction_147 ?_
            refine lv_iload_n hx hb dModel_lookFunction_150 rfl (lv_at hl 2 rfl) ?_
            refine lv_sipush (v := 3000) hx hb dModel_lookFunction_151 (by decide) ?_
            refine md_istD S hC hM hS 12 8 10000 rfl rfl (by decide) rfl rfl (vin (by assumption) (by omega)) dModel_lookFunction_154 (fun H locs hM hS => ?_)
            obtain ⟨F111, eF111⟩ : ∃ z : Nat → Nat → Int32, z = Au Fr110 12 x1.toNatClampNeg 3000 := ⟨_, rfl⟩
            rw [← eF111] at hM
            have hZ : SZ F111 := hZ.au eF111 (by decide)
            have hL : SL x1.toNatClampNeg F nu F111 nur110 := hL.au eF111 (by decide)
            have hK : GK x1.toNatClampNeg F111 nur110 := hK.au eF111 (by decide)
            refine lv_aload_n hx hb dModel_lookFunction_155 rfl (lv_at hl 1 rfl) ?_
            refine md_gA S hC hM 11 (by decide) rfl qw_88b9028ba7 dModel_lookFunction_156 ?_
            refine lv_iload_n hx hb dModel_lookFunction_159 rfl (lv_at hl 0 rfl) ?_
            refine md_zld S hC hM 11 7 10000 (F111 11) rfl rfl (by decide) rfl rfl (vin (by assumption) (by omega)) dModel_lookFunction_160 ?_
            refine lv_topi (fun v112 ev112 => ?_)
            refine lv_if_ne (tgt := 166) hx hb dModel_lookFunction_161 (by decide) (fun c113 => ?_) (fun c113 => ?_)
            · refine lv_aload_n hx hb dModel_lookFunction_166 rfl (lv_at hl 1 rfl) ?_
              refine lv_iload_n hx hb dModel_lookFunction_167 rfl (lv_at hl 0 rfl) ?_
              refine pu_Vl (rest := []) S hC (m_numberOf l γ a B Z κ b mn ν τ σ F111 nur110 hT r58 (vin (by assumption) (by omega)) hZ) meModel_numberOf qw_75e699d051 ⟨Nat.le_of_ble_eq_true rfl, Nat.le_of_ble_eq_true rfl⟩ (md_rv hC hM) hM rfl hl.1 rfl (Nat.le_of_ble_eq_true rfl) dModel_lookFunction_168 ⟨Nat.zero_le _, Nat.zero_le _⟩ (fun r114 hr114 => ?_)
              refine lv_lstore (lv' := [(4, .long r114), (3, .int r58), (0, .ref a), (1, .int x1), (2, .int x2)]) hx hb dModel_lookFunction_171 hl (by decide) rfl (fun ls hl => ?_)
              refine lv_aload_n hx hb dModel_lookFunction_173 rfl (lv_at hl 2 rfl) ?_
              refine md_gA S hC hM 13 (by decide) rfl qw_7b809afc8c dModel_lookFunction_174 ?_
              refine lv_iload_n hx hb dModel_lookFunction_177 rfl (lv_at hl 3 rfl) ?_
              refine lv_lload hx hb dModel_lookFunction_178 (lv_at hl 0 rfl) ?_
              refine md_lst S hC hM hS (vin (by assumption) (by omega)) dModel_lookFunction_180 (fun H locs hM hS => ?_)
              obtain ⟨nu115, enu115⟩ : ∃ z : Nat → Int64, z = vp_updL nur110 x1.toNatClampNeg r114 := ⟨_, rfl⟩
              rw [← enu115] at hM
              have hL : SL x1.toNatClampNeg F nu F111 nu115 := hL.trans (by rw [enu115]; exact SL.num)
              refine lv_aload_n hx hb dModel_lookFunction_181 rfl (lv_at hl 2 rfl) ?_
              refine lv_iload_n hx hb dModel_lookFunction_182 rfl (lv_at hl 1 rfl) ?_
              refine pu_Vi (rest := []) S hC (m_isClear l γ a B Z κ b mn ν τ σ F111 nu115 hT r58 (vin (by assumption) (by omega)) hZ) meModel_isClear qw_f576e3fc3c ⟨Nat.le_of_ble_eq_true rfl, Nat.le_of_ble_eq_true rfl⟩ (md_rv hC hM) hM rfl hl.1 rfl (Nat.le_of_ble_eq_true rfl) dModel_lookFunction_183 ⟨Nat.zero_le _, Nat.zero_le _⟩ (fun r116 hr116 => ?_)
              have J205 : ∀ (ls : Array Slot), lv_has ls 6 [(0, .ref a), (1, .int x1), (2, .int x2), (3, .int r58), (4, .long r114)] → W p l e (bs_rm 2 0 0 48) s m args below meth c H locs 0 0 Q (F0 m 205 ls []) := by
                intro ls hl
                refine lv_bipush (v := 9) hx hb dModel_lookFunction_205 (by decide) ?_
                refine lv_goto (tgt := 211) hx hb dModel_lookFunction_207 (by decide) ?_
                exact hE _ _ _ _ _ hS ⟨σ, F111, nu115, hM, hZ, hF, hL, (fun h9 => absurd (show (0 : Int32) < 9 by decide) h9)⟩ dModel_lookFunction_211
              refine lv_if_eq (tgt := 205) hx hb dModel_lookFunction_186 (by decide) (fun c122 => ?_) (fun c122 => ?_)
              · exact J205 ls  (lv_sub hl [2, 3, 4, 1, 0] rfl)
              · refine lv_lload hx hb dModel_lookFunction_189 (lv_at hl 0 rfl) ?_
                refine lv_lconst (v := 0) hx hb dModel_lookFunction_191 (by decide) ?_
                refine W.lcmp hx hb dModel_lookFunction_192 ?_
                refine lv_topi (fun v123 ev123 => ?_)
                refine lv_if_lt (tgt := 205) hx hb dModel_lookFunction_193 (by decide) (fun c124 => ?_) (fun c124 => ?_)
                · exact J205 ls  (lv_sub hl [2, 3, 4, 1, 0] rfl)
                · refine lv_lload hx hb dModel_lookFunction_196 (lv_at hl 0 rfl) ?_
                  refine lv_ldc2 (v := 2147483647) hx hb hown (hW _ qw_e5f8ae1a74) dModel_lookFunction_198 ?_
                  refine W.lcmp hx hb dModel_lookFunction_201 ?_
                  refine lv_topi (fun v125 ev125 => ?_)
                  refine lv_if_le (tgt := 210) hx hb dModel_lookFunction_202 (by decide) (fun c126 => ?_) (fun c126 => ?_)
                  · refine lv_iconst (v := 0) hx hb dModel_lookFunction_210 (by decide) ?_
                    exact hE _ _ _ _ _ hS ⟨σ, F111, nu115, hM, hZ, hF, hL, (fun _ => by rw [enu115]; exact GK.num (fun _ => nb_ok ev123 (by assumption) ev125 (by assumption)))⟩ dModel_lookFunction_211
                  · exact J205 ls  (lv_sub hl [2, 3, 4, 1, 0] rfl)
            · refine lv_iconst (v := 0) hx hb dModel_lookFunction_164 (by decide) ?_
              exact hE _ _ _ _ _ hS ⟨σ, F111, nur110, hM, hZ, hF, hL, (fun _ => hK)⟩ dModel_lookFunction_165
          · refine lv_iconst (v := 3) hx hb dModel_lookFunction_131 (by decide) ?_
            exact hE _ _ _ _ _ hS ⟨σ, F, nu, hM, hZ, hF, hL, (fun h9 => absurd (show (0 : Int32) < 3 by decide) h9)⟩ dModel_lookFunction_132
      · refine lv_aload_n hx hb dModel_lookFunction_36 rfl (lv_at hl 1 rfl) ?_
        refine md_gA S hC hM 2 (by decide) rfl qw_3471296067 dModel_lookFunction_37 ?_
        refine lv_iload_n hx hb dModel_lookFunction_40 rfl (lv_at hl 0 rfl) ?_
        refine md_ild S hC hM 2 0 4000 (τ 2) rfl rfl (by decide) rfl rfl (vin (by assumption) (by omega)) dModel_lookFunction_41 ?_
        refine lv_topi (fun v127 ev127 => ?_)
        refine lv_iconst (v := 1) hx hb dModel_lookFunction_42 (by decide) ?_
        refine lv_icmp_eq (tgt := 49) hx hb dModel_lookFunction_43 (by decide) (fun c128 => ?_) (fun c128 => ?_)
        · refine lv_aload_n hx hb dModel_lookFunction_49 rfl (lv_at hl 1 rfl) ?_
          refine md_gA S hC hM 12 (by decide) rfl qw_19df235c4a dModel_lookFunction_50 ?_
          refine lv_iload_n hx hb dModel_lookFunction_53 rfl (lv_at hl 0 rfl) ?_
          refine md_ild S hC hM 12 8 10000 (F 12) rfl rfl (by decide) rfl rfl (vin (by assumption) (by omega)) dModel_lookFunction_54 ?_
          refine lv_topi (fun v129 ev129 => ?_)
          refine lv_istore (lv' := [(4, .int v129), (3, .int r58), (0, .ref a), (1, .int x1), (2, .int x2)]) hx hb dModel_lookFunction_55 hl (by decide) rfl (fun ls hl => ?_)
          refine lv_iload hx hb dModel_lookFunction_57 (lv_at hl 0 rfl) ?_
          refine lv_if_lt (tgt := 81) hx hb dModel_lookFunction_59 (by decide) (fun c130 => ?_) (fun c130 => ?_)
          · refine lv_iconst (v := 2) hx hb dModel_lookFunction_81 (by decide) ?_
            exact hE _ _ _ _ _ hS ⟨σ, F, nu, hM, hZ, hF, hL, (fun h9 => absurd (show (0 : Int32) < 2 by decide) h9)⟩ dModel_lookFunction_82
          · refine lv_iload hx hb dModel_lookFunction_62 (lv_at hl 0 rfl) ?_
            refine lv_sipush (v := 2000) hx hb dModel_lookFunction_64 (by decide) ?_
            refine lv_icmp_ge (tgt := 81) hx hb dModel_lookFunction_67 (by decide) (fun c131 => ?_) (fun c131 => ?_)
            · refine lv_iconst (v := 2) hx hb dModel_lookFunction_81 (by decide) ?_
              exact hE _ _ _ _ _ hS ⟨σ, F, nu, hM, hZ, hF, hL, (fun h9 => absurd (show (0 : Int32) < 2 by decide) h9)⟩ dModel_lookFunction_82
            · have hio : vp_in v129 2000 := in_cmp (by assumption) (by assumption) (by omega)
              refine lv_aload_n hx hb dModel_lookFunction_70 rfl (lv_at hl 2 rfl) ?_
              refine md_gA S hC hM 22 (by decide) rfl qw_50c5849686 dModel_lookFunction_71 ?_
              refine lv_iload hx hb dModel_lookFunction_74 (lv_at hl 0 rfl) ?_
              refine md_ild S hC hM 22 17 2000 (τ 22) rfl rfl (by decide) rfl rfl (vin (by assumption) (by omega)) dModel_lookFunction_76 ?_
              refine lv_topi (fun v132 ev132 => ?_)
              refine lv_iconst (v := 1) hx hb dModel_lookFunction_77 (by decide) ?_
              refine lv_icmp_eq (tgt := 83) hx hb dModel_lookFunction_78 (by decide) (fun c133 => ?_) (fun c133 => ?_)
              · refine lv_aload_n hx hb dModel_lookFunction_83 rfl (lv_at hl 2 rfl) ?_
                refine lv_iload_n hx hb dModel_lookFunction_84 rfl (lv_at hl 3 rfl) ?_
                refine lv_iconst (v := 1) hx hb dModel_lookFunction_85 (by decide) ?_
                refine lv_iconst (v := 0) hx hb dModel_lookFunction_86 (by decide) ?_
                refine lv_iconst (v := 0) hx hb dModel_lookFunction_87 (by decide) ?_
                have hnr134 : ∃ j, j ≤ 1000 ∧ 0 = nI j := ⟨0, by omega, rfl⟩
                refine mu_Vv (rest := []) S hC (fun q h => hA q (Nat.le_trans hS.1 h)) (fun q h => h) hS (m_fact l γ a B Z κ b mn ν τ σ F nu hT x1 1 0 0 (vin (by assumption) (by omega)) hnr134) meModel_fact qw_02871250ec ⟨Nat.le_of_ble_eq_true rfl, Nat.le_of_ble_eq_true rfl⟩ (md_rv hC hM) hM rfl hl.1 rfl (Nat.le_of_ble_eq_true rfl) dModel_lookFunction_88 ⟨Nat.le_refl _, Nat.le_refl _⟩ (fun H locs hPO hS _ _ => ?_)
                obtain ⟨Fr134, nur134, hM, hqr134, hcr134⟩ := hPO
                have hZ : SZ Fr134 := hZ.slt hqr134 hnr134
                have hL : SL x1.toNatClampNeg F nu Fr134 nur134 := hL.trans (SL.slt hqr134)
                have hK : GK x1.toNatClampNeg Fr134 nur134 := GK.zero hqr134
                refine lv_aload_n hx hb dModel_lookFunction_91 rfl (lv_at hl 2 rfl) ?_
                refine md_gA S hC hM 12 (by decide) rfl qw_19df235c4a dModel_lookFunction_92 ?_
                refine lv_iload_n hx hb dModel_lookFunction_95 rfl (lv_at hl 3 rfl) ?_
                refine lv_sipush (v := 3000) hx hb dModel_lookFunction_96 (by decide) ?_
                refine md_istD S hC hM hS 12 8 10000 rfl rfl (by decide) rfl rfl (vin (by assumption) (by omega)) dModel_lookFunction_99 (fun H locs hM hS => ?_)
                obtain ⟨F135, eF135⟩ : ∃ z : Nat → Nat → Int32, z = Au Fr134 12 x1.toNatClampNeg 3000 := ⟨_, rfl⟩
                rw [← eF135] at hM
                have hZ : SZ F135 := hZ.au eF135 (by decide)
                have hL : SL x1.toNatClampNeg F nu F135 nur134 := hL.au eF135 (by decide)
                have hK : GK x1.toNatClampNeg F135 nur134 := hK.au eF135 (by decide)
                refine lv_aload_n hx hb dModel_lookFunction_100 rfl (lv_at hl 2 rfl) ?_
                refine md_gA S hC hM 9 (by decide) rfl qw_a119aeeca0 dModel_lookFunction_101 ?_
                refine lv_iload_n hx hb dModel_lookFunction_104 rfl (lv_at hl 1 rfl) ?_
                refine md_ild S hC hM 9 5 10000 (F135 9) rfl rfl (by decide) rfl rfl (vin (by assumption) (by omega)) dModel_lookFunction_105 ?_
                refine lv_topi (fun v136 ev136 => ?_)
                refine lv_if_ne (tgt := 113) hx hb dModel_lookFunction_106 (by decide) (fun c137 => ?_) (fun c137 => ?_)
                · refine lv_iconst (v := 3) hx hb dModel_lookFunction_113 (by decide) ?_
                  exact hE _ _ _ _ _ hS ⟨σ, F135, nur134, hM, hZ, hF, hL, (fun h9 => absurd (show (0 : Int32) < 3 by decide) h9)⟩ dModel_lookFunction_114
                · refine lv_iconst (v := 0) hx hb dModel_lookFunction_109 (by decide) ?_
                  refine lv_goto (tgt := 114) hx hb dModel_lookFunction_110 (by decide) ?_
                  exact hE _ _ _ _ _ hS ⟨σ, F135, nur134, hM, hZ, hF, hL, (fun _ => hK)⟩ dModel_lookFunction_114
              · refine lv_iconst (v := 2) hx hb dModel_lookFunction_81 (by decide) ?_
                exact hE _ _ _ _ _ hS ⟨σ, F, nu, hM, hZ, hF, hL, (fun h9 => absurd (show (0 : Int32) < 2 by decide) h9)⟩ dModel_lookFunction_82
        · refine lv_bipush (v := 11) hx hb dModel_lookFunction_46 (by decide) ?_
          exact hE _ _ _ _ _ hS ⟨σ, F, nu, hM, hZ, hF, hL, (fun h9 => absurd (show (0 : Int32) < 11 by decide) h9)⟩ dModel_lookFunction_48
    · refine lv_bipush (v := 11) hx hb dModel_lookFunction_20 (by decide) ?_
      exact hE _ _ _ _ _ hS ⟨σ, F, nu, hM, hZ, hF, hL, (fun h9 => absurd (show (0 : Int32) < 11 by decide) h9)⟩ dModel_lookFunction_22
  refine lv_icmp_ne (tgt := 16) hx hb dModel_lookFunction_9 (by decide) (fun c138 => ?_) (fun c138 => ?_)
  · refine lv_iconst (v := 1) hx hb dModel_lookFunction_16 (by decide) ?_
    exact J17 ls 1 (by first | exact Or.inl ⟨rfl, by assumption, rfl⟩ | exact Or.inr ⟨rfl, by assumption⟩) (lv_sub hl [0, 1, 2] rfl)
  · refine lv_iconst (v := 2) hx hb dModel_lookFunction_12 (by decide) ?_
    refine lv_goto (tgt := 17) hx hb dModel_lookFunction_13 (by decide) ?_
    exact J17 ls 2 (by first | exact Or.inl ⟨rfl, by assumption, rfl⟩ | exact Or.inr ⟨rfl, by assumption⟩) (lv_sub hl [0, 1, 2] rfl)
