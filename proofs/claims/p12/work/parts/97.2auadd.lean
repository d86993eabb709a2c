theorem qw_398ffa5efc : (Cond.fieldLink R_Model 26 R_Model "roots" "[I") ∈ bs_W0 := bs_in (in_tables_1_5 (List.mem_of_getElem? (i := 160) rfl)) rfl
set_option maxHeartbeats 4000000 in
set_option maxRecDepth 100000 in
theorem m_add (l : Launch) (γ : gE) (a : Nat) (B : Nat → Nat) (Z : Nat → Prop) (κ b mn : Nat → Nat) (ν : Nat → Int32) (τ : Nat → Nat → Int32) (σ : Nat → Int32) (F : Nat → Nat → Int32) (nu : Nat → Int64) (hT : ST κ b mn ν τ) (x1 : Int32) (x2 : Int32) (x3 : Int32) (hZ : SZ F) (hF : FD σ) (hG : GD F nu) : MU l yModel_add bModel_add 5 (some .int) 1 20 0 0 [.ref a, .int x1, .int x2, .int x3] γ Z (MD γ a B Z ν τ σ F nu) (mQi (fun r H => (BA (κ 1) x1 x2 x3 ∧ MI γ a B Z κ 1 H) ∨ (¬ BA (κ 1) x1 x2 x3 ∧ κ 0 = 4000 ∧ MI γ a B Z κ 2 H) ∨ (¬ BA (κ 1) x1 x2 x3 ∧ κ 0 < 4000 ∧ r = nI (κ 0) ∧ ∃ κ', κ' 5 = κ 5 ∧ κ' 0 = κ 0 + 1 ∧ (∃ k, x3 = nI k ∧ k ≤ κ 1 ∧ κ' 1 = κ 1 - k + 1) ∧ MI γ a B Z κ' 0 H)) Z) := by
  refine mu_openI (by decide) (Nat.le_of_ble_eq_true rfl) ?_
  intro p e s m args below meth c ls Q S hnm hC hA hM hE hl
  have hS : va_S Z s.heap s.heap [] := va_S.rf
  obtain ⟨hx, hb, hml, hown, hW⟩ := id S
  obtain ⟨⟨hs0, hs1, hs2, hs3, hs4, hs5, hs6⟩, ⟨hv6, hv8, hv21, hv24, hv30, hv31⟩, hTR, hTY, hOB, hNM⟩ := id hT
  have hl : lv_has ls 5 [(0, .ref a), (1, .int x1), (2, .int x2), (3, .int x3)] := hl
  refine lv_iload_n hx hb dModel_add_0 rfl (lv_at hl 1 rfl) ?_
  refine lv_iconst (v := 1) hx hb dModel_add_1 (by decide) ?_
  have J46 : ∀ (ls : Array Slot) (t0_46 : Int32), ((t0_46 = 1 ∧ BN x1) ∨ (t0_46 = 0 ∧ ¬ BN x1)) → lv_has ls 5 [(0, .ref a), (1, .int x1), (2, .int x2), (3, .int x3)] → W p l e (bs_rm 1 0 0 20) s m args below meth c s.heap [] 0 0 Q (F0 m 46 ls [.int t0_46]) := by
    intro ls t0_46 ht0_46 hl
    refine lv_istore (lv' := [(4, .int t0_46), (0, .ref a), (1, .int x1), (2, .int x2), (3, .int x3)]) hx hb dModel_add_46 hl (by decide) rfl (fun ls hl => ?_)
    refine lv_aload_n hx hb dModel_add_48 rfl (lv_at hl 1 rfl) ?_
    refine lv_iload_n hx hb dModel_add_49 rfl (lv_at hl 2 rfl) ?_
    have J102 : ∀ (ls : Array Slot) (t0_102 : Int32), ((t0_102 = 1 ∧ BA (κ 1) x1 x2 x3) ∨ (t0_102 = 2 ∧ ¬ BA (κ 1) x1 x2 x3 ∧ κ 0 = 4000) ∨ (t0_102 = 0 ∧ ¬ BA (κ 1) x1 x2 x3 ∧ ¬ x3 < 0 ∧ ¬ nI (κ 1) < x3 ∧ κ 0 < 4000)) → lv_has ls 5 [(0, .ref a), (1, .int x1), (2, .int x2), (3, .int x3), (4, .int t0_46)] → W p l e (bs_rm 1 0 0 20) s m args below meth c s.heap [] 0 0 Q (F0 m 102 ls [.int t0_102, .ref a]) := by
      intro ls t0_102 ht0_102 hl
      refine md_pD S hC hM hS 0 rfl (by decide) rfl qw_53e275eed6 rfl (by decide +kernel) dModel_add_102 (fun H locs hM hS => ?_)
      obtain ⟨σ110, eσ110⟩ : ∃ z : Nat → Int32, z = upd σ 0 t0_102 := ⟨_, rfl⟩
      rw [← eσ110] at hM
      have hF : FD σ110 := hF.up eσ110 (by decide) (by decide)
      refine lv_aload_n hx hb dModel_add_105 rfl (lv_at hl 0 rfl) ?_
      refine md_gI S hC hM 0 (v := σ110 0) rfl (by decide) rfl qw_53e275eed6 dModel_add_106 ?_
      refine lv_topi (fun v111 ev111 => ?_)
      refine lv_if_le (tgt := 114) hx hb dModel_add_109 (by decide) (fun c112 => ?_) (fun c112 => ?_)
      · have h114 := (by assumption : v111 ≤ 0)
        obtain ⟨hok, hx30, hx31, hN0⟩ := cd_0 eσ110 ev111 h114 (ad_cv ht0_102)
        obtain ⟨n3, hn3, hx3⟩ := le_n hx30 hx31 (by omega)
        refine lv_aload_n hx hb dModel_add_114 rfl (lv_at hl 0 rfl) ?_
        refine md_gA S hC hM 2 (by decide) rfl qw_3471296067 dModel_add_115 ?_
        refine lv_aload_n hx hb dModel_add_118 rfl (lv_at hl 0 rfl) ?_
        refine md_gI S hC hM 6 (v := nI (κ 0)) hv6 (by decide) rfl qw_f42008621b dModel_add_119 ?_
        refine lv_topi (fun v113 ev113 => ?_)
        refine lv_iload_n hx hb dModel_add_122 rfl (lv_at hl 1 rfl) ?_
        refine md_istS S hC hM hS 2 0 4000 rfl rfl (by decide) rfl rfl (vin_of ev113 (by omega) (by omega)) dModel_add_123 (fun H locs hM hS => ?_)
        obtain ⟨τ115, eτ115⟩ : ∃ z : Nat → Nat → Int32, z = Au τ 2 v113.toNatClampNeg x1 := ⟨_, rfl⟩
        rw [← eτ115] at hM
        refine lv_aload_n hx hb dModel_add_124 rfl (lv_at hl 0 rfl) ?_
        refine md_gA S hC hM 3 (by decide) rfl qw_9fb851a5fa dModel_add_125 ?_
        refine lv_aload_n hx hb dModel_add_128 rfl (lv_at hl 0 rfl) ?_
        refine md_gI S hC hM 6 (v := nI (κ 0)) hv6 (by decide) rfl qw_f42008621b dModel_add_129 ?_
        refine lv_topi (fun v116 ev116 => ?_)
        refine lv_iload_n hx hb dModel_add_132 rfl (lv_at hl 2 rfl) ?_
        refine md_istS S hC hM hS 3 1 4000 rfl rfl (by decide) rfl rfl (vin_of ev116 (by omega) (by omega)) dModel_add_133 (fun H locs hM hS => ?_)
        obtain ⟨τ118, eτ118⟩ : ∃ z : Nat → Nat → Int32, z = Au τ115 3 v116.toNatClampNeg x2 := ⟨_, rfl⟩
        rw [← eτ118] at hM
        refine lv_aload_n hx hb dModel_add_134 rfl (lv_at hl 0 rfl) ?_
        refine md_gA S hC hM 4 (by decide) rfl qw_a8caa30de3 dModel_add_135 ?_
        refine lv_aload_n hx hb dModel_add_138 rfl (lv_at hl 0 rfl) ?_
        refine md_gI S hC hM 6 (v := nI (κ 0)) hv6 (by decide) rfl qw_f42008621b dModel_add_139 ?_
        refine lv_topi (fun v119 ev119 => ?_)
        refine lv_iload_n hx hb dModel_add_142 rfl (lv_at hl 3 rfl) ?_
        refine md_istS S hC hM hS 4 2 4000 rfl rfl (by decide) rfl rfl (vin_of ev119 (by omega) (by omega)) dModel_add_143 (fun H locs hM hS => ?_)
        obtain ⟨τ121, eτ121⟩ : ∃ z : Nat → Nat → Int32, z = Au τ118 4 v119.toNatClampNeg x3 := ⟨_, rfl⟩
        rw [← eτ121] at hM
        refine lv_aload_n hx hb dModel_add_144 rfl (lv_at hl 0 rfl) ?_
        refine md_gA S hC hM 5 (by decide) rfl qw_7e4081a75e dModel_add_145 ?_
        refine lv_aload_n hx hb dModel_add_148 rfl (lv_at hl 0 rfl) ?_
        refine md_gI S hC hM 6 (v := nI (κ 0)) hv6 (by decide) rfl qw_f42008621b dModel_add_149 ?_
        refine lv_topi (fun v122 ev122 => ?_)
        refine lv_iload_n hx hb dModel_add_152 rfl (lv_at hl 3 rfl) ?_
        have J179 : ∀ (ls : Array Slot) (t0_179 : Int32), (t0_179 = nI (tX b (κ 0) n3)) → lv_has ls 5 [(0, .ref a), (1, .int x1), (2, .int x2), (3, .int x3), (4, .int t0_46)] → W p l e (bs_rm 1 0 0 20) s m args below meth c H locs 0 0 Q (F0 m 179 ls [.int t0_179, .int v122, .ref (B 5)]) := by
          intro ls t0_179 ht0_179 hl
          refine md_istS S hC hM hS 5 3 4000 rfl rfl (by decide) rfl rfl (vin_of ev122 (by omega) (by omega)) dModel_add_179 (fun H locs hM hS => ?_)
          obtain ⟨τ152, eτ152⟩ : ∃ z : Nat → Nat → Int32, z = Au τ121 5 v122.toNatClampNeg t0_179 := ⟨_, rfl⟩
          rw [← eτ152] at hM
          refine lv_aload_n hx hb dModel_add_180 rfl (lv_at hl 0 rfl) ?_
          refine md_gA S hC hM 15 (by decide) rfl qw_bcd494e5c6 dModel_add_181 ?_
          refine lv_aload_n hx hb dModel_add_184 rfl (lv_at hl 0 rfl) ?_
          refine md_gI S hC hM 6 (v := nI (κ 0)) hv6 (by decide) rfl qw_f42008621b dModel_add_185 ?_
          refine lv_topi (fun v153 ev153 => ?_)
          refine lv_iconst (v := 0) hx hb dModel_add_188 (by decide) ?_
          refine md_zstD S hC hM hS 15 11 4000 rfl rfl (by decide) rfl rfl (vin_of ev153 (by omega) (by omega)) dModel_add_189 (fun H locs hM hS => ?_)
          obtain ⟨F154, eF154⟩ : ∃ z : Nat → Nat → Int32, z = Au F 15 v153.toNatClampNeg (vp_nar .boolean 0) := ⟨_, rfl⟩
          rw [← eF154] at hM
          have hZ : SZ F154 := hZ.au eF154 (by decide)
          have hG : GD F154 nu := hG.au eF154 (by decide)
          refine lv_aload_n hx hb dModel_add_190 rfl (lv_at hl 0 rfl) ?_
          refine lv_aload_n hx hb dModel_add_191 rfl (lv_at hl 0 rfl) ?_
          refine md_gI S hC hM 8 (v := nI (κ 1)) hv8 (by decide) rfl qw_0b242dc29a dModel_add_192 ?_
          refine lv_topi (fun v155 ev155 => ?_)
          refine lv_iload_n hx hb dModel_add_195 rfl (lv_at hl 3 rfl) ?_
          refine lv_isub hx hb dModel_add_196 ?_
          refine lv_topi (fun v156 ev156 => ?_)
          refine md_pS S hC hM hS 8 rfl (by decide) rfl qw_0b242dc29a rfl (by decide +kernel) dModel_add_197 (fun H locs hM hS => ?_)
          obtain ⟨ν158, eν158⟩ : ∃ z : Nat → Int32, z = upd ν 8 v156 := ⟨_, rfl⟩
          rw [← eν158] at hM
          refine lv_aload_n hx hb dModel_add_200 rfl (lv_at hl 0 rfl) ?_
          refine md_gA S hC hM 7 (by decide) rfl qw_398ffa5efc dModel_add_201 ?_
          refine lv_aload_n hx hb dModel_add_204 rfl (lv_at hl 0 rfl) ?_
          refine md_gI S hC hM 8 (v := ν158 8) rfl (by decide) rfl qw_0b242dc29a dModel_add_205 ?_
          refine lv_topi (fun v159 ev159 => ?_)
          refine lv_aload_n hx hb dModel_add_208 rfl (lv_at hl 0 rfl) ?_
          refine md_gI S hC hM 6 (v := ν158 6) rfl (by decide) rfl qw_f42008621b dModel_add_209 ?_
          refine lv_topi (fun v160 ev160 => ?_)
          have hj5 : v159 = nI (κ 1 - n3) := (by rw [ev159, eν158, pk_us]; exact ad_ix ev155 hx3 hn3 ev156)
          have hnd : v160 = nI (κ 0) := (by rw [ev160, eν158, pk_un (by decide)]; exact hv6)
          refine md_istS S hC hM hS 7 4 4000 rfl rfl (by decide) rfl rfl (vin_of hj5 (by omega) (by omega)) dModel_add_212 (fun H locs hM hS => ?_)
          obtain ⟨τ162, eτ162⟩ : ∃ z : Nat → Nat → Int32, z = Au τ152 7 v159.toNatClampNeg v160 := ⟨_, rfl⟩
          rw [← eτ162] at hM
          refine lv_aload_n hx hb dModel_add_213 rfl (lv_at hl 0 rfl) ?_
          refine lv_dup hx hb dModel_add_214 rfl ?_
          refine md_gI S hC hM 8 (v := ν158 8) rfl (by decide) rfl qw_0b242dc29a dModel_add_215 ?_
          refine lv_topi (fun v163 ev163 => ?_)
          refine lv_iconst (v := 1) hx hb dModel_add_218 (by decide) ?_
          refine lv_iadd hx hb dModel_add_219 ?_
          refine lv_topi (fun v164 ev164 => ?_)
          have hw2 : v164 = nI (κ 1 - n3 + 1) := inc_n (by rw [ev163, eν158, pk_us]; exact ad_ix ev155 hx3 hn3 ev156) ev164
          refine md_pS S hC hM hS 8 rfl (by decide) rfl qw_0b242dc29a rfl (by decide +kernel) dModel_add_220 (fun H locs hM hS => ?_)
          obtain ⟨ν166, eν166⟩ : ∃ z : Nat → Int32, z = upd ν158 8 v164 := ⟨_, rfl⟩
          rw [← eν166] at hM
          refine lv_aload_n hx hb dModel_add_223 rfl (lv_at hl 0 rfl) ?_
          refine lv_dup hx hb dModel_add_224 rfl ?_
          refine md_gI S hC hM 6 (v := ν166 6) rfl (by decide) rfl qw_f42008621b dModel_add_225 ?_
          refine lv_topi (fun v167 ev167 => ?_)
          refine lv_iconst (v := 1) hx hb dModel_add_228 (by decide) ?_
          refine lv_iadd hx hb dModel_add_229 ?_
          refine lv_topi (fun v168 ev168 => ?_)
          have hw3 : v168 = nI (κ 0 + 1) := inc_n (by rw [ev167, eν166, pk_un (by decide), eν158, pk_un (by decide)]; exact hv6) ev168
          refine md_pS S hC hM hS 6 rfl (by decide) rfl qw_f42008621b rfl (by decide +kernel) dModel_add_230 (fun H locs hM hS => ?_)
          obtain ⟨ν170, eν170⟩ : ∃ z : Nat → Int32, z = upd ν166 6 v168 := ⟨_, rfl⟩
          rw [← eν170] at hM
          refine lv_aload_n hx hb dModel_add_233 rfl (lv_at hl 0 rfl) ?_
          refine md_gI S hC hM 6 (v := ν170 6) rfl (by decide) rfl qw_f42008621b dModel_add_234 ?_
          refine lv_topi (fun v171 ev171 => ?_)
          refine lv_iconst (v := 1) hx hb dModel_add_237 (by decide) ?_
          refine lv_isub hx hb dModel_add_238 ?_
          refine lv_topi (fun v172 ev172 => ?_)
          exact hE _ _ _ _ _ hS (Or.inr (Or.inr ⟨hok, hN0, (by rw [ev172, ev171, eν170, pk_us, hw3]; exact nI_pred (κ 0)), ku (ku κ 0 (κ 0 + 1)) 1 (κ 1 - n3 + 1), rfl, rfl, ⟨n3, hx3, hn3, rfl⟩, _, _, ν170, τ162, σ110, F154, nu, ad_st hT hN0 hx3 hn3 eτ115 eτ118 eτ121 eτ152 eτ162 (ixn ev119 (by omega)) (ixn ev122 (by omega)) (ixn hj5 (by omega)) ht0_179 hnd eν158 eν166 eν170 hw2 hw3, hZ, hF, hG, ad_c0 eσ110 ev111 h114 (ad_cv ht0_102), hM⟩)) dModel_add_239
        refine lv_if_ne (tgt := 163) hx hb dModel_add_153 (by decide) (fun c173 => ?_) (fun c173 => ?_)
        · have hn0 : 1 ≤ n3 := n_one hx3 (by assumption)
          refine lv_aload_n hx hb dModel_add_163 rfl (lv_at hl 0 rfl) ?_
          refine md_gA S hC hM 5 (by decide) rfl qw_7e4081a75e dModel_add_164 ?_
          refine lv_aload_n hx hb dModel_add_167 rfl (lv_at hl 0 rfl) ?_
          refine md_gA S hC hM 7 (by decide) rfl qw_398ffa5efc dModel_add_168 ?_
          refine lv_aload_n hx hb dModel_add_171 rfl (lv_at hl 0 rfl) ?_
          refine md_gI S hC hM 8 (v := nI (κ 1)) hv8 (by decide) rfl qw_0b242dc29a dModel_add_172 ?_
          refine lv_topi (fun v174 ev174 => ?_)
          refine lv_iload_n hx hb dModel_add_175 rfl (lv_at hl 3 rfl) ?_
          refine lv_isub hx hb dModel_add_176 ?_
          refine lv_topi (fun v175 ev175 => ?_)
          have hv3 : v175 = nI (κ 1 - n3) := ad_ix ev174 hx3 hn3 ev175
          refine md_ild S hC hM 7 4 4000 (τ121 7) rfl rfl (by decide) rfl rfl (vin_of hv3 (by omega) (by omega)) dModel_add_177 ?_
          refine lv_topi (fun v176 ev176 => ?_)
          have hu := ad_rt hTR hs0 hs1 hn3 hn0 (by rw [eτ121, eτ118, eτ115]; rfl) hv3 ev176
          refine md_ild S hC hM 5 3 4000 (τ121 5) rfl rfl (by decide) rfl rfl (vin_of hu.1 (by omega) (by omega)) dModel_add_178 ?_
          refine lv_topi (fun v177 ev177 => ?_)
          exact J179 ls v177 (by first | exact ad_b0 ev177 hx3 (by assumption) (by omega) | exact ad_b1 hTR hs0 hn0 (by rw [eτ121, eτ118, eτ115]; rfl) hu ev177) (lv_sub hl [0, 1, 2, 3, 4] rfl)
        · refine lv_aload_n hx hb dModel_add_156 rfl (lv_at hl 0 rfl) ?_
          refine md_gI S hC hM 6 (v := nI (κ 0)) hv6 (by decide) rfl qw_f42008621b dModel_add_157 ?_
          refine lv_topi (fun v178 ev178 => ?_)
          refine lv_goto (tgt := 179) hx hb dModel_add_160 (by decide) ?_
          exact J179 ls v178 (by first | exact ad_b0 ev178 hx3 (by assumption) (by omega) | exact ad_b1 hTR hs0 hn0 (by rw [eτ121, eτ118, eτ115]; rfl) hu ev178) (lv_sub hl [0, 1, 2, 3, 4] rfl)
      · refine lv_iconst (v := 0) hx hb dModel_add_112 (by decide) ?_
        exact hE _ _ _ _ _ hS ((ad_cf eσ110 ev111 (by assumption) ht0_102).elim (fun h9 => Or.inl ⟨h9.2, b, mn, ν, τ, σ110, F, nu, hT, hZ, hF, hG, h9.1, hM⟩) (fun h9 => Or.inr (Or.inl ⟨h9.2.1, h9.2.2, b, mn, ν, τ, σ110, F, nu, hT, hZ, hF, hG, h9.1, hM⟩))) dModel_add_113
    have J83 : ∀ (ls : Array Slot), (BA (κ 1) x1 x2 x3) → lv_has ls 5 [(0, .ref a), (1, .int x1), (2, .int x2), (3, .int x3), (4, .int t0_46)] → W p l e (bs_rm 1 0 0 20) s m args below meth c s.heap [] 0 0 Q (F0 m 83 ls [.ref a]) := by
      intro ls h83 hl
      refine lv_iconst (v := 1) hx hb dModel_add_83 (by decide) ?_
      refine lv_goto (tgt := 102) hx hb dModel_add_84 (by decide) ?_
      exact J102 ls 1 (by first | exact Or.inl ⟨rfl, h83⟩ | exact Or.inr (Or.inl ⟨rfl, (ba_ok2 (by assumption) (by assumption) (by assumption) (by rw [← ev62]; assumption) h87), eq_n ev67 (by assumption) rfl (by omega) (by omega)⟩) | exact Or.inr (Or.inr ⟨rfl, (ba_ok2 (by assumption) (by assumption) (by assumption) (by rw [← ev62]; assumption) h87), by assumption, (by rw [← ev62]; assumption), ne_lt ev67 (by assumption) rfl hs0⟩)) (lv_sub hl [0, 1, 2, 3, 4] rfl)
    refine lv_if_lt (tgt := 83) hx hb dModel_add_50 (by decide) (fun c179 => ?_) (fun c179 => ?_)
    · exact J83 ls (by first | exact Or.inl (by assumption) | exact Or.inr (Or.inl (by assumption)) | exact Or.inr (Or.inr (Or.inl (by assumption))) | exact Or.inr (Or.inr (Or.inr (Or.inl (ba_m ev62 (by assumption))))) | exact Or.inr (Or.inr (Or.inr (Or.inr ⟨bt_t ht0_46 (by assumption), bt_f (P := GNm x2) (by assumption) (by assumption)⟩)))) (lv_sub hl [1, 2, 3, 4, 0] rfl)
    · refine lv_iload_n hx hb dModel_add_53 rfl (lv_at hl 2 rfl) ?_
      refine lv_bipush (v := 99) hx hb dModel_add_54 (by decide) ?_
      refine lv_icmp_gt (tgt := 83) hx hb dModel_add_56 (by decide) (fun c180 => ?_) (fun c180 => ?_)
      · exact J83 ls (by first | exact Or.inl (by assumption) | exact Or.inr (Or.inl (by assumption)) | exact Or.inr (Or.inr (Or.inl (by assumption))) | exact Or.inr (Or.inr (Or.inr (Or.inl (ba_m ev62 (by assumption))))) | exact Or.inr (Or.inr (Or.inr (Or.inr ⟨bt_t ht0_46 (by assumption), bt_f (P := GNm x2) (by assumption) (by assumption)⟩)))) (lv_sub hl [1, 2, 3, 4, 0] rfl)
      · refine lv_iload_n hx hb dModel_add_59 rfl (lv_at hl 4 rfl) ?_
        refine lv_if_lt (tgt := 83) hx hb dModel_add_60 (by decide) (fun c181 => ?_) (fun c181 => ?_)
        · exact J83 ls (by first | exact Or.inl (by assumption) | exact Or.inr (Or.inl (by assumption)) | exact Or.inr (Or.inr (Or.inl (by assumption))) | exact Or.inr (Or.inr (Or.inr (Or.inl (ba_m ev62 (by assumption))))) | exact Or.inr (Or.inr (Or.inr (Or.inr ⟨bt_t ht0_46 (by assumption), bt_f (P := GNm x2) (by assumption) (by assumption)⟩)))) (lv_sub hl [1, 2, 3, 4, 0] rfl)
        · refine lv_iload_n hx hb dModel_add_63 rfl (lv_at hl 4 rfl) ?_
          refine lv_aload_n hx hb dModel_add_64 rfl (lv_at hl 1 rfl) ?_
          refine md_gI S hC hM 8 (v := nI (κ 1)) hv8 (by decide) rfl qw_0b242dc29a dModel_add_65 ?_
          refine lv_topi (fun v182 ev182 => ?_)
          refine lv_icmp_gt (tgt := 83) hx hb dModel_add_68 (by decide) (fun c183 => ?_) (fun c183 => ?_)
          · exact J83 ls (by first | exact Or.inl (by assumption) | exact Or.inr (Or.inl (by assumption)) | exact Or.inr (Or.inr (Or.inl (by assumption))) | exact Or.inr (Or.inr (Or.inr (Or.inl (ba_m ev182 (by assumption))))) | exact Or.inr (Or.inr (Or.inr (Or.inr ⟨bt_t ht0_46 (by assumption), bt_f (P := GNm x2) (by assumption) (by assumption)⟩)))) (lv_sub hl [1, 2, 3, 4, 0] rfl)
          · refine lv_iload hx hb dModel_add_71 (lv_at hl 0 rfl) ?_
            have J87 : ∀ (ls : Array Slot), (¬ (BN x1 ∧ ¬ GNm x2)) → lv_has ls 5 [(0, .ref a), (1, .int x1), (2, .int x2), (3, .int x3), (4, .int t0_46)] → W p l e (bs_rm 1 0 0 20) s m args below meth c s.heap [] 0 0 Q (F0 m 87 ls [.ref a]) := by
              intro ls h87 hl
              refine lv_aload_n hx hb dModel_add_87 rfl (lv_at hl 0 rfl) ?_
              refine md_gI S hC hM 6 (v := nI (κ 0)) hv6 (by decide) rfl qw_f42008621b dModel_add_88 ?_
              refine lv_topi (fun v189 ev189 => ?_)
              refine lv_sipush (v := 4000) hx hb dModel_add_91 (by decide) ?_
              refine lv_icmp_ne (tgt := 101) hx hb dModel_add_94 (by decide) (fun c190 => ?_) (fun c190 => ?_)
              · refine lv_iconst (v := 0) hx hb dModel_add_101 (by decide) ?_
                exact J102 ls 0 (by first | exact Or.inl ⟨rfl, h83⟩ | exact Or.inr (Or.inl ⟨rfl, (ba_ok2 (by assumption) (by assumption) (by assumption) (by rw [← ev182]; assumption) h87), eq_n ev189 (by assumption) rfl (by omega) (by omega)⟩) | exact Or.inr (Or.inr ⟨rfl, (ba_ok2 (by assumption) (by assumption) (by assumption) (by rw [← ev182]; assumption) h87), by assumption, (by rw [← ev182]; assumption), ne_lt ev189 (by assumption) rfl hs0⟩)) (lv_sub hl [0, 1, 2, 3, 4] rfl)
              · refine lv_iconst (v := 2) hx hb dModel_add_97 (by decide) ?_
                refine lv_goto (tgt := 102) hx hb dModel_add_98 (by decide) ?_
                exact J102 ls 2 (by first | exact Or.inl ⟨rfl, h83⟩ | exact Or.inr (Or.inl ⟨rfl, (ba_ok2 (by assumption) (by assumption) (by assumption) (by rw [← ev182]; assumption) h87), eq_n ev189 (by assumption) rfl (by omega) (by omega)⟩) | exact Or.inr (Or.inr ⟨rfl, (ba_ok2 (by assumption) (by assumption) (by assumption) (by rw [← ev182]; assumption) h87), by assumption, (by rw [← ev182]; assumption), ne_lt ev189 (by assumption) rfl hs0⟩)) (lv_sub hl [0, 1, 2, 3, 4] rfl)
            refine lv_if_eq (tgt := 87) hx hb dModel_add_73 (by decide) (fun c191 => ?_) (fun c191 => ?_)
            · exact J87 ls (by first | exact (fun h9 => bt_f ht0_46 (by assumption) h9.1) | exact (fun h9 => h9.2 (bt_t (P := GNm x2) (by assumption) (by assumption)))) (lv_sub hl [1, 2, 3, 4, 0] rfl)
            · refine lv_iload_n hx hb dModel_add_76 rfl (lv_at hl 3 rfl) ?_
              refine pu_Si (rest := [.ref a]) S hC (m_goodName l γ _ x2) meModel_goodName qw_07c5ec0f25 ⟨Nat.le_of_ble_eq_true rfl, Nat.le_of_ble_eq_true rfl⟩ hM rfl hl.1 rfl (Nat.le_of_ble_eq_true rfl) dModel_add_77 ⟨Nat.zero_le _, Nat.zero_le _⟩ (fun r192 hr192 => ?_)
              refine lv_if_ne (tgt := 87) hx hb dModel_add_80 (by decide) (fun c193 => ?_) (fun c193 => ?_)
              · exact J87 ls (by first | exact (fun h9 => bt_f ht0_46 (by assumption) h9.1) | exact (fun h9 => h9.2 (bt_t (P := GNm x2) (by assumption) (by assumption)))) (lv_sub hl [1, 2, 3, 4, 0] rfl)
              · exact J83 ls (by first | exact Or.inl (by assumption) | exact Or.inr (Or.inl (by assumption)) | exact Or.inr (Or.inr (Or.inl (by assumption))) | exact Or.inr (Or.inr (Or.inr (Or.inl (ba_m ev182 (by assumption))))) | exact Or.inr (Or.inr (Or.inr (Or.inr ⟨bt_t ht0_46 (by assumption), bt_f (P := GNm x2) (by assumption) (by assumption)⟩)))) (lv_sub hl [1, 2, 3, 4, 0] rfl)
  have J41 : ∀ (ls : Array Slot), (BN x1) → lv_has ls 5 [(0, .ref a), (1, .int x1), (2, .int x2), (3, .int x3)] → W p l e (bs_rm 1 0 0 20) s m args below meth c s.heap [] 0 0 Q (F0 m 41 ls []) := by
    intro ls h41 hl
    refine lv_iconst (v := 1) hx hb dModel_add_41 (by decide) ?_
    refine lv_goto (tgt := 46) hx hb dModel_add_42 (by decide) ?_
    exact J46 ls 1 (by first | exact Or.inl ⟨rfl, h41⟩ | exact Or.inr ⟨rfl, bn_not (by assumption) (by assumption) (by assumption) (by assumption) (by assumption) (by assumption) (by assumption)⟩) (lv_sub hl [0, 1, 2, 3] rfl)
  refine lv_icmp_eq (tgt := 41) hx hb dModel_add_2 (by decide) (fun c194 => ?_) (fun c194 => ?_)
  · exact J41 ls (bn_of (by first | exact Or.inl (by assumption) | exact Or.inr (Or.inl (by assumption)) | exact Or.inr (Or.inr (Or.inl (by assumption))) | exact Or.inr (Or.inr (Or.inr (Or.inl (by assumption)))) | exact Or.inr (Or.inr (Or.inr (Or.inr (Or.inl (by assumption))))) | exact Or.inr (Or.inr (Or.inr (Or.inr (Or.inr (Or.inl (by assumption)))))) | exact Or.inr (Or.inr (Or.inr (Or.inr (Or.inr (Or.inr ((by assumption))))))))) (lv_sub hl [0, 1, 2, 3] rfl)
  · refine lv_iload_n hx hb dModel_add_5 rfl (lv_at hl 1 rfl) ?_
    refine lv_bipush (v := 10) hx hb dModel_add_6 (by decide) ?_
    refine lv_icmp_eq (tgt := 41) hx hb dModel_add_8 (by decide) (fun c195 => ?_) (fun c195 => ?_)
    · exact J41 ls (bn_of (by first | exact Or.inl (by assumption) | exact Or.inr (Or.inl (by assumption)) | exact Or.inr (Or.inr (Or.inl (by assumption))) | exact Or.inr (Or.inr (Or.inr (Or.inl (by assumption)))) | exact Or.inr (Or.inr (Or.inr (Or.inr (Or.inl (by assumption))))) | exact Or.inr (Or.inr (Or.inr (Or.inr (Or.inr (Or.inl (by assumption)))))) | exact Or.inr (Or.inr (Or.inr (Or.inr (Or.inr (Or.inr ((by assumption))))))))) (lv_sub hl [0, 1, 2, 3] rfl)
    · refine lv_iload_n hx hb dModel_add_11 rfl (lv_at hl 1 rfl) ?_
      refine lv_bipush (v := 22) hx hb dModel_add_12 (by decide) ?_
      refine lv_icmp_eq (tgt := 41) hx hb dModel_add_14 (by decide) (fun c196 => ?_) (fun c196 => ?_)
      · exact J41 ls (bn_of (by first | exact Or.inl (by assumption) | exact Or.inr (Or.inl (by assumption)) | exact Or.inr (Or.inr (Or.inl (by assumption))) | exact Or.inr (Or.inr (Or.inr (Or.inl (by assumption)))) | exact Or.inr (Or.inr (Or.inr (Or.inr (Or.inl (by assumption))))) | exact Or.inr (Or.inr (Or.inr (Or.inr (Or.inr (Or.inl (by assumption)))))) | exact Or.inr (Or.inr (Or.inr (Or.inr (Or.inr (Or.inr ((by assumption))))))))) (lv_sub hl [0, 1, 2, 3] rfl)
      · refine lv_iload_n hx hb dModel_add_17 rfl (lv_at hl 1 rfl) ?_
        refine lv_bipush (v := 23) hx hb dModel_add_18 (by decide) ?_
        refine lv_icmp_eq (tgt := 41) hx hb dModel_add_20 (by decide) (fun c197 => ?_) (fun c197 => ?_)
        · exact J41 ls (bn_of (by first | exact Or.inl (by assumption) | exact Or.inr (Or.inl (by assumption)) | exact Or.inr (Or.inr (Or.inl (by assumption))) | exact Or.inr (Or.inr (Or.inr (Or.inl (by assumption)))) | exact Or.inr (Or.inr (Or.inr (Or.inr (Or.inl (by assumption))))) | exact Or.inr (Or.inr (Or.inr (Or.inr (Or.inr (Or.inl (by assumption)))))) | exact Or.inr (Or.inr (Or.inr (Or.inr (Or.inr (Or.inr ((by assumption))))))))) (lv_sub hl [0, 1, 2, 3] rfl)
        · refine lv_iload_n hx hb dModel_add_23 rfl (lv_at hl 1 rfl) ?_
          refine lv_bipush (v := 24) hx hb dModel_add_24 (by decide) ?_
          refine lv_icmp_eq (tgt := 41) hx hb dModel_add_26 (by decide) (fun c198 => ?_) (fun c198 => ?_)
          · exact J41 ls (bn_of (by first | exact Or.inl (by assumption) | exact Or.inr (Or.inl (by assumption)) | exact Or.inr (Or.inr (Or.inl (by assumption))) | exact Or.inr (Or.inr (Or.inr (Or.inl (by assumption)))) | exact Or.inr (Or.inr (Or.inr (Or.inr (Or.inl (by assumption))))) | exact Or.inr (Or.inr (Or.inr (Or.inr (Or.inr (Or.inl (by assumption)))))) | exact Or.inr (Or.inr (Or.inr (Or.inr (Or.inr (Or.inr ((by assumption))))))))) (lv_sub hl [0, 1, 2, 3] rfl)
          · refine lv_iload_n hx hb dModel_add_29 rfl (lv_at hl 1 rfl) ?_
            refine lv_bipush (v := 25) hx hb dModel_add_30 (by decide) ?_
            refine lv_icmp_eq (tgt := 41) hx hb dModel_add_32 (by decide) (fun c199 => ?_) (fun c199 => ?_)
            · exact J41 ls (bn_of (by first | exact Or.inl (by assumption) | exact Or.inr (Or.inl (by assumption)) | exact Or.inr (Or.inr (Or.inl (by assumption))) | exact Or.inr (Or.inr (Or.inr (Or.inl (by assumption)))) | exact Or.inr (Or.inr (Or.inr (Or.inr (Or.inl (by assumption))))) | exact Or.inr (Or.inr (Or.inr (Or.inr (Or.inr (Or.inl (by assumption)))))) | exact Or.inr (Or.inr (Or.inr (Or.inr (Or.inr (Or.inr ((by assumption))))))))) (lv_sub hl [0, 1, 2, 3] rfl)
            · refine lv_iload_n hx hb dModel_add_35 rfl (lv_at hl 1 rfl) ?_
              refine lv_bipush (v := 53) hx hb dModel_add_36 (by decide) ?_
              refine lv_icmp_ne (tgt := 45) hx hb dModel_add_38 (by decide) (fun c200 => ?_) (fun c200 => ?_)
              · refine lv_iconst (v := 0) hx hb dModel_add_45 (by decide) ?_
                exact J46 ls 0 (by first | exact Or.inl ⟨rfl, h41⟩ | exact Or.inr ⟨rfl, bn_not (by assumption) (by assumption) (by assumption) (by assumption) (by assumption) (by assumption) (by assumption)⟩) (lv_sub hl [0, 1, 2, 3] rfl)
              · exact J41 ls (bn_of (by first | exact Or.inl (by assumption) | exact Or.inr (Or.inl (by assumption)) | exact Or.inr (Or.inr (Or.inl (by assumption))) | exact Or.inr (Or.inr (Or.inr (Or.inl (by assumption)))) | exact Or.inr (Or.inr (Or.inr (Or.inr (Or.inl (by assumption))))) | exact Or.inr (Or.inr (Or.inr (Or.inr (Or.inr (Or.inl (by assumption)))))) | exact Or.inr (Or.inr (Or.inr (Or.inr (Or.inr (Or.inr ((by assumption))))))))) (lv_sub hl [0, 1, 2, 3] rfl)
set_option maxHeartbeats 4000000 in
set_option maxRecDepth 100000 in
theorem m_enter (l : Launch) (γ : gE) (a : Nat) (B : Nat → Nat) (Z : Nat → Prop) (κ b mn : Nat → Nat) (ν : Nat → Int32) (τ : Nat → Nat → Int32) (σ : Nat → Int32) (F : Nat → Nat → Int32) (nu : Nat → Int64) (hT : ST κ b mn ν τ)  (hZ : SZ F) (hF : FD σ) (hG : GD F nu) : MU l yModel_enter bModel_enter 1 (some .int) 0 0 0 0 [.ref a] γ Z (MD γ a B Z ν τ σ F nu) (mQi (fun r H => (κ 5 = 32 ∧ MI γ a B Z κ 1 H) ∨ (κ 5 < 32 ∧ r = nI (κ 5 + 1) ∧ MI γ a B Z (ku κ 5 (κ 5 + 1)) 0 H)) Z) := by
  refine mu_openI (by decide) (Nat.le_of_ble_eq_true rfl) ?_
  intro p e s m args below meth c ls Q S hnm hC hA hM hE hl
  have hS : va_S Z s.heap s.heap [] := va_S.rf
  obtain ⟨hx, hb, hml, hown, hW⟩ := id S
  obtain ⟨⟨hs0, hs1, hs2, hs3, hs4, hs5, hs6⟩, ⟨hv6, hv8, hv21, hv24, hv30, hv31⟩, hTR, hTY, hOB, hNM⟩ := id hT
  have hl : lv_has ls 1 [(0, .ref a)] := hl
  refine lv_aload_n hx hb dModel_enter_0 rfl (lv_at hl 0 rfl) ?_
  refine lv_aload_n hx hb dModel_enter_1 rfl (lv_at hl 0 rfl) ?_
  refine md_gI S hC hM 31 (v := nI (κ 5)) hv31 (by decide) rfl qw_e3979b88d4 dModel_enter_2 ?_
  refine lv_topi (fun v1 ev1 => ?_)
  refine lv_bipush (v := 32) hx hb dModel_enter_5 (by decide) ?_
  have J15 : ∀ (ls : Array Slot) (t0_15 : Int32), ((t0_15 = 1 ∧ κ 5 = 32) ∨ (t0_15 = 0 ∧ κ 5 < 32)) → lv_has ls 1 [(0, .ref a)] → W p l e (bs_rm 0 0 0 0) s m args below meth c s.heap [] 0 0 Q (F0 m 15 ls [.int t0_15, .ref a]) := by
    intro ls t0_15 ht0_15 hl
    refine md_pD S hC hM hS 0 rfl (by decide) rfl qw_53e275eed6 rfl (by decide +kernel) dModel_enter_15 (fun H locs hM hS => ?_)
    obtain ⟨σ16, eσ16⟩ : ∃ z : Nat → Int32, z = upd σ 0 t0_15 := ⟨_, rfl⟩
    rw [← eσ16] at hM
    have hF : FD σ16 := hF.up eσ16 (by decide) (by decide)
    refine lv_aload_n hx hb dModel_enter_18 rfl (lv_at hl 0 rfl) ?_
    refine md_gI S hC hM 0 (v := σ16 0) rfl (by decide) rfl qw_53e275eed6 dModel_enter_19 ?_
    refine lv_topi (fun v17 ev17 => ?_)
    refine lv_if_ne (tgt := 35) hx hb dModel_enter_22 (by decide) (fun c18 => ?_) (fun c18 => ?_)
    · refine lv_aload_n hx hb dModel_enter_35 rfl (lv_at hl 0 rfl) ?_
      refine md_gI S hC hM 0 (v := σ16 0) rfl (by decide) rfl qw_53e275eed6 dModel_enter_36 ?_
      refine lv_topi (fun v19 ev19 => ?_)
      refine lv_if_le (tgt := 46) hx hb dModel_enter_39 (by decide) (fun c20 => ?_) (fun c20 => ?_)
      · refine lv_aload_n hx hb dModel_enter_46 rfl (lv_at hl 0 rfl) ?_
        refine md_gI S hC hM 31 (v := nI (κ 5)) hv31 (by decide) rfl qw_e3979b88d4 dModel_enter_47 ?_
        refine lv_topi (fun v21 ev21 => ?_)
        exact hE _ _ _ _ _ hS (absurd (((lv_cd ht0_15 eσ16 ev17).2.2.1 (by assumption)).1.symm.trans ((lv_cd ht0_15 eσ16 ev19).1 (by assumption)).1) (by decide)) dModel_enter_50
      · refine lv_iconst (v := 0) hx hb dModel_enter_42 (by decide) ?_
        refine lv_goto (tgt := 50) hx hb dModel_enter_43 (by decide) ?_
        exact hE _ _ _ _ _ hS (Or.inl ⟨((lv_cd ht0_15 eσ16 ev17).2.2.1 (by assumption)).2, b, mn, ν, τ, σ16, F, nu, hT, hZ, hF, hG, ((lv_cd ht0_15 eσ16 ev17).2.2.1 (by assumption)).1, hM⟩) dModel_enter_50
    · refine lv_aload_n hx hb dModel_enter_25 rfl (lv_at hl 0 rfl) ?_
      refine lv_dup hx hb dModel_enter_26 rfl ?_
      refine md_gI S hC hM 31 (v := nI (κ 5)) hv31 (by decide) rfl qw_e3979b88d4 dModel_enter_27 ?_
      refine lv_topi (fun v22 ev22 => ?_)
      refine lv_iconst (v := 1) hx hb dModel_enter_30 (by decide) ?_
      refine lv_iadd hx hb dModel_enter_31 ?_
      refine lv_topi (fun v23 ev23 => ?_)
      refine md_pS S hC hM hS 31 rfl (by decide) rfl qw_e3979b88d4 rfl (by decide +kernel) dModel_enter_32 (fun H locs hM hS => ?_)
      obtain ⟨ν25, eν25⟩ : ∃ z : Nat → Int32, z = upd ν 31 v23 := ⟨_, rfl⟩
      rw [← eν25] at hM
      refine lv_aload_n hx hb dModel_enter_35 rfl (lv_at hl 0 rfl) ?_
      refine md_gI S hC hM 0 (v := σ16 0) rfl (by decide) rfl qw_53e275eed6 dModel_enter_36 ?_
      refine lv_topi (fun v26 ev26 => ?_)
      refine lv_if_le (tgt := 46) hx hb dModel_enter_39 (by decide) (fun c27 => ?_) (fun c27 => ?_)
      · refine lv_aload_n hx hb dModel_enter_46 rfl (lv_at hl 0 rfl) ?_
        refine md_gI S hC hM 31 (v := ν25 31) rfl (by decide) rfl qw_e3979b88d4 dModel_enter_47 ?_
        refine lv_topi (fun v28 ev28 => ?_)
        exact hE _ _ _ _ _ hS (Or.inr ⟨((lv_cd ht0_15 eσ16 ev17).2.2.2 (by assumption)).2, (by rw [ev28, eν25, pk_us]; exact inc_n ev22 ev23), b, mn, ν25, τ, σ16, F, nu, st_5 hT (by omega) (by have := ((lv_cd ht0_15 eσ16 ev17).2.2.2 (by assumption)).2; omega) eν25 (inc_n ev22 ev23), hZ, hF, hG, ((lv_cd ht0_15 eσ16 ev17).2.2.2 (by assumption)).1, hM⟩) dModel_enter_50
      · refine lv_iconst (v := 0) hx hb dModel_enter_42 (by decide) ?_
        refine lv_goto (tgt := 50) hx hb dModel_enter_43 (by decide) ?_
        exact hE _ _ _ _ _ hS (absurd (((lv_cd ht0_15 eσ16 ev17).2.2.2 (by assumption)).1.symm.trans ((lv_cd ht0_15 eσ16 ev26).2.1 (by assumption)).1) (by decide)) dModel_enter_50
  refine lv_icmp_ne (tgt := 14) hx hb dModel_enter_7 (by decide) (fun c29 => ?_) (fun c29 => ?_)
  · refine lv_iconst (v := 0) hx hb dModel_enter_14 (by decide) ?_
    exact J15 ls 0 (by first | exact Or.inl ⟨rfl, eq_n ev1 (by assumption) rfl (by omega) (by omega)⟩ | exact Or.inr ⟨rfl, ne_lt ev1 (by assumption) rfl hs6⟩) (lv_sub hl [0] rfl)
  · refine lv_iconst (v := 1) hx hb dModel_enter_10 (by decide) ?_
    refine lv_goto (tgt := 15) hx hb dModel_enter_11 (by decide) ?_
    exact J15 ls 1 (by first | exact Or.inl ⟨rfl, eq_n ev1 (by assumption) rfl (by omega) (by omega)⟩ | exact Or.inr ⟨rfl, ne_lt ev1 (by assumption) rfl hs6⟩) (lv_sub hl [0] rfl)
set_option maxHeartbeats 4000000 in
set_option maxRecDepth 100000 in
theorem m_leave (l : Launch) (γ : gE) (a : Nat) (B : Nat → Nat) (Z : Nat → Prop) (κ b mn : Nat → Nat) (ν : Nat → Int32) (τ : Nat → Nat → Int32) (σ : Nat → Int32) (F : Nat → Nat → Int32) (nu : Nat → Int64) (hT : ST κ b mn ν τ)  (hZ : SZ F) (hF : FD σ) (hG : GD F nu) : MU l yModel_leave bModel_leave 1 (some .int) 0 0 0 0 [.ref a] γ Z (MD γ a B Z ν τ σ F nu) (mQi (fun r H => (κ 5 = 1 ∧ MI γ a B Z κ 1 H) ∨ (1 < κ 5 ∧ r = nI (κ 5 - 1) ∧ ∃ κ', (κ' 5 = κ 5 - 1 ∧ κ' 0 = κ 0 ∧ κ' 1 = κ 1) ∧ MI γ a B Z κ' 0 H)) Z) := by
  refine mu_openI (by decide) (Nat.le_of_ble_eq_true rfl) ?_
  intro p e s m args below meth c ls Q S hnm hC hA hM hE hl
  have hS : va_S Z s.heap s.heap [] := va_S.rf
  obtain ⟨hx, hb, hml, hown, hW⟩ := id S
  obtain ⟨⟨hs0, hs1, hs2, hs3, hs4, hs5, hs6⟩, ⟨hv6, hv8, hv21, hv24, hv30, hv31⟩, hTR, hTY, hOB, hNM⟩ := id hT
  have hl : lv_has ls 1 [(0, .ref a)] := hl
  refine lv_aload_n hx hb dModel_leave_0 rfl (lv_at hl 0 rfl) ?_
  refine lv_aload_n hx hb dModel_leave_1 rfl (lv_at hl 0 rfl) ?_
  refine md_gI S hC hM 31 (v := nI (κ 5)) hv31 (by decide) rfl qw_e3979b88d4 dModel_leave_2 ?_
  refine lv_topi (fun v1 ev1 => ?_)
  refine lv_iconst (v := 1) hx hb dModel_leave_5 (by decide) ?_
  have J14 : ∀ (ls : Array Slot) (t0_14 : Int32), ((t0_14 = 1 ∧ κ 5 = 1) ∨ (t0_14 = 0 ∧ 1 < κ 5)) → lv_has ls 1 [(0, .ref a)] → W p l e (bs_rm 0 0 0 0) s m args below meth c s.heap [] 0 0 Q (F0 m 14 ls [.int t0_14, .ref a]) := by
    intro ls t0_14 ht0_14 hl
    refine md_pD S hC hM hS 0 rfl (by decide) rfl qw_53e275eed6 rfl (by decide +kernel) dModel_leave_14 (fun H locs hM hS => ?_)
    obtain ⟨σ25, eσ25⟩ : ∃ z : Nat → Int32, z = upd σ 0 t0_14 := ⟨_, rfl⟩
    rw [← eσ25] at hM
    have hF : FD σ25 := hF.up eσ25 (by decide) (by decide)
    refine lv_aload_n hx hb dModel_leave_17 rfl (lv_at hl 0 rfl) ?_
    refine md_gI S hC hM 0 (v := σ25 0) rfl (by decide) rfl qw_53e275eed6 dModel_leave_18 ?_
    refine lv_topi (fun v26 ev26 => ?_)
    refine lv_if_le (tgt := 26) hx hb dModel_leave_21 (by decide) (fun c27 => ?_) (fun c27 => ?_)
    · have h26 := (lv_cd ht0_14 eσ25 ev26).1 (by assumption)
      refine lv_aload_n hx hb dModel_leave_26 rfl (lv_at hl 0 rfl) ?_
      refine lv_dup hx hb dModel_leave_27 rfl ?_
      refine md_gI S hC hM 31 (v := nI (κ 5)) hv31 (by decide) rfl qw_e3979b88d4 dModel_leave_28 ?_
      refine lv_topi (fun v28 ev28 => ?_)
      refine lv_iconst (v := 1) hx hb dModel_leave_31 (by decide) ?_
      refine lv_isub hx hb dModel_leave_32 ?_
      refine lv_topi (fun v29 ev29 => ?_)
      have h26b := h26.2
      refine md_pS S hC hM hS 31 rfl (by decide) rfl qw_e3979b88d4 rfl (by decide +kernel) dModel_leave_33 (fun H locs hM hS => ?_)
      obtain ⟨ν31, eν31⟩ : ∃ z : Nat → Int32, z = upd ν 31 v29 := ⟨_, rfl⟩
      rw [← eν31] at hM
      obtain ⟨κ_p32, hκ_p32⟩ : ∃ z : Nat → Nat, z = ku κ 5 (κ 5 - 1) := ⟨_, rfl⟩
      have hT_p32 : ST κ_p32 b mn ν31 τ := (by rw [hκ_p32]; exact st_5 hT (by omega) (by omega) eν31 (dec_n ev28 ev29 (by omega)))
      obtain ⟨⟨hs0_p32, hs1_p32, hs2_p32, hs3_p32, hs4_p32, hs5_p32, hs6_p32⟩, ⟨hv6_p32, hv8_p32, hv21_p32, hv24_p32, hv30_p32, hv31_p32⟩, hTR_p32, hTY_p32, hOB_p32, hNM_p32⟩ := id hT_p32
      have J36 : ∀ (N36 : Nat) (ls : Array Slot) (H : Heap) (locs : List Loc) (κ_36 : Nat → Nat) (b_36 : Nat → Nat) (mn_36 : Nat → Nat) (ν_36 : Nat → Int32) (τ_36 : Nat → Nat → Int32), MD γ a B Z ν_36 τ_36 σ25 F nu H → va_S Z s.heap H locs → ST κ_36 b_36 mn_36 ν_36 τ_36 → (κ_36 5 = κ 5 - 1 ∧ κ_36 0 = κ 0 ∧ κ_36 1 = κ 1) → κ_36 4 = N36 → lv_has ls 1 [(0, .ref a)] → W p l e (bs_rm 0 0 0 0) s m args below meth c H locs 0 0 Q (F0 m 36 ls []) := by
        intro N36
        induction N36 using Nat.strongRecOn with
        | ind N36 ih36 =>
          intro ls H locs κ_36 b_36 mn_36 ν_36 τ_36 hM hS hT_36 hk5 hm36 hl
          obtain ⟨⟨hs0_36, hs1_36, hs2_36, hs3_36, hs4_36, hs5_36, hs6_36⟩, ⟨hv6_36, hv8_36, hv21_36, hv24_36, hv30_36, hv31_36⟩, hTR_36, hTY_36, hOB_36, hNM_36⟩ := id hT_36
          refine lv_aload_n hx hb dModel_leave_36 rfl (lv_at hl 0 rfl) ?_
          refine md_gI S hC hM 30 (v := nI (κ_36 4)) hv30_36 (by decide) rfl qw_8d5d48b583 dModel_leave_37 ?_
          refine lv_topi (fun v33 ev33 => ?_)
          refine lv_if_le (tgt := 74) hx hb dModel_leave_40 (by decide) (fun c34 => ?_) (fun c34 => ?_)
          · refine lv_aload_n hx hb dModel_leave_74 rfl (lv_at hl 0 rfl) ?_
            refine md_gI S hC hM 31 (v := nI (κ_36 5)) hv31_36 (by decide) rfl qw_e3979b88d4 dModel_leave_75 ?_
            refine lv_topi (fun v35 ev35 => ?_)
            exact hE _ _ _ _ _ hS (Or.inr ⟨h26.2, (by rw [ev35, hk5.1]), κ_36, hk5, b_36, mn_36, ν_36, τ_36, σ25, F, nu, hT_36, hZ, hF, hG, h26.1, hM⟩) dModel_leave_78
          · have hpos : 1 ≤ κ_36 4 := n_one2 ev33 (by assumption)
            refine lv_aload_n hx hb dModel_leave_43 rfl (lv_at hl 0 rfl) ?_
            refine md_gA S hC hM 29 (by decide) rfl qw_6551c8877a dModel_leave_44 ?_
            refine lv_aload_n hx hb dModel_leave_47 rfl (lv_at hl 0 rfl) ?_
            refine md_gI S hC hM 30 (v := nI (κ_36 4)) hv30_36 (by decide) rfl qw_8d5d48b583 dModel_leave_48 ?_
            refine lv_topi (fun v36 ev36 => ?_)
            refine lv_iconst (v := 1) hx hb dModel_leave_51 (by decide) ?_
            refine lv_isub hx hb dModel_leave_52 ?_
            refine lv_topi (fun v37 ev37 => ?_)
            have hw1 : v37 = nI (κ_36 4 - 1) := dec_n ev36 ev37 hpos
            refine md_ild S hC hM 29 23 3000 (τ_36 29) rfl rfl (by decide) rfl rfl (vin_of hw1 (by omega) (by omega)) dModel_leave_53 ?_
            refine lv_topi (fun v38 ev38 => ?_)
            refine lv_aload_n hx hb dModel_leave_54 rfl (lv_at hl 0 rfl) ?_
            refine md_gI S hC hM 31 (v := nI (κ_36 5)) hv31_36 (by decide) rfl qw_e3979b88d4 dModel_leave_55 ?_
            refine lv_topi (fun v39 ev39 => ?_)
            refine lv_icmp_le (tgt := 74) hx hb dModel_leave_58 (by decide) (fun c40 => ?_) (fun c40 => ?_)
            · refine lv_aload_n hx hb dModel_leave_74 rfl (lv_at hl 0 rfl) ?_
              refine md_gI S hC hM 31 (v := nI (κ_36 5)) hv31_36 (by decide) rfl qw_e3979b88d4 dModel_leave_75 ?_
              refine lv_topi (fun v41 ev41 => ?_)
              exact hE _ _ _ _ _ hS (Or.inr ⟨h26.2, (by rw [ev41, hk5.1]), κ_36, hk5, b_36, mn_36, ν_36, τ_36, σ25, F, nu, hT_36, hZ, hF, hG, h26.1, hM⟩) dModel_leave_78
            · refine lv_aload_n hx hb dModel_leave_61 rfl (lv_at hl 0 rfl) ?_
              refine lv_dup hx hb dModel_leave_62 rfl ?_
              refine md_gI S hC hM 30 (v := nI (κ_36 4)) hv30_36 (by decide) rfl qw_8d5d48b583 dModel_leave_63 ?_
              refine lv_topi (fun v42 ev42 => ?_)
              refine lv_iconst (v := 1) hx hb dModel_leave_66 (by decide) ?_
              refine lv_isub hx hb dModel_leave_67 ?_
              refine lv_topi (fun v43 ev43 => ?_)
              refine md_pS S hC hM hS 30 rfl (by decide) rfl qw_8d5d48b583 rfl (by decide +kernel) dModel_leave_68 (fun H locs hM hS => ?_)
              obtain ⟨ν45, eν45⟩ : ∃ z : Nat → Int32, z = upd ν_36 30 v43 := ⟨_, rfl⟩
              rw [← eν45] at hM
              obtain ⟨κ_p46, hκ_p46⟩ : ∃ z : Nat → Nat, z = ku κ_36 4 (κ_36 4 - 1) := ⟨_, rfl⟩
              have hT_p46 : ST κ_p46 b_36 mn_36 ν45 τ_36 := (by rw [hκ_p46]; exact st_4 hT_36 (by omega) eν45 (dec_n ev42 ev43 (by omega)))
              obtain ⟨⟨hs0_p46, hs1_p46, hs2_p46, hs3_p46, hs4_p46, hs5_p46, hs6_p46⟩, ⟨hv6_p46, hv8_p46, hv21_p46, hv24_p46, hv30_p46, hv31_p46⟩, hTR_p46, hTY_p46, hOB_p46, hNM_p46⟩ := id hT_p46
              refine lv_goto (tgt := 36) hx hb dModel_leave_71 (by decide) ?_
              exact ih36 _ (by rw [hκ_p46]; show κ_36 4 - 1 < _; omega) ls _ _ κ_p46 b_36 mn_36 ν45 τ_36 hM hS hT_p46 (by rw [hκ_p46]; exact hk5) rfl (lv_sub hl [0] rfl)
      exact J36 _ ls _ _ κ_p32 b mn ν31 τ hM hS hT_p32 (by rw [hκ_p32]; exact ⟨rfl, rfl, rfl⟩) rfl (lv_sub hl [0] rfl)
    · refine lv_iconst (v := 0) hx hb dModel_leave_24 (by decide) ?_
      exact hE _ _ _ _ _ hS (Or.inl ⟨((lv_cd ht0_14 eσ25 ev26).2.1 (by assumption)).2, b, mn, ν, τ, σ25, F, nu, hT, hZ, hF, hG, ((lv_cd ht0_14 eσ25 ev26).2.1 (by assumption)).1, hM⟩) dModel_leave_25
  refine lv_icmp_ne (tgt := 13) hx hb dModel_leave_6 (by decide) (fun c47 => ?_) (fun c47 => ?_)
  · refine lv_iconst (v := 0) hx hb dModel_leave_13 (by decide) ?_
    exact J14 ls 0 (by first | exact Or.inl ⟨rfl, eq_n ev1 (by assumption) rfl (by omega) (by omega)⟩ | exact Or.inr ⟨rfl, gt1 ev1 (by assumption) hs5⟩) (lv_sub hl [0] rfl)
  · refine lv_iconst (v := 1) hx hb dModel_leave_9 (by decide) ?_
    refine lv_goto (tgt := 14) hx hb dModel_leave_10 (by decide) ?_
    exact J14 ls 1 (by first | exact Or.inl ⟨rfl, eq_n ev1 (by assumption) rfl (by omega) (by omega)⟩ | exact Or.inr ⟨rfl, gt1 ev1 (by assumption) hs5⟩) (lv_sub hl [0] rfl)
