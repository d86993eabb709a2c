theorem qw_6af1a66e4e : (Cond.methodLink R_Model 143 yModel_lookName) ∈ bs_W0 := bs_in (in_tables_1_6 (List.mem_of_getElem? (i := 59) rfl)) rfl
theorem qw_1225f40cc2 : (Cond.methodLink R_Model 151 yModel_lookRow) ∈ bs_W0 := bs_in (in_tables_1_6 (List.mem_of_getElem? (i := 87) rfl)) rfl
theorem qw_90669a19fa : (Cond.methodLink R_Model 157 yModel_lookUnary) ∈ bs_W0 := bs_in (in_tables_1_6 (List.mem_of_getElem? (i := 95) rfl)) rfl
theorem qw_3d76e3b1f6 : (Cond.methodLink R_Model 160 yModel_lookBinary) ∈ bs_W0 := bs_in (in_tables_1_6 (List.mem_of_getElem? (i := 112) rfl)) rfl
theorem qw_a9a4545182 : (Cond.methodLink R_Model 164 yModel_lookApply) ∈ bs_W0 := bs_in (in_tables_1_6 (List.mem_of_getElem? (i := 168) rfl)) rfl
theorem qw_66651c47c8 : (Cond.methodLink R_Model 167 yModel_lookSlice) ∈ bs_W0 := bs_in (in_tables_1_6 (List.mem_of_getElem? (i := 187) rfl)) rfl
theorem qw_1fe4047f8f : (Cond.methodLink R_Model 170 yModel_lookAttribute) ∈ bs_W0 := bs_in (in_tables_1_6 (List.mem_of_getElem? (i := 191) rfl)) rfl
set_option maxHeartbeats 4000000 in
set_option maxRecDepth 100000 in
theorem m_look (l : Launch) (γ : gE) (a : Nat) (B : Nat → Nat) (Z : Nat → Prop) (κ b mn : Nat → Nat) (ν : Nat → Int32) (τ : Nat → Nat → Int32) (σ : Nat → Int32) (F : Nat → Nat → Int32) (nu : Nat → Int64) (hT : ST κ b mn ν τ) (x1 : Int32) (hx1 : vp_in x1 (κ 0)) (hZ : SZ F) (hF : FD σ) (hG : GD F nu) (hgc : ¬ τ 2 x1.toNatClampNeg = 25 → ∀ i, i < mn x1.toNatClampNeg → GK (tX b x1.toNatClampNeg i - 1) F nu) : MU l yModel_look bModel_look 3 (some .int) 5 131 0 0 [.ref a, .int x1] γ Z (MD γ a B Z ν τ σ F nu) (mQi (fun r H => LKo γ a B Z ν τ x1.toNatClampNeg F nu r H) Z) := by
  refine mu_openI (by decide) (Nat.le_of_ble_eq_true rfl) ?_
  intro p e s m args below meth c ls Q S hnm hC hA hM hE hl
  have hS : va_S Z s.heap s.heap [] := va_S.rf
  obtain ⟨hx, hb, hml, hown, hW⟩ := id S
  obtain ⟨⟨hs0, hs1, hs2, hs3, hs4, hs5, hs6⟩, ⟨hv6, hv8, hv21, hv24, hv30, hv31⟩, hTR, hTY, hOB, hNM⟩ := id hT
  have hL : SL x1.toNatClampNeg F nu F nu := SL.rf
  have hl : lv_has ls 3 [(0, .ref a), (1, .int x1)] := hl
  refine lv_aload_n hx hb dModel_look_0 rfl (lv_at hl 0 rfl) ?_
  refine md_gA S hC hM 4 (by decide) rfl qw_a8caa30de3 dModel_look_1 ?_
  refine lv_iload_n hx hb dModel_look_4 rfl (lv_at hl 1 rfl) ?_
  refine md_ild S hC hM 4 2 4000 (τ 4) rfl rfl (by decide) rfl rfl (vin (by assumption) (by omega)) dModel_look_5 ?_
  refine lv_topi (fun v1 ev1 => ?_)
  refine lv_istore_n (lv' := [(2, .int v1), (0, .ref a), (1, .int x1)]) hx hb dModel_look_6 rfl hl (by decide) rfl (fun ls hl => ?_)
  obtain ⟨hmn, hmx⟩ := mn_of hTR hx1 ev1
  refine lv_aload_n hx hb dModel_look_7 rfl (lv_at hl 1 rfl) ?_
  refine md_gA S hC hM 2 (by decide) rfl qw_3471296067 dModel_look_8 ?_
  refine lv_iload_n hx hb dModel_look_11 rfl (lv_at hl 2 rfl) ?_
  refine md_ild S hC hM 2 0 4000 (τ 2) rfl rfl (by decide) rfl rfl (vin (by assumption) (by omega)) dModel_look_12 ?_
  refine lv_topi (fun v2 ev2 => ?_)
  by_cases k3 : v2 = 1
  · rw [k3]
    refine lv_tableIn (tgt := 128) hx hb dModel_look_13 (by decide) (by decide) rfl (by decide) ?_
    refine lv_iload_n hx hb dModel_look_128 rfl (lv_at hl 0 rfl) ?_
    refine lv_if_le (tgt := 137) hx hb dModel_look_129 (by decide) (fun c28 => ?_) (fun c28 => ?_)
    · refine lv_aload_n hx hb dModel_look_137 rfl (lv_at hl 1 rfl) ?_
      refine lv_iload_n hx hb dModel_look_138 rfl (lv_at hl 2 rfl) ?_
      refine mu_Vi (rest := []) S hC (fun q h => hA q (Nat.le_trans hS.1 h)) (fun q h => h) hS (m_lookName l γ a B Z κ b mn ν τ σ F nu hT x1 (vin (by assumption) (by omega)) hZ hF hG) meModel_lookName qw_6af1a66e4e ⟨Nat.le_of_ble_eq_true rfl, Nat.le_of_ble_eq_true rfl⟩ (md_rv hC hM) hM rfl hl.1 rfl (Nat.le_of_ble_eq_true rfl) dModel_look_139 ⟨Nat.le_refl _, Nat.le_refl _⟩ (fun r29 H locs hPO hS _ _ => ?_)
      obtain ⟨σr29, Fr29, nur29, hM, hZ, hF, hLr29, hRr29⟩ := hPO
      have hL : SL x1.toNatClampNeg F nu Fr29 nur29 := hL.trans hLr29
      exact hE _ _ _ _ _ hS ⟨σr29, Fr29, nur29, hM, hZ, hF, hL, hRr29⟩ dModel_look_142
    · refine lv_bipush (v := 11) hx hb dModel_look_132 (by decide) ?_
      refine lv_goto (tgt := 142) hx hb dModel_look_134 (by decide) ?_
      exact hE _ _ _ _ _ hS ⟨σ, F, nu, hM, hZ, hF, hL, (fun h9 => absurd (show (0 : Int32) < 11 by decide) h9)⟩ dModel_look_142
  by_cases k4 : v2 = 2
  · rw [k4]
    refine lv_tableIn (tgt := 143) hx hb dModel_look_13 (by decide) (by decide) rfl (by decide) ?_
    refine lv_aload_n hx hb dModel_look_143 rfl (lv_at hl 1 rfl) ?_
    refine lv_iload_n hx hb dModel_look_144 rfl (lv_at hl 2 rfl) ?_
    refine lv_iconst (v := 2) hx hb dModel_look_145 (by decide) ?_
    refine lv_iconst (v := 0) hx hb dModel_look_146 (by decide) ?_
    refine lv_iconst (v := 1) hx hb dModel_look_147 (by decide) ?_
    have hnr30 : ∃ j, j ≤ 1000 ∧ 0 = nI j := ⟨0, by omega, rfl⟩
    refine mu_Vv (rest := []) S hC (fun q h => hA q (Nat.le_trans hS.1 h)) (fun q h => h) hS (m_fact l γ a B Z κ b mn ν τ σ F nu hT x1 2 0 1 (vin (by assumption) (by omega)) hnr30) meModel_fact qw_02871250ec ⟨Nat.le_of_ble_eq_true rfl, Nat.le_of_ble_eq_true rfl⟩ (md_rv hC hM) hM rfl hl.1 rfl (Nat.le_of_ble_eq_true rfl) dModel_look_148 ⟨Nat.le_refl _, Nat.le_refl _⟩ (fun H locs hPO hS _ _ => ?_)
    obtain ⟨Fr30, nur30, hM, hqr30, hcr30⟩ := hPO
    have hZ : SZ Fr30 := hZ.slt hqr30 hnr30
    have hL : SL x1.toNatClampNeg F nu Fr30 nur30 := hL.trans (SL.slt hqr30)
    have hK : GK x1.toNatClampNeg Fr30 nur30 := GK.zero hqr30
    refine lv_aload_n hx hb dModel_look_151 rfl (lv_at hl 1 rfl) ?_
    refine md_gA S hC hM 13 (by decide) rfl qw_7b809afc8c dModel_look_152 ?_
    refine lv_iload_n hx hb dModel_look_155 rfl (lv_at hl 2 rfl) ?_
    refine lv_aload_n hx hb dModel_look_156 rfl (lv_at hl 1 rfl) ?_
    refine md_gA S hC hM 3 (by decide) rfl qw_9fb851a5fa dModel_look_157 ?_
    refine lv_iload_n hx hb dModel_look_160 rfl (lv_at hl 2 rfl) ?_
    refine md_ild S hC hM 3 1 4000 (τ 3) rfl rfl (by decide) rfl rfl (vin (by assumption) (by omega)) dModel_look_161 ?_
    refine lv_topi (fun v31 ev31 => ?_)
    refine lv_i2l hx hb dModel_look_162 rfl ?_
    refine lv_topl (fun v32 ev32 => ?_)
    refine md_lst S hC hM hS (vin (by assumption) (by omega)) dModel_look_163 (fun H locs hM hS => ?_)
    obtain ⟨nu33, enu33⟩ : ∃ z : Nat → Int64, z = vp_updL nur30 x1.toNatClampNeg v32 := ⟨_, rfl⟩
    rw [← enu33] at hM
    have hL : SL x1.toNatClampNeg F nu Fr30 nu33 := hL.trans (by rw [enu33]; exact SL.num)
    refine lv_iload_n hx hb dModel_look_164 rfl (lv_at hl 0 rfl) ?_
    have J177 : ∀ (ls : Array Slot), lv_has ls 3 [(0, .ref a), (1, .int x1), (2, .int v1)] → W p l e (bs_rm 5 0 0 131) s m args below meth c H locs 0 0 Q (F0 m 177 ls []) := by
      intro ls hl
      refine lv_bipush (v := 11) hx hb dModel_look_177 (by decide) ?_
      refine lv_goto (tgt := 183) hx hb dModel_look_179 (by decide) ?_
      exact hE _ _ _ _ _ hS ⟨σ, Fr30, nu33, hM, hZ, hF, hL, (fun h9 => absurd (show (0 : Int32) < 11 by decide) h9)⟩ dModel_look_183
    refine lv_if_gt (tgt := 177) hx hb dModel_look_165 (by decide) (fun c37 => ?_) (fun c37 => ?_)
    · exact J177 ls  (lv_sub hl [1, 2, 0] rfl)
    · refine lv_aload_n hx hb dModel_look_168 rfl (lv_at hl 1 rfl) ?_
      refine md_gA S hC hM 3 (by decide) rfl qw_9fb851a5fa dModel_look_169 ?_
      refine lv_iload_n hx hb dModel_look_172 rfl (lv_at hl 2 rfl) ?_
      refine md_ild S hC hM 3 1 4000 (τ 3) rfl rfl (by decide) rfl rfl (vin (by assumption) (by omega)) dModel_look_173 ?_
      refine lv_topi (fun v38 ev38 => ?_)
      refine lv_if_ge (tgt := 182) hx hb dModel_look_174 (by decide) (fun c39 => ?_) (fun c39 => ?_)
      · refine lv_iconst (v := 0) hx hb dModel_look_182 (by decide) ?_
        exact hE _ _ _ _ _ hS ⟨σ, Fr30, nu33, hM, hZ, hF, hL, (fun _ => by rw [enu33]; exact GK.num (fun _ => vb_ok ev32 ev31 ev38 (by assumption)))⟩ dModel_look_183
      · exact J177 ls  (lv_sub hl [1, 2, 0] rfl)
  by_cases k5 : v2 = 3
  · rw [k5]
    refine lv_tableIn (tgt := 184) hx hb dModel_look_13 (by decide) (by decide) rfl (by decide) ?_
    refine lv_aload_n hx hb dModel_look_184 rfl (lv_at hl 1 rfl) ?_
    refine lv_iload_n hx hb dModel_look_185 rfl (lv_at hl 2 rfl) ?_
    refine lv_iconst (v := 0) hx hb dModel_look_186 (by decide) ?_
    refine lv_iconst (v := 0) hx hb dModel_look_187 (by decide) ?_
    refine lv_iconst (v := 1) hx hb dModel_look_188 (by decide) ?_
    have hnr40 : ∃ j, j ≤ 1000 ∧ 0 = nI j := ⟨0, by omega, rfl⟩
    refine mu_Vv (rest := []) S hC (fun q h => hA q (Nat.le_trans hS.1 h)) (fun q h => h) hS (m_fact l γ a B Z κ b mn ν τ σ F nu hT x1 0 0 1 (vin (by assumption) (by omega)) hnr40) meModel_fact qw_02871250ec ⟨Nat.le_of_ble_eq_true rfl, Nat.le_of_ble_eq_true rfl⟩ (md_rv hC hM) hM rfl hl.1 rfl (Nat.le_of_ble_eq_true rfl) dModel_look_189 ⟨Nat.le_refl _, Nat.le_refl _⟩ (fun H locs hPO hS _ _ => ?_)
    obtain ⟨Fr40, nur40, hM, hqr40, hcr40⟩ := hPO
    have hZ : SZ Fr40 := hZ.slt hqr40 hnr40
    have hL : SL x1.toNatClampNeg F nu Fr40 nur40 := hL.trans (SL.slt hqr40)
    have hK : GK x1.toNatClampNeg Fr40 nur40 := GK.zero hqr40
    refine lv_aload_n hx hb dModel_look_192 rfl (lv_at hl 1 rfl) ?_
    refine md_gA S hC hM 13 (by decide) rfl qw_7b809afc8c dModel_look_193 ?_
    refine lv_iload_n hx hb dModel_look_196 rfl (lv_at hl 2 rfl) ?_
    refine lv_aload_n hx hb dModel_look_197 rfl (lv_at hl 1 rfl) ?_
    refine md_gA S hC hM 3 (by decide) rfl qw_9fb851a5fa dModel_look_198 ?_
    refine lv_iload_n hx hb dModel_look_201 rfl (lv_at hl 2 rfl) ?_
    refine md_ild S hC hM 3 1 4000 (τ 3) rfl rfl (by decide) rfl rfl (vin (by assumption) (by omega)) dModel_look_202 ?_
    refine lv_topi (fun v41 ev41 => ?_)
    refine lv_i2l hx hb dModel_look_203 rfl ?_
    refine lv_topl (fun v42 ev42 => ?_)
    have hgnu43 : Fr40 9 x1.toNatClampNeg = 2 → -2147483648 < (v42 : Int64).toInt ∧ (v42 : Int64).toInt < 2147483648 := (fun h9 => absurd ((slt9 hqr40).symm.trans h9) (by decide))
    refine md_lst S hC hM hS (vin (by assumption) (by omega)) dModel_look_204 (fun H locs hM hS => ?_)
    obtain ⟨nu43, enu43⟩ : ∃ z : Nat → Int64, z = vp_updL nur40 x1.toNatClampNeg v42 := ⟨_, rfl⟩
    rw [← enu43] at hM
    have hL : SL x1.toNatClampNeg F nu Fr40 nu43 := hL.trans (by rw [enu43]; exact SL.num)
    have hK : GK x1.toNatClampNeg Fr40 nu43 := by rw [enu43]; exact GK.num hgnu43
    refine lv_iload_n hx hb dModel_look_205 rfl (lv_at hl 0 rfl) ?_
    have J229 : ∀ (ls : Array Slot), lv_has ls 3 [(0, .ref a), (1, .int x1), (2, .int v1)] → W p l e (bs_rm 5 0 0 131) s m args below meth c H locs 0 0 Q (F0 m 229 ls []) := by
      intro ls hl
      refine lv_bipush (v := 11) hx hb dModel_look_229 (by decide) ?_
      refine lv_goto (tgt := 235) hx hb dModel_look_231 (by decide) ?_
      exact hE _ _ _ _ _ hS ⟨σ, Fr40, nu43, hM, hZ, hF, hL, (fun h9 => absurd (show (0 : Int32) < 11 by decide) h9)⟩ dModel_look_235
    refine lv_if_gt (tgt := 229) hx hb dModel_look_206 (by decide) (fun c49 => ?_) (fun c49 => ?_)
    · exact J229 ls  (lv_sub hl [1, 2, 0] rfl)
    · refine lv_aload_n hx hb dModel_look_209 rfl (lv_at hl 1 rfl) ?_
      refine md_gA S hC hM 3 (by decide) rfl qw_9fb851a5fa dModel_look_210 ?_
      refine lv_iload_n hx hb dModel_look_213 rfl (lv_at hl 2 rfl) ?_
      refine md_ild S hC hM 3 1 4000 (τ 3) rfl rfl (by decide) rfl rfl (vin (by assumption) (by omega)) dModel_look_214 ?_
      refine lv_topi (fun v50 ev50 => ?_)
      refine lv_if_lt (tgt := 229) hx hb dModel_look_215 (by decide) (fun c51 => ?_) (fun c51 => ?_)
      · exact J229 ls  (lv_sub hl [1, 2, 0] rfl)
      · refine lv_aload_n hx hb dModel_look_218 rfl (lv_at hl 1 rfl) ?_
        refine md_gA S hC hM 3 (by decide) rfl qw_9fb851a5fa dModel_look_219 ?_
        refine lv_iload_n hx hb dModel_look_222 rfl (lv_at hl 2 rfl) ?_
        refine md_ild S hC hM 3 1 4000 (τ 3) rfl rfl (by decide) rfl rfl (vin (by assumption) (by omega)) dModel_look_223 ?_
        refine lv_topi (fun v52 ev52 => ?_)
        refine lv_bipush (v := 8) hx hb dModel_look_224 (by decide) ?_
        refine lv_icmp_le (tgt := 234) hx hb dModel_look_226 (by decide) (fun c53 => ?_) (fun c53 => ?_)
        · refine lv_iconst (v := 0) hx hb dModel_look_234 (by decide) ?_
          exact hE _ _ _ _ _ hS ⟨σ, Fr40, nu43, hM, hZ, hF, hL, (fun _ => hK)⟩ dModel_look_235
        · exact J229 ls  (lv_sub hl [1, 2, 0] rfl)
  by_cases k6 : v2 = 4
  · rw [k6]
    refine lv_tableIn (tgt := 236) hx hb dModel_look_13 (by decide) (by decide) rfl (by decide) ?_
    refine lv_aload_n hx hb dModel_look_236 rfl (lv_at hl 1 rfl) ?_
    refine lv_iload_n hx hb dModel_look_237 rfl (lv_at hl 2 rfl) ?_
    refine mu_Vi (rest := []) S hC (fun q h => hA q (Nat.le_trans hS.1 h)) (fun q h => h) hS (m_lookRow l γ a B Z κ b mn ν τ σ F nu hT x1 (vin (by assumption) (by omega)) hZ hF) meModel_lookRow qw_1225f40cc2 ⟨Nat.le_of_ble_eq_true rfl, Nat.le_of_ble_eq_true rfl⟩ (md_rv hC hM) hM rfl hl.1 rfl (Nat.le_of_ble_eq_true rfl) dModel_look_238 ⟨Nat.le_refl _, Nat.le_refl _⟩ (fun r54 H locs hPO hS _ _ => ?_)
    obtain ⟨σr54, Fr54, nur54, hM, hZ, hF, hLr54, hRr54⟩ := hPO
    have hL : SL x1.toNatClampNeg F nu Fr54 nur54 := hL.trans hLr54
    exact hE _ _ _ _ _ hS ⟨σr54, Fr54, nur54, hM, hZ, hF, hL, hRr54⟩ dModel_look_241
  by_cases k7 : v2 = 5
  · rw [k7]
    refine lv_tableIn (tgt := 371) hx hb dModel_look_13 (by decide) (by decide) rfl (by decide) ?_
    refine lv_bipush (v := 11) hx hb dModel_look_371 (by decide) ?_
    exact hE _ _ _ _ _ hS ⟨σ, F, nu, hM, hZ, hF, hL, (fun h9 => absurd (show (0 : Int32) < 11 by decide) h9)⟩ dModel_look_373
  by_cases k8 : v2 = 6
  · rw [k8]
    refine lv_tableIn (tgt := 371) hx hb dModel_look_13 (by decide) (by decide) rfl (by decide) ?_
    refine lv_bipush (v := 11) hx hb dModel_look_371 (by decide) ?_
    exact hE _ _ _ _ _ hS ⟨σ, F, nu, hM, hZ, hF, hL, (fun h9 => absurd (show (0 : Int32) < 11 by decide) h9)⟩ dModel_look_373
  by_cases k9 : v2 = 7
  · rw [k9]
    refine lv_tableIn (tgt := 371) hx hb dModel_look_13 (by decide) (by decide) rfl (by decide) ?_
    refine lv_bipush (v := 11) hx hb dModel_look_371 (by decide) ?_
    exact hE _ _ _ _ _ hS ⟨σ, F, nu, hM, hZ, hF, hL, (fun h9 => absurd (show (0 : Int32) < 11 by decide) h9)⟩ dModel_look_373
  by_cases k10 : v2 = 8
  · rw [k10]
    refine lv_tableIn (tgt := 371) hx hb dModel_look_13 (by decide) (by decide) rfl (by decide) ?_
    refine lv_bipush (v := 11) hx hb dModel_look_371 (by decide) ?_
    exact hE _ _ _ _ _ hS ⟨σ, F, nu, hM, hZ, hF, hL, (fun h9 => absurd (show (0 : Int32) < 11 by decide) h9)⟩ dModel_look_373
  by_cases k11 : v2 = 9
  · rw [k11]
    refine lv_tableIn (tgt := 371) hx hb dModel_look_13 (by decide) (by decide) rfl (by decide) ?_
    refine lv_bipush (v := 11) hx hb dModel_look_371 (by decide) ?_
    exact hE _ _ _ _ _ hS ⟨σ, F, nu, hM, hZ, hF, hL, (fun h9 => absurd (show (0 : Int32) < 11 by decide) h9)⟩ dModel_look_373
  by_cases k12 : v2 = 10
  · rw [k12]
    refine lv_tableIn (tgt := 371) hx hb dModel_look_13 (by decide) (by decide) rfl (by decide) ?_
    refine lv_bipush (v := 11) hx hb dModel_look_371 (by decide) ?_
    exact hE _ _ _ _ _ hS ⟨σ, F, nu, hM, hZ, hF, hL, (fun h9 => absurd (show (0 : Int32) < 11 by decide) h9)⟩ dModel_look_373
  by_cases k13 : v2 = 11
  · rw [k13]
    refine lv_tableIn (tgt := 371) hx hb dModel_look_13 (by decide) (by decide) rfl (by decide) ?_
    refine lv_bipush (v := 11) hx hb dModel_look_371 (by decide) ?_
    exact hE _ _ _ _ _ hS ⟨σ, F, nu, hM, hZ, hF, hL, (fun h9 => absurd (show (0 : Int32) < 11 by decide) h9)⟩ dModel_look_373
  by_cases k14 : v2 = 12
  · rw [k14]
    refine lv_tableIn (tgt := 371) hx hb dModel_look_13 (by decide) (by decide) rfl (by decide) ?_
    refine lv_bipush (v := 11) hx hb dModel_look_371 (by decide) ?_
    exact hE _ _ _ _ _ hS ⟨σ, F, nu, hM, hZ, hF, hL, (fun h9 => absurd (show (0 : Int32) < 11 by decide) h9)⟩ dModel_look_373
  by_cases k15 : v2 = 13
  · rw [k15]
    refine lv_tableIn (tgt := 371) hx hb dModel_look_13 (by decide) (by decide) rfl (by decide) ?_
    refine lv_bipush (v := 11) hx hb dModel_look_371 (by decide) ?_
    exact hE _ _ _ _ _ hS ⟨σ, F, nu, hM, hZ, hF, hL, (fun h9 => absurd (show (0 : Int32) < 11 by decide) h9)⟩ dModel_look_373
  by_cases k16 : v2 = 14
  · rw [k16]
    refine lv_tableIn (tgt := 371) hx hb dModel_look_13 (by decide) (by decide) rfl (by decide) ?_
    refine lv_bipush (v := 11) hx hb dModel_look_371 (by decide) ?_
    exact hE _ _ _ _ _ hS ⟨σ, F, nu, hM, hZ, hF, hL, (fun h9 => absurd (show (0 : Int32) < 11 by decide) h9)⟩ dModel_look_373
  by_cases k17 : v2 = 15
  · rw [k17]
    refine lv_tableIn (tgt := 371) hx hb dModel_look_13 (by decide) (by decide) rfl (by decide) ?_
    refine lv_bipush (v := 11) hx hb dModel_look_371 (by decide) ?_
    exact hE _ _ _ _ _ hS ⟨σ, F, nu, hM, hZ, hF, hL, (fun h9 => absurd (show (0 : Int32) < 11 by decide) h9)⟩ dModel_look_373
  by_cases k18 : v2 = 16
  · rw [k18]
    refine lv_tableIn (tgt := 371) hx hb dModel_look_13 (by decide) (by decide) rfl (by decide) ?_
    refine lv_bipush (v := 11) hx hb dModel_look_371 (by decide) ?_
    exact hE _ _ _ _ _ hS ⟨σ, F, nu, hM, hZ, hF, hL, (fun h9 => absurd (show (0 : Int32) < 11 by decide) h9)⟩ dModel_look_373
  by_cases k19 : v2 = 17
  · rw [k19]
    refine lv_tableIn (tgt := 371) hx hb dModel_look_13 (by decide) (by decide) rfl (by decide) ?_
    refine lv_bipush (v := 11) hx hb dModel_look_371 (by decide) ?_
    exact hE _ _ _ _ _ hS ⟨σ, F, nu, hM, hZ, hF, hL, (fun h9 => absurd (show (0 : Int32) < 11 by decide) h9)⟩ dModel_look_373
  by_cases k20 : v2 = 18
  · rw [k20]
    refine lv_tableIn (tgt := 371) hx hb dModel_look_13 (by decide) (by decide) rfl (by decide) ?_
    refine lv_bipush (v := 11) hx hb dModel_look_371 (by decide) ?_
    exact hE _ _ _ _ _ hS ⟨σ, F, nu, hM, hZ, hF, hL, (fun h9 => absurd (show (0 : Int32) < 11 by decide) h9)⟩ dModel_look_373
  by_cases k21 : v2 = 19
  · rw [k21]
    refine lv_tableIn (tgt := 371) hx hb dModel_look_13 (by decide) (by decide) rfl (by decide) ?_
    refine lv_bipush (v := 11) hx hb dModel_look_371 (by decide) ?_
    exact hE _ _ _ _ _ hS ⟨σ, F, nu, hM, hZ, hF, hL, (fun h9 => absurd (show (0 : Int32) < 11 by decide) h9)⟩ dModel_look_373
  by_cases k22 : v2 = 20
  · rw [k22]
    refine lv_tableIn (tgt := 242) hx hb dModel_look_13 (by decide) (by decide) rfl (by decide) ?_
    refine lv_iload_n hx hb dModel_look_242 rfl (lv_at hl 0 rfl) ?_
    refine lv_iconst (v := 1) hx hb dModel_look_243 (by decide) ?_
    have J266 : ∀ (ls : Array Slot), lv_has ls 3 [(0, .ref a), (1, .int x1), (2, .int v1)] → W p l e (bs_rm 5 0 0 131) s m args below meth c s.heap [] 0 0 Q (F0 m 266 ls []) := by
      intro ls hl
      refine lv_bipush (v := 11) hx hb dModel_look_266 (by decide) ?_
      refine lv_goto (tgt := 282) hx hb dModel_look_268 (by decide) ?_
      exact hE _ _ _ _ _ hS ⟨σ, F, nu, hM, hZ, hF, hL, (fun h9 => absurd (show (0 : Int32) < 11 by decide) h9)⟩ dModel_look_282
    refine lv_icmp_ne (tgt := 266) hx hb dModel_look_244 (by decide) (fun c62 => ?_) (fun c62 => ?_)
    · exact J266 ls  (lv_sub hl [1, 2, 0] rfl)
    · refine lv_aload_n hx hb dModel_look_247 rfl (lv_at hl 1 rfl) ?_
      refine md_gA S hC hM 3 (by decide) rfl qw_9fb851a5fa dModel_look_248 ?_
      refine lv_iload_n hx hb dModel_look_251 rfl (lv_at hl 2 rfl) ?_
      refine md_ild S hC hM 3 1 4000 (τ 3) rfl rfl (by decide) rfl rfl (vin (by assumption) (by omega)) dModel_look_252 ?_
      refine lv_topi (fun v63 ev63 => ?_)
      refine lv_if_lt (tgt := 266) hx hb dModel_look_253 (by decide) (fun c64 => ?_) (fun c64 => ?_)
      · exact J266 ls  (lv_sub hl [1, 2, 0] rfl)
      · refine lv_aload_n hx hb dModel_look_256 rfl (lv_at hl 1 rfl) ?_
        refine md_gA S hC hM 3 (by decide) rfl qw_9fb851a5fa dModel_look_257 ?_
        refine lv_iload_n hx hb dModel_look_260 rfl (lv_at hl 2 rfl) ?_
        refine md_ild S hC hM 3 1 4000 (τ 3) rfl rfl (by decide) rfl rfl (vin (by assumption) (by omega)) dModel_look_261 ?_
        refine lv_topi (fun v65 ev65 => ?_)
        refine lv_iconst (v := 3) hx hb dModel_look_262 (by decide) ?_
        refine lv_icmp_le (tgt := 271) hx hb dModel_look_263 (by decide) (fun c66 => ?_) (fun c66 => ?_)
        · have hm1 := mn_eq1 hTR hx1 ev1 (by assumption)
          refine lv_aload_n hx hb dModel_look_271 rfl (lv_at hl 1 rfl) ?_
          refine lv_iload_n hx hb dModel_look_272 rfl (lv_at hl 2 rfl) ?_
          refine lv_aload_n hx hb dModel_look_273 rfl (lv_at hl 1 rfl) ?_
          refine lv_iload_n hx hb dModel_look_274 rfl (lv_at hl 2 rfl) ?_
          refine lv_iconst (v := 0) hx hb dModel_look_275 (by decide) ?_
          have hpr67 : vp_in x1 (κ 0) := (vin (by assumption) (by omega))
          have hjr67 : vp_in 0 (mn x1.toNatClampNeg) := (vp0 (by omega) (by omega))
          refine pu_Vi (rest := [.int x1, .ref a]) S hC (m_child l γ a B Z κ b mn ν τ σ F nu hT x1 0 hpr67 hjr67) meModel_child qw_a66d450e0a ⟨Nat.le_of_ble_eq_true rfl, Nat.le_of_ble_eq_true rfl⟩ (md_rv hC hM) hM rfl hl.1 rfl (Nat.le_of_ble_eq_true rfl) dModel_look_276 ⟨Nat.zero_le _, Nat.zero_le _⟩ (fun r67 hr67 => ?_)
          obtain ⟨hir67, hltr67, hxr67⟩ := ch_in hTR hs0 hpr67 hjr67 hr67
          refine mu_Vi (rest := []) S hC (fun q h => hA q (Nat.le_trans hS.1 h)) (fun q h => h) hS (m_lookUnary l γ a B Z κ b mn ν τ σ F nu hT x1 r67 (vin (by assumption) (by omega)) (vin (by assumption) (by omega)) (by assumption) hZ hF (by rw [hxr67]; exact hgc (by rw [← ev2, show v2 = 20 by assumption]; decide) _ (vix hjr67))) meModel_lookUnary qw_90669a19fa ⟨Nat.le_of_ble_eq_true rfl, Nat.le_of_ble_eq_true rfl⟩ (md_rv hC hM) hM rfl hl.1 rfl (Nat.le_of_ble_eq_true rfl) dModel_look_279 ⟨Nat.le_refl _, Nat.le_refl _⟩ (fun r68 H locs hPO hS _ _ => ?_)
          obtain ⟨σr68, Fr68, nur68, hM, hZ, hF, hLr68, hRr68⟩ := hPO
          have hL : SL x1.toNatClampNeg F nu Fr68 nur68 := hL.trans hLr68
          exact hE _ _ _ _ _ hS ⟨σr68, Fr68, nur68, hM, hZ, hF, hL, hRr68⟩ dModel_look_282
        · exact J266 ls  (lv_sub hl [1, 2, 0] rfl)
  by_cases k23 : v2 = 21
  · rw [k23]
    refine lv_tableIn (tgt := 283) hx hb dModel_look_13 (by decide) (by decide) rfl (by decide) ?_
    refine lv_iload_n hx hb dModel_look_283 rfl (lv_at hl 0 rfl) ?_
    refine lv_iconst (v := 2) hx hb dModel_look_284 (by decide) ?_
    have J308 : ∀ (ls : Array Slot), lv_has ls 3 [(0, .ref a), (1, .int x1), (2, .int v1)] → W p l e (bs_rm 5 0 0 131) s m args below meth c s.heap [] 0 0 Q (F0 m 308 ls []) := by
      intro ls hl
      refine lv_bipush (v := 11) hx hb dModel_look_308 (by decide) ?_
      refine lv_goto (tgt := 330) hx hb dModel_look_310 (by decide) ?_
      exact hE _ _ _ _ _ hS ⟨σ, F, nu, hM, hZ, hF, hL, (fun h9 => absurd (show (0 : Int32) < 11 by decide) h9)⟩ dModel_look_330
    refine lv_icmp_ne (tgt := 308) hx hb dModel_look_285 (by decide) (fun c77 => ?_) (fun c77 => ?_)
    · exact J308 ls  (lv_sub hl [1, 2, 0] rfl)
    · refine lv_aload_n hx hb dModel_look_288 rfl (lv_at hl 1 rfl) ?_
      refine md_gA S hC hM 3 (by decide) rfl qw_9fb851a5fa dModel_look_289 ?_
      refine lv_iload_n hx hb dModel_look_292 rfl (lv_at hl 2 rfl) ?_
      refine md_ild S hC hM 3 1 4000 (τ 3) rfl rfl (by decide) rfl rfl (vin (by assumption) (by omega)) dModel_look_293 ?_
      refine lv_topi (fun v78 ev78 => ?_)
      refine lv_if_lt (tgt := 308) hx hb dModel_look_294 (by decide) (fun c79 => ?_) (fun c79 => ?_)
      · exact J308 ls  (lv_sub hl [1, 2, 0] rfl)
      · refine lv_aload_n hx hb dModel_look_297 rfl (lv_at hl 1 rfl) ?_
        refine md_gA S hC hM 3 (by decide) rfl qw_9fb851a5fa dModel_look_298 ?_
        refine lv_iload_n hx hb dModel_look_301 rfl (lv_at hl 2 rfl) ?_
        refine md_ild S hC hM 3 1 4000 (τ 3) rfl rfl (by decide) rfl rfl (vin (by assumption) (by omega)) dModel_look_302 ?_
        refine lv_topi (fun v80 ev80 => ?_)
        refine lv_bipush (v := 20) hx hb dModel_look_303 (by decide) ?_
        refine lv_icmp_le (tgt := 313) hx hb dModel_look_305 (by decide) (fun c81 => ?_) (fun c81 => ?_)
        · have hm1 := mn_eq2 hTR hx1 ev1 (by assumption)
          refine lv_aload_n hx hb dModel_look_313 rfl (lv_at hl 1 rfl) ?_
          refine lv_iload_n hx hb dModel_look_314 rfl (lv_at hl 2 rfl) ?_
          refine lv_aload_n hx hb dModel_look_315 rfl (lv_at hl 1 rfl) ?_
          refine lv_iload_n hx hb dModel_look_316 rfl (lv_at hl 2 rfl) ?_
          refine lv_iconst (v := 1) hx hb dModel_look_317 (by decide) ?_
          have hpr82 : vp_in x1 (κ 0) := (vin (by assumption) (by omega))
          have hjr82 : vp_in 1 (mn x1.toNatClampNeg) := (vp1 (by omega) (by omega))
          refine pu_Vi (rest := [.int x1, .ref a]) S hC (m_child l γ a B Z κ b mn ν τ σ F nu hT x1 1 hpr82 hjr82) meModel_child qw_a66d450e0a ⟨Nat.le_of_ble_eq_true rfl, Nat.le_of_ble_eq_true rfl⟩ (md_rv hC hM) hM rfl hl.1 rfl (Nat.le_of_ble_eq_true rfl) dModel_look_318 ⟨Nat.zero_le _, Nat.zero_le _⟩ (fun r82 hr82 => ?_)
          obtain ⟨hir82, hltr82, hxr82⟩ := ch_in hTR hs0 hpr82 hjr82 hr82
          refine lv_aload_n hx hb dModel_look_321 rfl (lv_at hl 1 rfl) ?_
          refine lv_iload_n hx hb dModel_look_322 rfl (lv_at hl 2 rfl) ?_
          refine lv_iconst (v := 0) hx hb dModel_look_323 (by decide) ?_
          have hpr83 : vp_in x1 (κ 0) := (vin (by assumption) (by omega))
          have hjr83 : vp_in 0 (mn x1.toNatClampNeg) := (vp0 (by omega) (by omega))
          refine pu_Vi (rest := [.int r82, .int x1, .ref a]) S hC (m_child l γ a B Z κ b mn ν τ σ F nu hT x1 0 hpr83 hjr83) meModel_child qw_a66d450e0a ⟨Nat.le_of_ble_eq_true rfl, Nat.le_of_ble_eq_true rfl⟩ (md_rv hC hM) hM rfl hl.1 rfl (Nat.le_of_ble_eq_true rfl) dModel_look_324 ⟨Nat.zero_le _, Nat.zero_le _⟩ (fun r83 hr83 => ?_)
          obtain ⟨hir83, hltr83, hxr83⟩ := ch_in hTR hs0 hpr83 hjr83 hr83
          refine mu_Vi (rest := []) S hC (fun q h => hA q (Nat.le_trans hS.1 h)) (fun q h => h) hS (m_lookBinary l γ a B Z κ b mn ν τ σ F nu hT x1 r82 r83 (vin (by assumption) (by omega)) (vin (by assumption) (by omega)) (vin (by assumption) (by omega)) (by assumption) (by assumption) hZ hF) meModel_lookBinary qw_3d76e3b1f6 ⟨Nat.le_of_ble_eq_true rfl, Nat.le_of_ble_eq_true rfl⟩ (md_rv hC hM) hM rfl hl.1 rfl (Nat.le_of_ble_eq_true rfl) dModel_look_327 ⟨Nat.le_refl _, Nat.le_refl _⟩ (fun r84 H locs hPO hS _ _ => ?_)
          obtain ⟨σr84, Fr84, nur84, hM, hZ, hF, hLr84, hRr84⟩ := hPO
          have hL : SL x1.toNatClampNeg F nu Fr84 nur84 := hL.trans hLr84
          exact hE _ _ _ _ _ hS ⟨σr84, Fr84, nur84, hM, hZ, hF, hL, hRr84⟩ dModel_look_330
        · exact J308 ls  (lv_sub hl [1, 2, 0] rfl)
  by_cases k24 : v2 = 22
  · rw [k24]
    refine lv_tableIn (tgt := 331) hx hb dModel_look_13 (by decide) (by decide) rfl (by decide) ?_
    refine lv_aload_n hx hb dModel_look_331 rfl (lv_at hl 1 rfl) ?_
    refine lv_iload_n hx hb dModel_look_332 rfl (lv_at hl 2 rfl) ?_
    refine mu_Vi (rest := []) S hC (fun q h => hA q (Nat.le_trans hS.1 h)) (fun q h => h) hS (m_lookApply l γ a B Z κ b mn ν τ σ F nu hT x1 (vin (by assumption) (by omega)) hZ hF) meModel_lookApply qw_a9a4545182 ⟨Nat.le_of_ble_eq_true rfl, Nat.le_of_ble_eq_true rfl⟩ (md_rv hC hM) hM rfl hl.1 rfl (Nat.le_of_ble_eq_true rfl) dModel_look_333 ⟨Nat.le_refl _, Nat.le_refl _⟩ (fun r85 H locs hPO hS _ _ => ?_)
    obtain ⟨σr85, Fr85, nur85, hM, hZ, hF, hLr85, hRr85⟩ := hPO
    have hL : SL x1.toNatClampNeg F nu Fr85 nur85 := hL.trans hLr85
    exact hE _ _ _ _ _ hS ⟨σr85, Fr85, nur85, hM, hZ, hF, hL, hRr85⟩ dModel_look_336
  by_cases k25 : v2 = 23
  · rw [k25]
    refine lv_tableIn (tgt := 337) hx hb dModel_look_13 (by decide) (by decide) rfl (by decide) ?_
    refine lv_iload_n hx hb dModel_look_337 rfl (lv_at hl 0 rfl) ?_
    refine lv_iconst (v := 2) hx hb dModel_look_338 (by decide) ?_
    refine lv_icmp_eq (tgt := 347) hx hb dModel_look_339 (by decide) (fun c86 => ?_) (fun c86 => ?_)
    · have hm1 := mn_eq2 hTR hx1 ev1 (by assumption)
      refine lv_aload_n hx hb dModel_look_347 rfl (lv_at hl 1 rfl) ?_
      refine lv_iload_n hx hb dModel_look_348 rfl (lv_at hl 2 rfl) ?_
      refine lv_aload_n hx hb dModel_look_349 rfl (lv_at hl 1 rfl) ?_
      refine lv_iload_n hx hb dModel_look_350 rfl (lv_at hl 2 rfl) ?_
      refine lv_iconst (v := 1) hx hb dModel_look_351 (by decide) ?_
      have hpr87 : vp_in x1 (κ 0) := (vin (by assumption) (by omega))
      have hjr87 : vp_in 1 (mn x1.toNatClampNeg) := (vp1 (by omega) (by omega))
      refine pu_Vi (rest := [.int x1, .ref a]) S hC (m_child l γ a B Z κ b mn ν τ σ F nu hT x1 1 hpr87 hjr87) meModel_child qw_a66d450e0a ⟨Nat.le_of_ble_eq_true rfl, Nat.le_of_ble_eq_true rfl⟩ (md_rv hC hM) hM rfl hl.1 rfl (Nat.le_of_ble_eq_true rfl) dModel_look_352 ⟨Nat.zero_le _, Nat.zero_le _⟩ (fun r87 hr87 => ?_)
      obtain ⟨hir87, hltr87, hxr87⟩ := ch_in hTR hs0 hpr87 hjr87 hr87
      refine lv_aload_n hx hb dModel_look_355 rfl (lv_at hl 1 rfl) ?_
      refine lv_iload_n hx hb dModel_look_356 rfl (lv_at hl 2 rfl) ?_
      refine lv_iconst (v := 0) hx hb dModel_look_357 (by decide) ?_
      have hpr88 : vp_in x1 (κ 0) := (vin (by assumption) (by omega))
      have hjr88 : vp_in 0 (mn x1.toNatClampNeg) := (vp0 (by omega) (by omega))
      refine pu_Vi (rest := [.int r87, .int x1, .ref a]) S hC (m_child l γ a B Z κ b mn ν τ σ F nu hT x1 0 hpr88 hjr88) meModel_child qw_a66d450e0a ⟨Nat.le_of_ble_eq_true rfl, Nat.le_of_ble_eq_true rfl⟩ (md_rv hC hM) hM rfl hl.1 rfl (Nat.le_of_ble_eq_true rfl) dModel_look_358 ⟨Nat.zero_le _, Nat.zero_le _⟩ (fun r88 hr88 => ?_)
      obtain ⟨hir88, hltr88, hxr88⟩ := ch_in hTR hs0 hpr88 hjr88 hr88
      refine mu_Vi (rest := []) S hC (fun q h => hA q (Nat.le_trans hS.1 h)) (fun q h => h) hS (m_lookSlice l γ a B Z κ b mn ν τ σ F nu hT x1 r87 r88 (vin (by assumption) (by omega)) (vin (by assumption) (by omega)) (vin (by assumption) (by omega)) (by assumption) (by assumption) hZ hF) meModel_lookSlice qw_66651c47c8 ⟨Nat.le_of_ble_eq_true rfl, Nat.le_of_ble_eq_true rfl⟩ (md_rv hC hM) hM rfl hl.1 rfl (Nat.le_of_ble_eq_true rfl) dModel_look_361 ⟨Nat.le_refl _, Nat.le_refl _⟩ (fun r89 H locs hPO hS _ _ => ?_)
      obtain ⟨σr89, Fr89, nur89, hM, hZ, hF, hLr89, hRr89⟩ := hPO
      have hL : SL x1.toNatClampNeg F nu Fr89 nur89 := hL.trans hLr89
      exact hE _ _ _ _ _ hS ⟨σr89, Fr89, nur89, hM, hZ, hF, hL, hRr89⟩ dModel_look_364
    · refine lv_bipush (v := 11) hx hb dModel_look_342 (by decide) ?_
      refine lv_goto (tgt := 364) hx hb dModel_look_344 (by decide) ?_
      exact hE _ _ _ _ _ hS ⟨σ, F, nu, hM, hZ, hF, hL, (fun h9 => absurd (show (0 : Int32) < 11 by decide) h9)⟩ dModel_look_364
  by_cases k26 : v2 = 24
  · rw [k26]
    refine lv_tableIn (tgt := 337) hx hb dModel_look_13 (by decide) (by decide) rfl (by decide) ?_
    refine lv_iload_n hx hb dModel_look_337 rfl (lv_at hl 0 rfl) ?_
    refine lv_iconst (v := 2) hx hb dModel_look_338 (by decide) ?_
    refine lv_icmp_eq (tgt := 347) hx hb dModel_look_339 (by decide) (fun c90 => ?_) (fun c90 => ?_)
    · have hm1 := mn_eq2 hTR hx1 ev1 (by assumption)
      refine lv_aload_n hx hb dModel_look_347 rfl (lv_at hl 1 rfl) ?_
      refine lv_iload_n hx hb dModel_look_348 rfl (lv_at hl 2 rfl) ?_
      refine lv_aload_n hx hb dModel_look_349 rfl (lv_at hl 1 rfl) ?_
      refine lv_iload_n hx hb dModel_look_350 rfl (lv_at hl 2 rfl) ?_
      refine lv_iconst (v := 1) hx hb dModel_look_351 (by decide) ?_
      have hpr91 : vp_in x1 (κ 0) := (vin (by assumption) (by omega))
      have hjr91 : vp_in 1 (mn x1.toNatClampNeg) := (vp1 (by omega) (by omega))
      refine pu_Vi (rest := [.int x1, .ref a]) S hC (m_child l γ a B Z κ b mn ν τ σ F nu hT x1 1 hpr91 hjr91) meModel_child qw_a66d450e0a ⟨Nat.le_of_ble_eq_true rfl, Nat.le_of_ble_eq_true rfl⟩ (md_rv hC hM) hM rfl hl.1 rfl (Nat.le_of_ble_eq_true rfl) dModel_look_352 ⟨Nat.zero_le _, Nat.zero_le _⟩ (fun r91 hr91 => ?_)
      obtain ⟨hir91, hltr91, hxr91⟩ := ch_in hTR hs0 hpr91 hjr91 hr91
      refine lv_aload_n hx hb dModel_look_355 rfl (lv_at hl 1 rfl) ?_
      refine lv_iload_n hx hb dModel_look_356 rfl (lv_at hl 2 rfl) ?_
      refine lv_iconst (v := 0) hx hb dModel_look_357 (by decide) ?_
      have hpr92 : vp_in x1 (κ 0) := (vin (by assumption) (by omega))
      have hjr92 : vp_in 0 (mn x1.toNatClampNeg) := (vp0 (by omega) (by omega))
      refine pu_Vi (rest := [.int r91, .int x1, .ref a]) S hC (m_child l γ a B Z κ b mn ν τ σ F nu hT x1 0 hpr92 hjr92) meModel_child qw_a66d450e0a ⟨Nat.le_of_ble_eq_true rfl, Nat.le_of_ble_eq_true rfl⟩ (md_rv hC hM) hM rfl hl.1 rfl (Nat.le_of_ble_eq_true rfl) dModel_look_358 ⟨Nat.zero_le _, Nat.zero_le _⟩ (fun r92 hr92 => ?_)
      obtain ⟨hir92, hltr92, hxr92⟩ := ch_in hTR hs0 hpr92 hjr92 hr92
      refine mu_Vi (rest := []) S hC (fun q h => hA q (Nat.le_trans hS.1 h)) (fun q h => h) hS (m_lookSlice l γ a B Z κ b mn ν τ σ F nu hT x1 r91 r92 (vin (by assumption) (by omega)) (vin (by assumption) (by omega)) (vin (by assumption) (by omega)) (by assumption) (by assumption) hZ hF) meModel_lookSlice qw_66651c47c8 ⟨Nat.le_of_ble_eq_true rfl, Nat.le_of_ble_eq_true rfl⟩ (md_rv hC hM) hM rfl hl.1 rfl (Nat.le_of_ble_eq_true rfl) dModel_look_361 ⟨Nat.le_refl _, Nat.le_refl _⟩ (fun r93 H locs hPO hS _ _ => ?_)
      obtain ⟨σr93, Fr93, nur93, hM, hZ, hF, hLr93, hRr93⟩ := hPO
      have hL : SL x1.toNatClampNeg F nu Fr93 nur93 := hL.trans hLr93
      exact hE _ _ _ _ _ hS ⟨σr93, Fr93, nur93, hM, hZ, hF, hL, hRr93⟩ dModel_look_364
    · refine lv_bipush (v := 11) hx hb dModel_look_342 (by decide) ?_
      refine lv_goto (tgt := 364) hx hb dModel_look_344 (by decide) ?_
      exact hE _ _ _ _ _ hS ⟨σ, F, nu, hM, hZ, hF, hL, (fun h9 => absurd (show (0 : Int32) < 11 by decide) h9)⟩ dModel_look_364
  by_cases k27 : v2 = 25
  · rw [k27]
    refine lv_tableIn (tgt := 365) hx hb dModel_look_13 (by decide) (by decide) rfl (by decide) ?_
    refine lv_aload_n hx hb dModel_look_365 rfl (lv_at hl 1 rfl) ?_
    refine lv_iload_n hx hb dModel_look_366 rfl (lv_at hl 2 rfl) ?_
    refine mu_Vi (rest := []) S hC (fun q h => hA q (Nat.le_trans hS.1 h)) (fun q h => h) hS (m_lookAttribute l γ a B Z κ b mn ν τ σ F nu hT x1 (vin (by assumption) (by omega)) hZ hF) meModel_lookAttribute qw_1fe4047f8f ⟨Nat.le_of_ble_eq_true rfl, Nat.le_of_ble_eq_true rfl⟩ (md_rv hC hM) hM rfl hl.1 rfl (Nat.le_of_ble_eq_true rfl) dModel_look_367 ⟨Nat.le_refl _, Nat.le_refl _⟩ (fun r94 H locs hPO hS _ _ => ?_)
    obtain ⟨σr94, Fr94, nur94, hM, hZ, hF, hLr94, hRr94⟩ := hPO
    have hL : SL x1.toNatClampNeg F nu Fr94 nur94 := hL.trans hLr94
    exact hE _ _ _ _ _ hS ⟨σr94, Fr94, nur94, hM, hZ, hF, hL, hRr94⟩ dModel_look_370
  refine lv_tableOut (tgt := 371) hx hb dModel_look_13 (by have qk3 := lv_neT (a := 1) k3 (by decide); have qk4 := lv_neT (a := 2) k4 (by decide); have qk5 := lv_neT (a := 3) k5 (by decide); have qk6 := lv_neT (a := 4) k6 (by decide); have qk7 := lv_neT (a := 5) k7 (by decide); have qk8 := lv_neT (a := 6) k8 (by decide); have qk9 := lv_neT (a := 7) k9 (by decide); have qk10 := lv_neT (a := 8) k10 (by decide); have qk11 := lv_neT (a := 9) k11 (by decide); have qk12 := lv_neT (a := 10) k12 (by decide); have qk13 := lv_neT (a := 11) k13 (by decide); have qk14 := lv_neT (a := 12) k14 (by decide); have qk15 := lv_neT (a := 13) k15 (by decide); have qk16 := lv_neT (a := 14) k16 (by decide); have qk17 := lv_neT (a := 15) k17 (by decide); have qk18 := lv_neT (a := 16) k18 (by decide); have qk19 := lv_neT (a := 17) k19 (by decide); have qk20 := lv_neT (a := 18) k20 (by decide); have qk21 := lv_neT (a := 19) k21 (by decide); have qk22 := lv_neT (a := 20) k22 (by decide); have qk23 := lv_neT (a := 21) k23 (by decide); have qk24 := lv_neT (a := 22) k24 (by decide); have qk25 := lv_neT (a := 23) k25 (by decide); have qk26 := lv_neT (a := 24) k26 (by decide); have qk27 := lv_neT (a := 25) k27 (by decide); omega) (by decide) ?_
  refine lv_bipush (v := 11) hx hb dModel_look_371 (by decide) ?_
  exact hE _ _ _ _ _ hS ⟨σ, F, nu, hM, hZ, hF, hL, (fun h9 => absurd (show (0 : Int32) < 11 by decide) h9)⟩ dModel_look_373
