theorem qw_d4a57461ea : (Cond.fieldLink R_Model 9 R_Model "place" "I") ∈ bs_W0 := bs_in (in_tables_1_5 (List.mem_of_getElem? (i := 154) rfl)) rfl
set_option maxHeartbeats 4000000 in
set_option maxRecDepth 100000 in
theorem m_wrong (l : Launch) (γ : gE) (a : Nat) (B : Nat → Nat) (Z : Nat → Prop) (κ b mn : Nat → Nat) (ν : Nat → Int32) (τ : Nat → Nat → Int32) (σ : Nat → Int32) (F : Nat → Nat → Int32) (nu : Nat → Int64) (hT : ST κ b mn ν τ) (x1 : Int32) (x2 : Int32) (hF : FD σ) : MU l yModel_wrong bModel_wrong 3 (some .int) 0 0 0 0 [.ref a, .int x1, .int x2] γ Z (MD γ a B Z ν τ σ F nu) (mQi (fun r H => ∃ σ' : Nat → Int32, MD γ a B Z ν τ σ' F nu H ∧ FD σ' ∧ σ' 0 = σ 0) Z) := by
  refine mu_openI (by decide) (Nat.le_of_ble_eq_true rfl) ?_
  intro p e s m args below meth c ls Q S hnm hC hA hM hE hl
  have hS : va_S Z s.heap s.heap [] := va_S.rf
  obtain ⟨hx, hb, hml, hown, hW⟩ := id S
  obtain ⟨⟨hs0, hs1, hs2, hs3, hs4, hs5, hs6⟩, ⟨hv6, hv8, hv21, hv24, hv30, hv31⟩, hTR, hTY, hOB, hNM⟩ := id hT
  have hl : lv_has ls 3 [(0, .ref a), (1, .int x1), (2, .int x2)] := hl
  refine lv_aload_n hx hb dModel_wrong_0 rfl (lv_at hl 0 rfl) ?_
  refine lv_iload_n hx hb dModel_wrong_1 rfl (lv_at hl 1 rfl) ?_
  refine md_pD S hC hM hS 1 rfl (by decide) rfl qw_d4a57461ea rfl (by decide +kernel) dModel_wrong_2 (fun H locs hM hS => ?_)
  obtain ⟨σ1, eσ1⟩ : ∃ z : Nat → Int32, z = upd σ 1 x1 := ⟨_, rfl⟩
  rw [← eσ1] at hM
  have hF : FD σ1 := hF.up eσ1 (by decide) (by decide)
  refine lv_iload_n hx hb dModel_wrong_5 rfl (lv_at hl 2 rfl) ?_
  refine lv_ineg hx hb dModel_wrong_6 ?_
  refine lv_topi (fun v2 ev2 => ?_)
  exact hE _ _ _ _ _ hS ⟨σ1, hM, hF, (by rw [eσ1, pk_un (by decide)])⟩ dModel_wrong_7
theorem qw_a6e9824456 : (Cond.methodLink R_Model 272 yModel_wrong) ∈ bs_W0 := bs_in (in_tables_1_6 (List.mem_of_getElem? (i := 199) rfl)) rfl
set_option maxHeartbeats 4000000 in
set_option maxRecDepth 100000 in
theorem m_constantFault (l : Launch) (γ : gE) (a : Nat) (B : Nat → Nat) (Z : Nat → Prop) (κ b mn : Nat → Nat) (ν : Nat → Int32) (τ : Nat → Nat → Int32) (σ : Nat → Int32) (F : Nat → Nat → Int32) (nu : Nat → Int64) (hT : ST κ b mn ν τ) (x1 : Int32) (hF : FD σ) : MU l yModel_constantFault bModel_constantFault 2 (some .int) 1 22 0 0 [.ref a, .int x1] γ Z (MD γ a B Z ν τ σ F nu) (mQi (fun r H => ∃ σ' : Nat → Int32, MD γ a B Z ν τ σ' F nu H ∧ FD σ' ∧ σ' 0 = σ 0) Z) := by
  refine mu_openI (by decide) (Nat.le_of_ble_eq_true rfl) ?_
  intro p e s m args below meth c ls Q S hnm hC hA hM hE hl
  have hS : va_S Z s.heap s.heap [] := va_S.rf
  obtain ⟨hx, hb, hml, hown, hW⟩ := id S
  obtain ⟨⟨hs0, hs1, hs2, hs3, hs4, hs5, hs6⟩, ⟨hv6, hv8, hv21, hv24, hv30, hv31⟩, hTR, hTY, hOB, hNM⟩ := id hT
  have hl : lv_has ls 2 [(0, .ref a), (1, .int x1)] := hl
  refine lv_aload_n hx hb dModel_constantFault_0 rfl (lv_at hl 0 rfl) ?_
  refine lv_iload_n hx hb dModel_constantFault_1 rfl (lv_at hl 1 rfl) ?_
  refine lv_iconst (v := 5) hx hb dModel_constantFault_2 (by decide) ?_
  refine mu_Vi (rest := []) S hC (fun q h => hA q (Nat.le_trans hS.1 h)) (fun q h => h) hS (m_wrong l γ a B Z κ b mn ν τ σ F nu hT x1 5 hF) meModel_wrong qw_a6e9824456 ⟨Nat.le_of_ble_eq_true rfl, Nat.le_of_ble_eq_true rfl⟩ (md_rv hC hM) hM rfl hl.1 rfl (Nat.le_of_ble_eq_true rfl) dModel_constantFault_3 ⟨Nat.le_refl _, Nat.le_refl _⟩ (fun r1 H locs hPO hS _ _ => ?_)
  obtain ⟨σr1, hM, hF, h0r1⟩ := hPO
  exact hE _ _ _ _ _ hS ⟨σr1, hM, hF, h0r1⟩ dModel_constantFault_6
