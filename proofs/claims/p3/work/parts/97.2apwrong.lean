theorem qw_d4a57461ea : (Cond.fieldLink R_Model 9 R_Model "place" "I") ∈ bs_W0 := bs_in (in_tables_1_5 (List.mem_of_getElem? (i := 154) rfl)) rfl
set_option maxHeartbeats 4000000 in
set_option maxRecDepth 100000 in
theorem m_wrong (l : Launch) (γ : gE) (a : Nat) (B : Nat → Nat) (Z : Nat → Prop) (κ b mn : Nat → Nat) (ν : Nat → Int32) (τ : Nat → Nat → Int32) (σ : Nat → Int32) (F : Nat → Nat → Int32) (nu : Nat → Int64) (hT : ST κ b mn ν τ) (x1 : Int32) (x2 : Int32) (hF : FD σ) : MU l yModel_wrong bModel_wrong 3 (some .int) 0 0 0 0 [.ref a, .int x1, .int x2] γ Z (MD γ a B Z ν τ σ F nu) (mQi (fun r H => ∃ σ' : Nat → Int32, MD γ a B Z ν τ σ' F nu H ∧ FD σ' ∧ σ' 0 = σ 0) Z) := by
  refine mu_openI (by decide) (Nat.le_of_ble_eq_true rfl) ?_
  intro p e s m args below meth c ls Q S hnm hC hA hM hE hl
  have hS : va_S Z s.heap s.heap [] := va_S.rf
  obtain ⟨hx, hb, hml, hown, hW⟩ := id S
  obtain ⟨⟨hs0, hs1, hs2, hs3, hs4, hs5, hs6⟩, ⟨hv6, hv8, hv21, hv24, hv30, hv31⟩, hTR, hTY, hOB, hNM⟩ := id hT
  have hl : lv_has ls 3 [(0, .ref a), (1, .int x1), (2, .int x2)] := hl
  refine lv_aload_n hx hb dModel_wrong_0 rfl (lv_at hl 0 rfl) ?_
  refine lv_iload_n hx hb dModel_wrong_1 rfl (lv_at hl 1 rfl) ?_
  refine md_pD S hC hM hS 1 rfl (by decide) rfl qw_d4a57461ea rfl (by decide +kernel) dModel_wrong_2 (fun H locs hM hS => ?_)
  obtain ⟨σ1, eσ1⟩ : ∃ z : Nat → Int32, z = upd σ 1 x1 := ⟨_, rfl⟩
  rw [← eσ1] at hM
  have hF : FD σ1 := hF.up eσ1 (by decide) (by decide)
  refine lv_iload_n hx hb dModel_wrong_5 rfl (lv_at hl 2 rfl) ?_
  refine lv_ineg hx hb dModel_wrong_6 ?_
  refine lv_topi (fun v2 ev2 => ?_)
  exact hE _ _ _ _ _ hS ⟨σ1, hM, hF, (by rw [eσ1, pk_un (by decide)])⟩ dModel_wrong_7
theorem qw_a6e9824456 : (Cond.methodLink R_Model 272 yModel_wrong) ∈ bs_W0 := bs_in (in_tables_1_6 (List.mem_of_getElem? (i := 195) rfl)) rfl
set_option maxHeartbeats 4000000 in
set_option maxRecDepth 100000 in
theorem m_constantFault (l : Launch) (γ : gE) (a : Nat) (B : Nat → Nat) (Z : Nat → Prop) (κ b mn : Nat → Nat) (ν : Nat → Int32) (τ : Nat → Nat → Int32) (σ : Nat → Int32) (F : Nat → Nat → Int32) (nu : Nat → Int64) (hT : ST κ b mn ν τ) (x1 : Int32) (hF : FD σ) : MU l yModel_constantFault bModel_constantFault 2 (some .int) 1 22 0 0 [.ref a, .int x1] γ Z (MD γ a B Z ν τ σ F nu) (mQi (fun r H => ∃ σ' : Nat → Int32, MD γ a B Z ν τ σ' F nu H ∧ FD σ' ∧ σ' 0 = σ 0) Z) := by
  refine mu_openI (by decide) (Nat.le_of_ble_eq_true rfl) ?_
  intro p e s m args below meth c ls Q S hnm hC hA hM hE hl
  have hS : va_S Z s.heap s.heap [] := va_S.rf
  obtain ⟨hx, hb, hml, hown, hW⟩ := id S
  obtain ⟨⟨hs0, hs1, hs2, hs3, hs4, hs5, hs6⟩, ⟨hv6, hv8, hv21, hv24, hv30, hv31⟩, hTR, hTY, hOB, hNM⟩ := id hT
  have hl : lv_has ls 2 [(0, .ref a), (1, .int x1)] := hl
  refine lv_aload_n hx hb dModel_constantFault_0 rfl (lv_at hl 0 rfl) ?_
  refine lv_iload_n hx hb dModel_constantFault_1 rfl (lv_at hl 1 rfl) ?_
  refine lv_iconst (v := 5) hx hb dModel_constantFault_2 (by decide) ?_
  refine mu_Vi (rest := []) S hC (fun q h => hA q (Nat.le_trans hS.1 h)) (fun q h => h) hS (m_wrong l γ a B Z κ b mn ν τ σ F nu hT x1 5 hF) meModel_wrong qw_a6e9824456 ⟨Nat.le_of_ble_eq_true rfl, Nat.le_of_ble_eq_true rfl⟩ (md_rv hC hM) hM rfl hl.1 rfl (Nat.le_of_ble_eq_true rfl) dModel_constantFault_3 ⟨Nat.le_refl _, Nat.le_refl _⟩ (fun r1 H locs hPO hS _ _ => ?_)
  obtain ⟨σr1, hM, hF, h0r1⟩ := hPO
  exact hE _ _ _ _ _ hS ⟨σr1, hM, hF, h0r1⟩ dModel_constantFault_6
theorem qw_46ebe17d7b : (Cond.methodLink R_Model 259 yModel_below) ∈ bs_W0 := bs_in (in_tables_1_6 (List.mem_of_getElem? (i := 51) rfl)) rfl
theorem qw_133a99c340 : (Cond.methodLink R_Model 263 yModel_look) ∈ bs_W0 := bs_in (in_tables_1_6 (List.mem_of_getElem? (i := 55) rfl)) rfl
set_option maxHeartbeats 4000000 in
set_option maxRecDepth 100000 in
theorem m_goThrough (l : Launch) (γ : gE) (a : Nat) (B : Nat → Nat) (Z : Nat → Prop) (κ b mn : Nat → Nat) (ν : Nat → Int32) (τ : Nat → Nat → Int32) (σ : Nat → Int32) (F : Nat → Nat → Int32) (nu : Nat → Int64) (hT : ST κ b mn ν τ) (x1 : Int32) (x2 : Int32) (hx1 : ¬ x1 < 0) (hx2 : x2.toInt < (κ 0 : Int)) (hcl : ∀ k : Nat, x1.toNatClampNeg ≤ k → (k : Int) ≤ x2.toInt → x1.toNatClampNeg ≤ b k) (hZ : SZ F) (hF : FD σ) (hG : GD F nu) : MU l yModel_goThrough bModel_goThrough 5 (some .int) 6 153 0 0 [.ref a, .int x1, .int x2] γ Z (MD γ a B Z ν τ σ F nu) (mQi (fun r H => ∃ (σ' : Nat → Int32) (F' : Nat → Nat → Int32) (nu' : Nat → Int64), MD γ a B Z ν τ σ' F' nu' H ∧ SZ F' ∧ FD σ' ∧ GD F' nu' ∧ (¬ 0 < r → ∀ j : Nat, x1.toNatClampNeg ≤ j → (j : Int) ≤ x2.toInt → ¬ hid τ b j x2.toNatClampNeg → GK j F' nu')) Z) := by
  refine mu_openI (by decide) (Nat.le_of_ble_eq_true rfl) ?_
  intro p e s m args below meth c ls Q S hnm hC hA hM hE hl
  have hS : va_S Z s.heap s.heap [] := va_S.rf
  obtain ⟨hx, hb, hml, hown, hW⟩ := id S
  obtain ⟨⟨hs0, hs1, hs2, hs3, hs4, hs5, hs6⟩, ⟨hv6, hv8, hv21, hv24, hv30, hv31⟩, hTR, hTY, hOB, hNM⟩ := id hT
  have hl : lv_has ls 5 [(0, .ref a), (1, .int x1), (2, .int x2)] := hl
  refine lv_iload_n hx hb dModel_goThrough_0 rfl (lv_at hl 1 rfl) ?_
  refine lv_istore_n (lv' := [(3, .int x1), (0, .ref a), (1, .int x1), (2, .int x2)]) hx hb dModel_goThrough_1 rfl hl (by decide) rfl (fun ls hl => ?_)
  have J2 : ∀ (N2 : Nat) (ls : Array Slot) (H : Heap) (locs : List Loc) (σ_2 : Nat → Int32) (F_2 : Nat → Nat → Int32) (nu_2 : Nat → Int64) (i3_2 : Int32), MD γ a B Z ν τ σ_2 F_2 nu_2 H → va_S Z s.heap H locs → (FD σ_2) → (GD F_2 nu_2) → (SZ F_2) → (¬ i3_2 < 0 ∧ x1.toNatClampNeg ≤ i3_2.toNatClampNeg) → (∀ j, x1.toNatClampNeg ≤ j → j < i3_2.toNatClampNeg → ¬ hid τ b j x2.toNatClampNeg → GK j F_2 nu_2) → (2147483647 - i3_2.toInt).toNat = N2 → lv_has ls 5 [(0, .ref a), (1, .int x1), (2, .int x2), (3, .int i3_2)] → W p l e (bs_rm 6 0 0 153) s m args below meth c H locs 0 0 Q (F0 m 2 ls []) := by
    intro N2
    induction N2 using Nat.strongRecOn with
    | ind N2 ih2 =>
      intro ls H locs σ_2 F_2 nu_2 i3_2 hM hS hF hG hZ hi3_2 hgd hm2 hl
      refine lv_iload_n hx hb dModel_goThrough_2 rfl (lv_at hl 3 rfl) ?_
      refine lv_iload_n hx hb dModel_goThrough_3 rfl (lv_at hl 2 rfl) ?_
      refine lv_icmp_gt (tgt := 42) hx hb dModel_goThrough_4 (by decide) (fun c1 => ?_) (fun c1 => ?_)
      · refine lv_aload_n hx hb dModel_goThrough_42 rfl (lv_at hl 0 rfl) ?_
        refine lv_iconst (v := (-1)) hx hb dModel_goThrough_43 (by decide) ?_
        refine md_pD S hC hM hS 1 rfl (by decide) rfl qw_d4a57461ea rfl (by decide +kernel) dModel_goThrough_44 (fun H locs hM hS => ?_)
        obtain ⟨σ2, eσ2⟩ : ∃ z : Nat → Int32, z = upd σ_2 1 (-1) := ⟨_, rfl⟩
        rw [← eσ2] at hM
        have hF : FD σ2 := hF.up eσ2 (by decide) (by decide)
        refine lv_iconst (v := 0) hx hb dModel_goThrough_47 (by decide) ?_
        exact hE _ _ _ _ _ hS ⟨σ2, F_2, nu_2, hM, hZ, hF, hG, (fun _ => gt_end hgd hi3_2.1 (by assumption))⟩ dModel_goThrough_48
      · obtain ⟨hin3, hle3⟩ := in_le (N := κ 0) hi3_2.1 (by assumption) hx2
        have hii := vin_int hin3
        have hlt3 : i3_2.toInt < 2147483647 := by omega
        refine lv_aload_n hx hb dModel_goThrough_7 rfl (lv_at hl 0 rfl) ?_
        refine lv_iload_n hx hb dModel_goThrough_8 rfl (lv_at hl 3 rfl) ?_
        refine lv_iload_n hx hb dModel_goThrough_9 rfl (lv_at hl 2 rfl) ?_
        refine pu_Vi (rest := []) S hC (m_below l γ a B Z κ b mn ν τ σ_2 F_2 nu_2 hT i3_2 x2 (vin (by assumption) (by omega)) (by assumption)) meModel_below qw_46ebe17d7b ⟨Nat.le_of_ble_eq_true rfl, Nat.le_of_ble_eq_true rfl⟩ (md_rv hC hM) hM rfl hl.1 rfl (Nat.le_of_ble_eq_true rfl) dModel_goThrough_10 ⟨Nat.zero_le _, Nat.zero_le _⟩ (fun r3 hr3 => ?_)
        have J36 : ∀ (ls : Array Slot) (H : Heap) (locs : List Loc) (σ_36 : Nat → Int32) (F_36 : Nat → Nat → Int32) (nu_36 : Nat → Int64), MD γ a B Z ν τ σ_36 F_36 nu_36 H → va_S Z s.heap H locs → (FD σ_36) → (GD F_36 nu_36) → (SZ F_36) → (∀ j, x1.toNatClampNeg ≤ j → j < i3_2.toNatClampNeg + 1 → ¬ hid τ b j x2.toNatClampNeg → GK j F_36 nu_36) → lv_has ls 5 [(0, .ref a), (1, .int x1), (2, .int x2), (3, .int i3_2)] → W p l e (bs_rm 6 0 0 153) s m args below meth c H locs 0 0 Q (F0 m 36 ls []) := by
          intro ls H locs σ_36 F_36 nu_36 hM hS hF hG hZ hgd2 hl
          obtain ⟨v9, ev9⟩ : ∃ y : Int32, y = i3_2 + 1 := ⟨_, rfl⟩
          refine lv_iinc (v := v9) (lv' := [(3, .int v9), (0, .ref a), (1, .int x1), (2, .int x2)]) hx hb dModel_goThrough_36 hl (k := 3) rfl (by rw [ev9]; rfl) (by decide) rfl (fun ls hl => ?_)
          refine lv_goto (tgt := 2) hx hb dModel_goThrough_39 (by decide) ?_
          exact ih2 _ (by have q1 : i3_2.toInt < 2147483647 := (by first | assumption | exact (mu_up (k := i3_2) (by assumption)).2); have q2 := mu_lt q1; rw [← ev9] at q2; omega) ls _ _ σ_36 F_36 nu_36 v9 hM hS hF hG hZ (by first | exact ⟨hx1, Nat.le_refl _⟩ | exact ⟨(ix_inc hin3 hs0 ev9).2, by rw [(ix_inc hin3 hs0 ev9).1]; omega⟩) (by rw [(ix_inc hin3 hs0 ev9).1]; exact hgd2) rfl (lv_sub hl [1, 2, 3, 0] rfl)
        refine lv_if_ne (tgt := 36) hx hb dModel_goThrough_13 (by decide) (fun c10 => ?_) (fun c10 => ?_)
        · exact J36 ls _ _ σ_2 F_2 nu_2 hM hS hF hG hZ (by first | exact gt_a hgd (bl_y hr3 (by assumption)) | exact gt_b hgd hLr5 (hRr5 (Int32.not_lt.mpr (by assumption)))) (lv_sub hl [0, 1, 2, 3] rfl)
        · have hnh := bl_n hr3 (by assumption)
          refine lv_aload_n hx hb dModel_goThrough_16 rfl (lv_at hl 0 rfl) ?_
          refine lv_iload_n hx hb dModel_goThrough_17 rfl (lv_at hl 3 rfl) ?_
          refine mu_Vi (rest := []) S hC (fun q h => hA q (Nat.le_trans hS.1 h)) (fun q h => h) hS (m_look l γ a B Z κ b mn ν τ σ_2 F_2 nu_2 hT i3_2 (vin (by assumption) (by omega)) hZ hF hG (fun h25 i hi => hgd _ (Nat.le_trans (hcl _ hi3_2.2 (by omega)) (ch_ge hTR (vix hin3) hi).1) (ch_ge hTR (vix hin3) hi).2 (hid_ch hTR (vix hin3) hi hnh h25))) meModel_look qw_133a99c340 ⟨Nat.le_of_ble_eq_true rfl, Nat.le_of_ble_eq_true rfl⟩ (md_rv hC hM) hM rfl hl.1 rfl (Nat.le_of_ble_eq_true rfl) dModel_goThrough_18 ⟨Nat.le_refl _, Nat.le_refl _⟩ (fun r11 H locs hPO hS _ _ => ?_)
          obtain ⟨σr11, Fr11, nur11, hM, hZ, hF, hLr11, hRr11⟩ := hPO
          have hG : GD Fr11 nur11 := hG.sl (by have := vix hin3; omega) hLr11
          refine lv_istore (lv' := [(4, .int r11), (0, .ref a), (1, .int x1), (2, .int x2), (3, .int i3_2)]) hx hb dModel_goThrough_21 hl (by decide) rfl (fun ls hl => ?_)
          refine lv_iload hx hb dModel_goThrough_23 (lv_at hl 0 rfl) ?_
          refine lv_if_le (tgt := 36) hx hb dModel_goThrough_25 (by decide) (fun c12 => ?_) (fun c12 => ?_)
          · exact J36 ls _ _ σr11 Fr11 nur11 hM hS hF hG hZ (by first | exact gt_a hgd (bl_y hr3 (by assumption)) | exact gt_b hgd hLr11 (hRr11 (Int32.not_lt.mpr (by assumption)))) (lv_sub hl [1, 2, 3, 4] rfl)
          · refine lv_aload_n hx hb dModel_goThrough_28 rfl (lv_at hl 1 rfl) ?_
            refine lv_iload_n hx hb dModel_goThrough_29 rfl (lv_at hl 4 rfl) ?_
            refine md_pD S hC hM hS 1 rfl (by decide) rfl qw_d4a57461ea rfl (by decide +kernel) dModel_goThrough_30 (fun H locs hM hS => ?_)
            obtain ⟨σ13, eσ13⟩ : ∃ z : Nat → Int32, z = upd σr11 1 i3_2 := ⟨_, rfl⟩
            rw [← eσ13] at hM
            have hF : FD σ13 := hF.up eσ13 (by decide) (by decide)
            refine lv_iload hx hb dModel_goThrough_33 (lv_at hl 0 rfl) ?_
            exact hE _ _ _ _ _ hS ⟨σ13, Fr11, nur11, hM, hZ, hF, hG, (fun h9 => absurd (Int32.not_le.mp (by assumption)) h9)⟩ dModel_goThrough_35
  exact J2 _ ls _ _ σ F nu x1 hM hS hF hG hZ (by first | exact ⟨hx1, Nat.le_refl _⟩ | exact ⟨(ix_inc hin3 hs0 ex1).2, by rw [(ix_inc hin3 hs0 ex1).1]; omega⟩) (fun j h8 h9 => absurd h8 (Nat.not_le.mpr h9)) rfl (lv_sub hl [1, 2, 3, 0] rfl)
theorem qw_bcd494e5c6 : (Cond.fieldLink R_Model 51 R_Model "seen" "[Z") ∈ bs_W0 := bs_in (in_tables_1_5 (List.mem_of_getElem? (i := 168) rfl)) rfl
set_option maxHeartbeats 4000000 in
set_option maxRecDepth 100000 in
theorem m_keep (l : Launch) (γ : gE) (a : Nat) (B : Nat → Nat) (Z : Nat → Prop) (κ b mn : Nat → Nat) (ν : Nat → Int32) (τ : Nat → Nat → Int32) (σ : Nat → Int32) (F : Nat → Nat → Int32) (nu : Nat → Int64) (hT : ST κ b mn ν τ) (x1 : Int32) (x2 : Int32) (hx1 : ¬ x1 < 0) (hx2 : x2.toInt < (κ 0 : Int)) (hZ : SZ F) (hG : GD F nu) (hgd : ∀ j : Nat, x1.toNatClampNeg ≤ j → (j : Int) ≤ x2.toInt → ¬ hid τ b j x2.toNatClampNeg → GK j F nu) : MU l yModel_keep bModel_keep 4 (none) 2 46 0 0 [.ref a, .int x1, .int x2] γ Z (MD γ a B Z ν τ σ F nu) (mQv (fun H => ∃ (F' : Nat → Nat → Int32) (nu' : Nat → Int64), MD γ a B Z ν τ σ F' nu' H ∧ SZ F' ∧ GD F' nu') Z) := by
  refine mu_openV (by decide) (Nat.le_of_ble_eq_true rfl) ?_
  intro p e s m args below meth c ls Q S hnm hC hA hM hE hl
  have hS : va_S Z s.heap s.heap [] := va_S.rf
  obtain ⟨hx, hb, hml, hown, hW⟩ := id S
  obtain ⟨⟨hs0, hs1, hs2, hs3, hs4, hs5, hs6⟩, ⟨hv6, hv8, hv21, hv24, hv30, hv31⟩, hTR, hTY, hOB, hNM⟩ := id hT
  have hl : lv_has ls 4 [(0, .ref a), (1, .int x1), (2, .int x2)] := hl
  refine lv_iload_n hx hb dModel_keep_0 rfl (lv_at hl 1 rfl) ?_
  refine lv_istore_n (lv' := [(3, .int x1), (0, .ref a), (1, .int x1), (2, .int x2)]) hx hb dModel_keep_1 rfl hl (by decide) rfl (fun ls hl => ?_)
  have J2 : ∀ (N2 : Nat) (ls : Array Slot) (H : Heap) (locs : List Loc) (F_2 : Nat → Nat → Int32) (nu_2 : Nat → Int64) (i3_2 : Int32), MD γ a B Z ν τ σ F_2 nu_2 H → va_S Z s.heap H locs → (GD F_2 nu_2) → (SZ F_2) → (¬ i3_2 < 0 ∧ x1.toNatClampNeg ≤ i3_2.toNatClampNeg) → (∀ j, j < 4000 → F_2 9 j = F 9 j ∧ nu_2 j = nu j) → (2147483647 - i3_2.toInt).toNat = N2 → lv_has ls 4 [(0, .ref a), (1, .int x1), (2, .int x2), (3, .int i3_2)] → W p l e (bs_rm 2 0 0 46) s m args below meth c H locs 0 0 Q (F0 m 2 ls []) := by
    intro N2
    induction N2 using Nat.strongRecOn with
    | ind N2 ih2 =>
      intro ls H locs F_2 nu_2 i3_2 hM hS hG hZ hi3_2 hlow hm2 hl
      refine lv_iload_n hx hb dModel_keep_2 rfl (lv_at hl 3 rfl) ?_
      refine lv_iload_n hx hb dModel_keep_3 rfl (lv_at hl 2 rfl) ?_
      refine lv_icmp_gt (tgt := 39) hx hb dModel_keep_4 (by decide) (fun c1 => ?_) (fun c1 => ?_)
      · exact hE _ _ _ _ hS ⟨F_2, nu_2, hM, hZ, hG⟩ dModel_keep_39
      · obtain ⟨hin3, hle3⟩ := in_le (N := κ 0) hi3_2.1 (by assumption) hx2
        have hii := vin_int hin3
        have hlt3 : i3_2.toInt < 2147483647 := by omega
        refine lv_aload_n hx hb dModel_keep_7 rfl (lv_at hl 0 rfl) ?_
        refine lv_iload_n hx hb dModel_keep_8 rfl (lv_at hl 3 rfl) ?_
        refine lv_iload_n hx hb dModel_keep_9 rfl (lv_at hl 2 rfl) ?_
        refine pu_Vi (rest := []) S hC (m_below l γ a B Z κ b mn ν τ σ F_2 nu_2 hT i3_2 x2 (vin (by assumption) (by omega)) (by assumption)) meModel_below qw_46ebe17d7b ⟨Nat.le_of_ble_eq_true rfl, Nat.le_of_ble_eq_true rfl⟩ (md_rv hC hM) hM rfl hl.1 rfl (Nat.le_of_ble_eq_true rfl) dModel_keep_10 ⟨Nat.zero_le _, Nat.zero_le _⟩ (fun r2 hr2 => ?_)
        have J33 : ∀ (ls : Array Slot) (H : Heap) (locs : List Loc) (F_33 : Nat → Nat → Int32) (nu_33 : Nat → Int64), MD γ a B Z ν τ σ F_33 nu_33 H → va_S Z s.heap H locs → (GD F_33 nu_33) → (SZ F_33) → (∀ j, j < 4000 → F_33 9 j = F 9 j ∧ nu_33 j = nu j) → lv_has ls 4 [(0, .ref a), (1, .int x1), (2, .int x2), (3, .int i3_2)] → W p l e (bs_rm 2 0 0 46) s m args below meth c H locs 0 0 Q (F0 m 33 ls []) := by
          intro ls H locs F_33 nu_33 hM hS hG hZ hlow hl
          obtain ⟨v8, ev8⟩ : ∃ y : Int32, y = i3_2 + 1 := ⟨_, rfl⟩
          refine lv_iinc (v := v8) (lv' := [(3, .int v8), (0, .ref a), (1, .int x1), (2, .int x2)]) hx hb dModel_keep_33 hl (k := 3) rfl (by rw [ev8]; rfl) (by decide) rfl (fun ls hl => ?_)
          refine lv_goto (tgt := 2) hx hb dModel_keep_36 (by decide) ?_
          exact ih2 _ (by have q1 : i3_2.toInt < 2147483647 := (by first | assumption | exact (mu_up (k := i3_2) (by assumption)).2); have q2 := mu_lt q1; rw [← ev8] at q2; omega) ls _ _ F_33 nu_33 v8 hM hS hG hZ (by first | exact ⟨hx1, Nat.le_refl _⟩ | exact ⟨(ix_inc hin3 hs0 ev8).2, by rw [(ix_inc hin3 hs0 ev8).1]; omega⟩) hlow rfl (lv_sub hl [1, 2, 3, 0] rfl)
        refine lv_if_ne (tgt := 33) hx hb dModel_keep_13 (by decide) (fun c9 => ?_) (fun c9 => ?_)
        · exact J33 ls _ _ F_2 nu_2 hM hS hG hZ (by first | assumption | exact low_au hlow eF_2 (by decide)) (lv_sub hl [0, 1, 2, 3] rfl)
        · have hnh := bl_n hr2 (by assumption)
          have hgk3 : GK i3_2.toNatClampNeg F_2 nu_2 := low_gk hlow (by have := vix hin3; omega) (hgd _ hi3_2.2 (by omega) hnh)
          refine lv_aload_n hx hb dModel_keep_16 rfl (lv_at hl 0 rfl) ?_
          refine lv_iload_n hx hb dModel_keep_17 rfl (lv_at hl 3 rfl) ?_
          refine lv_sipush (v := 4000) hx hb dModel_keep_18 (by decide) ?_
          refine lv_iload_n hx hb dModel_keep_21 rfl (lv_at hl 3 rfl) ?_
          refine lv_iadd hx hb dModel_keep_22 ?_
          refine lv_topi (fun v10 ev10 => ?_)
          have h4 := vin4 (vin hin3 (by omega)) ev10
          refine mu_Vv (rest := []) S hC (fun q h => hA q (Nat.le_trans hS.1 h)) (fun q h => h) hS (m_copy l γ a B Z κ b mn ν τ σ F_2 nu_2 hT i3_2 v10 (vin (by assumption) (by omega)) (vin h4.1 (by omega))) meModel_copy qw_7581103c83 ⟨Nat.le_of_ble_eq_true rfl, Nat.le_of_ble_eq_true rfl⟩ (md_rv hC hM) hM rfl hl.1 rfl (Nat.le_of_ble_eq_true rfl) dModel_keep_23 ⟨Nat.le_refl _, Nat.le_refl _⟩ (fun H locs hPO hS _ _ => ?_)
          obtain ⟨Fr11, nur11, hM, hqr11⟩ := hPO
          have hZ : SZ Fr11 := hZ.slt hqr11 (hZ _ (vix (vin hin3 (by omega))))
          have hG : GD Fr11 nur11 := hG.cp hqr11 hgk3
          have hlow := low_cp hlow hqr11 (by rw [h4.2]; omega)
          refine lv_aload_n hx hb dModel_keep_26 rfl (lv_at hl 0 rfl) ?_
          refine md_gA S hC hM 15 (by decide) rfl qw_bcd494e5c6 dModel_keep_27 ?_
          refine lv_iload_n hx hb dModel_keep_30 rfl (lv_at hl 3 rfl) ?_
          refine lv_iconst (v := 1) hx hb dModel_keep_31 (by decide) ?_
          refine md_zstD S hC hM hS 15 11 4000 rfl rfl (by decide) rfl rfl (vin (by assumption) (by omega)) dModel_keep_32 (fun H locs hM hS => ?_)
          obtain ⟨F12, eF12⟩ : ∃ z : Nat → Nat → Int32, z = Au Fr11 15 i3_2.toNatClampNeg (vp_nar .boolean 1) := ⟨_, rfl⟩
          rw [← eF12] at hM
          have hZ : SZ F12 := hZ.au eF12 (by decide)
          have hG : GD F12 nur11 := hG.au eF12 (by decide)
          exact J33 ls _ _ F12 nur11 hM hS hG hZ (by first | assumption | exact low_au hlow eF12 (by decide)) (lv_sub hl [0, 1, 2, 3] rfl)
  exact J2 _ ls _ _ F nu x1 hM hS hG hZ (by first | exact ⟨hx1, Nat.le_refl _⟩ | exact ⟨(ix_inc hin3 hs0 ex1).2, by rw [(ix_inc hin3 hs0 ex1).1]; omega⟩) (fun j _ => ⟨rfl, rfl⟩) rfl (lv_sub hl [1, 2, 3, 0] rfl)
set_option maxHeartbeats 4000000 in
set_option maxRecDepth 100000 in
theorem m_newType (l : Launch) (γ : gE) (a : Nat) (B : Nat → Nat) (Z : Nat → Prop) (κ b mn : Nat → Nat) (ν : Nat → Int32) (τ : Nat → Nat → Int32) (σ : Nat → Int32) (F : Nat → Nat → Int32) (nu : Nat → Int64) (hT : ST κ b mn ν τ) (x1 : Int32) (x2 : Int32) (x3 : Int32) (x4 : Int32) (x5 : Int32) (hN : κ 2 < 1000) (hrow : ROWP x1 x2 x3 x4 (vp_nar .boolean x5)) : MU l yModel_newType bModel_newType 6 (some .int) 0 0 0 0 [.ref a, .int x1, .int x2, .int x3, .int x4, .int x5] γ Z (MD γ a B Z ν τ σ F nu) (mQi (fun r H => r = nI (κ 2) ∧ ∃ (ν' : Nat → Int32) (τ' : Nat → Nat → Int32), MD γ a B Z ν' τ' σ F nu H ∧ ST (ku κ 2 (κ 2 + 1)) b mn ν' τ') Z) := by
  refine mu_openI (by decide) (Nat.le_of_ble_eq_true rfl) ?_
  intro p e s m args below meth c ls Q S hnm hC hA hM hE hl
  have hS : va_S Z s.heap s.heap [] := va_S.rf
  obtain ⟨hx, hb, hml, hown, hW⟩ := id S
  obtain ⟨⟨hs0, hs1, hs2, hs3, hs4, hs5, hs6⟩, ⟨hv6, hv8, hv21, hv24, hv30, hv31⟩, hTR, hTY, hOB, hNM⟩ := id hT
  have hl : lv_has ls 6 [(0, .ref a), (1, .int x1), (2, .int x2), (3, .int x3), (4, .int x4), (5, .int x5)] := hl
  refine lv_aload_n hx hb dModel_newType_0 rfl (lv_at hl 0 rfl) ?_
  refine md_gA S hC hM 16 (by decide) rfl qw_9bd8ea24bb dModel_newType_1 ?_
  refine lv_aload_n hx hb dModel_newType_4 rfl (lv_at hl 0 rfl) ?_
  refine md_gI S hC hM 21 (v := nI (κ 2)) hv21 (by decide) rfl qw_c82bee9e97 dModel_newType_5 ?_
  refine lv_topi (fun v1 ev1 => ?_)
  refine lv_iload_n hx hb dModel_newType_8 rfl (lv_at hl 1 rfl) ?_
  refine md_istS S hC hM hS 16 12 1000 rfl rfl (by decide) rfl rfl (vin_of ev1 (by omega) (by omega)) dModel_newType_9 (fun H locs hM hS => ?_)
  obtain ⟨τ3, eτ3⟩ : ∃ z : Nat → Nat → Int32, z = Au τ 16 v1.toNatClampNeg x1 := ⟨_, rfl⟩
  rw [← eτ3] at hM
  refine lv_aload_n hx hb dModel_newType_10 rfl (lv_at hl 0 rfl) ?_
  refine md_gA S hC hM 17 (by decide) rfl qw_94306de345 dModel_newType_11 ?_
  refine lv_aload_n hx hb dModel_newType_14 rfl (lv_at hl 0 rfl) ?_
  refine md_gI S hC hM 21 (v := nI (κ 2)) hv21 (by decide) rfl qw_c82bee9e97 dModel_newType_15 ?_
  refine lv_topi (fun v4 ev4 => ?_)
  refine lv_iload_n hx hb dModel_newType_18 rfl (lv_at hl 2 rfl) ?_
  refine md_istS S hC hM hS 17 13 1000 rfl rfl (by decide) rfl rfl (vin_of ev4 (by omega) (by omega)) dModel_newType_19 (fun H locs hM hS => ?_)
  obtain ⟨τ6, eτ6⟩ : ∃ z : Nat → Nat → Int32, z = Au τ3 17 v4.toNatClampNeg x2 := ⟨_, rfl⟩
  rw [← eτ6] at hM
  refine lv_aload_n hx hb dModel_newType_20 rfl (lv_at hl 0 rfl) ?_
  refine md_gA S hC hM 18 (by decide) rfl qw_82ee92f611 dModel_newType_21 ?_
  refine lv_aload_n hx hb dModel_newType_24 rfl (lv_at hl 0 rfl) ?_
  refine md_gI S hC hM 21 (v := nI (κ 2)) hv21 (by decide) rfl qw_c82bee9e97 dModel_newType_25 ?_
  refine lv_topi (fun v7 ev7 => ?_)
  refine lv_iload_n hx hb dModel_newType_28 rfl (lv_at hl 3 rfl) ?_
  refine md_istS S hC hM hS 18 14 1000 rfl rfl (by decide) rfl rfl (vin_of ev7 (by omega) (by omega)) dModel_newType_29 (fun H locs hM hS => ?_)
  obtain ⟨τ9, eτ9⟩ : ∃ z : Nat → Nat → Int32, z = Au τ6 18 v7.toNatClampNeg x3 := ⟨_, rfl⟩
  rw [← eτ9] at hM
  refine lv_aload_n hx hb dModel_newType_30 rfl (lv_at hl 0 rfl) ?_
  refine md_gA S hC hM 19 (by decide) rfl qw_c139dbceda dModel_newType_31 ?_
  refine lv_aload_n hx hb dModel_newType_34 rfl (lv_at hl 0 rfl) ?_
  refine md_gI S hC hM 21 (v := nI (κ 2)) hv21 (by decide) rfl qw_c82bee9e97 dModel_newType_35 ?_
  refine lv_topi (fun v10 ev10 => ?_)
  refine lv_iload hx hb dModel_newType_38 (lv_at hl 4 rfl) ?_
  refine md_istS S hC hM hS 19 15 1000 rfl rfl (by decide) rfl rfl (vin_of ev10 (by omega) (by omega)) dModel_newType_40 (fun H locs hM hS => ?_)
  obtain ⟨τ12, eτ12⟩ : ∃ z : Nat → Nat → Int32, z = Au τ9 19 v10.toNatClampNeg x4 := ⟨_, rfl⟩
  rw [← eτ12] at hM
  refine lv_aload_n hx hb dModel_newType_41 rfl (lv_at hl 0 rfl) ?_
  refine md_gA S hC hM 20 (by decide) rfl qw_1579022aeb dModel_newType_42 ?_
  refine lv_aload_n hx hb dModel_newType_45 rfl (lv_at hl 0 rfl) ?_
  refine md_gI S hC hM 21 (v := nI (κ 2)) hv21 (by decide) rfl qw_c82bee9e97 dModel_newType_46 ?_
  refine lv_topi (fun v13 ev13 => ?_)
  refine lv_iload hx hb dModel_newType_49 (lv_at hl 5 rfl) ?_
  refine md_zstS S hC hM hS 20 16 1000 rfl rfl (by decide) rfl rfl (vin_of ev13 (by omega) (by omega)) dModel_newType_51 (fun H locs hM hS => ?_)
  obtain ⟨τ15, eτ15⟩ : ∃ z : Nat → Nat → Int32, z = Au τ12 20 v13.toNatClampNeg (vp_nar .boolean x5) := ⟨_, rfl⟩
  rw [← eτ15] at hM
  refine lv_aload_n hx hb dModel_newType_52 rfl (lv_at hl 0 rfl) ?_
  refine lv_dup hx hb dModel_newType_53 rfl ?_
  refine md_gI S hC hM 21 (v := nI (κ 2)) hv21 (by decide) rfl qw_c82bee9e97 dModel_newType_54 ?_
  refine lv_topi (fun v16 ev16 => ?_)
  refine lv_iconst (v := 1) hx hb dModel_newType_57 (by decide) ?_
  refine lv_iadd hx hb dModel_newType_58 ?_
  refine lv_topi (fun v17 ev17 => ?_)
  refine md_pS S hC hM hS 21 rfl (by decide) rfl qw_c82bee9e97 rfl (by decide +kernel) dModel_newType_59 (fun H locs hM hS => ?_)
  obtain ⟨ν19, eν19⟩ : ∃ z : Nat → Int32, z = upd ν 21 v17 := ⟨_, rfl⟩
  rw [← eν19] at hM
  refine lv_aload_n hx hb dModel_newType_62 rfl (lv_at hl 0 rfl) ?_
  refine md_gI S hC hM 21 (v := ν19 21) rfl (by decide) rfl qw_c82bee9e97 dModel_newType_63 ?_
  refine lv_topi (fun v20 ev20 => ?_)
  refine lv_iconst (v := 1) hx hb dModel_newType_66 (by decide) ?_
  refine lv_isub hx hb dModel_newType_67 ?_
  refine lv_topi (fun v21 ev21 => ?_)
  exact hE _ _ _ _ _ hS ⟨(by rw [ev21, ev20, eν19, pk_us, inc_n ev16 ev17]; exact nI_pred _), _, _, hM, nt_st hT hN eτ3 eτ6 eτ9 eτ12 eτ15 (ixn ev1 (by omega)) (ixn ev4 (by omega)) (ixn ev7 (by omega)) (ixn ev10 (by omega)) (ixn ev13 (by omega)) eν19 (inc_n ev16 ev17) hrow⟩ dModel_newType_68
set_option maxHeartbeats 4000000 in
set_option maxRecDepth 100000 in
theorem m_name (l : Launch) (γ : gE) (a : Nat) (B : Nat → Nat) (Z : Nat → Prop) (κ b mn : Nat → Nat) (ν : Nat → Int32) (τ : Nat → Nat → Int32) (σ : Nat → Int32) (F : Nat → Nat → Int32) (nu : Nat → Int64) (hT : ST κ b mn ν τ) (x1 : Int32) (x2 : Int32) (x3 : Int32) (x4 : Int32) (hN : κ 4 < 3000) (hm : (x2 = 1 → ∃ o, o < 2000 ∧ x3 = nI o) ∧ (x2 = 2 → ∃ o, o ≤ 1000 ∧ x3 = nI o) ∧ (x2 = 4 → ¬ 11 < x3)) : MU l yModel_name bModel_name 5 (none) 0 0 0 0 [.ref a, .int x1, .int x2, .int x3, .int x4] γ Z (MD γ a B Z ν τ σ F nu) (mQv (fun H => ∃ (ν' : Nat → Int32) (τ' : Nat → Nat → Int32), MD γ a B Z ν' τ' σ F nu H ∧ ST (ku κ 4 (κ 4 + 1)) b mn ν' τ') Z) := by
  refine mu_openV (by decide) (Nat.le_of_ble_eq_true rfl) ?_
  intro p e s m args below meth c ls Q S hnm hC hA hM hE hl
  have hS : va_S Z s.heap s.heap [] := va_S.rf
  obtain ⟨hx, hb, hml, hown, hW⟩ := id S
  obtain ⟨⟨hs0, hs1, hs2, hs3, hs4, hs5, hs6⟩, ⟨hv6, hv8, hv21, hv24, hv30, hv31⟩, hTR, hTY, hOB, hNM⟩ := id hT
  have hl : lv_has ls 5 [(0, .ref a), (1, .int x1), (2, .int x2), (3, .int x3), (4, .int x4)] := hl
  refine lv_aload_n hx hb dModel_name_0 rfl (lv_at hl 0 rfl) ?_
  refine md_gA S hC hM 25 (by decide) rfl qw_0f8ce80864 dModel_name_1 ?_
  refine lv_aload_n hx hb dModel_name_4 rfl (lv_at hl 0 rfl) ?_
  refine md_gI S hC hM 30 (v := nI (κ 4)) hv30 (by decide) rfl qw_8d5d48b583 dModel_name_5 ?_
  refine lv_topi (fun v1 ev1 => ?_)
  refine lv_iload_n hx hb dModel_name_8 rfl (lv_at hl 1 rfl) ?_
  refine md_istS S hC hM hS 25 19 3000 rfl rfl (by decide) rfl rfl (vin_of ev1 (by omega) (by omega)) dModel_name_9 (fun H locs hM hS => ?_)
  obtain ⟨τ3, eτ3⟩ : ∃ z : Nat → Nat → Int32, z = Au τ 25 v1.toNatClampNeg x1 := ⟨_, rfl⟩
  rw [← eτ3] at hM
  refine lv_aload_n hx hb dModel_name_10 rfl (lv_at hl 0 rfl) ?_
  refine md_gA S hC hM 26 (by decide) rfl qw_e95de6bb1e dModel_name_11 ?_
  refine lv_aload_n hx hb dModel_name_14 rfl (lv_at hl 0 rfl) ?_
  refine md_gI S hC hM 30 (v := nI (κ 4)) hv30 (by decide) rfl qw_8d5d48b583 dModel_name_15 ?_
  refine lv_topi (fun v4 ev4 => ?_)
  refine lv_iload_n hx hb dModel_name_18 rfl (lv_at hl 2 rfl) ?_
  refine md_istS S hC hM hS 26 20 3000 rfl rfl (by decide) rfl rfl (vin_of ev4 (by omega) (by omega)) dModel_name_19 (fun H locs hM hS => ?_)
  obtain ⟨τ6, eτ6⟩ : ∃ z : Nat → Nat → Int32, z = Au τ3 26 v4.toNatClampNeg x2 := ⟨_, rfl⟩
  rw [← eτ6] at hM
  refine lv_aload_n hx hb dModel_name_20 rfl (lv_at hl 0 rfl) ?_
  refine md_gA S hC hM 27 (by decide) rfl qw_5b2f86bc41 dModel_name_21 ?_
  refine lv_aload_n hx hb dModel_name_24 rfl (lv_at hl 0 rfl) ?_
  refine md_gI S hC hM 30 (v := nI (κ 4)) hv30 (by decide) rfl qw_8d5d48b583 dModel_name_25 ?_
  refine lv_topi (fun v7 ev7 => ?_)
  refine lv_iload_n hx hb dModel_name_28 rfl (lv_at hl 3 rfl) ?_
  refine md_istS S hC hM hS 27 21 3000 rfl rfl (by decide) rfl rfl (vin_of ev7 (by omega) (by omega)) dModel_name_29 (fun H locs hM hS => ?_)
  obtain ⟨τ9, eτ9⟩ : ∃ z : Nat → Nat → Int32, z = Au τ6 27 v7.toNatClampNeg x3 := ⟨_, rfl⟩
  rw [← eτ9] at hM
  refine lv_aload_n hx hb dModel_name_30 rfl (lv_at hl 0 rfl) ?_
  refine md_gA S hC hM 28 (by decide) rfl qw_73fdadc701 dModel_name_31 ?_
  refine lv_aload_n hx hb dModel_name_34 rfl (lv_at hl 0 rfl) ?_
  refine md_gI S hC hM 30 (v := nI (κ 4)) hv30 (by decide) rfl qw_8d5d48b583 dModel_name_35 ?_
  refine lv_topi (fun v10 ev10 => ?_)
  refine lv_iload hx hb dModel_name_38 (lv_at hl 4 rfl) ?_
  refine md_istS S hC hM hS 28 22 3000 rfl rfl (by decide) rfl rfl (vin_of ev10 (by omega) (by omega)) dModel_name_40 (fun H locs hM hS => ?_)
  obtain ⟨τ12, eτ12⟩ : ∃ z : Nat → Nat → Int32, z = Au τ9 28 v10.toNatClampNeg x4 := ⟨_, rfl⟩
  rw [← eτ12] at hM
  refine lv_aload_n hx hb dModel_name_41 rfl (lv_at hl 0 rfl) ?_
  refine md_gA S hC hM 29 (by decide) rfl qw_6551c8877a dModel_name_42 ?_
  refine lv_aload_n hx hb dModel_name_45 rfl (lv_at hl 0 rfl) ?_
  refine md_gI S hC hM 30 (v := nI (κ 4)) hv30 (by decide) rfl qw_8d5d48b583 dModel_name_46 ?_
  refine lv_topi (fun v13 ev13 => ?_)
  refine lv_aload_n hx hb dModel_name_49 rfl (lv_at hl 0 rfl) ?_
  refine md_gI S hC hM 31 (v := nI (κ 5)) hv31 (by decide) rfl qw_e3979b88d4 dModel_name_50 ?_
  refine lv_topi (fun v14 ev14 => ?_)
  refine md_istS S hC hM hS 29 23 3000 rfl rfl (by decide) rfl rfl (vin_of ev13 (by omega) (by omega)) dModel_name_53 (fun H locs hM hS => ?_)
  obtain ⟨τ16, eτ16⟩ : ∃ z : Nat → Nat → Int32, z = Au τ12 29 v13.toNatClampNeg v14 := ⟨_, rfl⟩
  rw [← eτ16] at hM
  refine lv_aload_n hx hb dModel_name_54 rfl (lv_at hl 0 rfl) ?_
  refine lv_dup hx hb dModel_name_55 rfl ?_
  refine md_gI S hC hM 30 (v := nI (κ 4)) hv30 (by decide) rfl qw_8d5d48b583 dModel_name_56 ?_
  refine lv_topi (fun v17 ev17 => ?_)
  refine lv_iconst (v := 1) hx hb dModel_name_59 (by decide) ?_
  refine lv_iadd hx hb dModel_name_60 ?_
  refine lv_topi (fun v18 ev18 => ?_)
  refine md_pS S hC hM hS 30 rfl (by decide) rfl qw_8d5d48b583 rfl (by decide +kernel) dModel_name_61 (fun H locs hM hS => ?_)
  obtain ⟨ν20, eν20⟩ : ∃ z : Nat → Int32, z = upd ν 30 v18 := ⟨_, rfl⟩
  rw [← eν20] at hM
  exact hE _ _ _ _ hS ⟨_, _, hM, nm_st hT hN eτ3 eτ6 eτ9 eτ12 eτ16 (ixn ev4 (by omega)) (ixn ev7 (by omega)) eν20 (inc_n ev17 ev18) hm⟩ dModel_name_64
