def Q_wrong (κ : Nat → Nat) (τ : gf) (σ : Nat → Int32) (F : gf) (nu : gg) (x1 : Int32) (x2 : Int32) : Int32 × (Nat → Int32) × gf × gg := ((-x2), (upd σ 1 x1), F, nu)
set_option maxHeartbeats 4000000 in
set_option maxRecDepth 100000 in
theorem n_wrong (l : Launch) (γ : gE) (a : Nat) (B : Nat → Nat) (Z : Nat → Prop) (κ b mn : Nat → Nat) (ν : Nat → Int32) (τ : Nat → Nat → Int32) (σ : Nat → Int32) (F : Nat → Nat → Int32) (nu : Nat → Int64) (hT : ST κ b mn ν τ) (x1 : Int32) (x2 : Int32) (hF : FD σ) : MU l yModel_wrong bModel_wrong 3 (some .int) 0 0 0 0 [.ref a, .int x1, .int x2] γ Z (MD γ a B Z ν τ σ F nu) (mQi (fun r H => ∃ σ' : Nat → Int32, Oq (Q_wrong κ τ σ F nu x1 x2) (r, σ', F, nu) ∧ MD γ a B Z ν τ σ' F nu H ∧ FD σ' ∧ σ' 0 = σ 0) Z) := by
  refine mu_openI (by decide) (Nat.le_of_ble_eq_true rfl) ?_
  intro p e s m args below meth c ls Q S hnm hC hA hM hE hl
  have hS : va_S Z s.heap s.heap [] := va_S.rf
  obtain ⟨hx, hb, hml, hown, hW⟩ := id S
  obtain ⟨⟨hs0, hs1, hs2, hs3, hs4, hs5, hs6⟩, ⟨hv6, hv8, hv21, hv24, hv30, hv31⟩, hTR, hTY, hOB, hNM⟩ := id hT
  have hl : lv_has ls 3 [(0, .ref a), (1, .int x1), (2, .int x2)] := hl
  obtain ⟨OUT, hQ, hO⟩ : ∃ z, (z = Q_wrong κ τ σ F nu x1 x2) ∧ Oq z (Q_wrong κ τ σ F nu x1 x2) := ⟨_, rfl, rfl⟩
  rw [← hQ] at hE
  clear hQ
  refine lv_aload_n hx hb dModel_wrong_0 rfl (lv_at hl 0 rfl) ?_
  refine lv_iload_n hx hb dModel_wrong_1 rfl (lv_at hl 1 rfl) ?_
  refine md_pD S hC hM hS 1 rfl (by decide) rfl qw_d4a57461ea rfl (by decide +kernel) dModel_wrong_2 (fun H locs hM hS => ?_)
  obtain ⟨σ1, eσ1⟩ : ∃ z : Nat → Int32, z = upd σ 1 x1 := ⟨_, rfl⟩
  rw [← eσ1] at hM
  have hF : FD σ1 := hF.up eσ1 (by decide) (by decide)
  refine lv_iload_n hx hb dModel_wrong_5 rfl (lv_at hl 2 rfl) ?_
  refine lv_ineg hx hb dModel_wrong_6 ?_
  refine lv_topi (fun v2 ev2 => ?_)
  exact hE _ _ _ _ _ hS ⟨σ1, (by subst ev2 eσ1; exact hO.tr rfl), hM, hF, (by rw [eσ1, pk_un (by decide)])⟩ dModel_wrong_7
def Q_constantFault (κ : Nat → Nat) (τ : gf) (σ : Nat → Int32) (F : gf) (nu : gg) (x1 : Int32) : Int32 × (Nat → Int32) × gf × gg := ((Q_wrong κ τ σ F nu x1 5).1, ((Q_wrong κ τ σ F nu x1 5).2.1), F, nu)
set_option maxHeartbeats 4000000 in
set_option maxRecDepth 100000 in
theorem n_constantFault (l : Launch) (γ : gE) (a : Nat) (B : Nat → Nat) (Z : Nat → Prop) (κ b mn : Nat → Nat) (ν : Nat → Int32) (τ : Nat → Nat → Int32) (σ : Nat → Int32) (F : Nat → Nat → Int32) (nu : Nat → Int64) (hT : ST κ b mn ν τ) (x1 : Int32) (hF : FD σ) : MU l yModel_constantFault bModel_constantFault 2 (some .int) 1 22 0 0 [.ref a, .int x1] γ Z (MD γ a B Z ν τ σ F nu) (mQi (fun r H => ∃ σ' : Nat → Int32, Oq (Q_constantFault κ τ σ F nu x1) (r, σ', F, nu) ∧ MD γ a B Z ν τ σ' F nu H ∧ FD σ' ∧ σ' 0 = σ 0) Z) := by
  refine mu_openI (by decide) (Nat.le_of_ble_eq_true rfl) ?_
  intro p e s m args below meth c ls Q S hnm hC hA hM hE hl
  have hS : va_S Z s.heap s.heap [] := va_S.rf
  obtain ⟨hx, hb, hml, hown, hW⟩ := id S
  obtain ⟨⟨hs0, hs1, hs2, hs3, hs4, hs5, hs6⟩, ⟨hv6, hv8, hv21, hv24, hv30, hv31⟩, hTR, hTY, hOB, hNM⟩ := id hT
  have hl : lv_has ls 2 [(0, .ref a), (1, .int x1)] := hl
  obtain ⟨OUT, hQ, hO⟩ : ∃ z, (z = Q_constantFault κ τ σ F nu x1) ∧ Oq z (Q_constantFault κ τ σ F nu x1) := ⟨_, rfl, rfl⟩
  rw [← hQ] at hE
  clear hQ
  refine lv_aload_n hx hb dModel_constantFault_0 rfl (lv_at hl 0 rfl) ?_
  refine lv_iload_n hx hb dModel_constantFault_1 rfl (lv_at hl 1 rfl) ?_
  refine lv_iconst (v := 5) hx hb dModel_constantFault_2 (by decide) ?_
  refine mu_Vi (rest := []) S hC (fun q h => hA q (Nat.le_trans hS.1 h)) (fun q h => h) hS (n_wrong l γ a B Z κ b mn ν τ σ F nu hT x1 5 hF) meModel_wrong qw_a6e9824456 ⟨Nat.le_of_ble_eq_true rfl, Nat.le_of_ble_eq_true rfl⟩ (md_rv hC hM) hM rfl hl.1 rfl (Nat.le_of_ble_eq_true rfl) dModel_constantFault_3 ⟨Nat.le_refl _, Nat.le_refl _⟩ (fun r1 H locs hPO hS _ _ => ?_)
  obtain ⟨σr1, eOr1, hM, hF, h0r1⟩ := hPO
  have er1 : r1 = (Q_wrong κ τ σ F nu x1 5).1 := by rw [eOr1.eq]
  have eσr1 : σr1 = (Q_wrong κ τ σ F nu x1 5).2.1 := by rw [eOr1.eq]
  clear eOr1
  exact hE _ _ _ _ _ hS ⟨σr1, (by subst eσr1 er1; exact hO.tr rfl), hM, hF, h0r1⟩ dModel_constantFault_6
def Q_goThrough_36 (κ : Nat → Nat) (τ : gf) (σ : Nat → Int32) (F : gf) (nu : gg) (x1 : Int32) (x2 : Int32) (σ_2 : gs) (F_2 : gf) (nu_2 : gg) (i3_2 : Int32) (k2 : gs → gf → gg → Int32 → Int32 × (Nat → Int32) × gf × gg) (σ_36 : gs) (F_36 : gf) (nu_36 : gg) : Int32 × (Nat → Int32) × gf × gg := (k2 σ_36 F_36 nu_36 (i3_2 + 1))
def Q_goThrough_2 (κ : Nat → Nat) (τ : gf) (σ : Nat → Int32) (F : gf) (nu : gg) (x1 : Int32) (x2 : Int32) : Nat → gs → gf → gg → Int32 → Int32 × (Nat → Int32) × gf × gg
  | 0, _, _, _, _ => default
  | n + 1, σ_2, F_2, nu_2, i3_2 => (if x2 < i3_2 then (0, (upd σ_2 1 (-1)), F_2, nu_2) else (if (Q_below κ τ σ_2 F_2 nu_2 i3_2 x2) = 0 then (if ((Q_look κ τ σ_2 F_2 nu_2 i3_2).1) ≤ 0 then (Q_goThrough_36 κ τ σ F nu x1 x2 σ_2 F_2 nu_2 i3_2 (fun a0 a1 a2 a3 => Q_goThrough_2 κ τ σ F nu x1 x2  n a0 a1 a2 a3) ((Q_look κ τ σ_2 F_2 nu_2 i3_2).2.1) ((Q_look κ τ σ_2 F_2 nu_2 i3_2).2.2.1) ((Q_look κ τ σ_2 F_2 nu_2 i3_2).2.2.2)) else ((Q_look κ τ σ_2 F_2 nu_2 i3_2).1, (upd ((Q_look κ τ σ_2 F_2 nu_2 i3_2).2.1) 1 i3_2), ((Q_look κ τ σ_2 F_2 nu_2 i3_2).2.2.1), ((Q_look κ τ σ_2 F_2 nu_2 i3_2).2.2.2))) else (Q_goThrough_36 κ τ σ F nu x1 x2 σ_2 F_2 nu_2 i3_2 (fun a0 a1 a2 a3 => Q_goThrough_2 κ τ σ F nu x1 x2  n a0 a1 a2 a3) σ_2 F_2 nu_2)))
def Q_goThrough (κ : Nat → Nat) (τ : gf) (σ : Nat → Int32) (F : gf) (nu : gg) (x1 : Int32) (x2 : Int32) : Int32 × (Nat → Int32) × gf × gg := (Q_goThrough_2 κ τ σ F nu x1 x2  ((2147483647 - x1.toInt).toNat + 1) σ F nu x1)
set_option maxHeartbeats 4000000 in
set_option maxRecDepth 100000 in
theorem n_goThrough (l : Launch) (γ : gE) (a : Nat) (B : Nat → Nat) (Z : Nat → Prop) (κ b mn : Nat → Nat) (ν : Nat → Int32) (τ : Nat → Nat → Int32) (σ : Nat → Int32) (F : Nat → Nat → Int32) (nu : Nat → Int64) (hT : ST κ b mn ν τ) (x1 : Int32) (x2 : Int32) (hx1 : ¬ x1 < 0) (hx2 : x2.toInt < (κ 0 : Int)) (hcl : ∀ k : Nat, x1.toNatClampNeg ≤ k → (k : Int) ≤ x2.toInt → x1.toNatClampNeg ≤ b k) (hZ : SZ F) (hF : FD σ) (hG : GD F nu) : MU l yModel_goThrough bModel_goThrough 5 (some .int) 6 153 0 0 [.ref a, .int x1, .int x2] γ Z (MD γ a B Z ν τ σ F nu) (mQi (fun r H => ∃ (σ' : Nat → Int32) (F' : Nat → Nat → Int32) (nu' : Nat → Int64), Oq (Q_goThrough κ τ σ F nu x1 x2) (r, σ', F', nu') ∧ MD γ a B Z ν τ σ' F' nu' H ∧ SZ F' ∧ FD σ' ∧ GD F' nu' ∧ (¬ 0 < r → ∀ j : Nat, x1.toNatClampNeg ≤ j → (j : Int) ≤ x2.toInt → ¬ hid τ b j x2.toNatClampNeg → GK j F' nu')) Z) := by
  refine mu_openI (by decide) (Nat.le_of_ble_eq_true rfl) ?_
  intro p e s m args below meth c ls Q S hnm hC hA hM hE hl
  have hS : va_S Z s.heap s.heap [] := va_S.rf
  obtain ⟨hx, hb, hml, hown, hW⟩ := id S
  obtain ⟨⟨hs0, hs1, hs2, hs3, hs4, hs5, hs6⟩, ⟨hv6, hv8, hv21, hv24, hv30, hv31⟩, hTR, hTY, hOB, hNM⟩ := id hT
  have hl : lv_has ls 5 [(0, .ref a), (1, .int x1), (2, .int x2)] := hl
  obtain ⟨OUT, hQ, hO⟩ : ∃ z, (z = Q_goThrough κ τ σ F nu x1 x2) ∧ Oq z (Q_goThrough κ τ σ F nu x1 x2) := ⟨_, rfl, rfl⟩
  rw [← hQ] at hE
  clear hQ
  refine lv_iload_n hx hb dModel_goThrough_0 rfl (lv_at hl 1 rfl) ?_
  refine lv_istore_n (lv' := [(3, .int x1), (0, .ref a), (1, .int x1), (2, .int x2)]) hx hb dModel_goThrough_1 rfl hl (by decide) rfl (fun ls hl => ?_)
  have J2 : ∀ (N2 : Nat) (ls : Array Slot) (H : Heap) (locs : List Loc) (σ_2 : Nat → Int32) (F_2 : Nat → Nat → Int32) (nu_2 : Nat → Int64) (i3_2 : Int32), MD γ a B Z ν τ σ_2 F_2 nu_2 H → va_S Z s.heap H locs → (FD σ_2) → (GD F_2 nu_2) → (SZ F_2) → (¬ i3_2 < 0 ∧ x1.toNatClampNeg ≤ i3_2.toNatClampNeg) → (∀ j, x1.toNatClampNeg ≤ j → j < i3_2.toNatClampNeg → ¬ hid τ b j x2.toNatClampNeg → GK j F_2 nu_2) → (Oq OUT (Q_goThrough_2 κ τ σ F nu x1 x2  (N2 + 1) σ_2 F_2 nu_2 i3_2)) → (2147483647 - i3_2.toInt).toNat = N2 → lv_has ls 5 [(0, .ref a), (1, .int x1), (2, .int x2), (3, .int i3_2)] → W p l e (bs_rm 6 0 0 153) s m args below meth c H locs 0 0 Q (F0 m 2 ls []) := by
    intro N2
    induction N2 using Nat.strongRecOn with
    | ind N2 ih2 =>
      intro ls H locs σ_2 F_2 nu_2 i3_2 hM hS hF hG hZ hi3_2 hgd hO hm2 hl
      refine lv_iload_n hx hb dModel_goThrough_2 rfl (lv_at hl 3 rfl) ?_
      refine lv_iload_n hx hb dModel_goThrough_3 rfl (lv_at hl 2 rfl) ?_
      refine lv_icmp_gt (tgt := 42) hx hb dModel_goThrough_4 (by decide) (fun c1 => ?_) (fun c1 => ?_)
      · refine lv_aload_n hx hb dModel_goThrough_42 rfl (lv_at hl 0 rfl) ?_
        refine lv_iconst (v := (-1)) hx hb dModel_goThrough_43 (by decide) ?_
        refine md_pD S hC hM hS 1 rfl (by decide) rfl qw_d4a57461ea rfl (by decide +kernel) dModel_goThrough_44 (fun H locs hM hS => ?_)
        obtain ⟨σ2, eσ2⟩ : ∃ z : Nat → Int32, z = upd σ_2 1 (-1) := ⟨_, rfl⟩
        rw [← eσ2] at hM
        have hF : FD σ2 := hF.up eσ2 (by decide) (by decide)
        refine lv_iconst (v := 0) hx hb dModel_goThrough_47 (by decide) ?_
        exact hE _ _ _ _ _ hS ⟨σ2, F_2, nu_2, (by subst eσ2; exact hO.tr (if_pos c1)), hM, hZ, hF, hG, (fun _ => gt_end hgd hi3_2.1 (by assumption))⟩ dModel_goThrough_48
      · obtain ⟨hin3, hle3⟩ := in_le (N := κ 0) hi3_2.1 (by assumption) hx2
        have hii := vin_int hin3
        have hlt3 : i3_2.toInt < 2147483647 := by omega
        refine lv_aload_n hx hb dModel_goThrough_7 rfl (lv_at hl 0 rfl) ?_
        refine lv_iload_n hx hb dModel_goThrough_8 rfl (lv_at hl 3 rfl) ?_
        refine lv_iload_n hx hb dModel_goThrough_9 rfl (lv_at hl 2 rfl) ?_
        refine pu_Vi (rest := []) S hC (n_below l γ a B Z κ b mn ν τ σ_2 F_2 nu_2 hT i3_2 x2 (vin (by assumption) (by omega)) (by assumption)) meModel_below qw_46ebe17d7b ⟨Nat.le_of_ble_eq_true rfl, Nat.le_of_ble_eq_true rfl⟩ (md_rv hC hM) hM rfl hl.1 rfl (Nat.le_of_ble_eq_true rfl) dModel_goThrough_10 ⟨Nat.zero_le _, Nat.zero_le _⟩ (fun r3 hr3 => ?_)
        obtain ⟨hr3, er3⟩ := hr3
        have J36 : ∀ (ls : Array Slot) (H : Heap) (locs : List Loc) (σ_36 : Nat → Int32) (F_36 : Nat → Nat → Int32) (nu_36 : Nat → Int64), MD γ a B Z ν τ σ_36 F_36 nu_36 H → va_S Z s.heap H locs → (FD σ_36) → (GD F_36 nu_36) → (SZ F_36) → (∀ j, x1.toNatClampNeg ≤ j → j < i3_2.toNatClampNeg + 1 → ¬ hid τ b j x2.toNatClampNeg → GK j F_36 nu_36) → (Oq OUT (Q_goThrough_36 κ τ σ F nu x1 x2 σ_2 F_2 nu_2 i3_2 (fun a0 a1 a2 a3 => Q_goThrough_2 κ τ σ F nu x1 x2  N2 a0 a1 a2 a3)  σ_36 F_36 nu_36)) → lv_has ls 5 [(0, .ref a), (1, .int x1), (2, .int x2), (3, .int i3_2)] → W p l e (bs_rm 6 0 0 153) s m args below meth c H locs 0 0 Q (F0 m 36 ls []) := by
          intro ls H locs σ_36 F_36 nu_36 hM hS hF hG hZ hgd2 hO hl
          obtain ⟨v9, ev9⟩ : ∃ y : Int32, y = i3_2 + 1 := ⟨_, rfl⟩
          refine lv_iinc (v := v9) (lv' := [(3, .int v9), (0, .ref a), (1, .int x1), (2, .int x2)]) hx hb dModel_goThrough_36 hl (k := 3) rfl (by rw [ev9]; rfl) (by decide) rfl (fun ls hl => ?_)
          refine lv_goto (tgt := 2) hx hb dModel_goThrough_39 (by decide) ?_
          exact ih2 _ (by have q1 : i3_2.toInt < 2147483647 := (by first | assumption | exact (mu_up (k := i3_2) (by assumption)).2); have q2 := mu_lt q1; rw [← ev9] at q2; omega) ls _ _ σ_36 F_36 nu_36 v9 hM hS hF hG hZ (by first | exact ⟨hx1, Nat.le_refl _⟩ | exact ⟨(ix_inc hin3 hs0 ev9).2, by rw [(ix_inc hin3 hs0 ev9).1]; omega⟩) (by rw [(ix_inc hin3 hs0 ev9).1]; exact hgd2) (by have hN : N2 = (2147483647 - v9.toInt).toNat + 1 := (by have q1 : i3_2.toInt < 2147483647 := (by first | assumption | exact (mu_up (k := i3_2) (by assumption)).2); have q2 := mu_lt q1; rw [← ev9] at q2; omega); rw [← hN]; clear hN; subst ev9 er3; exact hO.tr rfl) rfl (lv_sub hl [1, 2, 3, 0] rfl)
        refine lv_if_ne (tgt := 36) hx hb dModel_goThrough_13 (by decide) (fun c10 => ?_) (fun c10 => ?_)
        · exact J36 ls _ _ σ_2 F_2 nu_2 hM hS hF hG hZ (by first | exact gt_a hgd (bl_y hr3 (by assumption)) | exact gt_b hgd hLr5 (hRr5 (Int32.not_lt.mpr (by assumption)))) (by subst er3; exact hO.tr ((if_neg c1).trans (if_neg c10))) (lv_sub hl [0, 1, 2, 3] rfl)
        · have hnh := bl_n hr3 (by assumption)
          refine lv_aload_n hx hb dModel_goThrough_16 rfl (lv_at hl 0 rfl) ?_
          refine lv_iload_n hx hb dModel_goThrough_17 rfl (lv_at hl 3 rfl) ?_
          refine mu_Vi (rest := []) S hC (fun q h => hA q (Nat.le_trans hS.1 h)) (fun q h => h) hS (n_look l γ a B Z κ b mn ν τ σ_2 F_2 nu_2 hT i3_2 (vin (by assumption) (by omega)) hZ hF hG (fun h25 i hi => hgd _ (Nat.le_trans (hcl _ hi3_2.2 (by omega)) (ch_ge hTR (vix hin3) hi).1) (ch_ge hTR (vix hin3) hi).2 (hid_ch hTR (vix hin3) hi hnh h25))) meModel_look qw_133a99c340 ⟨Nat.le_of_ble_eq_true rfl, Nat.le_of_ble_eq_true rfl⟩ (md_rv hC hM) hM rfl hl.1 rfl (Nat.le_of_ble_eq_true rfl) dModel_goThrough_18 ⟨Nat.le_refl _, Nat.le_refl _⟩ (fun r11 H locs hPO hS _ _ => ?_)
          obtain ⟨σr11, Fr11, nur11, eOr11, hM, hZ, hF, hLr11, hRr11⟩ := hPO
          have er11 : r11 = (Q_look κ τ σ_2 F_2 nu_2 i3_2).1 := by rw [eOr11.eq]
          have eσr11 : σr11 = (Q_look κ τ σ_2 F_2 nu_2 i3_2).2.1 := by rw [eOr11.eq]
          have eFr11 : Fr11 = (Q_look κ τ σ_2 F_2 nu_2 i3_2).2.2.1 := by rw [eOr11.eq]
          have enur11 : nur11 = (Q_look κ τ σ_2 F_2 nu_2 i3_2).2.2.2 := by rw [eOr11.eq]
          clear eOr11
          have hG : GD Fr11 nur11 := hG.sl (by have := vix hin3; omega) hLr11
          refine lv_istore (lv' := [(4, .int r11), (0, .ref a), (1, .int x1), (2, .int x2), (3, .int i3_2)]) hx hb dModel_goThrough_21 hl (by decide) rfl (fun ls hl => ?_)
          refine lv_iload hx hb dModel_goThrough_23 (lv_at hl 0 rfl) ?_
          refine lv_if_le (tgt := 36) hx hb dModel_goThrough_25 (by decide) (fun c12 => ?_) (fun c12 => ?_)
          · exact J36 ls _ _ σr11 Fr11 nur11 hM hS hF hG hZ (by first | exact gt_a hgd (bl_y hr3 (by assumption)) | exact gt_b hgd hLr11 (hRr11 (Int32.not_lt.mpr (by assumption)))) (by subst enur11 eFr11 eσr11 er11 er3; exact hO.tr ((if_neg c1).trans ((if_pos c10).trans (if_pos c12)))) (lv_sub hl [1, 2, 3, 4] rfl)
          · refine lv_aload_n hx hb dModel_goThrough_28 rfl (lv_at hl 1 rfl) ?_
            refine lv_iload_n hx hb dModel_goThrough_29 rfl (lv_at hl 4 rfl) ?_
            refine md_pD S hC hM hS 1 rfl (by decide) rfl qw_d4a57461ea rfl (by decide +kernel) dModel_goThrough_30 (fun H locs hM hS => ?_)
            obtain ⟨σ13, eσ13⟩ : ∃ z : Nat → Int32, z = upd σr11 1 i3_2 := ⟨_, rfl⟩
            rw [← eσ13] at hM
            have hF : FD σ13 := hF.up eσ13 (by decide) (by decide)
            refine lv_iload hx hb dModel_goThrough_33 (lv_at hl 0 rfl) ?_
            exact hE _ _ _ _ _ hS ⟨σ13, Fr11, nur11, (by subst eσ13 enur11 eFr11 eσr11 er11 er3; exact hO.tr ((if_neg c1).trans ((if_pos c10).trans (if_neg c12)))), hM, hZ, hF, hG, (fun h9 => absurd (Int32.not_le.mp (by assumption)) h9)⟩ dModel_goThrough_35
  exact J2 _ ls _ _ σ F nu x1 hM hS hF hG hZ (by first | exact ⟨hx1, Nat.le_refl _⟩ | exact ⟨(ix_inc hin3 hs0 ex1).2, by rw [(ix_inc hin3 hs0 ex1).1]; omega⟩) (fun j h8 h9 => absurd h8 (Nat.not_le.mpr h9)) (by exact hO.tr rfl) rfl (lv_sub hl [1, 2, 3, 0] rfl)
def Q_keep_33 (κ : Nat → Nat) (τ : gf) (σ : Nat → Int32) (F : gf) (nu : gg) (x1 : Int32) (x2 : Int32) (F_2 : gf) (nu_2 : gg) (i3_2 : Int32) (k2 : gf → gg → Int32 → (Nat → Int32) × gf × gg) (F_33 : gf) (nu_33 : gg) : (Nat → Int32) × gf × gg := (k2 F_33 nu_33 (i3_2 + 1))
def Q_keep_2 (κ : Nat → Nat) (τ : gf) (σ : Nat → Int32) (F : gf) (nu : gg) (x1 : Int32) (x2 : Int32) : Nat → gf → gg → Int32 → (Nat → Int32) × gf × gg
  | 0, _, _, _ => default
  | n + 1, F_2, nu_2, i3_2 => (if x2 < i3_2 then (σ, F_2, nu_2) else (if (Q_below κ τ σ F_2 nu_2 i3_2 x2) = 0 then (Q_keep_33 κ τ σ F nu x1 x2 F_2 nu_2 i3_2 (fun a0 a1 a2 => Q_keep_2 κ τ σ F nu x1 x2  n a0 a1 a2) (Au ((Q_copy κ τ σ F_2 nu_2 i3_2 (4000 + i3_2)).2.1) 15 i3_2.toNatClampNeg (vp_nar .boolean 1)) ((Q_copy κ τ σ F_2 nu_2 i3_2 (4000 + i3_2)).2.2)) else (Q_keep_33 κ τ σ F nu x1 x2 F_2 nu_2 i3_2 (fun a0 a1 a2 => Q_keep_2 κ τ σ F nu x1 x2  n a0 a1 a2) F_2 nu_2)))
def Q_keep (κ : Nat → Nat) (τ : gf) (σ : Nat → Int32) (F : gf) (nu : gg) (x1 : Int32) (x2 : Int32) : (Nat → Int32) × gf × gg := (Q_keep_2 κ τ σ F nu x1 x2  ((2147483647 - x1.toInt).toNat + 1) F nu x1)
set_option maxHeartbeats 4000000 in
set_option maxRecDepth 100000 in
theorem n_keep (l : Launch) (γ : gE) (a : Nat) (B : Nat → Nat) (Z : Nat → Prop) (κ b mn : Nat → Nat) (ν : Nat → Int32) (τ : Nat → Nat → Int32) (σ : Nat → Int32) (F : Nat → Nat → Int32) (nu : Nat → Int64) (hT : ST κ b mn ν τ) (x1 : Int32) (x2 : Int32) (hx1 : ¬ x1 < 0) (hx2 : x2.toInt < (κ 0 : Int)) (hZ : SZ F) (hG : GD F nu) (hgd : ∀ j : Nat, x1.toNatClampNeg ≤ j → (j : Int) ≤ x2.toInt → ¬ hid τ b j x2.toNatClampNeg → GK j F nu) : MU l yModel_keep bModel_keep 4 (none) 2 46 0 0 [.ref a, .int x1, .int x2] γ Z (MD γ a B Z ν τ σ F nu) (mQv (fun H => ∃ (F' : Nat → Nat → Int32) (nu' : Nat → Int64), Oq (Q_keep κ τ σ F nu x1 x2) (σ, F', nu') ∧ MD γ a B Z ν τ σ F' nu' H ∧ SZ F' ∧ GD F' nu') Z) := by
  refine mu_openV (by decide) (Nat.le_of_ble_eq_true rfl) ?_
  intro p e s m args below meth c ls Q S hnm hC hA hM hE hl
  have hS : va_S Z s.heap s.heap [] := va_S.rf
  obtain ⟨hx, hb, hml, hown, hW⟩ := id S
  obtain ⟨⟨hs0, hs1, hs2, hs3, hs4, hs5, hs6⟩, ⟨hv6, hv8, hv21, hv24, hv30, hv31⟩, hTR, hTY, hOB, hNM⟩ := id hT
  have hl : lv_has ls 4 [(0, .ref a), (1, .int x1), (2, .int x2)] := hl
  obtain ⟨OUT, hQ, hO⟩ : ∃ z, (z = Q_keep κ τ σ F nu x1 x2) ∧ Oq z (Q_keep κ τ σ F nu x1 x2) := ⟨_, rfl, rfl⟩
  rw [← hQ] at hE
  clear hQ
  refine lv_iload_n hx hb dModel_keep_0 rfl (lv_at hl 1 rfl) ?_
  refine lv_istore_n (lv' := [(3, .int x1), (0, .ref a), (1, .int x1), (2, .int x2)]) hx hb dModel_keep_1 rfl hl (by decide) rfl (fun ls hl => ?_)
  have J2 : ∀ (N2 : Nat) (ls : Array Slot) (H : Heap) (locs : List Loc) (F_2 : Nat → Nat → Int32) (nu_2 : Nat → Int64) (i3_2 : Int32), MD γ a B Z ν τ σ F_2 nu_2 H → va_S Z s.heap H locs → (GD F_2 nu_2) → (SZ F_2) → (¬ i3_2 < 0 ∧ x1.toNatClampNeg ≤ i3_2.toNatClampNeg) → (∀ j, j < 4000 → F_2 9 j = F 9 j ∧ nu_2 j = nu j) → (Oq OUT (Q_keep_2 κ τ σ F nu x1 x2  (N2 + 1) F_2 nu_2 i3_2)) → (2147483647 - i3_2.toInt).toNat = N2 → lv_has ls 4 [(0, .ref a), (1, .int x1), (2, .int x2), (3, .int i3_2)] → W p l e (bs_rm 2 0 0 46) s m args below meth c H locs 0 0 Q (F0 m 2 ls []) := by
    intro N2
    induction N2 using Nat.strongRecOn with
    | ind N2 ih2 =>
      intro ls H locs F_2 nu_2 i3_2 hM hS hG hZ hi3_2 hlow hO hm2 hl
      refine lv_iload_n hx hb dModel_keep_2 rfl (lv_at hl 3 rfl) ?_
      refine lv_iload_n hx hb dModel_keep_3 rfl (lv_at hl 2 rfl) ?_
      refine lv_icmp_gt (tgt := 39) hx hb dModel_keep_4 (by decide) (fun c1 => ?_) (fun c1 => ?_)
      · exact hE _ _ _ _ hS ⟨F_2, nu_2, (by exact hO.tr (if_pos c1)), hM, hZ, hG⟩ dModel_keep_39
      · obtain ⟨hin3, hle3⟩ := in_le (N := κ 0) hi3_2.1 (by assumption) hx2
        have hii := vin_int hin3
        have hlt3 : i3_2.toInt < 2147483647 := by omega
        refine lv_aload_n hx hb dModel_keep_7 rfl (lv_at hl 0 rfl) ?_
        refine lv_iload_n hx hb dModel_keep_8 rfl (lv_at hl 3 rfl) ?_
        refine lv_iload_n hx hb dModel_keep_9 rfl (lv_at hl 2 rfl) ?_
        refine pu_Vi (rest := []) S hC (n_below l γ a B Z κ b mn ν τ σ F_2 nu_2 hT i3_2 x2 (vin (by assumption) (by omega)) (by assumption)) meModel_below qw_46ebe17d7b ⟨Nat.le_of_ble_eq_true rfl, Nat.le_of_ble_eq_true rfl⟩ (md_rv hC hM) hM rfl hl.1 rfl (Nat.le_of_ble_eq_true rfl) dModel_keep_10 ⟨Nat.zero_le _, Nat.zero_le _⟩ (fun r2 hr2 => ?_)
        obtain ⟨hr2, er2⟩ := hr2
        have J33 : ∀ (ls : Array Slot) (H : Heap) (locs : List Loc) (F_33 : Nat → Nat → Int32) (nu_33 : Nat → Int64), MD γ a B Z ν τ σ F_33 nu_33 H → va_S Z s.heap H locs → (GD F_33 nu_33) → (SZ F_33) → (∀ j, j < 4000 → F_33 9 j = F 9 j ∧ nu_33 j = nu j) → (Oq OUT (Q_keep_33 κ τ σ F nu x1 x2 F_2 nu_2 i3_2 (fun a0 a1 a2 => Q_keep_2 κ τ σ F nu x1 x2  N2 a0 a1 a2)  F_33 nu_33)) → lv_has ls 4 [(0, .ref a), (1, .int x1), (2, .int x2), (3, .int i3_2)] → W p l e (bs_rm 2 0 0 46) s m args below meth c H locs 0 0 Q (F0 m 33 ls []) := by
          intro ls H locs F_33 nu_33 hM hS hG hZ hlow hO hl
          obtain ⟨v8, ev8⟩ : ∃ y : Int32, y = i3_2 + 1 := ⟨_, rfl⟩
          refine lv_iinc (v := v8) (lv' := [(3, .int v8), (0, .ref a), (1, .int x1), (2, .int x2)]) hx hb dModel_keep_33 hl (k := 3) rfl (by rw [ev8]; rfl) (by decide) rfl (fun ls hl => ?_)
          refine lv_goto (tgt := 2) hx hb dModel_keep_36 (by decide) ?_
          exact ih2 _ (by have q1 : i3_2.toInt < 2147483647 := (by first | assumption | exact (mu_up (k := i3_2) (by assumption)).2); have q2 := mu_lt q1; rw [← ev8] at q2; omega) ls _ _ F_33 nu_33 v8 hM hS hG hZ (by first | exact ⟨hx1, Nat.le_refl _⟩ | exact ⟨(ix_inc hin3 hs0 ev8).2, by rw [(ix_inc hin3 hs0 ev8).1]; omega⟩) hlow (by have hN : N2 = (2147483647 - v8.toInt).toNat + 1 := (by have q1 : i3_2.toInt < 2147483647 := (by first | assumption | exact (mu_up (k := i3_2) (by assumption)).2); have q2 := mu_lt q1; rw [← ev8] at q2; omega); rw [← hN]; clear hN; subst ev8 er2; exact hO.tr rfl) rfl (lv_sub hl [1, 2, 3, 0] rfl)
        refine lv_if_ne (tgt := 33) hx hb dModel_keep_13 (by decide) (fun c9 => ?_) (fun c9 => ?_)
        · exact J33 ls _ _ F_2 nu_2 hM hS hG hZ (by first | assumption | exact low_au hlow eF_2 (by decide)) (by subst er2; exact hO.tr ((if_neg c1).trans (if_neg c9))) (lv_sub hl [0, 1, 2, 3] rfl)
        · have hnh := bl_n hr2 (by assumption)
          have hgk3 : GK i3_2.toNatClampNeg F_2 nu_2 := low_gk hlow (by have := vix hin3; omega) (hgd _ hi3_2.2 (by omega) hnh)
          refine lv_aload_n hx hb dModel_keep_16 rfl (lv_at hl 0 rfl) ?_
          refine lv_iload_n hx hb dModel_keep_17 rfl (lv_at hl 3 rfl) ?_
          refine lv_sipush (v := 4000) hx hb dModel_keep_18 (by decide) ?_
          refine lv_iload_n hx hb dModel_keep_21 rfl (lv_at hl 3 rfl) ?_
          refine lv_iadd hx hb dModel_keep_22 ?_
          refine lv_topi (fun v10 ev10 => ?_)
          have h4 := vin4 (vin hin3 (by omega)) ev10
          refine mu_Vv (rest := []) S hC (fun q h => hA q (Nat.le_trans hS.1 h)) (fun q h => h) hS (n_copy l γ a B Z κ b mn ν τ σ F_2 nu_2 hT i3_2 v10 (vin (by assumption) (by omega)) (vin h4.1 (by omega))) meModel_copy qw_7581103c83 ⟨Nat.le_of_ble_eq_true rfl, Nat.le_of_ble_eq_true rfl⟩ (md_rv hC hM) hM rfl hl.1 rfl (Nat.le_of_ble_eq_true rfl) dModel_keep_23 ⟨Nat.le_refl _, Nat.le_refl _⟩ (fun H locs hPO hS _ _ => ?_)
          obtain ⟨Fr11, nur11, eOr11, hM, hqr11⟩ := hPO
          have eFr11 : Fr11 = (Q_copy κ τ σ F_2 nu_2 i3_2 v10).2.1 := by rw [eOr11.eq]
          have enur11 : nur11 = (Q_copy κ τ σ F_2 nu_2 i3_2 v10).2.2 := by rw [eOr11.eq]
          clear eOr11
          have hZ : SZ Fr11 := hZ.slt hqr11 (hZ _ (vix (vin hin3 (by omega))))
          have hG : GD Fr11 nur11 := hG.cp hqr11 hgk3
          have hlow := low_cp hlow hqr11 (by rw [h4.2]; omega)
          refine lv_aload_n hx hb dModel_keep_26 rfl (lv_at hl 0 rfl) ?_
          refine md_gA S hC hM 15 (by decide) rfl qw_bcd494e5c6 dModel_keep_27 ?_
          refine lv_iload_n hx hb dModel_keep_30 rfl (lv_at hl 3 rfl) ?_
          refine lv_iconst (v := 1) hx hb dModel_keep_31 (by decide) ?_
          refine md_zstD S hC hM hS 15 11 4000 rfl rfl (by decide) rfl rfl (vin (by assumption) (by omega)) dModel_keep_32 (fun H locs hM hS => ?_)
          obtain ⟨F12, eF12⟩ : ∃ z : Nat → Nat → Int32, z = Au Fr11 15 i3_2.toNatClampNeg (vp_nar .boolean 1) := ⟨_, rfl⟩
          rw [← eF12] at hM
          have hZ : SZ F12 := hZ.au eF12 (by decide)
          have hG : GD F12 nur11 := hG.au eF12 (by decide)
          exact J33 ls _ _ F12 nur11 hM hS hG hZ (by first | assumption | exact low_au hlow eF12 (by decide)) (by subst eF12 enur11 eFr11 ev10 er2; exact hO.tr ((if_neg c1).trans (if_pos c9))) (lv_sub hl [0, 1, 2, 3] rfl)
  exact J2 _ ls _ _ F nu x1 hM hS hG hZ (by first | exact ⟨hx1, Nat.le_refl _⟩ | exact ⟨(ix_inc hin3 hs0 ex1).2, by rw [(ix_inc hin3 hs0 ex1).1]; omega⟩) (fun j _ => ⟨rfl, rfl⟩) (by exact hO.tr rfl) rfl (lv_sub hl [1, 2, 3, 0] rfl)
abbrev XQ := Int32 × (Nat → Nat) × gf × gs × gf × gg
/-- what a public call of the reference leaves, told exactly -/
def MIF (γ : gE) (a : Nat) (B : Nat → Nat) (Z : Nat → Prop) (o : XQ) (r : Int32) (H : Heap) : Prop := ∃ (κ b mn : Nat → Nat) (ν : Nat → Int32) (τ : gf) (σ : Nat → Int32) (F : gf) (nu : gg), Oq o (r, κ, τ, σ, F, nu) ∧ ST κ b mn ν τ ∧ SZ F ∧ FD σ ∧ GD F nu ∧ MD γ a B Z ν τ σ F nu H
def Q_newType (κ : Nat → Nat) (τ : gf) (σ : Nat → Int32) (F : gf) (nu : gg) (x1 : Int32) (x2 : Int32) (x3 : Int32) (x4 : Int32) (x5 : Int32) : XQ := ((((nI (κ 2)) + 1) - 1), ku κ 2 (κ 2 + 1), (Au (Au (Au (Au (Au τ 16 (nI (κ 2)).toNatClampNeg x1) 17 (nI (κ 2)).toNatClampNeg x2) 18 (nI (κ 2)).toNatClampNeg x3) 19 (nI (κ 2)).toNatClampNeg x4) 20 (nI (κ 2)).toNatClampNeg (vp_nar .boolean x5)), σ, F, nu)
set_option maxHeartbeats 4000000 in
set_option maxRecDepth 100000 in
theorem n_newType (l : Launch) (γ : gE) (a : Nat) (B : Nat → Nat) (Z : Nat → Prop) (κ b mn : Nat → Nat) (ν : Nat → Int32) (τ : Nat → Nat → Int32) (σ : Nat → Int32) (F : Nat → Nat → Int32) (nu : Nat → Int64) (hT : ST κ b mn ν τ) (x1 : Int32) (x2 : Int32) (x3 : Int32) (x4 : Int32) (x5 : Int32) (hN : κ 2 < 1000) (hrow : ROWP x1 x2 x3 x4 (vp_nar .boolean x5)) : MU l yModel_newType bModel_newType 6 (some .int) 0 0 0 0 [.ref a, .int x1, .int x2, .int x3, .int x4, .int x5] γ Z (MD γ a B Z ν τ σ F nu) (mQi (fun r H => r = nI (κ 2) ∧ ∃ (ν' : Nat → Int32) (τ' : Nat → Nat → Int32), Oq (Q_newType κ τ σ F nu x1 x2 x3 x4 x5) (r, ku κ 2 (κ 2 + 1), τ', σ, F, nu) ∧ MD γ a B Z ν' τ' σ F nu H ∧ ST (ku κ 2 (κ 2 + 1)) b mn ν' τ') Z) := by
  refine mu_openI (by decide) (Nat.le_of_ble_eq_true rfl) ?_
  intro p e s m args below meth c ls Q S hnm hC hA hM hE hl
  have hS : va_S Z s.heap s.heap [] := va_S.rf
  obtain ⟨hx, hb, hml, hown, hW⟩ := id S
  obtain ⟨⟨hs0, hs1, hs2, hs3, hs4, hs5, hs6⟩, ⟨hv6, hv8, hv21, hv24, hv30, hv31⟩, hTR, hTY, hOB, hNM⟩ := id hT
  have hl : lv_has ls 6 [(0, .ref a), (1, .int x1), (2, .int x2), (3, .int x3), (4, .int x4), (5, .int x5)] := hl
  obtain ⟨OUT, hQ, hO⟩ : ∃ z, (z = Q_newType κ τ σ F nu x1 x2 x3 x4 x5) ∧ Oq z (Q_newType κ τ σ F nu x1 x2 x3 x4 x5) := ⟨_, rfl, rfl⟩
  rw [← hQ] at hE
  clear hQ
  refine lv_aload_n hx hb dModel_newType_0 rfl (lv_at hl 0 rfl) ?_
  refine md_gA S hC hM 16 (by decide) rfl qw_9bd8ea24bb dModel_newType_1 ?_
  refine lv_aload_n hx hb dModel_newType_4 rfl (lv_at hl 0 rfl) ?_
  refine md_gI S hC hM 21 (v := nI (κ 2)) hv21 (by decide) rfl qw_c82bee9e97 dModel_newType_5 ?_
  refine lv_topi (fun v1 ev1 => ?_)
  refine lv_iload_n hx hb dModel_newType_8 rfl (lv_at hl 1 rfl) ?_
  refine md_istS S hC hM hS 16 12 1000 rfl rfl (by decide) rfl rfl (vin_of ev1 (by omega) (by omega)) dModel_newType_9 (fun H locs hM hS => ?_)
  obtain ⟨τ3, eτ3⟩ : ∃ z : Nat → Nat → Int32, z = Au τ 16 v1.toNatClampNeg x1 := ⟨_, rfl⟩
  rw [← eτ3] at hM
  refine lv_aload_n hx hb dModel_newType_10 rfl (lv_at hl 0 rfl) ?_
  refine md_gA S hC hM 17 (by decide) rfl qw_94306de345 dModel_newType_11 ?_
  refine lv_aload_n hx hb dModel_newType_14 rfl (lv_at hl 0 rfl) ?_
  refine md_gI S hC hM 21 (v := nI (κ 2)) hv21 (by decide) rfl qw_c82bee9e97 dModel_newType_15 ?_
  refine lv_topi (fun v4 ev4 => ?_)
  refine lv_iload_n hx hb dModel_newType_18 rfl (lv_at hl 2 rfl) ?_
  refine md_istS S hC hM hS 17 13 1000 rfl rfl (by decide) rfl rfl (vin_of ev4 (by omega) (by omega)) dModel_newType_19 (fun H locs hM hS => ?_)
  obtain ⟨τ6, eτ6⟩ : ∃ z : Nat → Nat → Int32, z = Au τ3 17 v4.toNatClampNeg x2 := ⟨_, rfl⟩
  rw [← eτ6] at hM
  refine lv_aload_n hx hb dModel_newType_20 rfl (lv_at hl 0 rfl) ?_
  refine md_gA S hC hM 18 (by decide) rfl qw_82ee92f611 dModel_newType_21 ?_
  refine lv_aload_n hx hb dModel_newType_24 rfl (lv_at hl 0 rfl) ?_
  refine md_gI S hC hM 21 (v := nI (κ 2)) hv21 (by decide) rfl qw_c82bee9e97 dModel_newType_25 ?_
  refine lv_topi (fun v7 ev7 => ?_)
  refine lv_iload_n hx hb dModel_newType_28 rfl (lv_at hl 3 rfl) ?_
  refine md_istS S hC hM hS 18 14 1000 rfl rfl (by decide) rfl rfl (vin_of ev7 (by omega) (by omega)) dModel_newType_29 (fun H locs hM hS => ?_)
  obtain ⟨τ9, eτ9⟩ : ∃ z : Nat → Nat → Int32, z = Au τ6 18 v7.toNatClampNeg x3 := ⟨_, rfl⟩
  rw [← eτ9] at hM
  refine lv_aload_n hx hb dModel_newType_30 rfl (lv_at hl 0 rfl) ?_
  refine md_gA S hC hM 19 (by decide) rfl qw_c139dbceda dModel_newType_31 ?_
  refine lv_aload_n hx hb dModel_newType_34 rfl (lv_at hl 0 rfl) ?_
  refine md_gI S hC hM 21 (v := nI (κ 2)) hv21 (by decide) rfl qw_c82bee9e97 dModel_newType_35 ?_
  refine lv_topi (fun v10 ev10 => ?_)
  refine lv_iload hx hb dModel_newType_38 (lv_at hl 4 rfl) ?_
  refine md_istS S hC hM hS 19 15 1000 rfl rfl (by decide) rfl rfl (vin_of ev10 (by omega) (by omega)) dModel_newType_40 (fun H locs hM hS => ?_)
  obtain ⟨τ12, eτ12⟩ : ∃ z : Nat → Nat → Int32, z = Au τ9 19 v10.toNatClampNeg x4 := ⟨_, rfl⟩
  rw [← eτ12] at hM
  refine lv_aload_n hx hb dModel_newType_41 rfl (lv_at hl 0 rfl) ?_
  refine md_gA S hC hM 20 (by decide) rfl qw_1579022aeb dModel_newType_42 ?_
  refine lv_aload_n hx hb dModel_newType_45 rfl (lv_at hl 0 rfl) ?_
  refine md_gI S hC hM 21 (v := nI (κ 2)) hv21 (by decide) rfl qw_c82bee9e97 dModel_newType_46 ?_
  refine lv_topi (fun v13 ev13 => ?_)
  refine lv_iload hx hb dModel_newType_49 (lv_at hl 5 rfl) ?_
  refine md_zstS S hC hM hS 20 16 1000 rfl rfl (by decide) rfl rfl (vin_of ev13 (by omega) (by omega)) dModel_newType_51 (fun H locs hM hS => ?_)
  obtain ⟨τ15, eτ15⟩ : ∃ z : Nat → Nat → Int32, z = Au τ12 20 v13.toNatClampNeg (vp_nar .boolean x5) := ⟨_, rfl⟩
  rw [← eτ15] at hM
  refine lv_aload_n hx hb dModel_newType_52 rfl (lv_at hl 0 rfl) ?_
  refine lv_dup hx hb dModel_newType_53 rfl ?_
  refine md_gI S hC hM 21 (v := nI (κ 2)) hv21 (by decide) rfl qw_c82bee9e97 dModel_newType_54 ?_
  refine lv_topi (fun v16 ev16 => ?_)
  refine lv_iconst (v := 1) hx hb dModel_newType_57 (by decide) ?_
  refine lv_iadd hx hb dModel_newType_58 ?_
  refine lv_topi (fun v17 ev17 => ?_)
  refine md_pS S hC hM hS 21 rfl (by decide) rfl qw_c82bee9e97 rfl (by decide +kernel) dModel_newType_59 (fun H locs hM hS => ?_)
  obtain ⟨ν19, eν19⟩ : ∃ z : Nat → Int32, z = upd ν 21 v17 := ⟨_, rfl⟩
  rw [← eν19] at hM
  refine lv_aload_n hx hb dModel_newType_62 rfl (lv_at hl 0 rfl) ?_
  refine md_gI S hC hM 21 (v := ν19 21) rfl (by decide) rfl qw_c82bee9e97 dModel_newType_63 ?_
  refine lv_topi (fun v20 ev20 => ?_)
  refine lv_iconst (v := 1) hx hb dModel_newType_66 (by decide) ?_
  refine lv_isub hx hb dModel_newType_67 ?_
  refine lv_topi (fun v21 ev21 => ?_)
  exact hE _ _ _ _ _ hS ⟨(by rw [ev21, ev20, eν19, pk_us, inc_n ev16 ev17]; exact nI_pred _), _, _, (by subst ev21 ev20 eν19 ev17 ev16 eτ15 ev13 eτ12 ev10 eτ9 ev7 eτ6 ev4 eτ3 ev1; exact hO.tr rfl), hM, nt_st hT hN eτ3 eτ6 eτ9 eτ12 eτ15 (ixn ev1 (by omega)) (ixn ev4 (by omega)) (ixn ev7 (by omega)) (ixn ev10 (by omega)) (ixn ev13 (by omega)) eν19 (inc_n ev16 ev17) hrow⟩ dModel_newType_68
def Q_name (κ : Nat → Nat) (τ : gf) (σ : Nat → Int32) (F : gf) (nu : gg) (x1 : Int32) (x2 : Int32) (x3 : Int32) (x4 : Int32) : (Nat → Nat) × gf × gs × gf × gg := (ku κ 4 (κ 4 + 1), (Au (Au (Au (Au (Au τ 25 (nI (κ 4)).toNatClampNeg x1) 26 (nI (κ 4)).toNatClampNeg x2) 27 (nI (κ 4)).toNatClampNeg x3) 28 (nI (κ 4)).toNatClampNeg x4) 29 (nI (κ 4)).toNatClampNeg (nI (κ 5))), σ, F, nu)
set_option maxHeartbeats 4000000 in
set_option maxRecDepth 100000 in
theorem n_name (l : Launch) (γ : gE) (a : Nat) (B : Nat → Nat) (Z : Nat → Prop) (κ b mn : Nat → Nat) (ν : Nat → Int32) (τ : Nat → Nat → Int32) (σ : Nat → Int32) (F : Nat → Nat → Int32) (nu : Nat → Int64) (hT : ST κ b mn ν τ) (x1 : Int32) (x2 : Int32) (x3 : Int32) (x4 : Int32) (hN : κ 4 < 3000) (hm : (x2 = 1 → ∃ o, o < 2000 ∧ x3 = nI o) ∧ (x2 = 2 → ∃ o, o ≤ 1000 ∧ x3 = nI o) ∧ (x2 = 4 → ¬ 11 < x3)) : MU l yModel_name bModel_name 5 (none) 0 0 0 0 [.ref a, .int x1, .int x2, .int x3, .int x4] γ Z (MD γ a B Z ν τ σ F nu) (mQv (fun H => ∃ (ν' : Nat → Int32) (τ' : Nat → Nat → Int32), Oq (Q_name κ τ σ F nu x1 x2 x3 x4) (ku κ 4 (κ 4 + 1), τ', σ, F, nu) ∧ MD γ a B Z ν' τ' σ F nu H ∧ ST (ku κ 4 (κ 4 + 1)) b mn ν' τ') Z) := by
  refine mu_openV (by decide) (Nat.le_of_ble_eq_true rfl) ?_
  intro p e s m args below meth c ls Q S hnm hC hA hM hE hl
  have hS : va_S Z s.heap s.heap [] := va_S.rf
  obtain ⟨hx, hb, hml, hown, hW⟩ := id S
  obtain ⟨⟨hs0, hs1, hs2, hs3, hs4, hs5, hs6⟩, ⟨hv6, hv8, hv21, hv24, hv30, hv31⟩, hTR, hTY, hOB, hNM⟩ := id hT
  have hl : lv_has ls 5 [(0, .ref a), (1, .int x1), (2, .int x2), (3, .int x3), (4, .int x4)] := hl
  obtain ⟨OUT, hQ, hO⟩ : ∃ z, (z = Q_name κ τ σ F nu x1 x2 x3 x4) ∧ Oq z (Q_name κ τ σ F nu x1 x2 x3 x4) := ⟨_, rfl, rfl⟩
  rw [← hQ] at hE
  clear hQ
  refine lv_aload_n hx hb dModel_name_0 rfl (lv_at hl 0 rfl) ?_
  refine md_gA S hC hM 25 (by decide) rfl qw_0f8ce80864 dModel_name_1 ?_
  refine lv_aload_n hx hb dModel_name_4 rfl (lv_at hl 0 rfl) ?_
  refine md_gI S hC hM 30 (v := nI (κ 4)) hv30 (by decide) rfl qw_8d5d48b583 dModel_name_5 ?_
  refine lv_topi (fun v1 ev1 => ?_)
  refine lv_iload_n hx hb dModel_name_8 rfl (lv_at hl 1 rfl) ?_
  refine md_istS S hC hM hS 25 19 3000 rfl rfl (by decide) rfl rfl (vin_of ev1 (by omega) (by omega)) dModel_name_9 (fun H locs hM hS => ?_)
  obtain ⟨τ3, eτ3⟩ : ∃ z : Nat → Nat → Int32, z = Au τ 25 v1.toNatClampNeg x1 := ⟨_, rfl⟩
  rw [← eτ3] at hM
  refine lv_aload_n hx hb dModel_name_10 rfl (lv_at hl 0 rfl) ?_
  refine md_gA S hC hM 26 (by decide) rfl qw_e95de6bb1e dModel_name_11 ?_
  refine lv_aload_n hx hb dModel_name_14 rfl (lv_at hl 0 rfl) ?_
  refine md_gI S hC hM 30 (v := nI (κ 4)) hv30 (by decide) rfl qw_8d5d48b583 dModel_name_15 ?_
  refine lv_topi (fun v4 ev4 => ?_)
  refine lv_iload_n hx hb dModel_name_18 rfl (lv_at hl 2 rfl) ?_
  refine md_istS S hC hM hS 26 20 3000 rfl rfl (by decide) rfl rfl (vin_of ev4 (by omega) (by omega)) dModel_name_19 (fun H locs hM hS => ?_)
  obtain ⟨τ6, eτ6⟩ : ∃ z : Nat → Nat → Int32, z = Au τ3 26 v4.toNatClampNeg x2 := ⟨_, rfl⟩
  rw [← eτ6] at hM
  refine lv_aload_n hx hb dModel_name_20 rfl (lv_at hl 0 rfl) ?_
  refine md_gA S hC hM 27 (by decide) rfl qw_5b2f86bc41 dModel_name_21 ?_
  refine lv_aload_n hx hb dModel_name_24 rfl (lv_at hl 0 rfl) ?_
  refine md_gI S hC hM 30 (v := nI (κ 4)) hv30 (by decide) rfl qw_8d5d48b583 dModel_name_25 ?_
  refine lv_topi (fun v7 ev7 => ?_)
  refine lv_iload_n hx hb dModel_name_28 rfl (lv_at hl 3 rfl) ?_
  refine md_istS S hC hM hS 27 21 3000 rfl rfl (by decide) rfl rfl (vin_of ev7 (by omega) (by omega)) dModel_name_29 (fun H locs hM hS => ?_)
  obtain ⟨τ9, eτ9⟩ : ∃ z : Nat → Nat → Int32, z = Au τ6 27 v7.toNatClampNeg x3 := ⟨_, rfl⟩
  rw [← eτ9] at hM
  refine lv_aload_n hx hb dModel_name_30 rfl (lv_at hl 0 rfl) ?_
  refine md_gA S hC hM 28 (by decide) rfl qw_73fdadc701 dModel_name_31 ?_
  refine lv_aload_n hx hb dModel_name_34 rfl (lv_at hl 0 rfl) ?_
  refine md_gI S hC hM 30 (v := nI (κ 4)) hv30 (by decide) rfl qw_8d5d48b583 dModel_name_35 ?_
  refine lv_topi (fun v10 ev10 => ?_)
  refine lv_iload hx hb dModel_name_38 (lv_at hl 4 rfl) ?_
  refine md_istS S hC hM hS 28 22 3000 rfl rfl (by decide) rfl rfl (vin_of ev10 (by omega) (by omega)) dModel_name_40 (fun H locs hM hS => ?_)
  obtain ⟨τ12, eτ12⟩ : ∃ z : Nat → Nat → Int32, z = Au τ9 28 v10.toNatClampNeg x4 := ⟨_, rfl⟩
  rw [← eτ12] at hM
  refine lv_aload_n hx hb dModel_name_41 rfl (lv_at hl 0 rfl) ?_
  refine md_gA S hC hM 29 (by decide) rfl qw_6551c8877a dModel_name_42 ?_
  refine lv_aload_n hx hb dModel_name_45 rfl (lv_at hl 0 rfl) ?_
  refine md_gI S hC hM 30 (v := nI (κ 4)) hv30 (by decide) rfl qw_8d5d48b583 dModel_name_46 ?_
  refine lv_topi (fun v13 ev13 => ?_)
  refine lv_aload_n hx hb dModel_name_49 rfl (lv_at hl 0 rfl) ?_
  refine md_gI S hC hM 31 (v := nI (κ 5)) hv31 (by decide) rfl qw_e3979b88d4 dModel_name_50 ?_
  refine lv_topi (fun v14 ev14 => ?_)
  refine md_istS S hC hM hS 29 23 3000 rfl rfl (by decide) rfl rfl (vin_of ev13 (by omega) (by omega)) dModel_name_53 (fun H locs hM hS => ?_)
  obtain ⟨τ16, eτ16⟩ : ∃ z : Nat → Nat → Int32, z = Au τ12 29 v13.toNatClampNeg v14 := ⟨_, rfl⟩
  rw [← eτ16] at hM
  refine lv_aload_n hx hb dModel_name_54 rfl (lv_at hl 0 rfl) ?_
  refine lv_dup hx hb dModel_name_55 rfl ?_
  refine md_gI S hC hM 30 (v := nI (κ 4)) hv30 (by decide) rfl qw_8d5d48b583 dModel_name_56 ?_
  refine lv_topi (fun v17 ev17 => ?_)
  refine lv_iconst (v := 1) hx hb dModel_name_59 (by decide) ?_
  refine lv_iadd hx hb dModel_name_60 ?_
  refine lv_topi (fun v18 ev18 => ?_)
  refine md_pS S hC hM hS 30 rfl (by decide) rfl qw_8d5d48b583 rfl (by decide +kernel) dModel_name_61 (fun H locs hM hS => ?_)
  obtain ⟨ν20, eν20⟩ : ∃ z : Nat → Int32, z = upd ν 30 v18 := ⟨_, rfl⟩
  rw [← eν20] at hM
  exact hE _ _ _ _ hS ⟨_, _, (by subst eν20 ev18 ev17 eτ16 ev14 ev13 eτ12 ev10 eτ9 ev7 eτ6 ev4 eτ3 ev1; exact hO.tr rfl), hM, nm_st hT hN eτ3 eτ6 eτ9 eτ12 eτ16 (ixn ev4 (by omega)) (ixn ev7 (by omega)) eν20 (inc_n ev17 ev18) hm⟩ dModel_name_64
def Q_clear (κ : Nat → Nat) (τ : gf) (σ : Nat → Int32) (F : gf) (nu : gg) : XQ := ((nI (κ 0)), ku (ku κ 0 0) 1 0, τ, (upd σ 0 0), F, nu)
set_option maxHeartbeats 4000000 in
set_option maxRecDepth 100000 in
theorem n_clear (l : Launch) (γ : gE) (a : Nat) (B : Nat → Nat) (Z : Nat → Prop) (κ b mn : Nat → Nat) (ν : Nat → Int32) (τ : Nat → Nat → Int32) (σ : Nat → Int32) (F : Nat → Nat → Int32) (nu : Nat → Int64) (hT : ST κ b mn ν τ)  (hZ : SZ F) (hF : FD σ) (hG : GD F nu) : MU l yModel_clear bModel_clear 2 (some .int) 0 0 0 0 [.ref a] γ Z (MD γ a B Z ν τ σ F nu) (mQi (fun r H => MIF γ a B Z (Q_clear κ τ σ F nu ) r H) Z) := by
  refine mu_openI (by decide) (Nat.le_of_ble_eq_true rfl) ?_
  intro p e s m args below meth c ls Q S hnm hC hA hM hE hl
  have hS : va_S Z s.heap s.heap [] := va_S.rf
  obtain ⟨hx, hb, hml, hown, hW⟩ := id S
  obtain ⟨⟨hs0, hs1, hs2, hs3, hs4, hs5, hs6⟩, ⟨hv6, hv8, hv21, hv24, hv30, hv31⟩, hTR, hTY, hOB, hNM⟩ := id hT
  have hl : lv_has ls 2 [(0, .ref a)] := hl
  obtain ⟨OUT, hQ, hO⟩ : ∃ z, (z = Q_clear κ τ σ F nu ) ∧ Oq z (Q_clear κ τ σ F nu ) := ⟨_, rfl, rfl⟩
  rw [← hQ] at hE
  clear hQ
  refine lv_aload_n hx hb dModel_clear_0 rfl (lv_at hl 0 rfl) ?_
  refine lv_iconst (v := 0) hx hb dModel_clear_1 (by decide) ?_
  refine md_pD S hC hM hS 0 rfl (by decide) rfl qw_53e275eed6 rfl (by decide +kernel) dModel_clear_2 (fun H locs hM hS => ?_)
  obtain ⟨σ1, eσ1⟩ : ∃ z : Nat → Int32, z = upd σ 0 0 := ⟨_, rfl⟩
  rw [← eσ1] at hM
  have hF : FD σ1 := hF.up eσ1 (by decide) (by decide)
  refine lv_aload_n hx hb dModel_clear_5 rfl (lv_at hl 0 rfl) ?_
  refine md_gI S hC hM 6 (v := nI (κ 0)) hv6 (by decide) rfl qw_f42008621b dModel_clear_6 ?_
  refine lv_topi (fun v2 ev2 => ?_)
  refine lv_istore_n (lv' := [(1, .int v2), (0, .ref a)]) hx hb dModel_clear_9 rfl hl (by decide) rfl (fun ls hl => ?_)
  refine lv_aload_n hx hb dModel_clear_10 rfl (lv_at hl 1 rfl) ?_
  refine lv_iconst (v := 0) hx hb dModel_clear_11 (by decide) ?_
  refine md_pS S hC hM hS 6 rfl (by decide) rfl qw_f42008621b rfl (by decide +kernel) dModel_clear_12 (fun H locs hM hS => ?_)
  obtain ⟨ν4, eν4⟩ : ∃ z : Nat → Int32, z = upd ν 6 0 := ⟨_, rfl⟩
  rw [← eν4] at hM
  refine lv_aload_n hx hb dModel_clear_15 rfl (lv_at hl 1 rfl) ?_
  refine lv_iconst (v := 0) hx hb dModel_clear_16 (by decide) ?_
  refine md_pS S hC hM hS 8 rfl (by decide) rfl qw_0b242dc29a rfl (by decide +kernel) dModel_clear_17 (fun H locs hM hS => ?_)
  obtain ⟨ν6, eν6⟩ : ∃ z : Nat → Int32, z = upd ν4 8 0 := ⟨_, rfl⟩
  rw [← eν6] at hM
  refine lv_iload_n hx hb dModel_clear_20 rfl (lv_at hl 0 rfl) ?_
  exact hE _ _ _ _ _ hS ⟨(ku (ku κ 0 0) 1 0), _, _, _, τ, σ1, F, nu, (by subst eν6 eν4 ev2 eσ1; exact hO.tr rfl), (st_cl hT eν4 eν6), hZ, hF, hG, hM⟩ dModel_clear_21
def Q_place (κ : Nat → Nat) (τ : gf) (σ : Nat → Int32) (F : gf) (nu : gg) : XQ := (((upd σ 0 0) 1), κ, τ, (upd σ 0 0), F, nu)
set_option maxHeartbeats 4000000 in
set_option maxRecDepth 100000 in
theorem n_place (l : Launch) (γ : gE) (a : Nat) (B : Nat → Nat) (Z : Nat → Prop) (κ b mn : Nat → Nat) (ν : Nat → Int32) (τ : Nat → Nat → Int32) (σ : Nat → Int32) (F : Nat → Nat → Int32) (nu : Nat → Int64) (hT : ST κ b mn ν τ)  (hZ : SZ F) (hF : FD σ) (hG : GD F nu) : MU l yModel_place bModel_place 1 (some .int) 0 0 0 0 [.ref a] γ Z (MD γ a B Z ν τ σ F nu) (mQi (fun r H => MIF γ a B Z (Q_place κ τ σ F nu ) r H) Z) := by
  refine mu_openI (by decide) (Nat.le_of_ble_eq_true rfl) ?_
  intro p e s m args below meth c ls Q S hnm hC hA hM hE hl
  have hS : va_S Z s.heap s.heap [] := va_S.rf
  obtain ⟨hx, hb, hml, hown, hW⟩ := id S
  obtain ⟨⟨hs0, hs1, hs2, hs3, hs4, hs5, hs6⟩, ⟨hv6, hv8, hv21, hv24, hv30, hv31⟩, hTR, hTY, hOB, hNM⟩ := id hT
  have hl : lv_has ls 1 [(0, .ref a)] := hl
  obtain ⟨OUT, hQ, hO⟩ : ∃ z, (z = Q_place κ τ σ F nu ) ∧ Oq z (Q_place κ τ σ F nu ) := ⟨_, rfl, rfl⟩
  rw [← hQ] at hE
  clear hQ
  refine lv_aload_n hx hb dModel_place_0 rfl (lv_at hl 0 rfl) ?_
  refine lv_iconst (v := 0) hx hb dModel_place_1 (by decide) ?_
  refine md_pD S hC hM hS 0 rfl (by decide) rfl qw_53e275eed6 rfl (by decide +kernel) dModel_place_2 (fun H locs hM hS => ?_)
  obtain ⟨σ1, eσ1⟩ : ∃ z : Nat → Int32, z = upd σ 0 0 := ⟨_, rfl⟩
  rw [← eσ1] at hM
  have hF : FD σ1 := hF.up eσ1 (by decide) (by decide)
  refine lv_aload_n hx hb dModel_place_5 rfl (lv_at hl 0 rfl) ?_
  refine md_gI S hC hM 1 (v := σ1 1) rfl (by decide) rfl qw_d4a57461ea dModel_place_6 ?_
  refine lv_topi (fun v2 ev2 => ?_)
  exact hE _ _ _ _ _ hS ⟨κ, _, _, _, τ, σ1, F, nu, (by subst ev2 eσ1; exact hO.tr rfl), hT, hZ, hF, hG, hM⟩ dModel_place_9
def Q_typeOf_23 (κ : Nat → Nat) (τ : gf) (σ : Nat → Int32) (F : gf) (nu : gg) (x1 : Int32) (x2 : Int32) (t0_23 : Int32) : XQ := (if ((upd σ 0 t0_23) 0) ≤ 0 then (if x2 = 0 then ((τ 16 x1.toNatClampNeg), κ, τ, (upd σ 0 t0_23), F, nu) else (if x2 = 1 then ((τ 17 x1.toNatClampNeg), κ, τ, (upd σ 0 t0_23), F, nu) else (if x2 = 2 then ((τ 18 x1.toNatClampNeg), κ, τ, (upd σ 0 t0_23), F, nu) else (if x2 = 3 then ((τ 19 x1.toNatClampNeg), κ, τ, (upd σ 0 t0_23), F, nu) else (if (τ 20 x1.toNatClampNeg) = 0 then (0, κ, τ, (upd σ 0 t0_23), F, nu) else (1, κ, τ, (upd σ 0 t0_23), F, nu)))))) else (0, κ, τ, (upd σ 0 t0_23), F, nu))
def Q_typeOf_18 (κ : Nat → Nat) (τ : gf) (σ : Nat → Int32) (F : gf) (nu : gg) (x1 : Int32) (x2 : Int32) : XQ := (Q_typeOf_23 κ τ σ F nu x1 x2  1)
def Q_typeOf (κ : Nat → Nat) (τ : gf) (σ : Nat → Int32) (F : gf) (nu : gg) (x1 : Int32) (x2 : Int32) : XQ := (if (Q_noType κ τ σ F nu x1) = 0 then (if x2 < 0 then (Q_typeOf_18 κ τ σ F nu x1 x2  ) else (if x2 ≤ 4 then (Q_typeOf_23 κ τ σ F nu x1 x2  0) else (Q_typeOf_18 κ τ σ F nu x1 x2  ))) else (Q_typeOf_18 κ τ σ F nu x1 x2  ))
set_option maxHeartbeats 4000000 in
set_option maxRecDepth 100000 in
theorem n_typeOf (l : Launch) (γ : gE) (a : Nat) (B : Nat → Nat) (Z : Nat → Prop) (κ b mn : Nat → Nat) (ν : Nat → Int32) (τ : Nat → Nat → Int32) (σ : Nat → Int32) (F : Nat → Nat → Int32) (nu : Nat → Int64) (hT : ST κ b mn ν τ) (x1 : Int32) (x2 : Int32) (hZ : SZ F) (hF : FD σ) (hG : GD F nu) : MU l yModel_typeOf bModel_typeOf 3 (some .int) 1 21 0 0 [.ref a, .int x1, .int x2] γ Z (MD γ a B Z ν τ σ F nu) (mQi (fun r H => MIF γ a B Z (Q_typeOf κ τ σ F nu x1 x2) r H) Z) := by
  refine mu_openI (by decide) (Nat.le_of_ble_eq_true rfl) ?_
  intro p e s m args below meth c ls Q S hnm hC hA hM hE hl
  have hS : va_S Z s.heap s.heap [] := va_S.rf
  obtain ⟨hx, hb, hml, hown, hW⟩ := id S
  obtain ⟨⟨hs0, hs1, hs2, hs3, hs4, hs5, hs6⟩, ⟨hv6, hv8, hv21, hv24, hv30, hv31⟩, hTR, hTY, hOB, hNM⟩ := id hT
  have hl : lv_has ls 3 [(0, .ref a), (1, .int x1), (2, .int x2)] := hl
  obtain ⟨OUT, hQ, hO⟩ : ∃ z, (z = Q_typeOf κ τ σ F nu x1 x2) ∧ Oq z (Q_typeOf κ τ σ F nu x1 x2) := ⟨_, rfl, rfl⟩
  rw [← hQ] at hE
  clear hQ
  refine lv_aload_n hx hb dModel_typeOf_0 rfl (lv_at hl 0 rfl) ?_
  refine lv_aload_n hx hb dModel_typeOf_1 rfl (lv_at hl 0 rfl) ?_
  refine lv_iload_n hx hb dModel_typeOf_2 rfl (lv_at hl 1 rfl) ?_
  refine pu_Vi (rest := [.ref a]) S hC (n_noType l γ a B Z κ b mn ν τ σ F nu hT x1 ) meModel_noType qw_0ba745738d ⟨Nat.le_of_ble_eq_true rfl, Nat.le_of_ble_eq_true rfl⟩ (md_rv hC hM) hM rfl hl.1 rfl (Nat.le_of_ble_eq_true rfl) dModel_typeOf_3 ⟨Nat.zero_le _, Nat.zero_le _⟩ (fun r1 hr1 => ?_)
  obtain ⟨hr1, er1⟩ := hr1
  have J23 : ∀ (ls : Array Slot) (t0_23 : Int32), (0 < t0_23 ∨ (t0_23 = 0 ∧ vp_in x1 (κ 2))) → (Oq OUT (Q_typeOf_23 κ τ σ F nu x1 x2   t0_23)) → lv_has ls 3 [(0, .ref a), (1, .int x1), (2, .int x2)] → W p l e (bs_rm 1 0 0 21) s m args below meth c s.heap [] 0 0 Q (F0 m 23 ls [.int t0_23, .ref a]) := by
    intro ls t0_23 ht0_23 hO hl
    refine md_pD S hC hM hS 0 rfl (by decide) rfl qw_53e275eed6 rfl (by decide +kernel) dModel_typeOf_23 (fun H locs hM hS => ?_)
    obtain ⟨σ18, eσ18⟩ : ∃ z : Nat → Int32, z = upd σ 0 t0_23 := ⟨_, rfl⟩
    rw [← eσ18] at hM
    have hF : FD σ18 := hF.up eσ18 (by decide) (by decide)
    refine lv_aload_n hx hb dModel_typeOf_26 rfl (lv_at hl 0 rfl) ?_
    refine md_gI S hC hM 0 (v := σ18 0) rfl (by decide) rfl qw_53e275eed6 dModel_typeOf_27 ?_
    refine lv_topi (fun v19 ev19 => ?_)
    refine lv_if_le (tgt := 35) hx hb dModel_typeOf_30 (by decide) (fun c20 => ?_) (fun c20 => ?_)
    · have hx1 : vp_in x1 (κ 2) := cd_0 eσ18 ev19 (by assumption) ht0_23
      refine lv_iload_n hx hb dModel_typeOf_35 rfl (lv_at hl 2 rfl) ?_
      refine lv_if_ne (tgt := 48) hx hb dModel_typeOf_36 (by decide) (fun c21 => ?_) (fun c21 => ?_)
      · refine lv_iload_n hx hb dModel_typeOf_48 rfl (lv_at hl 2 rfl) ?_
        refine lv_iconst (v := 1) hx hb dModel_typeOf_49 (by decide) ?_
        refine lv_icmp_ne (tgt := 62) hx hb dModel_typeOf_50 (by decide) (fun c22 => ?_) (fun c22 => ?_)
        · refine lv_iload_n hx hb dModel_typeOf_62 rfl (lv_at hl 2 rfl) ?_
          refine lv_iconst (v := 2) hx hb dModel_typeOf_63 (by decide) ?_
          refine lv_icmp_ne (tgt := 76) hx hb dModel_typeOf_64 (by decide) (fun c23 => ?_) (fun c23 => ?_)
          · refine lv_iload_n hx hb dModel_typeOf_76 rfl (lv_at hl 2 rfl) ?_
            refine lv_iconst (v := 3) hx hb dModel_typeOf_77 (by decide) ?_
            refine lv_icmp_ne (tgt := 90) hx hb dModel_typeOf_78 (by decide) (fun c24 => ?_) (fun c24 => ?_)
            · refine lv_aload_n hx hb dModel_typeOf_90 rfl (lv_at hl 0 rfl) ?_
              refine md_gA S hC hM 20 (by decide) rfl qw_1579022aeb dModel_typeOf_91 ?_
              refine lv_iload_n hx hb dModel_typeOf_94 rfl (lv_at hl 1 rfl) ?_
              refine md_zld S hC hM 20 16 1000 (τ 20) rfl rfl (by decide) rfl rfl (vin (by assumption) (by omega)) dModel_typeOf_95 ?_
              refine lv_topi (fun v25 ev25 => ?_)
              refine lv_if_eq (tgt := 103) hx hb dModel_typeOf_96 (by decide) (fun c26 => ?_) (fun c26 => ?_)
              · refine lv_iconst (v := 0) hx hb dModel_typeOf_103 (by decide) ?_
                exact hE _ _ _ _ _ hS ⟨κ, _, _, _, τ, σ18, F, nu, (by subst ev25 ev19 eσ18 er1; exact hO.tr ((if_pos c20).trans ((if_neg c21).trans ((if_neg c22).trans ((if_neg c23).trans ((if_neg c24).trans (if_pos c26))))))), hT, hZ, hF, hG, hM⟩ dModel_typeOf_104
              · refine lv_iconst (v := 1) hx hb dModel_typeOf_99 (by decide) ?_
                refine lv_goto (tgt := 104) hx hb dModel_typeOf_100 (by decide) ?_
                exact hE _ _ _ _ _ hS ⟨κ, _, _, _, τ, σ18, F, nu, (by subst ev25 ev19 eσ18 er1; exact hO.tr ((if_pos c20).trans ((if_neg c21).trans ((if_neg c22).trans ((if_neg c23).trans ((if_neg c24).trans (if_neg c26))))))), hT, hZ, hF, hG, hM⟩ dModel_typeOf_104
            · refine lv_aload_n hx hb dModel_typeOf_81 rfl (lv_at hl 0 rfl) ?_
              refine md_gA S hC hM 19 (by decide) rfl qw_c139dbceda dModel_typeOf_82 ?_
              refine lv_iload_n hx hb dModel_typeOf_85 rfl (lv_at hl 1 rfl) ?_
              refine md_ild S hC hM 19 15 1000 (τ 19) rfl rfl (by decide) rfl rfl (vin (by assumption) (by omega)) dModel_typeOf_86 ?_
              refine lv_topi (fun v27 ev27 => ?_)
              refine lv_goto (tgt := 104) hx hb dModel_typeOf_87 (by decide) ?_
              exact hE _ _ _ _ _ hS ⟨κ, _, _, _, τ, σ18, F, nu, (by subst ev27 ev19 eσ18 er1; exact hO.tr ((if_pos c20).trans ((if_neg c21).trans ((if_neg c22).trans ((if_neg c23).trans (if_pos c24)))))), hT, hZ, hF, hG, hM⟩ dModel_typeOf_104
          · refine lv_aload_n hx hb dModel_typeOf_67 rfl (lv_at hl 0 rfl) ?_
            refine md_gA S hC hM 18 (by decide) rfl qw_82ee92f611 dModel_typeOf_68 ?_
            refine lv_iload_n hx hb dModel_typeOf_71 rfl (lv_at hl 1 rfl) ?_
            refine md_ild S hC hM 18 14 1000 (τ 18) rfl rfl (by decide) rfl rfl (vin (by assumption) (by omega)) dModel_typeOf_72 ?_
            refine lv_topi (fun v28 ev28 => ?_)
            refine lv_goto (tgt := 104) hx hb dModel_typeOf_73 (by decide) ?_
            exact hE _ _ _ _ _ hS ⟨κ, _, _, _, τ, σ18, F, nu, (by subst ev28 ev19 eσ18 er1; exact hO.tr ((if_pos c20).trans ((if_neg c21).trans ((if_neg c22).trans (if_pos c23))))), hT, hZ, hF, hG, hM⟩ dModel_typeOf_104
        · refine lv_aload_n hx hb dModel_typeOf_53 rfl (lv_at hl 0 rfl) ?_
          refine md_gA S hC hM 17 (by decide) rfl qw_94306de345 dModel_typeOf_54 ?_
          refine lv_iload_n hx hb dModel_typeOf_57 rfl (lv_at hl 1 rfl) ?_
          refine md_ild S hC hM 17 13 1000 (τ 17) rfl rfl (by decide) rfl rfl (vin (by assumption) (by omega)) dModel_typeOf_58 ?_
          refine lv_topi (fun v29 ev29 => ?_)
          refine lv_goto (tgt := 104) hx hb dModel_typeOf_59 (by decide) ?_
          exact hE _ _ _ _ _ hS ⟨κ, _, _, _, τ, σ18, F, nu, (by subst ev29 ev19 eσ18 er1; exact hO.tr ((if_pos c20).trans ((if_neg c21).trans (if_pos c22)))), hT, hZ, hF, hG, hM⟩ dModel_typeOf_104
      · refine lv_aload_n hx hb dModel_typeOf_39 rfl (lv_at hl 0 rfl) ?_
        refine md_gA S hC hM 16 (by decide) rfl qw_9bd8ea24bb dModel_typeOf_40 ?_
        refine lv_iload_n hx hb dModel_typeOf_43 rfl (lv_at hl 1 rfl) ?_
        refine md_ild S hC hM 16 12 1000 (τ 16) rfl rfl (by decide) rfl rfl (vin (by assumption) (by omega)) dModel_typeOf_44 ?_
        refine lv_topi (fun v30 ev30 => ?_)
        refine lv_goto (tgt := 104) hx hb dModel_typeOf_45 (by decide) ?_
        exact hE _ _ _ _ _ hS ⟨κ, _, _, _, τ, σ18, F, nu, (by subst ev30 ev19 eσ18 er1; exact hO.tr ((if_pos c20).trans (if_pos c21))), hT, hZ, hF, hG, hM⟩ dModel_typeOf_104
    · refine lv_iconst (v := 0) hx hb dModel_typeOf_33 (by decide) ?_
      exact hE _ _ _ _ _ hS ⟨κ, _, _, _, τ, σ18, F, nu, (by subst ev19 eσ18 er1; exact hO.tr (if_neg c20)), hT, hZ, hF, hG, hM⟩ dModel_typeOf_34
  have J18 : ∀ (ls : Array Slot), (Oq OUT (Q_typeOf_18 κ τ σ F nu x1 x2   )) → lv_has ls 3 [(0, .ref a), (1, .int x1), (2, .int x2)] → W p l e (bs_rm 1 0 0 21) s m args below meth c s.heap [] 0 0 Q (F0 m 18 ls [.ref a]) := by
    intro ls hO hl
    refine lv_iconst (v := 1) hx hb dModel_typeOf_18 (by decide) ?_
    refine lv_goto (tgt := 23) hx hb dModel_typeOf_19 (by decide) ?_
    exact J23 ls 1 (by first | exact Or.inl (by decide) | exact Or.inr ⟨rfl, hr1 (by assumption)⟩) (by subst er1; exact hO.tr rfl) (lv_sub hl [0, 1, 2] rfl)
  refine lv_if_ne (tgt := 18) hx hb dModel_typeOf_6 (by decide) (fun c31 => ?_) (fun c31 => ?_)
  · exact J18 ls (by subst er1; exact hO.tr (if_neg c31)) (lv_sub hl [0, 1, 2] rfl)
  · refine lv_iload_n hx hb dModel_typeOf_9 rfl (lv_at hl 2 rfl) ?_
    refine lv_if_lt (tgt := 18) hx hb dModel_typeOf_10 (by decide) (fun c32 => ?_) (fun c32 => ?_)
    · exact J18 ls (by subst er1; exact hO.tr ((if_pos c31).trans (if_pos c32))) (lv_sub hl [0, 1, 2] rfl)
    · refine lv_iload_n hx hb dModel_typeOf_13 rfl (lv_at hl 2 rfl) ?_
      refine lv_iconst (v := 4) hx hb dModel_typeOf_14 (by decide) ?_
      refine lv_icmp_le (tgt := 22) hx hb dModel_typeOf_15 (by decide) (fun c33 => ?_) (fun c33 => ?_)
      · refine lv_iconst (v := 0) hx hb dModel_typeOf_22 (by decide) ?_
        exact J23 ls 0 (by first | exact Or.inl (by decide) | exact Or.inr ⟨rfl, hr1 (by assumption)⟩) (by subst er1; exact hO.tr ((if_pos c31).trans ((if_neg c32).trans (if_pos c33)))) (lv_sub hl [0, 1, 2] rfl)
      · exact J18 ls (by subst er1; exact hO.tr ((if_pos c31).trans ((if_neg c32).trans (if_neg c33)))) (lv_sub hl [0, 1, 2] rfl)
def Q_about_23 (κ : Nat → Nat) (τ : gf) (σ : Nat → Int32) (F : gf) (nu : gg) (x1 : Int32) (x2 : Int32) (t0_23 : Int32) : XQ := (if ((upd σ 0 t0_23) 0) ≤ 0 then (if (F 15 x1.toNatClampNeg) = 0 then ((-1), κ, τ, (upd σ 0 t0_23), F, nu) else (if x2 = 0 then ((F 9 (4000 + x1).toNatClampNeg), κ, τ, (upd σ 0 t0_23), F, nu) else (if x2 = 1 then ((F 10 (4000 + x1).toNatClampNeg), κ, τ, (upd σ 0 t0_23), F, nu) else (if x2 = 2 then (if (F 11 (4000 + x1).toNatClampNeg) = 0 then (0, κ, τ, (upd σ 0 t0_23), F, nu) else (1, κ, τ, (upd σ 0 t0_23), F, nu)) else ((F 12 (4000 + x1).toNatClampNeg), κ, τ, (upd σ 0 t0_23), F, nu))))) else (0, κ, τ, (upd σ 0 t0_23), F, nu))
def Q_about_18 (κ : Nat → Nat) (τ : gf) (σ : Nat → Int32) (F : gf) (nu : gg) (x1 : Int32) (x2 : Int32) : XQ := (Q_about_23 κ τ σ F nu x1 x2  1)
def Q_about (κ : Nat → Nat) (τ : gf) (σ : Nat → Int32) (F : gf) (nu : gg) (x1 : Int32) (x2 : Int32) : XQ := (if (Q_noNode κ τ σ F nu x1) = 0 then (if x2 < 0 then (Q_about_18 κ τ σ F nu x1 x2  ) else (if x2 ≤ 3 then (Q_about_23 κ τ σ F nu x1 x2  0) else (Q_about_18 κ τ σ F nu x1 x2  ))) else (Q_about_18 κ τ σ F nu x1 x2  ))
set_option maxHeartbeats 4000000 in
set_option maxRecDepth 100000 in
theorem n_about (l : Launch) (γ : gE) (a : Nat) (B : Nat → Nat) (Z : Nat → Prop) (κ b mn : Nat → Nat) (ν : Nat → Int32) (τ : Nat → Nat → Int32) (σ : Nat → Int32) (F : Nat → Nat → Int32) (nu : Nat → Int64) (hT : ST κ b mn ν τ) (x1 : Int32) (x2 : Int32) (hZ : SZ F) (hF : FD σ) (hG : GD F nu) : MU l yModel_about bModel_about 4 (some .int) 1 21 0 0 [.ref a, .int x1, .int x2] γ Z (MD γ a B Z ν τ σ F nu) (mQi (fun r H => MIF γ a B Z (Q_about κ τ σ F nu x1 x2) r H) Z) := by
  refine mu_openI (by decide) (Nat.le_of_ble_eq_true rfl) ?_
  intro p e s m args below meth c ls Q S hnm hC hA hM hE hl
  have hS : va_S Z s.heap s.heap [] := va_S.rf
  obtain ⟨hx, hb, hml, hown, hW⟩ := id S
  obtain ⟨⟨hs0, hs1, hs2, hs3, hs4, hs5, hs6⟩, ⟨hv6, hv8, hv21, hv24, hv30, hv31⟩, hTR, hTY, hOB, hNM⟩ := id hT
  have hl : lv_has ls 4 [(0, .ref a), (1, .int x1), (2, .int x2)] := hl
  obtain ⟨OUT, hQ, hO⟩ : ∃ z, (z = Q_about κ τ σ F nu x1 x2) ∧ Oq z (Q_about κ τ σ F nu x1 x2) := ⟨_, rfl, rfl⟩
  rw [← hQ] at hE
  clear hQ
  refine lv_aload_n hx hb dModel_about_0 rfl (lv_at hl 0 rfl) ?_
  refine lv_aload_n hx hb dModel_about_1 rfl (lv_at hl 0 rfl) ?_
  refine lv_iload_n hx hb dModel_about_2 rfl (lv_at hl 1 rfl) ?_
  refine pu_Vi (rest := [.ref a]) S hC (n_noNode l γ a B Z κ b mn ν τ σ F nu hT x1 ) meModel_noNode qw_c926675227 ⟨Nat.le_of_ble_eq_true rfl, Nat.le_of_ble_eq_true rfl⟩ (md_rv hC hM) hM rfl hl.1 rfl (Nat.le_of_ble_eq_true rfl) dModel_about_3 ⟨Nat.zero_le _, Nat.zero_le _⟩ (fun r1 hr1 => ?_)
  obtain ⟨hr1, er1⟩ := hr1
  have J23 : ∀ (ls : Array Slot) (t0_23 : Int32), (0 < t0_23 ∨ (t0_23 = 0 ∧ vp_in x1 (κ 0))) → (Oq OUT (Q_about_23 κ τ σ F nu x1 x2   t0_23)) → lv_has ls 4 [(0, .ref a), (1, .int x1), (2, .int x2)] → W p l e (bs_rm 1 0 0 21) s m args below meth c s.heap [] 0 0 Q (F0 m 23 ls [.int t0_23, .ref a]) := by
    intro ls t0_23 ht0_23 hO hl
    refine md_pD S hC hM hS 0 rfl (by decide) rfl qw_53e275eed6 rfl (by decide +kernel) dModel_about_23 (fun H locs hM hS => ?_)
    obtain ⟨σ19, eσ19⟩ : ∃ z : Nat → Int32, z = upd σ 0 t0_23 := ⟨_, rfl⟩
    rw [← eσ19] at hM
    have hF : FD σ19 := hF.up eσ19 (by decide) (by decide)
    refine lv_aload_n hx hb dModel_about_26 rfl (lv_at hl 0 rfl) ?_
    refine md_gI S hC hM 0 (v := σ19 0) rfl (by decide) rfl qw_53e275eed6 dModel_about_27 ?_
    refine lv_topi (fun v20 ev20 => ?_)
    refine lv_if_le (tgt := 35) hx hb dModel_about_30 (by decide) (fun c21 => ?_) (fun c21 => ?_)
    · have hx1 : vp_in x1 (κ 0) := cd_0 eσ19 ev20 (by assumption) ht0_23
      refine lv_aload_n hx hb dModel_about_35 rfl (lv_at hl 0 rfl) ?_
      refine md_gA S hC hM 15 (by decide) rfl qw_bcd494e5c6 dModel_about_36 ?_
      refine lv_iload_n hx hb dModel_about_39 rfl (lv_at hl 1 rfl) ?_
      refine md_zld S hC hM 15 11 4000 (F 15) rfl rfl (by decide) rfl rfl (vin (by assumption) (by omega)) dModel_about_40 ?_
      refine lv_topi (fun v22 ev22 => ?_)
      refine lv_if_ne (tgt := 46) hx hb dModel_about_41 (by decide) (fun c23 => ?_) (fun c23 => ?_)
      · refine lv_sipush (v := 4000) hx hb dModel_about_46 (by decide) ?_
        refine lv_iload_n hx hb dModel_about_49 rfl (lv_at hl 1 rfl) ?_
        refine lv_iadd hx hb dModel_about_50 ?_
        refine lv_topi (fun v24 ev24 => ?_)
        refine lv_istore_n (lv' := [(3, .int v24), (0, .ref a), (1, .int x1), (2, .int x2)]) hx hb dModel_about_51 rfl hl (by decide) rfl (fun ls hl => ?_)
        have h4 : vp_in v24 8000 := (vin4 (vin hx1 (by omega)) ev24).1
        refine lv_iload_n hx hb dModel_about_52 rfl (lv_at hl 3 rfl) ?_
        refine lv_if_ne (tgt := 65) hx hb dModel_about_53 (by decide) (fun c25 => ?_) (fun c25 => ?_)
        · refine lv_iload_n hx hb dModel_about_65 rfl (lv_at hl 3 rfl) ?_
          refine lv_iconst (v := 1) hx hb dModel_about_66 (by decide) ?_
          refine lv_icmp_ne (tgt := 79) hx hb dModel_about_67 (by decide) (fun c26 => ?_) (fun c26 => ?_)
          · refine lv_iload_n hx hb dModel_about_79 rfl (lv_at hl 3 rfl) ?_
            refine lv_iconst (v := 2) hx hb dModel_about_80 (by decide) ?_
            refine lv_icmp_ne (tgt := 101) hx hb dModel_about_81 (by decide) (fun c27 => ?_) (fun c27 => ?_)
            · refine lv_aload_n hx hb dModel_about_101 rfl (lv_at hl 1 rfl) ?_
              refine md_gA S hC hM 12 (by decide) rfl qw_19df235c4a dModel_about_102 ?_
              refine lv_iload_n hx hb dModel_about_105 rfl (lv_at hl 0 rfl) ?_
              refine md_ild S hC hM 12 8 10000 (F 12) rfl rfl (by decide) rfl rfl (vin (by assumption) (by omega)) dModel_about_106 ?_
              refine lv_topi (fun v28 ev28 => ?_)
              exact hE _ _ _ _ _ hS ⟨κ, _, _, _, τ, σ19, F, nu, (by subst ev28 ev24 ev22 ev20 eσ19 er1; exact hO.tr ((if_pos c21).trans ((if_neg c23).trans ((if_neg c25).trans ((if_neg c26).trans (if_neg c27)))))), hT, hZ, hF, hG, hM⟩ dModel_about_107
            · refine lv_aload_n hx hb dModel_about_84 rfl (lv_at hl 1 rfl) ?_
              refine md_gA S hC hM 11 (by decide) rfl qw_88b9028ba7 dModel_about_85 ?_
              refine lv_iload_n hx hb dModel_about_88 rfl (lv_at hl 0 rfl) ?_
              refine md_zld S hC hM 11 7 10000 (F 11) rfl rfl (by decide) rfl rfl (vin (by assumption) (by omega)) dModel_about_89 ?_
              refine lv_topi (fun v29 ev29 => ?_)
              refine lv_if_eq (tgt := 97) hx hb dModel_about_90 (by decide) (fun c30 => ?_) (fun c30 => ?_)
              · refine lv_iconst (v := 0) hx hb dModel_about_97 (by decide) ?_
                refine lv_goto (tgt := 107) hx hb dModel_about_98 (by decide) ?_
                exact hE _ _ _ _ _ hS ⟨κ, _, _, _, τ, σ19, F, nu, (by subst ev29 ev24 ev22 ev20 eσ19 er1; exact hO.tr ((if_pos c21).trans ((if_neg c23).trans ((if_neg c25).trans ((if_neg c26).trans ((if_pos c27).trans (if_pos c30))))))), hT, hZ, hF, hG, hM⟩ dModel_about_107
              · refine lv_iconst (v := 1) hx hb dModel_about_93 (by decide) ?_
                refine lv_goto (tgt := 107) hx hb dModel_about_94 (by decide) ?_
                exact hE _ _ _ _ _ hS ⟨κ, _, _, _, τ, σ19, F, nu, (by subst ev29 ev24 ev22 ev20 eσ19 er1; exact hO.tr ((if_pos c21).trans ((if_neg c23).trans ((if_neg c25).trans ((if_neg c26).trans ((if_pos c27).trans (if_neg c30))))))), hT, hZ, hF, hG, hM⟩ dModel_about_107
          · refine lv_aload_n hx hb dModel_about_70 rfl (lv_at hl 1 rfl) ?_
            refine md_gA S hC hM 10 (by decide) rfl qw_bd0251c605 dModel_about_71 ?_
            refine lv_iload_n hx hb dModel_about_74 rfl (lv_at hl 0 rfl) ?_
            refine md_ild S hC hM 10 6 10000 (F 10) rfl rfl (by decide) rfl rfl (vin (by assumption) (by omega)) dModel_about_75 ?_
            refine lv_topi (fun v31 ev31 => ?_)
            refine lv_goto (tgt := 107) hx hb dModel_about_76 (by decide) ?_
            exact hE _ _ _ _ _ hS ⟨κ, _, _, _, τ, σ19, F, nu, (by subst ev31 ev24 ev22 ev20 eσ19 er1; exact hO.tr ((if_pos c21).trans ((if_neg c23).trans ((if_neg c25).trans (if_pos c26))))), hT, hZ, hF, hG, hM⟩ dModel_about_107
        · refine lv_aload_n hx hb dModel_about_56 rfl (lv_at hl 1 rfl) ?_
          refine md_gA S hC hM 9 (by decide) rfl qw_a119aeeca0 dModel_about_57 ?_
          refine lv_iload_n hx hb dModel_about_60 rfl (lv_at hl 0 rfl) ?_
          refine md_ild S hC hM 9 5 10000 (F 9) rfl rfl (by decide) rfl rfl (vin (by assumption) (by omega)) dModel_about_61 ?_
          refine lv_topi (fun v32 ev32 => ?_)
          refine lv_goto (tgt := 107) hx hb dModel_about_62 (by decide) ?_
          exact hE _ _ _ _ _ hS ⟨κ, _, _, _, τ, σ19, F, nu, (by subst ev32 ev24 ev22 ev20 eσ19 er1; exact hO.tr ((if_pos c21).trans ((if_neg c23).trans (if_pos c25)))), hT, hZ, hF, hG, hM⟩ dModel_about_107
      · refine lv_iconst (v := (-1)) hx hb dModel_about_44 (by decide) ?_
        exact hE _ _ _ _ _ hS ⟨κ, _, _, _, τ, σ19, F, nu, (by subst ev22 ev20 eσ19 er1; exact hO.tr ((if_pos c21).trans (if_pos c23))), hT, hZ, hF, hG, hM⟩ dModel_about_45
    · refine lv_iconst (v := 0) hx hb dModel_about_33 (by decide) ?_
      exact hE _ _ _ _ _ hS ⟨κ, _, _, _, τ, σ19, F, nu, (by subst ev20 eσ19 er1; exact hO.tr (if_neg c21)), hT, hZ, hF, hG, hM⟩ dModel_about_34
  have J18 : ∀ (ls : Array Slot), (Oq OUT (Q_about_18 κ τ σ F nu x1 x2   )) → lv_has ls 4 [(0, .ref a), (1, .int x1), (2, .int x2)] → W p l e (bs_rm 1 0 0 21) s m args below meth c s.heap [] 0 0 Q (F0 m 18 ls [.ref a]) := by
    intro ls hO hl
    refine lv_iconst (v := 1) hx hb dModel_about_18 (by decide) ?_
    refine lv_goto (tgt := 23) hx hb dModel_about_19 (by decide) ?_
    exact J23 ls 1 (by first | exact Or.inl (by decide) | exact Or.inr ⟨rfl, hr1 (by assumption)⟩) (by subst er1; exact hO.tr rfl) (lv_sub hl [0, 1, 2] rfl)
  refine lv_if_ne (tgt := 18) hx hb dModel_about_6 (by decide) (fun c33 => ?_) (fun c33 => ?_)
  · exact J18 ls (by subst er1; exact hO.tr (if_neg c33)) (lv_sub hl [0, 1, 2] rfl)
  · refine lv_iload_n hx hb dModel_about_9 rfl (lv_at hl 2 rfl) ?_
    refine lv_if_lt (tgt := 18) hx hb dModel_about_10 (by decide) (fun c34 => ?_) (fun c34 => ?_)
    · exact J18 ls (by subst er1; exact hO.tr ((if_pos c33).trans (if_pos c34))) (lv_sub hl [0, 1, 2] rfl)
    · refine lv_iload_n hx hb dModel_about_13 rfl (lv_at hl 2 rfl) ?_
      refine lv_iconst (v := 3) hx hb dModel_about_14 (by decide) ?_
      refine lv_icmp_le (tgt := 22) hx hb dModel_about_15 (by decide) (fun c35 => ?_) (fun c35 => ?_)
      · refine lv_iconst (v := 0) hx hb dModel_about_22 (by decide) ?_
        exact J23 ls 0 (by first | exact Or.inl (by decide) | exact Or.inr ⟨rfl, hr1 (by assumption)⟩) (by subst er1; exact hO.tr ((if_pos c33).trans ((if_neg c34).trans (if_pos c35)))) (lv_sub hl [0, 1, 2] rfl)
      · exact J18 ls (by subst er1; exact hO.tr ((if_pos c33).trans ((if_neg c34).trans (if_neg c35)))) (lv_sub hl [0, 1, 2] rfl)
def Q_value_105 (κ : Nat → Nat) (τ : gf) (σ : Nat → Int32) (F : gf) (nu : gg) (x1 : Int32) (x2 : Int32) (t0_14 : Int32) (t0_56 : Int32) (t0_105 : Int32) : XQ := (if ((upd (upd σ 0 t0_14) 0 t0_105) 0) ≤ 0 then (if t0_56 = 0 then (((nu (4000 + x1).toNatClampNeg).toInt32), κ, τ, (upd (upd σ 0 t0_14) 0 t0_105), F, nu) else ((Q_element κ τ (upd (upd σ 0 t0_14) 0 t0_105) F nu (4000 + x1) x2), κ, τ, (upd (upd σ 0 t0_14) 0 t0_105), F, nu)) else (0, κ, τ, (upd (upd σ 0 t0_14) 0 t0_105), F, nu))
def Q_value_100 (κ : Nat → Nat) (τ : gf) (σ : Nat → Int32) (F : gf) (nu : gg) (x1 : Int32) (x2 : Int32) (t0_14 : Int32) (t0_56 : Int32) : XQ := (Q_value_105 κ τ σ F nu x1 x2 t0_14 t0_56  2)
def Q_value_82 (κ : Nat → Nat) (τ : gf) (σ : Nat → Int32) (F : gf) (nu : gg) (x1 : Int32) (x2 : Int32) (t0_14 : Int32) (t0_56 : Int32) : XQ := (if (F 15 x1.toNatClampNeg) = 0 then (Q_value_100 κ τ σ F nu x1 x2 t0_14 t0_56  ) else (if (F 11 (4000 + x1).toNatClampNeg) = 0 then (Q_value_100 κ τ σ F nu x1 x2 t0_14 t0_56  ) else (Q_value_105 κ τ σ F nu x1 x2 t0_14 t0_56  0)))
def Q_value_78 (κ : Nat → Nat) (τ : gf) (σ : Nat → Int32) (F : gf) (nu : gg) (x1 : Int32) (x2 : Int32) (t0_14 : Int32) (t0_56 : Int32) : XQ := (Q_value_105 κ τ σ F nu x1 x2 t0_14 t0_56  1)
def Q_value_56 (κ : Nat → Nat) (τ : gf) (σ : Nat → Int32) (F : gf) (nu : gg) (x1 : Int32) (x2 : Int32) (t0_14 : Int32) (t0_56 : Int32) : XQ := (if t0_56 = 0 then (Q_value_82 κ τ σ F nu x1 x2 t0_14 t0_56  ) else (if x2 < 0 then (Q_value_78 κ τ σ F nu x1 x2 t0_14 t0_56  ) else (if x2 < (F 10 (4000 + x1).toNatClampNeg) then (Q_value_82 κ τ σ F nu x1 x2 t0_14 t0_56  ) else (Q_value_78 κ τ σ F nu x1 x2 t0_14 t0_56  ))))
def Q_value_55 (κ : Nat → Nat) (τ : gf) (σ : Nat → Int32) (F : gf) (nu : gg) (x1 : Int32) (x2 : Int32) (t0_14 : Int32) : XQ := (Q_value_56 κ τ σ F nu x1 x2 t0_14  0)
def Q_value_14 (κ : Nat → Nat) (τ : gf) (σ : Nat → Int32) (F : gf) (nu : gg) (x1 : Int32) (x2 : Int32) (t0_14 : Int32) : XQ := (if ((upd σ 0 t0_14) 0) ≤ 0 then (if (F 15 x1.toNatClampNeg) = 0 then (Q_value_55 κ τ σ F nu x1 x2 t0_14  ) else (if (F 9 (4000 + x1).toNatClampNeg) = 3 then (Q_value_56 κ τ σ F nu x1 x2 t0_14  1) else (Q_value_55 κ τ σ F nu x1 x2 t0_14  ))) else (0, κ, τ, (upd σ 0 t0_14), F, nu))
def Q_value (κ : Nat → Nat) (τ : gf) (σ : Nat → Int32) (F : gf) (nu : gg) (x1 : Int32) (x2 : Int32) : XQ := (if (Q_noNode κ τ σ F nu x1) = 0 then (Q_value_14 κ τ σ F nu x1 x2  0) else (Q_value_14 κ τ σ F nu x1 x2  1))
set_option maxHeartbeats 4000000 in
set_option maxRecDepth 100000 in
theorem n_value (l : Launch) (γ : gE) (a : Nat) (B : Nat → Nat) (Z : Nat → Prop) (κ b mn : Nat → Nat) (ν : Nat → Int32) (τ : Nat → Nat → Int32) (σ : Nat → Int32) (F : Nat → Nat → Int32) (nu : Nat → Int64) (hT : ST κ b mn ν τ) (x1 : Int32) (x2 : Int32) (hZ : SZ F) (hF : FD σ) (hG : GD F nu) : MU l yModel_value bModel_value 5 (some .int) 1 22 0 0 [.ref a, .int x1, .int x2] γ Z (MD γ a B Z ν τ σ F nu) (mQi (fun r H => MIF γ a B Z (Q_value κ τ σ F nu x1 x2) r H) Z) := by
  refine mu_openI (by decide) (Nat.le_of_ble_eq_true rfl) ?_
  intro p e s m args below meth c ls Q S hnm hC hA hM hE hl
  have hS : va_S Z s.heap s.heap [] := va_S.rf
  obtain ⟨hx, hb, hml, hown, hW⟩ := id S
  obtain ⟨⟨hs0, hs1, hs2, hs3, hs4, hs5, hs6⟩, ⟨hv6, hv8, hv21, hv24, hv30, hv31⟩, hTR, hTY, hOB, hNM⟩ := id hT
  have hl : lv_has ls 5 [(0, .ref a), (1, .int x1), (2, .int x2)] := hl
  obtain ⟨OUT, hQ, hO⟩ : ∃ z, (z = Q_value κ τ σ F nu x1 x2) ∧ Oq z (Q_value κ τ σ F nu x1 x2) := ⟨_, rfl, rfl⟩
  rw [← hQ] at hE
  clear hQ
  refine lv_aload_n hx hb dModel_value_0 rfl (lv_at hl 0 rfl) ?_
  refine lv_aload_n hx hb dModel_value_1 rfl (lv_at hl 0 rfl) ?_
  refine lv_iload_n hx hb dModel_value_2 rfl (lv_at hl 1 rfl) ?_
  refine pu_Vi (rest := [.ref a]) S hC (n_noNode l γ a B Z κ b mn ν τ σ F nu hT x1 ) meModel_noNode qw_c926675227 ⟨Nat.le_of_ble_eq_true rfl, Nat.le_of_ble_eq_true rfl⟩ (md_rv hC hM) hM rfl hl.1 rfl (Nat.le_of_ble_eq_true rfl) dModel_value_3 ⟨Nat.zero_le _, Nat.zero_le _⟩ (fun r1 hr1 => ?_)
  obtain ⟨hr1, er1⟩ := hr1
  have J14 : ∀ (ls : Array Slot) (t0_14 : Int32), (0 < t0_14 ∨ (t0_14 = 0 ∧ vp_in x1 (κ 0))) → (Oq OUT (Q_value_14 κ τ σ F nu x1 x2   t0_14)) → lv_has ls 5 [(0, .ref a), (1, .int x1), (2, .int x2)] → W p l e (bs_rm 1 0 0 22) s m args below meth c s.heap [] 0 0 Q (F0 m 14 ls [.int t0_14, .ref a]) := by
    intro ls t0_14 ht0_14 hO hl
    refine md_pD S hC hM hS 0 rfl (by decide) rfl qw_53e275eed6 rfl (by decide +kernel) dModel_value_14 (fun H locs hM hS => ?_)
    obtain ⟨σ26, eσ26⟩ : ∃ z : Nat → Int32, z = upd σ 0 t0_14 := ⟨_, rfl⟩
    rw [← eσ26] at hM
    have hF : FD σ26 := hF.up eσ26 (by decide) (by decide)
    refine lv_aload_n hx hb dModel_value_17 rfl (lv_at hl 0 rfl) ?_
    refine md_gI S hC hM 0 (v := σ26 0) rfl (by decide) rfl qw_53e275eed6 dModel_value_18 ?_
    refine lv_topi (fun v27 ev27 => ?_)
    refine lv_if_le (tgt := 26) hx hb dModel_value_21 (by decide) (fun c28 => ?_) (fun c28 => ?_)
    · have hx1 : vp_in x1 (κ 0) := cd_0 eσ26 ev27 (by assumption) ht0_14
      refine lv_sipush (v := 4000) hx hb dModel_value_26 (by decide) ?_
      refine lv_iload_n hx hb dModel_value_29 rfl (lv_at hl 1 rfl) ?_
      refine lv_iadd hx hb dModel_value_30 ?_
      refine lv_topi (fun v29 ev29 => ?_)
      refine lv_istore_n (lv' := [(3, .int v29), (0, .ref a), (1, .int x1), (2, .int x2)]) hx hb dModel_value_31 rfl hl (by decide) rfl (fun ls hl => ?_)
      have h4 : vp_in v29 8000 := (vin4 (vin hx1 (by omega)) ev29).1
      refine lv_aload_n hx hb dModel_value_32 rfl (lv_at hl 1 rfl) ?_
      refine md_gA S hC hM 15 (by decide) rfl qw_bcd494e5c6 dModel_value_33 ?_
      refine lv_iload_n hx hb dModel_value_36 rfl (lv_at hl 2 rfl) ?_
      refine md_zld S hC hM 15 11 4000 (F 15) rfl rfl (by decide) rfl rfl (vin (by assumption) (by omega)) dModel_value_37 ?_
      refine lv_topi (fun v30 ev30 => ?_)
      have J56 : ∀ (ls : Array Slot) (t0_56 : Int32), (Oq OUT (Q_value_56 κ τ σ F nu x1 x2 t0_14   t0_56)) → lv_has ls 5 [(0, .ref a), (1, .int x1), (2, .int x2), (3, .int v29)] → W p l e (bs_rm 1 0 0 22) s m args below meth c H locs 0 0 Q (F0 m 56 ls [.int t0_56]) := by
        intro ls t0_56 hO hl
        refine lv_istore (lv' := [(4, .int t0_56), (0, .ref a), (1, .int x1), (2, .int x2), (3, .int v29)]) hx hb dModel_value_56 hl (by decide) rfl (fun ls hl => ?_)
        refine lv_aload_n hx hb dModel_value_58 rfl (lv_at hl 1 rfl) ?_
        refine lv_iload hx hb dModel_value_59 (lv_at hl 0 rfl) ?_
        have J105 : ∀ (ls : Array Slot) (t0_105 : Int32), (0 < t0_105 ∨ (t0_105 = 0 ∧ (¬ t0_56 = 0 → vp_in x2 1000))) → (Oq OUT (Q_value_105 κ τ σ F nu x1 x2 t0_14 t0_56   t0_105)) → lv_has ls 5 [(0, .ref a), (1, .int x1), (2, .int x2), (3, .int v29), (4, .int t0_56)] → W p l e (bs_rm 1 0 0 22) s m args below meth c H locs 0 0 Q (F0 m 105 ls [.int t0_105, .ref a]) := by
          intro ls t0_105 ht0_105 hO hl
          refine md_pD S hC hM hS 0 rfl (by decide) rfl qw_53e275eed6 rfl (by decide +kernel) dModel_value_105 (fun H locs hM hS => ?_)
          obtain ⟨σ64, eσ64⟩ : ∃ z : Nat → Int32, z = upd σ26 0 t0_105 := ⟨_, rfl⟩
          rw [← eσ64] at hM
          have hF : FD σ64 := hF.up eσ64 (by decide) (by decide)
          refine lv_aload_n hx hb dModel_value_108 rfl (lv_at hl 0 rfl) ?_
          refine md_gI S hC hM 0 (v := σ64 0) rfl (by decide) rfl qw_53e275eed6 dModel_value_109 ?_
          refine lv_topi (fun v65 ev65 => ?_)
          refine lv_if_le (tgt := 117) hx hb dModel_value_112 (by decide) (fun c66 => ?_) (fun c66 => ?_)
          · have hk2 : ¬ t0_56 = 0 → vp_in x2 1000 := cd_0 eσ64 ev65 (by assumption) ht0_105
            refine lv_iload hx hb dModel_value_117 (lv_at hl 4 rfl) ?_
            refine lv_if_eq (tgt := 131) hx hb dModel_value_119 (by decide) (fun c67 => ?_) (fun c67 => ?_)
            · refine lv_aload_n hx hb dModel_value_131 rfl (lv_at hl 0 rfl) ?_
              refine md_gA S hC hM 13 (by decide) rfl qw_7b809afc8c dModel_value_132 ?_
              refine lv_iload_n hx hb dModel_value_135 rfl (lv_at hl 3 rfl) ?_
              refine md_lld S hC hM (vin (by assumption) (by omega)) dModel_value_136 ?_
              refine lv_topl (fun v68 ev68 => ?_)
              have ev68 : v68 = nu v29.toNatClampNeg := ev68
              refine lv_l2i hx hb dModel_value_137 rfl ?_
              refine lv_topi (fun v69 ev69 => ?_)
              exact hE _ _ _ _ _ hS ⟨κ, _, _, _, τ, σ64, F, nu, (by subst ev69 ev68 ev65 eσ64 ev30 ev29 ev27 eσ26 er1; exact hO.tr ((if_pos c66).trans (if_pos c67))), hT, hZ, hF, hG, hM⟩ dModel_value_138
            · have hx2 := hk2 (by assumption)
              refine lv_aload_n hx hb dModel_value_122 rfl (lv_at hl 0 rfl) ?_
              refine lv_iload_n hx hb dModel_value_123 rfl (lv_at hl 3 rfl) ?_
              refine lv_iload_n hx hb dModel_value_124 rfl (lv_at hl 2 rfl) ?_
              refine pu_Vi (rest := []) S hC (n_element l γ a B Z κ b mn ν τ σ64 F nu hT v29 x2 (el_in (by assumption) (by assumption) (by omega))) meModel_element qw_ceb3d87d61 ⟨Nat.le_of_ble_eq_true rfl, Nat.le_of_ble_eq_true rfl⟩ (md_rv hC hM) hM rfl hl.1 rfl (Nat.le_of_ble_eq_true rfl) dModel_value_125 ⟨Nat.zero_le _, Nat.zero_le _⟩ (fun r70 hr70 => ?_)
              obtain ⟨hr70, er70⟩ := hr70
              refine lv_goto (tgt := 138) hx hb dModel_value_128 (by decide) ?_
              exact hE _ _ _ _ _ hS ⟨κ, _, _, _, τ, σ64, F, nu, (by subst er70 ev65 eσ64 ev30 ev29 ev27 eσ26 er1; exact hO.tr ((if_pos c66).trans (if_neg c67))), hT, hZ, hF, hG, hM⟩ dModel_value_138
          · refine lv_iconst (v := 0) hx hb dModel_value_115 (by decide) ?_
            exact hE _ _ _ _ _ hS ⟨κ, _, _, _, τ, σ64, F, nu, (by subst ev65 eσ64 ev30 ev29 ev27 eσ26 er1; exact hO.tr (if_neg c66)), hT, hZ, hF, hG, hM⟩ dModel_value_116
        have J82 : ∀ (ls : Array Slot), (¬ t0_56 = 0 → vp_in x2 1000) → (Oq OUT (Q_value_82 κ τ σ F nu x1 x2 t0_14 t0_56   )) → lv_has ls 5 [(0, .ref a), (1, .int x1), (2, .int x2), (3, .int v29), (4, .int t0_56)] → W p l e (bs_rm 1 0 0 22) s m args below meth c H locs 0 0 Q (F0 m 82 ls [.ref a]) := by
          intro ls h82 hO hl
          refine lv_aload_n hx hb dModel_value_82 rfl (lv_at hl 0 rfl) ?_
          refine md_gA S hC hM 15 (by decide) rfl qw_bcd494e5c6 dModel_value_83 ?_
          refine lv_iload_n hx hb dModel_value_86 rfl (lv_at hl 1 rfl) ?_
          refine md_zld S hC hM 15 11 4000 (F 15) rfl rfl (by decide) rfl rfl (vin (by assumption) (by omega)) dModel_value_87 ?_
          refine lv_topi (fun v71 ev71 => ?_)
          have J100 : ∀ (ls : Array Slot), (Oq OUT (Q_value_100 κ τ σ F nu x1 x2 t0_14 t0_56   )) → lv_has ls 5 [(0, .ref a), (1, .int x1), (2, .int x2), (3, .int v29), (4, .int t0_56)] → W p l e (bs_rm 1 0 0 22) s m args below meth c H locs 0 0 Q (F0 m 100 ls [.ref a]) := by
            intro ls hO hl
            refine lv_iconst (v := 2) hx hb dModel_value_100 (by decide) ?_
            refine lv_goto (tgt := 105) hx hb dModel_value_101 (by decide) ?_
            exact J105 ls 2 (by first | exact Or.inl (by decide) | exact Or.inr ⟨rfl, h82⟩) (by subst ev71 ev30 ev29 ev27 eσ26 er1; exact hO.tr rfl) (lv_sub hl [0, 1, 2, 3, 4] rfl)
          refine lv_if_eq (tgt := 100) hx hb dModel_value_88 (by decide) (fun c75 => ?_) (fun c75 => ?_)
          · exact J100 ls (by subst ev71 ev30 ev29 ev27 eσ26 er1; exact hO.tr (if_pos c75)) (lv_sub hl [0, 1, 2, 3, 4] rfl)
          · refine lv_aload_n hx hb dModel_value_91 rfl (lv_at hl 0 rfl) ?_
            refine md_gA S hC hM 11 (by decide) rfl qw_88b9028ba7 dModel_value_92 ?_
            refine lv_iload_n hx hb dModel_value_95 rfl (lv_at hl 3 rfl) ?_
            refine md_zld S hC hM 11 7 10000 (F 11) rfl rfl (by decide) rfl rfl (vin (by assumption) (by omega)) dModel_value_96 ?_
            refine lv_topi (fun v76 ev76 => ?_)
            refine lv_if_ne (tgt := 104) hx hb dModel_value_97 (by decide) (fun c77 => ?_) (fun c77 => ?_)
            · refine lv_iconst (v := 0) hx hb dModel_value_104 (by decide) ?_
              exact J105 ls 0 (by first | exact Or.inl (by decide) | exact Or.inr ⟨rfl, h82⟩) (by subst ev76 ev71 ev30 ev29 ev27 eσ26 er1; exact hO.tr ((if_neg c75).trans (if_neg c77))) (lv_sub hl [0, 1, 2, 3, 4] rfl)
            · exact J100 ls (by subst ev76 ev71 ev30 ev29 ev27 eσ26 er1; exact hO.tr ((if_neg c75).trans (if_pos c77))) (lv_sub hl [0, 1, 2, 3, 4] rfl)
        refine lv_if_eq (tgt := 82) hx hb dModel_value_61 (by decide) (fun c78 => ?_) (fun c78 => ?_)
        · exact J82 ls (by first | exact (fun h9 => absurd (by assumption) h9) | exact (fun _ => vsz hZ (vix (vin h4 (by omega))) (by assumption) (by assumption) (lt_nge (by assumption)))) (by subst ev30 ev29 ev27 eσ26 er1; exact hO.tr (if_pos c78)) (lv_sub hl [1, 2, 3, 4, 0] rfl)
        · refine lv_iload_n hx hb dModel_value_64 rfl (lv_at hl 3 rfl) ?_
          have J78 : ∀ (ls : Array Slot), (Oq OUT (Q_value_78 κ τ σ F nu x1 x2 t0_14 t0_56   )) → lv_has ls 5 [(0, .ref a), (1, .int x1), (2, .int x2), (3, .int v29), (4, .int t0_56)] → W p l e (bs_rm 1 0 0 22) s m args below meth c H locs 0 0 Q (F0 m 78 ls [.ref a]) := by
            intro ls hO hl
            refine lv_iconst (v := 1) hx hb dModel_value_78 (by decide) ?_
            refine lv_goto (tgt := 105) hx hb dModel_value_79 (by decide) ?_
            exact J105 ls 1 (by first | exact Or.inl (by decide) | exact Or.inr ⟨rfl, h82⟩) (by subst ev30 ev29 ev27 eσ26 er1; exact hO.tr rfl) (lv_sub hl [0, 1, 2, 3, 4] rfl)
          refine lv_if_lt (tgt := 78) hx hb dModel_value_65 (by decide) (fun c82 => ?_) (fun c82 => ?_)
          · exact J78 ls (by subst ev30 ev29 ev27 eσ26 er1; exact hO.tr ((if_neg c78).trans (if_pos c82))) (lv_sub hl [1, 2, 3, 4, 0] rfl)
          · refine lv_iload_n hx hb dModel_value_68 rfl (lv_at hl 3 rfl) ?_
            refine lv_aload_n hx hb dModel_value_69 rfl (lv_at hl 1 rfl) ?_
            refine md_gA S hC hM 10 (by decide) rfl qw_bd0251c605 dModel_value_70 ?_
            refine lv_iload_n hx hb dModel_value_73 rfl (lv_at hl 4 rfl) ?_
            refine md_ild S hC hM 10 6 10000 (F 10) rfl rfl (by decide) rfl rfl (vin (by assumption) (by omega)) dModel_value_74 ?_
            refine lv_topi (fun v83 ev83 => ?_)
            refine lv_icmp_lt (tgt := 82) hx hb dModel_value_75 (by decide) (fun c84 => ?_) (fun c84 => ?_)
            · exact J82 ls (by first | exact (fun h9 => absurd (by assumption) h9) | exact (fun _ => vsz hZ (vix (vin h4 (by omega))) (by assumption) (by assumption) (lt_nge (by assumption)))) (by subst ev83 ev30 ev29 ev27 eσ26 er1; exact hO.tr ((if_neg c78).trans ((if_neg c82).trans (if_pos c84)))) (lv_sub hl [1, 2, 3, 4, 0] rfl)
            · exact J78 ls (by subst ev83 ev30 ev29 ev27 eσ26 er1; exact hO.tr ((if_neg c78).trans ((if_neg c82).trans (if_neg c84)))) (lv_sub hl [1, 2, 3, 4, 0] rfl)
      have J55 : ∀ (ls : Array Slot), (Oq OUT (Q_value_55 κ τ σ F nu x1 x2 t0_14   )) → lv_has ls 5 [(0, .ref a), (1, .int x1), (2, .int x2), (3, .int v29)] → W p l e (bs_rm 1 0 0 22) s m args below meth c H locs 0 0 Q (F0 m 55 ls []) := by
        intro ls hO hl
        refine lv_iconst (v := 0) hx hb dModel_value_55 (by decide) ?_
        exact J56 ls 0 (by subst ev30 ev29 ev27 eσ26 er1; exact hO.tr rfl) (lv_sub hl [0, 1, 2, 3] rfl)
      refine lv_if_eq (tgt := 55) hx hb dModel_value_38 (by decide) (fun c85 => ?_) (fun c85 => ?_)
      · exact J55 ls (by subst ev30 ev29 ev27 eσ26 er1; exact hO.tr ((if_pos c28).trans (if_pos c85))) (lv_sub hl [1, 2, 3, 0] rfl)
      · refine lv_aload_n hx hb dModel_value_41 rfl (lv_at hl 1 rfl) ?_
        refine md_gA S hC hM 9 (by decide) rfl qw_a119aeeca0 dModel_value_42 ?_
        refine lv_iload_n hx hb dModel_value_45 rfl (lv_at hl 0 rfl) ?_
        refine md_ild S hC hM 9 5 10000 (F 9) rfl rfl (by decide) rfl rfl (vin (by assumption) (by omega)) dModel_value_46 ?_
        refine lv_topi (fun v86 ev86 => ?_)
        refine lv_iconst (v := 3) hx hb dModel_value_47 (by decide) ?_
        refine lv_icmp_ne (tgt := 55) hx hb dModel_value_48 (by decide) (fun c87 => ?_) (fun c87 => ?_)
        · exact J55 ls (by subst ev86 ev30 ev29 ev27 eσ26 er1; exact hO.tr ((if_pos c28).trans ((if_neg c85).trans (if_neg c87)))) (lv_sub hl [1, 2, 3, 0] rfl)
        · refine lv_iconst (v := 1) hx hb dModel_value_51 (by decide) ?_
          refine lv_goto (tgt := 56) hx hb dModel_value_52 (by decide) ?_
          exact J56 ls 1 (by subst ev86 ev30 ev29 ev27 eσ26 er1; exact hO.tr ((if_pos c28).trans ((if_neg c85).trans (if_pos c87)))) (lv_sub hl [1, 2, 3, 0] rfl)
    · refine lv_iconst (v := 0) hx hb dModel_value_24 (by decide) ?_
      exact hE _ _ _ _ _ hS ⟨κ, _, _, _, τ, σ26, F, nu, (by subst ev27 eσ26 er1; exact hO.tr (if_neg c28)), hT, hZ, hF, hG, hM⟩ dModel_value_25
  refine lv_if_eq (tgt := 13) hx hb dModel_value_6 (by decide) (fun c88 => ?_) (fun c88 => ?_)
  · refine lv_iconst (v := 0) hx hb dModel_value_13 (by decide) ?_
    exact J14 ls 0 (by first | exact Or.inl (by decide) | exact Or.inr ⟨rfl, hr1 (by assumption)⟩) (by subst er1; exact hO.tr (if_pos c88)) (lv_sub hl [0, 1, 2] rfl)
  · refine lv_iconst (v := 1) hx hb dModel_value_9 (by decide) ?_
    refine lv_goto (tgt := 14) hx hb dModel_value_10 (by decide) ?_
    exact J14 ls 1 (by first | exact Or.inl (by decide) | exact Or.inr ⟨rfl, hr1 (by assumption)⟩) (by subst er1; exact hO.tr (if_neg c88)) (lv_sub hl [0, 1, 2] rfl)
def Q_check_73 (κ : Nat → Nat) (τ : gf) (σ : Nat → Int32) (F : gf) (nu : gg) (x1 : Int32) (x2 : Int32) (t0_27 : Int32) (t0_73 : Int32) : XQ := (if t0_73 ≤ 0 then (0, κ, τ, ((Q_goThrough κ τ (upd σ 0 t0_27) F nu (τ 5 x1.toNatClampNeg) x1).2.1), ((Q_keep κ τ ((Q_goThrough κ τ (upd σ 0 t0_27) F nu (τ 5 x1.toNatClampNeg) x1).2.1) ((Q_goThrough κ τ (upd σ 0 t0_27) F nu (τ 5 x1.toNatClampNeg) x1).2.2.1) ((Q_goThrough κ τ (upd σ 0 t0_27) F nu (τ 5 x1.toNatClampNeg) x1).2.2.2) (τ 5 x1.toNatClampNeg) x1).2.1), ((Q_keep κ τ ((Q_goThrough κ τ (upd σ 0 t0_27) F nu (τ 5 x1.toNatClampNeg) x1).2.1) ((Q_goThrough κ τ (upd σ 0 t0_27) F nu (τ 5 x1.toNatClampNeg) x1).2.2.1) ((Q_goThrough κ τ (upd σ 0 t0_27) F nu (τ 5 x1.toNatClampNeg) x1).2.2.2) (τ 5 x1.toNatClampNeg) x1).2.2)) else ((Q_wrong κ τ ((Q_goThrough κ τ (upd σ 0 t0_27) F nu (τ 5 x1.toNatClampNeg) x1).2.1) ((Q_goThrough κ τ (upd σ 0 t0_27) F nu (τ 5 x1.toNatClampNeg) x1).2.2.1) ((Q_goThrough κ τ (upd σ 0 t0_27) F nu (τ 5 x1.toNatClampNeg) x1).2.2.2) x1 t0_73).1, κ, τ, ((Q_wrong κ τ ((Q_goThrough κ τ (upd σ 0 t0_27) F nu (τ 5 x1.toNatClampNeg) x1).2.1) ((Q_goThrough κ τ (upd σ 0 t0_27) F nu (τ 5 x1.toNatClampNeg) x1).2.2.1) ((Q_goThrough κ τ (upd σ 0 t0_27) F nu (τ 5 x1.toNatClampNeg) x1).2.2.2) x1 t0_73).2.1), ((Q_goThrough κ τ (upd σ 0 t0_27) F nu (τ 5 x1.toNatClampNeg) x1).2.2.1), ((Q_goThrough κ τ (upd σ 0 t0_27) F nu (τ 5 x1.toNatClampNeg) x1).2.2.2)))
def Q_check_27 (κ : Nat → Nat) (τ : gf) (σ : Nat → Int32) (F : gf) (nu : gg) (x1 : Int32) (x2 : Int32) (t0_27 : Int32) : XQ := (if ((upd σ 0 t0_27) 0) ≤ 0 then (if ((Q_goThrough κ τ (upd σ 0 t0_27) F nu (τ 5 x1.toNatClampNeg) x1).1) ≤ 0 then (if x2 = (-1) then (Q_check_73 κ τ σ F nu x1 x2 t0_27  0) else (Q_check_73 κ τ σ F nu x1 x2 t0_27  (Q_fits κ τ ((Q_goThrough κ τ (upd σ 0 t0_27) F nu (τ 5 x1.toNatClampNeg) x1).2.1) ((Q_goThrough κ τ (upd σ 0 t0_27) F nu (τ 5 x1.toNatClampNeg) x1).2.2.1) ((Q_goThrough κ τ (upd σ 0 t0_27) F nu (τ 5 x1.toNatClampNeg) x1).2.2.2) x1 x2))) else ((-((Q_goThrough κ τ (upd σ 0 t0_27) F nu (τ 5 x1.toNatClampNeg) x1).1)), κ, τ, ((Q_goThrough κ τ (upd σ 0 t0_27) F nu (τ 5 x1.toNatClampNeg) x1).2.1), ((Q_goThrough κ τ (upd σ 0 t0_27) F nu (τ 5 x1.toNatClampNeg) x1).2.2.1), ((Q_goThrough κ τ (upd σ 0 t0_27) F nu (τ 5 x1.toNatClampNeg) x1).2.2.2))) else (0, κ, τ, (upd σ 0 t0_27), F, nu))
def Q_check_26 (κ : Nat → Nat) (τ : gf) (σ : Nat → Int32) (F : gf) (nu : gg) (x1 : Int32) (x2 : Int32) : XQ := (Q_check_27 κ τ σ F nu x1 x2  0)
def Q_check_22 (κ : Nat → Nat) (τ : gf) (σ : Nat → Int32) (F : gf) (nu : gg) (x1 : Int32) (x2 : Int32) : XQ := (Q_check_27 κ τ σ F nu x1 x2  1)
def Q_check (κ : Nat → Nat) (τ : gf) (σ : Nat → Int32) (F : gf) (nu : gg) (x1 : Int32) (x2 : Int32) : XQ := (if (Q_noNode κ τ σ F nu x1) = 0 then (if x2 = (-1) then (Q_check_26 κ τ σ F nu x1 x2  ) else (if (Q_noType κ τ σ F nu x2) = 0 then (Q_check_26 κ τ σ F nu x1 x2  ) else (Q_check_22 κ τ σ F nu x1 x2  ))) else (Q_check_22 κ τ σ F nu x1 x2  ))
set_option maxHeartbeats 4000000 in
set_option maxRecDepth 100000 in
theorem n_check (l : Launch) (γ : gE) (a : Nat) (B : Nat → Nat) (Z : Nat → Prop) (κ b mn : Nat → Nat) (ν : Nat → Int32) (τ : Nat → Nat → Int32) (σ : Nat → Int32) (F : Nat → Nat → Int32) (nu : Nat → Int64) (hT : ST κ b mn ν τ) (x1 : Int32) (x2 : Int32) (hZ : SZ F) (hF : FD σ) (hG : GD F nu) : MU l yModel_check bModel_check 4 (some .int) 7 177 0 0 [.ref a, .int x1, .int x2] γ Z (MD γ a B Z ν τ σ F nu) (mQi (fun r H => MIF γ a B Z (Q_check κ τ σ F nu x1 x2) r H) Z) := by
  refine mu_openI (by decide) (Nat.le_of_ble_eq_true rfl) ?_
  intro p e s m args below meth c ls Q S hnm hC hA hM hE hl
  have hS : va_S Z s.heap s.heap [] := va_S.rf
  obtain ⟨hx, hb, hml, hown, hW⟩ := id S
  obtain ⟨⟨hs0, hs1, hs2, hs3, hs4, hs5, hs6⟩, ⟨hv6, hv8, hv21, hv24, hv30, hv31⟩, hTR, hTY, hOB, hNM⟩ := id hT
  have hl : lv_has ls 4 [(0, .ref a), (1, .int x1), (2, .int x2)] := hl
  obtain ⟨OUT, hQ, hO⟩ : ∃ z, (z = Q_check κ τ σ F nu x1 x2) ∧ Oq z (Q_check κ τ σ F nu x1 x2) := ⟨_, rfl, rfl⟩
  rw [← hQ] at hE
  clear hQ
  refine lv_aload_n hx hb dModel_check_0 rfl (lv_at hl 0 rfl) ?_
  refine lv_aload_n hx hb dModel_check_1 rfl (lv_at hl 0 rfl) ?_
  refine lv_iload_n hx hb dModel_check_2 rfl (lv_at hl 1 rfl) ?_
  refine pu_Vi (rest := [.ref a]) S hC (n_noNode l γ a B Z κ b mn ν τ σ F nu hT x1 ) meModel_noNode qw_c926675227 ⟨Nat.le_of_ble_eq_true rfl, Nat.le_of_ble_eq_true rfl⟩ (md_rv hC hM) hM rfl hl.1 rfl (Nat.le_of_ble_eq_true rfl) dModel_check_3 ⟨Nat.zero_le _, Nat.zero_le _⟩ (fun r1 hr1 => ?_)
  obtain ⟨hr1, er1⟩ := hr1
  have J27 : ∀ (ls : Array Slot) (t0_27 : Int32), (0 < t0_27 ∨ (t0_27 = 0 ∧ vp_in x1 (κ 0) ∧ (x2 = -1 ∨ vp_in x2 (κ 2)))) → (Oq OUT (Q_check_27 κ τ σ F nu x1 x2   t0_27)) → lv_has ls 4 [(0, .ref a), (1, .int x1), (2, .int x2)] → W p l e (bs_rm 7 0 0 177) s m args below meth c s.heap [] 0 0 Q (F0 m 27 ls [.int t0_27, .ref a]) := by
    intro ls t0_27 ht0_27 hO hl
    refine md_pD S hC hM hS 0 rfl (by decide) rfl qw_53e275eed6 rfl (by decide +kernel) dModel_check_27 (fun H locs hM hS => ?_)
    obtain ⟨σ19, eσ19⟩ : ∃ z : Nat → Int32, z = upd σ 0 t0_27 := ⟨_, rfl⟩
    rw [← eσ19] at hM
    have hF : FD σ19 := hF.up eσ19 (by decide) (by decide)
    refine lv_aload_n hx hb dModel_check_30 rfl (lv_at hl 0 rfl) ?_
    refine md_gI S hC hM 0 (v := σ19 0) rfl (by decide) rfl qw_53e275eed6 dModel_check_31 ?_
    refine lv_topi (fun v20 ev20 => ?_)
    refine lv_if_le (tgt := 39) hx hb dModel_check_34 (by decide) (fun c21 => ?_) (fun c21 => ?_)
    · obtain ⟨hx1, hx2⟩ := cd_0 eσ19 ev20 (by assumption) ht0_27
      refine lv_aload_n hx hb dModel_check_39 rfl (lv_at hl 0 rfl) ?_
      refine lv_aload_n hx hb dModel_check_40 rfl (lv_at hl 0 rfl) ?_
      refine md_gA S hC hM 5 (by decide) rfl qw_7e4081a75e dModel_check_41 ?_
      refine lv_iload_n hx hb dModel_check_44 rfl (lv_at hl 1 rfl) ?_
      refine md_ild S hC hM 5 3 4000 (τ 5) rfl rfl (by decide) rfl rfl (vin (by assumption) (by omega)) dModel_check_45 ?_
      refine lv_topi (fun v22 ev22 => ?_)
      refine lv_iload_n hx hb dModel_check_46 rfl (lv_at hl 1 rfl) ?_
      have hbg := bg_ok hTR hs0 hx1 ev22
      refine mu_Vi (rest := []) S hC (fun q h => hA q (Nat.le_trans hS.1 h)) (fun q h => h) hS (n_goThrough l γ a B Z κ b mn ν τ σ19 F nu hT v22 x1 hbg.1 (x_int hx1) (fun k h8 h9 => by rw [hbg.2] at h8 ⊢; exact rg_ge hTR (vix hx1) h8 (by rw [vin_int hx1] at h9; omega)) hZ hF hG) meModel_goThrough qw_fb32874592 ⟨Nat.le_of_ble_eq_true rfl, Nat.le_of_ble_eq_true rfl⟩ (md_rv hC hM) hM rfl hl.1 rfl (Nat.le_of_ble_eq_true rfl) dModel_check_47 ⟨Nat.le_refl _, Nat.le_refl _⟩ (fun r23 H locs hPO hS _ _ => ?_)
      obtain ⟨σr23, Fr23, nur23, eOr23, hM, hZ, hF, hG, hgtr23⟩ := hPO
      have er23 : r23 = (Q_goThrough κ τ σ19 F nu v22 x1).1 := by rw [eOr23.eq]
      have eσr23 : σr23 = (Q_goThrough κ τ σ19 F nu v22 x1).2.1 := by rw [eOr23.eq]
      have eFr23 : Fr23 = (Q_goThrough κ τ σ19 F nu v22 x1).2.2.1 := by rw [eOr23.eq]
      have enur23 : nur23 = (Q_goThrough κ τ σ19 F nu v22 x1).2.2.2 := by rw [eOr23.eq]
      clear eOr23
      refine lv_istore_n (lv' := [(3, .int r23), (0, .ref a), (1, .int x1), (2, .int x2)]) hx hb dModel_check_50 rfl hl (by decide) rfl (fun ls hl => ?_)
      refine lv_iload_n hx hb dModel_check_51 rfl (lv_at hl 0 rfl) ?_
      refine lv_if_le (tgt := 58) hx hb dModel_check_52 (by decide) (fun c24 => ?_) (fun c24 => ?_)
      · refine lv_iload_n hx hb dModel_check_58 rfl (lv_at hl 3 rfl) ?_
        refine lv_iconst (v := (-1)) hx hb dModel_check_59 (by decide) ?_
        have J73 : ∀ (ls : Array Slot) (t0_73 : Int32), (Oq OUT (Q_check_73 κ τ σ F nu x1 x2 t0_27   t0_73)) → lv_has ls 4 [(0, .ref a), (1, .int x1), (2, .int x2), (3, .int r23)] → W p l e (bs_rm 7 0 0 177) s m args below meth c H locs 0 0 Q (F0 m 73 ls [.int t0_73]) := by
          intro ls t0_73 hO hl
          refine lv_istore_n (lv' := [(3, .int t0_73), (0, .ref a), (1, .int x1), (2, .int x2)]) hx hb dModel_check_73 rfl hl (by decide) rfl (fun ls hl => ?_)
          refine lv_iload_n hx hb dModel_check_74 rfl (lv_at hl 0 rfl) ?_
          refine lv_if_le (tgt := 85) hx hb dModel_check_75 (by decide) (fun c31 => ?_) (fun c31 => ?_)
          · refine lv_aload_n hx hb dModel_check_85 rfl (lv_at hl 1 rfl) ?_
            refine lv_aload_n hx hb dModel_check_86 rfl (lv_at hl 1 rfl) ?_
            refine md_gA S hC hM 5 (by decide) rfl qw_7e4081a75e dModel_check_87 ?_
            refine lv_iload_n hx hb dModel_check_90 rfl (lv_at hl 2 rfl) ?_
            refine md_ild S hC hM 5 3 4000 (τ 5) rfl rfl (by decide) rfl rfl (vin (by assumption) (by omega)) dModel_check_91 ?_
            refine lv_topi (fun v32 ev32 => ?_)
            refine lv_iload_n hx hb dModel_check_92 rfl (lv_at hl 2 rfl) ?_
            have hbg2 := bg_ok hTR hs0 hx1 ev32
            refine mu_Vv (rest := []) S hC (fun q h => hA q (Nat.le_trans hS.1 h)) (fun q h => h) hS (n_keep l γ a B Z κ b mn ν τ σr23 Fr23 nur23 hT v32 x1 hbg2.1 (x_int hx1) hZ hG (fun j h7 h8 h9 => hgtr23 (Int32.not_lt.mpr (by assumption)) j (by rw [hbg.2]; rw [hbg2.2] at h7; exact h7) h8 h9)) meModel_keep qw_8cce6d7b5c ⟨Nat.le_of_ble_eq_true rfl, Nat.le_of_ble_eq_true rfl⟩ (md_rv hC hM) hM rfl hl.1 rfl (Nat.le_of_ble_eq_true rfl) dModel_check_93 ⟨Nat.le_refl _, Nat.le_refl _⟩ (fun H locs hPO hS _ _ => ?_)
            obtain ⟨Fr33, nur33, eOr33, hM, hZ, hG⟩ := hPO
            have eFr33 : Fr33 = (Q_keep κ τ σr23 Fr23 nur23 v32 x1).2.1 := by rw [eOr33.eq]
            have enur33 : nur33 = (Q_keep κ τ σr23 Fr23 nur23 v32 x1).2.2 := by rw [eOr33.eq]
            clear eOr33
            refine lv_iconst (v := 0) hx hb dModel_check_96 (by decide) ?_
            exact hE _ _ _ _ _ hS ⟨κ, _, _, _, τ, σr23, Fr33, nur33, (by subst enur33 eFr33 ev32 enur23 eFr23 eσr23 er23 ev22 ev20 eσ19 er1; exact hO.tr (if_pos c31)), hT, hZ, hF, hG, hM⟩ dModel_check_97
          · refine lv_aload_n hx hb dModel_check_78 rfl (lv_at hl 1 rfl) ?_
            refine lv_iload_n hx hb dModel_check_79 rfl (lv_at hl 2 rfl) ?_
            refine lv_iload_n hx hb dModel_check_80 rfl (lv_at hl 0 rfl) ?_
            refine mu_Vi (rest := []) S hC (fun q h => hA q (Nat.le_trans hS.1 h)) (fun q h => h) hS (n_wrong l γ a B Z κ b mn ν τ σr23 Fr23 nur23 hT x1 t0_73 hF) meModel_wrong qw_a6e9824456 ⟨Nat.le_of_ble_eq_true rfl, Nat.le_of_ble_eq_true rfl⟩ (md_rv hC hM) hM rfl hl.1 rfl (Nat.le_of_ble_eq_true rfl) dModel_check_81 ⟨Nat.le_refl _, Nat.le_refl _⟩ (fun r34 H locs hPO hS _ _ => ?_)
            obtain ⟨σr34, eOr34, hM, hF, h0r34⟩ := hPO
            have er34 : r34 = (Q_wrong κ τ σr23 Fr23 nur23 x1 t0_73).1 := by rw [eOr34.eq]
            have eσr34 : σr34 = (Q_wrong κ τ σr23 Fr23 nur23 x1 t0_73).2.1 := by rw [eOr34.eq]
            clear eOr34
            exact hE _ _ _ _ _ hS ⟨κ, _, _, _, τ, σr34, Fr23, nur23, (by subst eσr34 er34 enur23 eFr23 eσr23 er23 ev22 ev20 eσ19 er1; exact hO.tr (if_neg c31)), hT, hZ, hF, hG, hM⟩ dModel_check_84
        refine lv_icmp_ne (tgt := 67) hx hb dModel_check_60 (by decide) (fun c35 => ?_) (fun c35 => ?_)
        · have hx2b := hx2.resolve_left (by assumption)
          refine lv_aload_n hx hb dModel_check_67 rfl (lv_at hl 1 rfl) ?_
          refine lv_iload_n hx hb dModel_check_68 rfl (lv_at hl 2 rfl) ?_
          refine lv_iload_n hx hb dModel_check_69 rfl (lv_at hl 3 rfl) ?_
          refine pu_Vi (rest := []) S hC (n_fits l γ a B Z κ b mn ν τ σr23 Fr23 nur23 hT x1 x2 (vin (by assumption) (by omega)) (vin hx2b (by omega))) meModel_fits qw_17a2ee8d21 ⟨Nat.le_of_ble_eq_true rfl, Nat.le_of_ble_eq_true rfl⟩ (md_rv hC hM) hM rfl hl.1 rfl (Nat.le_of_ble_eq_true rfl) dModel_check_70 ⟨Nat.zero_le _, Nat.zero_le _⟩ (fun r36 hr36 => ?_)
          obtain ⟨hr36, er36⟩ := hr36
          exact J73 ls r36 (by subst er36 enur23 eFr23 eσr23 er23 ev22 ev20 eσ19 er1; exact hO.tr ((if_pos c21).trans ((if_pos c24).trans (if_neg c35)))) (lv_sub hl [1, 2, 3, 0] rfl)
        · refine lv_iconst (v := 0) hx hb dModel_check_63 (by decide) ?_
          refine lv_goto (tgt := 73) hx hb dModel_check_64 (by decide) ?_
          exact J73 ls 0 (by subst enur23 eFr23 eσr23 er23 ev22 ev20 eσ19 er1; exact hO.tr ((if_pos c21).trans ((if_pos c24).trans (if_pos c35)))) (lv_sub hl [1, 2, 3, 0] rfl)
      · refine lv_iload_n hx hb dModel_check_55 rfl (lv_at hl 0 rfl) ?_
        refine lv_ineg hx hb dModel_check_56 ?_
        refine lv_topi (fun v37 ev37 => ?_)
        exact hE _ _ _ _ _ hS ⟨κ, _, _, _, τ, σr23, Fr23, nur23, (by subst ev37 enur23 eFr23 eσr23 er23 ev22 ev20 eσ19 er1; exact hO.tr ((if_pos c21).trans (if_neg c24))), hT, hZ, hF, hG, hM⟩ dModel_check_57
    · refine lv_iconst (v := 0) hx hb dModel_check_37 (by decide) ?_
      exact hE _ _ _ _ _ hS ⟨κ, _, _, _, τ, σ19, F, nu, (by subst ev20 eσ19 er1; exact hO.tr (if_neg c21)), hT, hZ, hF, hG, hM⟩ dModel_check_38
  have J22 : ∀ (ls : Array Slot), (Oq OUT (Q_check_22 κ τ σ F nu x1 x2   )) → lv_has ls 4 [(0, .ref a), (1, .int x1), (2, .int x2)] → W p l e (bs_rm 7 0 0 177) s m args below meth c s.heap [] 0 0 Q (F0 m 22 ls [.ref a]) := by
    intro ls hO hl
    refine lv_iconst (v := 1) hx hb dModel_check_22 (by decide) ?_
    refine lv_goto (tgt := 27) hx hb dModel_check_23 (by decide) ?_
    exact J27 ls 1 (by first | exact Or.inl (by decide) | exact Or.inr ⟨rfl, h26⟩) (by subst er1; exact hO.tr rfl) (lv_sub hl [0, 1, 2] rfl)
  refine lv_if_ne (tgt := 22) hx hb dModel_check_6 (by decide) (fun c38 => ?_) (fun c38 => ?_)
  · exact J22 ls (by subst er1; exact hO.tr (if_neg c38)) (lv_sub hl [0, 1, 2] rfl)
  · refine lv_iload_n hx hb dModel_check_9 rfl (lv_at hl 2 rfl) ?_
    refine lv_iconst (v := (-1)) hx hb dModel_check_10 (by decide) ?_
    have J26 : ∀ (ls : Array Slot), (vp_in x1 (κ 0) ∧ (x2 = -1 ∨ vp_in x2 (κ 2))) → (Oq OUT (Q_check_26 κ τ σ F nu x1 x2   )) → lv_has ls 4 [(0, .ref a), (1, .int x1), (2, .int x2)] → W p l e (bs_rm 7 0 0 177) s m args below meth c s.heap [] 0 0 Q (F0 m 26 ls [.ref a]) := by
      intro ls h26 hO hl
      refine lv_iconst (v := 0) hx hb dModel_check_26 (by decide) ?_
      exact J27 ls 0 (by first | exact Or.inl (by decide) | exact Or.inr ⟨rfl, h26⟩) (by subst er1; exact hO.tr rfl) (lv_sub hl [0, 1, 2] rfl)
    refine lv_icmp_eq (tgt := 26) hx hb dModel_check_11 (by decide) (fun c42 => ?_) (fun c42 => ?_)
    · exact J26 ls (by first | exact ⟨hr1 (by assumption), Or.inl (by assumption)⟩ | exact ⟨hr1 (by assumption), Or.inr (hr40 (by assumption))⟩) (by subst er1; exact hO.tr ((if_pos c38).trans (if_pos c42))) (lv_sub hl [0, 1, 2] rfl)
    · refine lv_aload_n hx hb dModel_check_14 rfl (lv_at hl 0 rfl) ?_
      refine lv_iload_n hx hb dModel_check_15 rfl (lv_at hl 2 rfl) ?_
      refine pu_Vi (rest := [.ref a]) S hC (n_noType l γ a B Z κ b mn ν τ σ F nu hT x2 ) meModel_noType qw_0ba745738d ⟨Nat.le_of_ble_eq_true rfl, Nat.le_of_ble_eq_true rfl⟩ (md_rv hC hM) hM rfl hl.1 rfl (Nat.le_of_ble_eq_true rfl) dModel_check_16 ⟨Nat.zero_le _, Nat.zero_le _⟩ (fun r43 hr43 => ?_)
      obtain ⟨hr43, er43⟩ := hr43
      refine lv_if_eq (tgt := 26) hx hb dModel_check_19 (by decide) (fun c44 => ?_) (fun c44 => ?_)
      · exact J26 ls (by first | exact ⟨hr1 (by assumption), Or.inl (by assumption)⟩ | exact ⟨hr1 (by assumption), Or.inr (hr43 (by assumption))⟩) (by subst er43 er1; exact hO.tr ((if_pos c38).trans ((if_neg c42).trans (if_pos c44)))) (lv_sub hl [0, 1, 2] rfl)
      · exact J22 ls (by subst er43 er1; exact hO.tr ((if_pos c38).trans ((if_neg c42).trans (if_neg c44)))) (lv_sub hl [0, 1, 2] rfl)
