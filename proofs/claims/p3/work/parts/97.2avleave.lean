set_option maxHeartbeats 4000000 in
set_option maxRecDepth 100000 in
theorem m_leave (l : Launch) (γ : gE) (a : Nat) (B : Nat → Nat) (Z : Nat → Prop) (κ b mn : Nat → Nat) (ν : Nat → Int32) (τ : Nat → Nat → Int32) (σ : Nat → Int32) (F : Nat → Nat → Int32) (nu : Nat → Int64) (hT : ST κ b mn ν τ)  (hZ : SZ F) (hF : FD σ) (hG : GD F nu) : MU l yModel_leave bModel_leave 1 (some .int) 0 0 0 0 [.ref a] γ Z (MD γ a B Z ν τ σ F nu) (mQi (fun r H => (κ 5 = 1 ∧ MI γ a B Z κ 1 H) ∨ (1 < κ 5 ∧ r = nI (κ 5 - 1) ∧ ∃ κ', (κ' 5 = κ 5 - 1 ∧ κ' 0 = κ 0 ∧ κ' 1 = κ 1) ∧ MI γ a B Z κ' 0 H)) Z) := by
  refine mu_openI (by decide) (Nat.le_of_ble_eq_true rfl) ?_
  intro p e s m args below meth c ls Q S hnm hC hA hM hE hl
  have hS : va_S Z s.heap s.heap [] := va_S.rf
  obtain ⟨hx, hb, hml, hown, hW⟩ := id S
  obtain ⟨⟨hs0, hs1, hs2, hs3, hs4, hs5, hs6⟩, ⟨hv6, hv8, hv21, hv24, hv30, hv31⟩, hTR, hTY, hOB, hNM⟩ := id hT
  have hl : lv_has ls 1 [(0, .ref a)] := hl
  refine lv_aload_n hx hb dModel_leave_0 rfl (lv_at hl 0 rfl) ?_
  refine lv_aload_n hx hb dModel_leave_1 rfl (lv_at hl 0 rfl) ?_
  refine md_gI S hC hM 31 (v := nI (κ 5)) hv31 (by decide) rfl qw_e3979b88d4 dModel_leave_2 ?_
  refine lv_topi (fun v1 ev1 => ?_)
  refine lv_iconst (v := 1) hx hb dModel_leave_5 (by decide) ?_
  have J14 : ∀ (ls : Array Slot) (t0_14 : Int32), ((t0_14 = 1 ∧ κ 5 = 1) ∨ (t0_14 = 0 ∧ 1 < κ 5)) → lv_has ls 1 [(0, .ref a)] → W p l e (bs_rm 0 0 0 0) s m args below meth c s.heap [] 0 0 Q (F0 m 14 ls [.int t0_14, .ref a]) := by
    intro ls t0_14 ht0_14 hl
    refine md_pD S hC hM hS 0 rfl (by decide) rfl qw_53e275eed6 rfl (by decide +kernel) dModel_leave_14 (fun H locs hM hS => ?_)
    obtain ⟨σ25, eσ25⟩ : ∃ z : Nat → Int32, z = upd σ 0 t0_14 := ⟨_, rfl⟩
    rw [← eσ25] at hM
    have hF : FD σ25 := hF.up eσ25 (by decide) (by decide)
    refine lv_aload_n hx hb dModel_leave_17 rfl (lv_at hl 0 rfl) ?_
    refine md_gI S hC hM 0 (v := σ25 0) rfl (by decide) rfl qw_53e275eed6 dModel_leave_18 ?_
    refine lv_topi (fun v26 ev26 => ?_)
    refine lv_if_le (tgt := 26) hx hb dModel_leave_21 (by decide) (fun c27 => ?_) (fun c27 => ?_)
    · have h26 := (lv_cd ht0_14 eσ25 ev26).1 (by assumption)
      refine lv_aload_n hx hb dModel_leave_26 rfl (lv_at hl 0 rfl) ?_
      refine lv_dup hx hb dModel_leave_27 rfl ?_
      refine md_gI S hC hM 31 (v := nI (κ 5)) hv31 (by decide) rfl qw_e3979b88d4 dModel_leave_28 ?_
      refine lv_topi (fun v28 ev28 => ?_)
      refine lv_iconst (v := 1) hx hb dModel_leave_31 (by decide) ?_
      refine lv_isub hx hb dModel_leave_32 ?_
      refine lv_topi (fun v29 ev29 => ?_)
      have h26b := h26.2
      refine md_pS S hC hM hS 31 rfl (by decide) rfl qw_e3979b88d4 rfl (by decide +kernel) dModel_leave_33 (fun H locs hM hS => ?_)
      obtain ⟨ν31, eν31⟩ : ∃ z : Nat → Int32, z = upd ν 31 v29 := ⟨_, rfl⟩
      rw [← eν31] at hM
      obtain ⟨κ_p32, hκ_p32⟩ : ∃ z : Nat → Nat, z = ku κ 5 (κ 5 - 1) := ⟨_, rfl⟩
      have hT_p32 : ST κ_p32 b mn ν31 τ := (by rw [hκ_p32]; exact st_5 hT (by omega) (by omega) eν31 (dec_n ev28 ev29 (by omega)))
      obtain ⟨⟨hs0_p32, hs1_p32, hs2_p32, hs3_p32, hs4_p32, hs5_p32, hs6_p32⟩, ⟨hv6_p32, hv8_p32, hv21_p32, hv24_p32, hv30_p32, hv31_p32⟩, hTR_p32, hTY_p32, hOB_p32, hNM_p32⟩ := id hT_p32
      have J36 : ∀ (N36 : Nat) (ls : Array Slot) (H : Heap) (locs : List Loc) (κ_36 : Nat → Nat) (b_36 : Nat → Nat) (mn_36 : Nat → Nat) (ν_36 : Nat → Int32) (τ_36 : Nat → Nat → Int32), MD γ a B Z ν_36 τ_36 σ25 F nu H → va_S Z s.heap H locs → ST κ_36 b_36 mn_36 ν_36 τ_36 → (κ_36 5 = κ 5 - 1 ∧ κ_36 0 = κ 0 ∧ κ_36 1 = κ 1) → κ_36 4 = N36 → lv_has ls 1 [(0, .ref a)] → W p l e (bs_rm 0 0 0 0) s m args below meth c H locs 0 0 Q (F0 m 36 ls []) := by
        intro N36
        induction N36 using Nat.strongRecOn with
        | ind N36 ih36 =>
          intro ls H locs κ_36 b_36 mn_36 ν_36 τ_36 hM hS hT_36 hk5 hm36 hl
          obtain ⟨⟨hs0_36, hs1_36, hs2_36, hs3_36, hs4_36, hs5_36, hs6_36⟩, ⟨hv6_36, hv8_36, hv21_36, hv24_36, hv30_36, hv31_36⟩, hTR_36, hTY_36, hOB_36, hNM_36⟩ := id hT_36
          refine lv_aload_n hx hb dModel_leave_36 rfl (lv_at hl 0 rfl) ?_
          refine md_gI S hC hM 30 (v := nI (κ_36 4)) hv30_36 (by decide) rfl qw_8d5d48b583 dModel_leave_37 ?_
          refine lv_topi (fun v33 ev33 => ?_)
          refine lv_if_le (tgt := 74) hx hb dModel_leave_40 (by decide) (fun c34 => ?_) (fun c34 => ?_)
          · refine lv_aload_n hx hb dModel_leave_74 rfl (lv_at hl 0 rfl) ?_
            refine md_gI S hC hM 31 (v := nI (κ_36 5)) hv31_36 (by decide) rfl qw_e3979b88d4 dModel_leave_75 ?_
            refine lv_topi (fun v35 ev35 => ?_)
            exact hE _ _ _ _ _ hS (Or.inr ⟨h26.2, (by rw [ev35, hk5.1]), κ_36, hk5, b_36, mn_36, ν_36, τ_36, σ25, F, nu, hT_36, hZ, hF, hG, h26.1, hM⟩) dModel_leave_78
          · have hpos : 1 ≤ κ_36 4 := n_one2 ev33 (by assumption)
            refine lv_aload_n hx hb dModel_leave_43 rfl (lv_at hl 0 rfl) ?_
            refine md_gA S hC hM 29 (by decide) rfl qw_6551c8877a dModel_leave_44 ?_
            refine lv_aload_n hx hb dModel_leave_47 rfl (lv_at hl 0 rfl) ?_
            refine md_gI S hC hM 30 (v := nI (κ_36 4)) hv30_36 (by decide) rfl qw_8d5d48b583 dModel_leave_48 ?_
            refine lv_topi (fun v36 ev36 => ?_)
            refine lv_iconst (v := 1) hx hb dModel_leave_51 (by decide) ?_
            refine lv_isub hx hb dModel_leave_52 ?_
            refine lv_topi (fun v37 ev37 => ?_)
            have hw1 : v37 = nI (κ_36 4 - 1) := dec_n ev36 ev37 hpos
            refine md_ild S hC hM 29 23 3000 (τ_36 29) rfl rfl (by decide) rfl rfl (vin_of hw1 (by omega) (by omega)) dModel_leave_53 ?_
            refine lv_topi (fun v38 ev38 => ?_)
            refine lv_aload_n hx hb dModel_leave_54 rfl (lv_at hl 0 rfl) ?_
            refine md_gI S hC hM 31 (v := nI (κ_36 5)) hv31_36 (by decide) rfl qw_e3979b88d4 dModel_leave_55 ?_
            refine lv_topi (fun v39 ev39 => ?_)
            refine lv_icmp_le (tgt := 74) hx hb dModel_leave_58 (by decide) (fun c40 => ?_) (fun c40 => ?_)
            · refine lv_aload_n hx hb dModel_leave_74 rfl (lv_at hl 0 rfl) ?_
              refine md_gI S hC hM 31 (v := nI (κ_36 5)) hv31_36 (by decide) rfl qw_e3979b88d4 dModel_leave_75 ?_
              refine lv_topi (fun v41 ev41 => ?_)
              exact hE _ _ _ _ _ hS (Or.inr ⟨h26.2, (by rw [ev41, hk5.1]), κ_36, hk5, b_36, mn_36, ν_36, τ_36, σ25, F, nu, hT_36, hZ, hF, hG, h26.1, hM⟩) dModel_leave_78
            · refine lv_aload_n hx hb dModel_leave_61 rfl (lv_at hl 0 rfl) ?_
              refine lv_dup hx hb dModel_leave_62 rfl ?_
              refine md_gI S hC hM 30 (v := nI (κ_36 4)) hv30_36 (by decide) rfl qw_8d5d48b583 dModel_leave_63 ?_
              refine lv_topi (fun v42 ev42 => ?_)
              refine lv_iconst (v := 1) hx hb dModel_leave_66 (by decide) ?_
              refine lv_isub hx hb dModel_leave_67 ?_
              refine lv_topi (fun v43 ev43 => ?_)
              refine md_pS S hC hM hS 30 rfl (by decide) rfl qw_8d5d48b583 rfl (by decide +kernel) dModel_leave_68 (fun H locs hM hS => ?_)
              obtain ⟨ν45, eν45⟩ : ∃ z : Nat → Int32, z = upd ν_36 30 v43 := ⟨_, rfl⟩
              rw [← eν45] at hM
              obtain ⟨κ_p46, hκ_p46⟩ : ∃ z : Nat → Nat, z = ku κ_36 4 (κ_36 4 - 1) := ⟨_, rfl⟩
              have hT_p46 : ST κ_p46 b_36 mn_36 ν45 τ_36 := (by rw [hκ_p46]; exact st_4 hT_36 (by omega) eν45 (dec_n ev42 ev43 (by omega)))
              obtain ⟨⟨hs0_p46, hs1_p46, hs2_p46, hs3_p46, hs4_p46, hs5_p46, hs6_p46⟩, ⟨hv6_p46, hv8_p46, hv21_p46, hv24_p46, hv30_p46, hv31_p46⟩, hTR_p46, hTY_p46, hOB_p46, hNM_p46⟩ := id hT_p46
              refine lv_goto (tgt := 36) hx hb dModel_leave_71 (by decide) ?_
              exact ih36 _ (by rw [hκ_p46]; show κ_36 4 - 1 < _; omega) ls _ _ κ_p46 b_36 mn_36 ν45 τ_36 hM hS hT_p46 (by rw [hκ_p46]; exact hk5) rfl (lv_sub hl [0] rfl)
      exact J36 _ ls _ _ κ_p32 b mn ν31 τ hM hS hT_p32 (by rw [hκ_p32]; exact ⟨rfl, rfl, rfl⟩) rfl (lv_sub hl [0] rfl)
    · refine lv_iconst (v := 0) hx hb dModel_leave_24 (by decide) ?_
      exact hE _ _ _ _ _ hS (Or.inl ⟨((lv_cd ht0_14 eσ25 ev26).2.1 (by assumption)).2, b, mn, ν, τ, σ25, F, nu, hT, hZ, hF, hG, ((lv_cd ht0_14 eσ25 ev26).2.1 (by assumption)).1, hM⟩) dModel_leave_25
  refine lv_icmp_ne (tgt := 13) hx hb dModel_leave_6 (by decide) (fun c47 => ?_) (fun c47 => ?_)
  · refine lv_iconst (v := 0) hx hb dModel_leave_13 (by decide) ?_
    exact J14 ls 0 (by first | exact Or.inl ⟨rfl, eq_n ev1 (by assumption) rfl (by omega) (by omega)⟩ | exact Or.inr ⟨rfl, gt1 ev1 (by assumption) hs5⟩) (lv_sub hl [0] rfl)
  · refine lv_iconst (v := 1) hx hb dModel_leave_9 (by decide) ?_
    refine lv_goto (tgt := 14) hx hb dModel_leave_10 (by decide) ?_
    exact J14 ls 1 (by first | exact Or.inl ⟨rfl, eq_n ev1 (by assumption) rfl (by omega) (by omega)⟩ | exact Or.inr ⟨rfl, gt1 ev1 (by assumption) hs5⟩) (lv_sub hl [0] rfl)
