def P_Objects_keep (κ : Nat → Nat) (φ : gF) (ψ : gG) (x1 : Int32) (x3 : Int32) : gF × gG := (if (P_Objects_has (κ 5) (κ 14) (φ 5) x1) = 0 then (φ, ψ) else ((up φ 5 (Au (φ 5) 2 x1.toNatClampNeg (P_Looks_numberOf (κ 6) (φ 7) x3))), (up ψ 6 (P_Rows_copy (κ 8) (κ 9) (ψ 6) (ψ 8) x1 x3))))
set_option maxHeartbeats 4000000 in
set_option maxRecDepth 100000 in
theorem f_Objects_keep (l : Launch) (γ : gE) (A : Nat → Prop) (κ : Nat → Nat) (φ : gF) (ψ : gG) (x1 : Int32) (x3 : Int32) : MU l yObjects_keep bObjects_keep 4 (none) 2 83 0 0 [.ref (γ.2.2.2 4), .int x1, .ref (γ.2.2.2 6), .int x3] γ A (INVF γ A κ φ ψ) (mQv (fun H => INVF γ A κ (P_Objects_keep κ φ ψ x1 x3).1 (P_Objects_keep κ φ ψ x1 x3).2 H) A) := by
  refine mu_openV (by decide) (Nat.le_of_ble_eq_true rfl) ?_
  intro p e s m args below meth c ls Q S hnm hC hA hG hE hl
  obtain ⟨hx, hb, hml, hown, hW⟩ := id S
  have hI := inv_of hG
  have hS : va_S A s.heap s.heap [] := va_S.rf
  have hl : lv_has ls 4 [(0, .ref (γ.2.2.2 4)), (1, .int x1), (2, .ref (γ.2.2.2 6)), (3, .int x3)] := hl
  obtain ⟨OUT, hQ, hO⟩ : ∃ z, (z = P_Objects_keep κ φ ψ x1 x3) ∧ Oq z (P_Objects_keep κ φ ψ x1 x3) := ⟨_, rfl, rfl⟩
  rw [← hQ] at hE
  clear hQ
  refine lv_aload_n hx hb dObjects_keep_0 rfl (lv_at hl 0 rfl) ?_
  refine lv_iload_n hx hb dObjects_keep_1 rfl (lv_at hl 1 rfl) ?_
  refine pu_Vi (rest := []) S hC (f4_Objects_has l γ A κ φ ψ x1) meObjects_has qw_2f2cb5cb5a ⟨Nat.le_of_ble_eq_true rfl, Nat.le_of_ble_eq_true rfl⟩ (rv_4 hC hI) hG rfl hl.1 rfl (Nat.le_of_ble_eq_true rfl) dObjects_keep_2 ⟨Nat.zero_le _, Nat.zero_le _⟩ (fun r8 hr8 => ?_)
  obtain ⟨hr8, er8⟩ := hr8
  refine lv_if_eq (tgt := 32) hx hb dObjects_keep_5 (by decide) (fun c9 => ?_) (fun c9 => ?_)
  · exact hE _ _ _ _ hS (by have hO2 : Oq OUT (φ, ψ) := (by subst er8; exact hO.tr (if_pos c9)); rw [hO2.eq]; exact hG) dObjects_keep_32
  · refine lv_aload_n hx hb dObjects_keep_8 rfl (lv_at hl 0 rfl) ?_
    obtain ⟨b10, hOb10⟩ := of_4_2 hI
    refine of_get S hC hOb10 in_Objects rfl (by decide) qw_0ed5786ef0 dObjects_keep_9 ?_
    refine lv_iload_n hx hb dObjects_keep_12 rfl (lv_at hl 1 rfl) ?_
    refine lv_aload_n hx hb dObjects_keep_13 rfl (lv_at hl 2 rfl) ?_
    refine lv_iload_n hx hb dObjects_keep_14 rfl (lv_at hl 3 rfl) ?_
    refine pu_Vi (rest := [.int x1, .ref b10]) S hC (f6_Looks_numberOf l γ A κ φ ψ x3) meLooks_numberOf qw_ce0ad21609 ⟨Nat.le_of_ble_eq_true rfl, Nat.le_of_ble_eq_true rfl⟩ (rv_6 hC hI) hG rfl hl.1 rfl (Nat.le_of_ble_eq_true rfl) dObjects_keep_15 ⟨Nat.zero_le _, Nat.zero_le _⟩ (fun r11 hr11 => ?_)
    obtain ⟨hr11, er11⟩ := hr11
    refine ig_onum S hC hG (fun q h => hA q (Nat.le_trans hS.1 h)) hS hOb10 (by assumption) (by assumption) dObjects_keep_18 (fun H locs hG hS => ?_)
    obtain ⟨φ12, eφ12⟩ : ∃ z : gF, z = up φ 5 (Au (φ 5) 2 x1.toNatClampNeg r11) := ⟨_, rfl⟩
    rw [← eφ12] at hG
    have hI := inv_of hG
    refine lv_aload_n hx hb dObjects_keep_19 rfl (lv_at hl 0 rfl) ?_
    refine of_get S hC (of_4_3 hI) in_Objects rfl (by decide) qw_f4aeeaf054 dObjects_keep_20 ?_
    refine lv_iload_n hx hb dObjects_keep_23 rfl (lv_at hl 1 rfl) ?_
    refine lv_aload_n hx hb dObjects_keep_24 rfl (lv_at hl 2 rfl) ?_
    refine of_getN S hC (of_6_5 hI) in_Looks rfl (by decide) qn_d9aceef3ce dObjects_keep_25 ?_
    refine lv_iload_n hx hb dObjects_keep_28 rfl (lv_at hl 3 rfl) ?_
    refine mu_Vv (rest := []) S hC (fun q h => hA q (Nat.le_trans hS.1 h)) (fun q h => h) hS (f5_Rows_copy l γ A κ φ12 ψ x1 x3) meRows_copy qw_d8c0d69073 ⟨Nat.le_of_ble_eq_true rfl, Nat.le_of_ble_eq_true rfl⟩ (rv_5 hC hI) hG rfl hl.1 rfl (Nat.le_of_ble_eq_true rfl) dObjects_keep_29 ⟨Nat.le_refl _, Nat.le_refl _⟩ (fun H locs hG hS _ _ => ?_)
    obtain ⟨ψ14, eψ14⟩ : ∃ z : gG, z = up ψ 6 (P_Rows_copy (κ 8) (κ 9) (ψ 6) (ψ 8) x1 x3) := ⟨_, rfl⟩
    rw [← eψ14] at hG
    have hI := inv_of hG
    exact hE _ _ _ _ hS (by have hO2 : Oq OUT (φ12, ψ14) := (by subst eψ14 eφ12 er11 er8; exact hO.tr (if_neg c9)); rw [hO2.eq]; exact hG) dObjects_keep_32

def P_Looker_hideBelowAttributes_70 (κ : Nat → Nat) (k6 : gF → gG → Int32 → Int32 → Int32 → gF × gG) (φ : gF) (ψ : gG) (i1 : Int32) (i2 : Int32) (i3 : Int32) : gF × gG := (k6 φ ψ i1 i2 (i3 + (-1)))
def P_Looker_hideBelowAttributes_6 (κ : Nat → Nat) : Nat → gF → gG → Int32 → Int32 → Int32 → gF × gG
  | 0, _, _, _, _, _ => default
  | n + 1, φ, ψ, i1, i2, i3 => (if i3 < (P_Trees_firstOf (κ 0) (κ 1) (κ 11) (φ 2) i1) then (φ, ψ) else (if (nI (κ 15)) ≤ i3 then (φ, ψ) else (if i3 < i2 then (if i2 ≤ i3 then (P_Looker_hideBelowAttributes_70 κ (fun a0 a1 a2 a3 a4 => P_Looker_hideBelowAttributes_6 κ  n a0 a1 a2 a3 a4) (up φ 1 (Au (φ 1) 0 i3.toNatClampNeg 0)) ψ i1 i2 i3) else (if (P_Trees_kindOf (κ 0) (κ 1) (κ 11) ((up φ 1 (Au (φ 1) 0 i3.toNatClampNeg 0)) 2) i3) = 25 then (P_Looker_hideBelowAttributes_70 κ (fun a0 a1 a2 a3 a4 => P_Looker_hideBelowAttributes_6 κ  n a0 a1 a2 a3 a4) (up φ 1 (Au (φ 1) 0 i3.toNatClampNeg 0)) ψ i1 (P_Trees_firstOf (κ 0) (κ 1) (κ 11) ((up φ 1 (Au (φ 1) 0 i3.toNatClampNeg 0)) 2) i3) i3) else (P_Looker_hideBelowAttributes_70 κ (fun a0 a1 a2 a3 a4 => P_Looker_hideBelowAttributes_6 κ  n a0 a1 a2 a3 a4) (up φ 1 (Au (φ 1) 0 i3.toNatClampNeg 0)) ψ i1 i2 i3))) else (if i2 ≤ i3 then (P_Looker_hideBelowAttributes_70 κ (fun a0 a1 a2 a3 a4 => P_Looker_hideBelowAttributes_6 κ  n a0 a1 a2 a3 a4) (up φ 1 (Au (φ 1) 0 i3.toNatClampNeg 1)) ψ i1 i2 i3) else (if (P_Trees_kindOf (κ 0) (κ 1) (κ 11) ((up φ 1 (Au (φ 1) 0 i3.toNatClampNeg 1)) 2) i3) = 25 then (P_Looker_hideBelowAttributes_70 κ (fun a0 a1 a2 a3 a4 => P_Looker_hideBelowAttributes_6 κ  n a0 a1 a2 a3 a4) (up φ 1 (Au (φ 1) 0 i3.toNatClampNeg 1)) ψ i1 (P_Trees_firstOf (κ 0) (κ 1) (κ 11) ((up φ 1 (Au (φ 1) 0 i3.toNatClampNeg 1)) 2) i3) i3) else (P_Looker_hideBelowAttributes_70 κ (fun a0 a1 a2 a3 a4 => P_Looker_hideBelowAttributes_6 κ  n a0 a1 a2 a3 a4) (up φ 1 (Au (φ 1) 0 i3.toNatClampNeg 1)) ψ i1 i2 i3))))))
def P_Looker_hideBelowAttributes (κ : Nat → Nat) (φ : gF) (ψ : gG) (x1 : Int32) : gF × gG := (P_Looker_hideBelowAttributes_6 κ  ((x1.toInt + 2147483648).toNat + 1) φ ψ x1 (x1 + 1) x1)
set_option maxHeartbeats 4000000 in
set_option maxRecDepth 100000 in
theorem f_Looker_hideBelowAttributes (l : Launch) (γ : gE) (A : Nat → Prop) (κ : Nat → Nat) (φ : gF) (ψ : gG) (x1 : Int32) : MU l yLooker_hideBelowAttributes bLooker_hideBelowAttributes 4 (none) 2 42 0 0 [.ref (γ.2.2.2 8), .int x1] γ A (INVF γ A κ φ ψ) (mQv (fun H => INVF γ A κ (P_Looker_hideBelowAttributes κ φ ψ x1).1 (P_Looker_hideBelowAttributes κ φ ψ x1).2 H) A) := by
  refine mu_openV (by decide) (Nat.le_of_ble_eq_true rfl) ?_
  intro p e s m args below meth c ls Q S hnm hC hA hG hE hl
  obtain ⟨hx, hb, hml, hown, hW⟩ := id S
  have hI := inv_of hG
  have hS : va_S A s.heap s.heap [] := va_S.rf
  have hl : lv_has ls 4 [(0, .ref (γ.2.2.2 8)), (1, .int x1)] := hl
  obtain ⟨OUT, hQ, hO⟩ : ∃ z, (z = P_Looker_hideBelowAttributes κ φ ψ x1) ∧ Oq z (P_Looker_hideBelowAttributes κ φ ψ x1) := ⟨_, rfl, rfl⟩
  rw [← hQ] at hE
  clear hQ
  have J6 : ∀ (N6 : Nat) (ls : Array Slot) (H : Heap) (locs : List Loc) (φ : gF) (ψ : gG) (i1 : Int32) (i2 : Int32) (i3 : Int32), INVF γ A κ φ ψ H → va_S A s.heap H locs → (Oq OUT (P_Looker_hideBelowAttributes_6 κ  (N6 + 1) φ ψ i1 i2 i3)) → (i3.toInt + 2147483648).toNat = N6 → lv_has ls 4 [(0, .ref (γ.2.2.2 8)), (1, .int i1), (2, .int i2), (3, .int i3)] → W p l e (bs_rm 2 0 0 42) s m args below meth c H locs 0 0 Q (F0 m 6 ls []) := by
    intro N6
    induction N6 using Nat.strongRecOn with
    | ind N6 ih6 =>
      intro ls H locs φ ψ i1 i2 i3 hG hS hO hm6 hl
      have hI := inv_of hG
      have J70 : ∀ (ls : Array Slot) (H : Heap) (locs : List Loc) (φ : gF) (ψ : gG) (i1 : Int32) (i2 : Int32) (i3 : Int32), INVF γ A κ φ ψ H → va_S A s.heap H locs → (-2147483648 < i3.toInt ∧ (i3.toInt + 2147483648).toNat = N6) → (Oq OUT (P_Looker_hideBelowAttributes_70 κ (fun a0 a1 a2 a3 a4 => P_Looker_hideBelowAttributes_6 κ N6 a0 a1 a2 a3 a4)  φ ψ i1 i2 i3)) → lv_has ls 4 [(0, .ref (γ.2.2.2 8)), (1, .int i1), (2, .int i2), (3, .int i3)] → W p l e (bs_rm 2 0 0 42) s m args below meth c H locs 0 0 Q (F0 m 70 ls []) := by
        intro ls H locs φ ψ i1 i2 i3 hG hS ⟨hf6a, hf6b⟩ hO hl
        have hI := inv_of hG
        obtain ⟨v20, ev20⟩ : ∃ y : Int32, y = i3 + (-1) := ⟨_, rfl⟩
        refine lv_iinc (v := v20) (lv' := [(3, .int v20), (0, .ref (γ.2.2.2 8)), (1, .int i1), (2, .int i2)]) hx hb dLooker_hideBelowAttributes_70 hl (k := 3) rfl (by rw [ev20]; rfl) (by decide) rfl (fun ls hl => ?_)
        refine lv_goto (tgt := 6) hx hb dLooker_hideBelowAttributes_73 (by decide) ?_
        exact ih6 _ (by have q1 : -2147483648 < i3.toInt := (by first | assumption | omega); have q2 := mu_dn q1; rw [← ev20] at q2; omega) ls _ _ φ ψ i1 i2 v20 hG hS (by have hN : N6 = (v20.toInt + 2147483648).toNat + 1 := (by have q1 : -2147483648 < i3.toInt := (by first | assumption | omega); have q2 := mu_dn q1; rw [← ev20] at q2; omega); rw [← hN]; clear hN; subst ev20; exact hO.tr rfl) rfl (lv_sub hl [1, 2, 3, 0] rfl)
      refine lv_iload_n hx hb dLooker_hideBelowAttributes_6 rfl (lv_at hl 3 rfl) ?_
      refine lv_aload_n hx hb dLooker_hideBelowAttributes_7 rfl (lv_at hl 0 rfl) ?_
      refine of_get S hC (of_8_0 hI) in_Looker rfl (by decide) qw_22d2793f25 dLooker_hideBelowAttributes_8 ?_
      refine lv_iload_n hx hb dLooker_hideBelowAttributes_11 rfl (lv_at hl 1 rfl) ?_
      refine pu_Vi (rest := [.int i3]) S hC (f1_Trees_firstOf l γ A κ φ ψ i1) meTrees_firstOf qw_b381ab4f95 ⟨Nat.le_of_ble_eq_true rfl, Nat.le_of_ble_eq_true rfl⟩ (rv_1 hC hI) hG rfl hl.1 rfl (Nat.le_of_ble_eq_true rfl) dLooker_hideBelowAttributes_12 ⟨Nat.zero_le _, Nat.zero_le _⟩ (fun r21 hr21 => ?_)
      obtain ⟨hr21, er21⟩ := hr21
      refine lv_icmp_lt (tgt := 76) hx hb dLooker_hideBelowAttributes_15 (by decide) (fun c22 => ?_) (fun c22 => ?_)
      · exact hE _ _ _ _ hS (by have hO2 : Oq OUT (φ, ψ) := (by subst er21; exact hO.tr (if_pos c22)); rw [hO2.eq]; exact hG) dLooker_hideBelowAttributes_76
      · have hge : ¬ i3 < 0 := md_ge (by assumption) (by assumption)
        have hge2 := md_int hge
        refine lv_iload_n hx hb dLooker_hideBelowAttributes_18 rfl (lv_at hl 3 rfl) ?_
        refine lv_aload_n hx hb dLooker_hideBelowAttributes_19 rfl (lv_at hl 0 rfl) ?_
        obtain ⟨b23, hOb23⟩ := of_8_6 hI
        refine of_get S hC hOb23 in_Looker rfl (by decide) qw_899a0812ea dLooker_hideBelowAttributes_20 ?_
        refine iv_hlen S hC hI hOb23 dLooker_hideBelowAttributes_23 ?_
        refine lv_topi (fun v24 ev24 => ?_)
        refine lv_icmp_ge (tgt := 76) hx hb dLooker_hideBelowAttributes_24 (by decide) (fun c25 => ?_) (fun c25 => ?_)
        · exact hE _ _ _ _ hS (by have hO2 : Oq OUT (φ, ψ) := (by subst ev24 er21; exact hO.tr ((if_neg c22).trans (if_pos c25))); rw [hO2.eq]; exact hG) dLooker_hideBelowAttributes_76
        · have hinh : vp_in i3 (κ 15) := in_cmp2 hge (by assumption) (by assumption) (inv_15 hI)
          refine lv_aload_n hx hb dLooker_hideBelowAttributes_27 rfl (lv_at hl 0 rfl) ?_
          obtain ⟨b26, hOb26⟩ := of_8_6 hI
          refine of_get S hC hOb26 in_Looker rfl (by decide) qw_899a0812ea dLooker_hideBelowAttributes_28 ?_
          refine lv_iload_n hx hb dLooker_hideBelowAttributes_31 rfl (lv_at hl 3 rfl) ?_
          refine lv_iload_n hx hb dLooker_hideBelowAttributes_32 rfl (lv_at hl 3 rfl) ?_
          refine lv_iload_n hx hb dLooker_hideBelowAttributes_33 rfl (lv_at hl 2 rfl) ?_
          refine lv_icmp_lt (tgt := 41) hx hb dLooker_hideBelowAttributes_34 (by decide) (fun c27 => ?_) (fun c27 => ?_)
          · refine lv_iconst (v := 0) hx hb dLooker_hideBelowAttributes_41 (by decide) ?_
            refine ig_hid S hC hG (fun q h => hA q (Nat.le_trans hS.1 h)) hS hOb26 hinh dLooker_hideBelowAttributes_42 (fun H locs hG hS => ?_)
            obtain ⟨φ28, eφ28⟩ : ∃ z : gF, z = up φ 1 (Au (φ 1) 0 i3.toNatClampNeg 0) := ⟨_, rfl⟩
            rw [← eφ28] at hG
            have hI := inv_of hG
            refine lv_iload_n hx hb dLooker_hideBelowAttributes_43 rfl (lv_at hl 3 rfl) ?_
            refine lv_iload_n hx hb dLooker_hideBelowAttributes_44 rfl (lv_at hl 2 rfl) ?_
            refine lv_icmp_ge (tgt := 70) hx hb dLooker_hideBelowAttributes_45 (by decide) (fun c29 => ?_) (fun c29 => ?_)
            · exact J70 ls _ _ φ28 ψ i1 i2 i3 hG hS (by first | exact ⟨(mu_up (k := i3) (by assumption)).2, by assumption⟩ | exact ⟨by assumption, by assumption⟩) (by subst eφ28 ev24 er21; exact hO.tr ((if_neg c22).trans ((if_neg c25).trans ((if_pos c27).trans (if_pos c29))))) (lv_sub hl [0, 1, 2, 3] rfl)
            · refine lv_aload_n hx hb dLooker_hideBelowAttributes_48 rfl (lv_at hl 0 rfl) ?_
              refine of_get S hC (of_8_0 hI) in_Looker rfl (by decide) qw_22d2793f25 dLooker_hideBelowAttributes_49 ?_
              refine lv_iload_n hx hb dLooker_hideBelowAttributes_52 rfl (lv_at hl 3 rfl) ?_
              refine pu_Vi (rest := []) S hC (f1_Trees_kindOf l γ A κ φ28 ψ i3) meTrees_kindOf qw_f48a4a6aed ⟨Nat.le_of_ble_eq_true rfl, Nat.le_of_ble_eq_true rfl⟩ (rv_1 hC hI) hG rfl hl.1 rfl (Nat.le_of_ble_eq_true rfl) dLooker_hideBelowAttributes_53 ⟨Nat.zero_le _, Nat.zero_le _⟩ (fun r30 hr30 => ?_)
              obtain ⟨hr30, er30⟩ := hr30
              refine lv_bipush (v := 25) hx hb dLooker_hideBelowAttributes_56 (by decide) ?_
              refine lv_icmp_ne (tgt := 70) hx hb dLooker_hideBelowAttributes_58 (by decide) (fun c31 => ?_) (fun c31 => ?_)
              · exact J70 ls _ _ φ28 ψ i1 i2 i3 hG hS (by first | exact ⟨(mu_up (k := i3) (by assumption)).2, by assumption⟩ | exact ⟨by assumption, by assumption⟩) (by subst er30 eφ28 ev24 er21; exact hO.tr ((if_neg c22).trans ((if_neg c25).trans ((if_pos c27).trans ((if_neg c29).trans (if_neg c31)))))) (lv_sub hl [0, 1, 2, 3] rfl)
              · refine lv_aload_n hx hb dLooker_hideBelowAttributes_61 rfl (lv_at hl 0 rfl) ?_
                refine of_get S hC (of_8_0 hI) in_Looker rfl (by decide) qw_22d2793f25 dLooker_hideBelowAttributes_62 ?_
                refine lv_iload_n hx hb dLooker_hideBelowAttributes_65 rfl (lv_at hl 3 rfl) ?_
                refine pu_Vi (rest := []) S hC (f1_Trees_firstOf l γ A κ φ28 ψ i3) meTrees_firstOf qw_b381ab4f95 ⟨Nat.le_of_ble_eq_true rfl, Nat.le_of_ble_eq_true rfl⟩ (rv_1 hC hI) hG rfl hl.1 rfl (Nat.le_of_ble_eq_true rfl) dLooker_hideBelowAttributes_66 ⟨Nat.zero_le _, Nat.zero_le _⟩ (fun r32 hr32 => ?_)
                obtain ⟨hr32, er32⟩ := hr32
                refine lv_istore_n (lv' := [(2, .int r32), (0, .ref (γ.2.2.2 8)), (1, .int i1), (3, .int i3)]) hx hb dLooker_hideBelowAttributes_69 rfl hl (by decide) rfl (fun ls hl => ?_)
                exact J70 ls _ _ φ28 ψ i1 r32 i3 hG hS (by first | exact ⟨(mu_up (k := i3) (by assumption)).2, by assumption⟩ | exact ⟨by assumption, by assumption⟩) (by subst er32 er30 eφ28 ev24 er21; exact hO.tr ((if_neg c22).trans ((if_neg c25).trans ((if_pos c27).trans ((if_neg c29).trans (if_pos c31)))))) (lv_sub hl [1, 2, 0, 3] rfl)
          · refine lv_iconst (v := 1) hx hb dLooker_hideBelowAttributes_37 (by decide) ?_
            refine lv_goto (tgt := 42) hx hb dLooker_hideBelowAttributes_38 (by decide) ?_
            refine ig_hid S hC hG (fun q h => hA q (Nat.le_trans hS.1 h)) hS hOb26 hinh dLooker_hideBelowAttributes_42 (fun H locs hG hS => ?_)
            obtain ⟨φ33, eφ33⟩ : ∃ z : gF, z = up φ 1 (Au (φ 1) 0 i3.toNatClampNeg 1) := ⟨_, rfl⟩
            rw [← eφ33] at hG
            have hI := inv_of hG
            refine lv_iload_n hx hb dLooker_hideBelowAttributes_43 rfl (lv_at hl 3 rfl) ?_
            refine lv_iload_n hx hb dLooker_hideBelowAttributes_44 rfl (lv_at hl 2 rfl) ?_
            refine lv_icmp_ge (tgt := 70) hx hb dLooker_hideBelowAttributes_45 (by decide) (fun c34 => ?_) (fun c34 => ?_)
            · exact J70 ls _ _ φ33 ψ i1 i2 i3 hG hS (by first | exact ⟨(mu_up (k := i3) (by assumption)).2, by assumption⟩ | exact ⟨by assumption, by assumption⟩) (by subst eφ33 ev24 er21; exact hO.tr ((if_neg c22).trans ((if_neg c25).trans ((if_neg c27).trans (if_pos c34))))) (lv_sub hl [0, 1, 2, 3] rfl)
            · refine lv_aload_n hx hb dLooker_hideBelowAttributes_48 rfl (lv_at hl 0 rfl) ?_
              refine of_get S hC (of_8_0 hI) in_Looker rfl (by decide) qw_22d2793f25 dLooker_hideBelowAttributes_49 ?_
              refine lv_iload_n hx hb dLooker_hideBelowAttributes_52 rfl (lv_at hl 3 rfl) ?_
              refine pu_Vi (rest := []) S hC (f1_Trees_kindOf l γ A κ φ33 ψ i3) meTrees_kindOf qw_f48a4a6aed ⟨Nat.le_of_ble_eq_true rfl, Nat.le_of_ble_eq_true rfl⟩ (rv_1 hC hI) hG rfl hl.1 rfl (Nat.le_of_ble_eq_true rfl) dLooker_hideBelowAttributes_53 ⟨Nat.zero_le _, Nat.zero_le _⟩ (fun r35 hr35 => ?_)
              obtain ⟨hr35, er35⟩ := hr35
              refine lv_bipush (v := 25) hx hb dLooker_hideBelowAttributes_56 (by decide) ?_
              refine lv_icmp_ne (tgt := 70) hx hb dLooker_hideBelowAttributes_58 (by decide) (fun c36 => ?_) (fun c36 => ?_)
              · exact J70 ls _ _ φ33 ψ i1 i2 i3 hG hS (by first | exact ⟨(mu_up (k := i3) (by assumption)).2, by assumption⟩ | exact ⟨by assumption, by assumption⟩) (by subst er35 eφ33 ev24 er21; exact hO.tr ((if_neg c22).trans ((if_neg c25).trans ((if_neg c27).trans ((if_neg c34).trans (if_neg c36)))))) (lv_sub hl [0, 1, 2, 3] rfl)
              · refine lv_aload_n hx hb dLooker_hideBelowAttributes_61 rfl (lv_at hl 0 rfl) ?_
                refine of_get S hC (of_8_0 hI) in_Looker rfl (by decide) qw_22d2793f25 dLooker_hideBelowAttributes_62 ?_
                refine lv_iload_n hx hb dLooker_hideBelowAttributes_65 rfl (lv_at hl 3 rfl) ?_
                refine pu_Vi (rest := []) S hC (f1_Trees_firstOf l γ A κ φ33 ψ i3) meTrees_firstOf qw_b381ab4f95 ⟨Nat.le_of_ble_eq_true rfl, Nat.le_of_ble_eq_true rfl⟩ (rv_1 hC hI) hG rfl hl.1 rfl (Nat.le_of_ble_eq_true rfl) dLooker_hideBelowAttributes_66 ⟨Nat.zero_le _, Nat.zero_le _⟩ (fun r37 hr37 => ?_)
                obtain ⟨hr37, er37⟩ := hr37
                refine lv_istore_n (lv' := [(2, .int r37), (0, .ref (γ.2.2.2 8)), (1, .int i1), (3, .int i3)]) hx hb dLooker_hideBelowAttributes_69 rfl hl (by decide) rfl (fun ls hl => ?_)
                exact J70 ls _ _ φ33 ψ i1 r37 i3 hG hS (by first | exact ⟨(mu_up (k := i3) (by assumption)).2, by assumption⟩ | exact ⟨by assumption, by assumption⟩) (by subst er37 er35 eφ33 ev24 er21; exact hO.tr ((if_neg c22).trans ((if_neg c25).trans ((if_neg c27).trans ((if_neg c34).trans (if_pos c36)))))) (lv_sub hl [1, 2, 0, 3] rfl)
  refine lv_iload_n hx hb dLooker_hideBelowAttributes_0 rfl (lv_at hl 1 rfl) ?_
  refine lv_iconst (v := 1) hx hb dLooker_hideBelowAttributes_1 (by decide) ?_
  refine lv_iadd hx hb dLooker_hideBelowAttributes_2 ?_
  refine lv_topi (fun v38 ev38 => ?_)
  refine lv_istore_n (lv' := [(2, .int v38), (0, .ref (γ.2.2.2 8)), (1, .int x1)]) hx hb dLooker_hideBelowAttributes_3 rfl hl (by decide) rfl (fun ls hl => ?_)
  refine lv_iload_n hx hb dLooker_hideBelowAttributes_4 rfl (lv_at hl 2 rfl) ?_
  refine lv_istore_n (lv' := [(3, .int x1), (2, .int v38), (0, .ref (γ.2.2.2 8)), (1, .int x1)]) hx hb dLooker_hideBelowAttributes_5 rfl hl (by decide) rfl (fun ls hl => ?_)
  exact J6 _ ls _ _ φ ψ x1 v38 x1 hG hS (by subst ev38; exact hO.tr rfl) rfl (lv_sub hl [2, 3, 1, 0] rfl)

def P_Looker_look_41 (κ : Nat → Nat) (k14 : gF → gG → Int32 → Int32 → Int32 → Int32 × gF × gG) (φ : gF) (ψ : gG) (i1 : Int32) (i2 : Int32) (i3 : Int32) (t0 : Int32) : Int32 × gF × gG := (if t0 = 0 then (k14 φ ψ i1 i2 (i3 + 1)) else (t0, φ, ψ))
def P_Looker_look_14 (κ : Nat → Nat) : Nat → gF → gG → Int32 → Int32 → Int32 → Int32 × gF × gG
  | 0, _, _, _, _, _ => default
  | n + 1, φ, ψ, i1, i2, i3 => (if i2 < i3 then (0, φ, ψ) else (if (P_Looker_isHidden κ (up φ 1 (Au (φ 1) 2 0 i3)) ψ i3) = 0 then (P_Looker_look_41 κ (fun a0 a1 a2 a3 a4 => P_Looker_look_14 κ  n a0 a1 a2 a3 a4) ((P_Looker_lookAt κ (up φ 1 (Au (φ 1) 2 0 i3)) ψ i3).2.1) ((P_Looker_lookAt κ (up φ 1 (Au (φ 1) 2 0 i3)) ψ i3).2.2) i1 i2 i3 ((P_Looker_lookAt κ (up φ 1 (Au (φ 1) 2 0 i3)) ψ i3).1)) else (P_Looker_look_41 κ (fun a0 a1 a2 a3 a4 => P_Looker_look_14 κ  n a0 a1 a2 a3 a4) (up φ 1 (Au (φ 1) 2 0 i3)) ψ i1 i2 i3 0)))
def P_Looker_look (κ : Nat → Nat) (φ : gF) (ψ : gG) (x1 : Int32) (x2 : Int32) : Int32 × gF × gG := (P_Looker_look_14 κ  ((2147483647 - (P_Trees_firstOf (κ 0) (κ 1) (κ 11) (((P_Looker_hideBelowAttributes κ φ ψ x1).1) 2) x1).toInt).toNat + 1) ((P_Looker_hideBelowAttributes κ φ ψ x1).1) ((P_Looker_hideBelowAttributes κ φ ψ x1).2) x1 x2 (P_Trees_firstOf (κ 0) (κ 1) (κ 11) (((P_Looker_hideBelowAttributes κ φ ψ x1).1) 2) x1))
set_option maxHeartbeats 4000000 in
set_option maxRecDepth 100000 in
theorem f_Looker_look (l : Launch) (γ : gE) (A : Nat → Prop) (κ : Nat → Nat) (φ : gF) (ψ : gG) (x1 : Int32) (x2 : Int32) (hlast : x2.toInt < 2147483647) : MU l yLooker_look bLooker_look 5 (some .int) 6 150 0 0 [.ref (γ.2.2.2 8), .int x1, .int x2] γ A (INVF γ A κ φ ψ) (mQi (fun r H => r = (P_Looker_look κ φ ψ x1 x2).1 ∧ INVF γ A κ (P_Looker_look κ φ ψ x1 x2).2.1 (P_Looker_look κ φ ψ x1 x2).2.2 H) A) := by
  refine mu_openI (by decide) (Nat.le_of_ble_eq_true rfl) ?_
  intro p e s m args below meth c ls Q S hnm hC hA hG hE hl
  obtain ⟨hx, hb, hml, hown, hW⟩ := id S
  have hI := inv_of hG
  have hS : va_S A s.heap s.heap [] := va_S.rf
  have hl : lv_has ls 5 [(0, .ref (γ.2.2.2 8)), (1, .int x1), (2, .int x2)] := hl
  obtain ⟨OUT, hQ, hO⟩ : ∃ z, (z = P_Looker_look κ φ ψ x1 x2) ∧ Oq z (P_Looker_look κ φ ψ x1 x2) := ⟨_, rfl, rfl⟩
  rw [← hQ] at hE
  clear hQ
  have J14 : ∀ (N14 : Nat) (ls : Array Slot) (H : Heap) (locs : List Loc) (φ : gF) (ψ : gG) (i1 : Int32) (i2 : Int32) (i3 : Int32), INVF γ A κ φ ψ H → va_S A s.heap H locs → (i2.toInt < 2147483647) → (Oq OUT (P_Looker_look_14 κ  (N14 + 1) φ ψ i1 i2 i3)) → (2147483647 - i3.toInt).toNat = N14 → lv_has ls 5 [(0, .ref (γ.2.2.2 8)), (1, .int i1), (2, .int i2), (3, .int i3)] → W p l e (bs_rm 6 0 0 150) s m args below meth c H locs 0 0 Q (F0 m 14 ls []) := by
    intro N14
    induction N14 using Nat.strongRecOn with
    | ind N14 ih14 =>
      intro ls H locs φ ψ i1 i2 i3 hG hS hq hO hm14 hl
      have hI := inv_of hG
      have J41 : ∀ (ls : Array Slot) (H : Heap) (locs : List Loc) (φ : gF) (ψ : gG) (i1 : Int32) (i2 : Int32) (i3 : Int32) (t0 : Int32), INVF γ A κ φ ψ H → va_S A s.heap H locs → (i3.toInt < 2147483647 ∧ (2147483647 - i3.toInt).toNat = N14) → (i2.toInt < 2147483647) → (Oq OUT (P_Looker_look_41 κ (fun a0 a1 a2 a3 a4 => P_Looker_look_14 κ N14 a0 a1 a2 a3 a4)  φ ψ i1 i2 i3 t0)) → lv_has ls 5 [(0, .ref (γ.2.2.2 8)), (1, .int i1), (2, .int i2), (3, .int i3)] → W p l e (bs_rm 6 0 0 150) s m args below meth c H locs 0 0 Q (F0 m 41 ls [.int t0]) := by
        intro ls H locs φ ψ i1 i2 i3 t0 hG hS ⟨hf14a, hf14b⟩ hq hO hl
        have hI := inv_of hG
        refine lv_istore (lv' := [(4, .int t0), (0, .ref (γ.2.2.2 8)), (1, .int i1), (2, .int i2), (3, .int i3)]) hx hb dLooker_look_41 hl (by decide) rfl (fun ls hl => ?_)
        refine lv_iload hx hb dLooker_look_43 (lv_at hl 0 rfl) ?_
        refine lv_if_eq (tgt := 51) hx hb dLooker_look_45 (by decide) (fun c14 => ?_) (fun c14 => ?_)
        · obtain ⟨v15, ev15⟩ : ∃ y : Int32, y = i3 + 1 := ⟨_, rfl⟩
          refine lv_iinc (v := v15) (lv' := [(3, .int v15), (4, .int t0), (0, .ref (γ.2.2.2 8)), (1, .int i1), (2, .int i2)]) hx hb dLooker_look_51 hl (k := 4) rfl (by rw [ev15]; rfl) (by decide) rfl (fun ls hl => ?_)
          refine lv_goto (tgt := 14) hx hb dLooker_look_54 (by decide) ?_
          exact ih14 _ (by have q1 : i3.toInt < 2147483647 := (by first | exact (mu_up (k := i3) (by assumption)).2 | assumption); have q2 := mu_lt q1; rw [← ev15] at q2; omega) ls _ _ φ ψ i1 i2 v15 hG hS (by first | assumption | exact hlast) (by have hN : N14 = (2147483647 - v15.toInt).toNat + 1 := (by have q1 : i3.toInt < 2147483647 := (by first | exact (mu_up (k := i3) (by assumption)).2 | assumption); have q2 := mu_lt q1; rw [← ev15] at q2; omega); rw [← hN]; clear hN; subst ev15; exact hO.tr (if_pos c14)) rfl (lv_sub hl [2, 3, 4, 0] rfl)
        · refine lv_iload hx hb dLooker_look_48 (lv_at hl 0 rfl) ?_
          exact hE _ _ _ _ _ hS (by have hO2 : Oq OUT (t0, φ, ψ) := (by exact hO.tr (if_neg c14)); rw [hO2.eq]; exact ⟨rfl, hG⟩) dLooker_look_50
      refine lv_iload_n hx hb dLooker_look_14 rfl (lv_at hl 3 rfl) ?_
      refine lv_iload_n hx hb dLooker_look_15 rfl (lv_at hl 2 rfl) ?_
      refine lv_icmp_gt (tgt := 57) hx hb dLooker_look_16 (by decide) (fun c16 => ?_) (fun c16 => ?_)
      · refine lv_iconst (v := 0) hx hb dLooker_look_57 (by decide) ?_
        exact hE _ _ _ _ _ hS (by have hO2 : Oq OUT (0, φ, ψ) := (by exact hO.tr (if_pos c16)); rw [hO2.eq]; exact ⟨rfl, hG⟩) dLooker_look_58
      · have hlt : i3.toInt < 2147483647 := mu_le (by assumption) hq
        refine lv_aload_n hx hb dLooker_look_19 rfl (lv_at hl 0 rfl) ?_
        refine lv_iload_n hx hb dLooker_look_20 rfl (lv_at hl 3 rfl) ?_
        refine ig_at S hC hG (fun q h => hA q (Nat.le_trans hS.1 h)) hS qw_a0a252684f dLooker_look_21 (fun H locs hG hS => ?_)
        obtain ⟨φ17, eφ17⟩ : ∃ z : gF, z = up φ 1 (Au (φ 1) 2 0 i3) := ⟨_, rfl⟩
        rw [← eφ17] at hG
        have hI := inv_of hG
        refine lv_aload_n hx hb dLooker_look_24 rfl (lv_at hl 0 rfl) ?_
        refine lv_iload_n hx hb dLooker_look_25 rfl (lv_at hl 3 rfl) ?_
        refine pu_Vi (rest := []) S hC (f_Looker_isHidden l γ A κ φ17 ψ i3) meLooker_isHidden qw_f3ed62502a ⟨Nat.le_of_ble_eq_true rfl, Nat.le_of_ble_eq_true rfl⟩ (rv_8 hC hI) hG rfl hl.1 rfl (Nat.le_of_ble_eq_true rfl) dLooker_look_26 ⟨Nat.zero_le _, Nat.zero_le _⟩ (fun r18 hr18 => ?_)
        obtain ⟨hr18, er18⟩ := hr18
        refine lv_if_eq (tgt := 36) hx hb dLooker_look_29 (by decide) (fun c19 => ?_) (fun c19 => ?_)
        · refine lv_aload_n hx hb dLooker_look_36 rfl (lv_at hl 0 rfl) ?_
          refine lv_iload_n hx hb dLooker_look_37 rfl (lv_at hl 3 rfl) ?_
          refine mu_Vi (rest := []) S hC (fun q h => hA q (Nat.le_trans hS.1 h)) (fun q h => h) hS (f_Looker_lookAt l γ A κ φ17 ψ i3) meLooker_lookAt qw_d6c8e7411b ⟨Nat.le_of_ble_eq_true rfl, Nat.le_of_ble_eq_true rfl⟩ (rv_8 hC hI) hG rfl hl.1 rfl (Nat.le_of_ble_eq_true rfl) dLooker_look_38 ⟨Nat.le_refl _, Nat.le_refl _⟩ (fun r20 H locs ⟨er20, hG⟩ hS _ _ => ?_)
          obtain ⟨φ21, eφ21⟩ : ∃ z : gF, z = (P_Looker_lookAt κ φ17 ψ i3).2.1 := ⟨_, rfl⟩
          rw [← eφ21] at hG
          obtain ⟨ψ22, eψ22⟩ : ∃ z : gG, z = (P_Looker_lookAt κ φ17 ψ i3).2.2 := ⟨_, rfl⟩
          rw [← eψ22] at hG
          have hI := inv_of hG
          exact J41 ls _ _ φ21 ψ22 i1 i2 i3 r20 hG hS (by first | exact ⟨(mu_up (k := i3) (by assumption)).2, by assumption⟩ | exact ⟨by assumption, by assumption⟩) (by first | assumption | exact hlast) (by subst eψ22 eφ21 er20 er18 eφ17; exact hO.tr ((if_neg c16).trans (if_pos c19))) (lv_sub hl [0, 1, 2, 3] rfl)
        · refine lv_iconst (v := 0) hx hb dLooker_look_32 (by decide) ?_
          refine lv_goto (tgt := 41) hx hb dLooker_look_33 (by decide) ?_
          exact J41 ls _ _ φ17 ψ i1 i2 i3 0 hG hS (by first | exact ⟨(mu_up (k := i3) (by assumption)).2, by assumption⟩ | exact ⟨by assumption, by assumption⟩) (by first | assumption | exact hlast) (by subst er18 eφ17; exact hO.tr ((if_neg c16).trans (if_neg c19))) (lv_sub hl [0, 1, 2, 3] rfl)
  refine lv_aload_n hx hb dLooker_look_0 rfl (lv_at hl 0 rfl) ?_
  refine lv_iload_n hx hb dLooker_look_1 rfl (lv_at hl 1 rfl) ?_
  refine mu_Vv (rest := []) S hC (fun q h => hA q (Nat.le_trans hS.1 h)) (fun q h => h) hS (f_Looker_hideBelowAttributes l γ A κ φ ψ x1) meLooker_hideBelowAttributes qw_ddc03b0c9b ⟨Nat.le_of_ble_eq_true rfl, Nat.le_of_ble_eq_true rfl⟩ (rv_8 hC hI) hG rfl hl.1 rfl (Nat.le_of_ble_eq_true rfl) dLooker_look_2 ⟨Nat.le_refl _, Nat.le_refl _⟩ (fun H locs hG hS _ _ => ?_)
  obtain ⟨φ24, eφ24⟩ : ∃ z : gF, z = (P_Looker_hideBelowAttributes κ φ ψ x1).1 := ⟨_, rfl⟩
  rw [← eφ24] at hG
  obtain ⟨ψ25, eψ25⟩ : ∃ z : gG, z = (P_Looker_hideBelowAttributes κ φ ψ x1).2 := ⟨_, rfl⟩
  rw [← eψ25] at hG
  have hI := inv_of hG
  refine lv_aload_n hx hb dLooker_look_5 rfl (lv_at hl 0 rfl) ?_
  refine of_get S hC (of_8_0 hI) in_Looker rfl (by decide) qw_22d2793f25 dLooker_look_6 ?_
  refine lv_iload_n hx hb dLooker_look_9 rfl (lv_at hl 1 rfl) ?_
  refine pu_Vi (rest := []) S hC (f1_Trees_firstOf l γ A κ φ24 ψ25 x1) meTrees_firstOf qw_b381ab4f95 ⟨Nat.le_of_ble_eq_true rfl, Nat.le_of_ble_eq_true rfl⟩ (rv_1 hC hI) hG rfl hl.1 rfl (Nat.le_of_ble_eq_true rfl) dLooker_look_10 ⟨Nat.zero_le _, Nat.zero_le _⟩ (fun r26 hr26 => ?_)
  obtain ⟨hr26, er26⟩ := hr26
  refine lv_istore_n (lv' := [(3, .int r26), (0, .ref (γ.2.2.2 8)), (1, .int x1), (2, .int x2)]) hx hb dLooker_look_13 rfl hl (by decide) rfl (fun ls hl => ?_)
  exact J14 _ ls _ _ φ24 ψ25 x1 x2 r26 hG hS (by first | assumption | exact hlast) (by subst er26 eψ25 eφ24; exact hO.tr rfl) rfl (lv_sub hl [1, 2, 3, 0] rfl)

def P_Looker_tell_35 (κ : Nat → Nat) (k10 : gF → gG → Int32 → Int32 → Int32 → gF × gG) (φ : gF) (ψ : gG) (i2 : Int32) (i3 : Int32) (i4 : Int32) : gF × gG := (k10 φ ψ i2 i3 (i4 + 1))
def P_Looker_tell_10 (κ : Nat → Nat) : Nat → gF → gG → Int32 → Int32 → Int32 → gF × gG
  | 0, _, _, _, _, _ => default
  | n + 1, φ, ψ, i2, i3, i4 => (if i3 < i4 then (φ, ψ) else (if (P_Looker_isHidden κ φ ψ i4) = 0 then (P_Looker_tell_35 κ (fun a0 a1 a2 a3 a4 => P_Looker_tell_10 κ  n a0 a1 a2 a3 a4) ((P_Looks_copy κ φ ψ i4).1) ((P_Looks_copy κ φ ψ i4).2) i2 i3 i4) else (P_Looker_tell_35 κ (fun a0 a1 a2 a3 a4 => P_Looker_tell_10 κ  n a0 a1 a2 a3 a4) φ ψ i2 i3 i4)))
def P_Looker_tell (κ : Nat → Nat) (φ : gF) (ψ : gG) (x2 : Int32) (x3 : Int32) : gF × gG := (P_Looker_tell_10 κ  ((2147483647 - (P_Trees_firstOf (κ 0) (κ 1) (κ 11) (φ 2) x2).toInt).toNat + 1) φ ψ x2 x3 (P_Trees_firstOf (κ 0) (κ 1) (κ 11) (φ 2) x2))
set_option maxHeartbeats 4000000 in
set_option maxRecDepth 100000 in
theorem f_Looker_tell (l : Launch) (γ : gE) (A : Nat → Prop) (κ : Nat → Nat) (φ : gF) (ψ : gG) (x2 : Int32) (x3 : Int32) (hlast : x3.toInt < 2147483647) : MU l yLooker_tell bLooker_tell 5 (none) 3 105 0 0 [.ref (γ.2.2.2 8), .ref (γ.2.2.2 6), .int x2, .int x3] γ A (INVF γ A κ φ ψ) (mQv (fun H => INVF γ A κ (P_Looker_tell κ φ ψ x2 x3).1 (P_Looker_tell κ φ ψ x2 x3).2 H) A) := by
  refine mu_openV (by decide) (Nat.le_of_ble_eq_true rfl) ?_
  intro p e s m args below meth c ls Q S hnm hC hA hG hE hl
  obtain ⟨hx, hb, hml, hown, hW⟩ := id S
  have hI := inv_of hG
  have hS : va_S A s.heap s.heap [] := va_S.rf
  have hl : lv_has ls 5 [(0, .ref (γ.2.2.2 8)), (1, .ref (γ.2.2.2 6)), (2, .int x2), (3, .int x3)] := hl
  obtain ⟨OUT, hQ, hO⟩ : ∃ z, (z = P_Looker_tell κ φ ψ x2 x3) ∧ Oq z (P_Looker_tell κ φ ψ x2 x3) := ⟨_, rfl, rfl⟩
  rw [← hQ] at hE
  clear hQ
  have J10 : ∀ (N10 : Nat) (ls : Array Slot) (H : Heap) (locs : List Loc) (φ : gF) (ψ : gG) (i2 : Int32) (i3 : Int32) (i4 : Int32), INVF γ A κ φ ψ H → va_S A s.heap H locs → (i3.toInt < 2147483647) → (Oq OUT (P_Looker_tell_10 κ  (N10 + 1) φ ψ i2 i3 i4)) → (2147483647 - i4.toInt).toNat = N10 → lv_has ls 5 [(0, .ref (γ.2.2.2 8)), (1, .ref (γ.2.2.2 6)), (2, .int i2), (3, .int i3), (4, .int i4)] → W p l e (bs_rm 3 0 0 105) s m args below meth c H locs 0 0 Q (F0 m 10 ls []) := by
    intro N10
    induction N10 using Nat.strongRecOn with
    | ind N10 ih10 =>
      intro ls H locs φ ψ i2 i3 i4 hG hS hq hO hm10 hl
      have hI := inv_of hG
      have J35 : ∀ (ls : Array Slot) (H : Heap) (locs : List Loc) (φ : gF) (ψ : gG) (i2 : Int32) (i3 : Int32) (i4 : Int32), INVF γ A κ φ ψ H → va_S A s.heap H locs → (i4.toInt < 2147483647 ∧ (2147483647 - i4.toInt).toNat = N10) → (i3.toInt < 2147483647) → (Oq OUT (P_Looker_tell_35 κ (fun a0 a1 a2 a3 a4 => P_Looker_tell_10 κ N10 a0 a1 a2 a3 a4)  φ ψ i2 i3 i4)) → lv_has ls 5 [(0, .ref (γ.2.2.2 8)), (1, .ref (γ.2.2.2 6)), (2, .int i2), (3, .int i3), (4, .int i4)] → W p l e (bs_rm 3 0 0 105) s m args below meth c H locs 0 0 Q (F0 m 35 ls []) := by
        intro ls H locs φ ψ i2 i3 i4 hG hS ⟨hf10a, hf10b⟩ hq hO hl
        have hI := inv_of hG
        obtain ⟨v9, ev9⟩ : ∃ y : Int32, y = i4 + 1 := ⟨_, rfl⟩
        refine lv_iinc (v := v9) (lv' := [(4, .int v9), (0, .ref (γ.2.2.2 8)), (1, .ref (γ.2.2.2 6)), (2, .int i2), (3, .int i3)]) hx hb dLooker_tell_35 hl (k := 4) rfl (by rw [ev9]; rfl) (by decide) rfl (fun ls hl => ?_)
        refine lv_goto (tgt := 10) hx hb dLooker_tell_38 (by decide) ?_
        exact ih10 _ (by have q1 : i4.toInt < 2147483647 := (by first | exact (mu_up (k := i4) (by assumption)).2 | assumption); have q2 := mu_lt q1; rw [← ev9] at q2; omega) ls _ _ φ ψ i2 i3 v9 hG hS (by first | assumption | exact hlast) (by have hN : N10 = (2147483647 - v9.toInt).toNat + 1 := (by have q1 : i4.toInt < 2147483647 := (by first | exact (mu_up (k := i4) (by assumption)).2 | assumption); have q2 := mu_lt q1; rw [← ev9] at q2; omega); rw [← hN]; clear hN; subst ev9; exact hO.tr rfl) rfl (lv_sub hl [1, 2, 3, 4, 0] rfl)
      refine lv_iload hx hb dLooker_tell_10 (lv_at hl 4 rfl) ?_
      refine lv_iload_n hx hb dLooker_tell_12 rfl (lv_at hl 3 rfl) ?_
      refine lv_icmp_gt (tgt := 41) hx hb dLooker_tell_13 (by decide) (fun c10 => ?_) (fun c10 => ?_)
      · exact hE _ _ _ _ hS (by have hO2 : Oq OUT (φ, ψ) := (by exact hO.tr (if_pos c10)); rw [hO2.eq]; exact hG) dLooker_tell_41
      · have hlt : i4.toInt < 2147483647 := mu_le (by assumption) hq
        refine lv_aload_n hx hb dLooker_tell_16 rfl (lv_at hl 0 rfl) ?_
        refine lv_iload hx hb dLooker_tell_17 (lv_at hl 4 rfl) ?_
        refine pu_Vi (rest := []) S hC (f_Looker_isHidden l γ A κ φ ψ i4) meLooker_isHidden qw_f3ed62502a ⟨Nat.le_of_ble_eq_true rfl, Nat.le_of_ble_eq_true rfl⟩ (rv_8 hC hI) hG rfl hl.1 rfl (Nat.le_of_ble_eq_true rfl) dLooker_tell_19 ⟨Nat.zero_le _, Nat.zero_le _⟩ (fun r11 hr11 => ?_)
        obtain ⟨hr11, er11⟩ := hr11
        refine lv_if_ne (tgt := 35) hx hb dLooker_tell_22 (by decide) (fun c12 => ?_) (fun c12 => ?_)
        · exact J35 ls _ _ φ ψ i2 i3 i4 hG hS (by first | exact ⟨(mu_up (k := i4) (by assumption)).2, by assumption⟩ | exact ⟨by assumption, by assumption⟩) (by first | assumption | exact hlast) (by subst er11; exact hO.tr ((if_neg c10).trans (if_neg c12))) (lv_sub hl [0, 1, 2, 3, 4] rfl)
        · refine lv_aload_n hx hb dLooker_tell_25 rfl (lv_at hl 1 rfl) ?_
          refine lv_aload_n hx hb dLooker_tell_26 rfl (lv_at hl 0 rfl) ?_
          refine of_get S hC (of_8_3 hI) in_Looker rfl (by decide) qw_77aeadf252 dLooker_tell_27 ?_
          refine lv_iload hx hb dLooker_tell_30 (lv_at hl 4 rfl) ?_
          refine mu_Vv (rest := []) S hC (fun q h => hA q (Nat.le_trans hS.1 h)) (fun q h => h) hS (f_Looks_copy l γ A κ φ ψ i4) meLooks_copy qw_287ec6b8fc ⟨Nat.le_of_ble_eq_true rfl, Nat.le_of_ble_eq_true rfl⟩ (rv_6 hC hI) hG rfl hl.1 rfl (Nat.le_of_ble_eq_true rfl) dLooker_tell_32 ⟨Nat.le_refl _, Nat.le_refl _⟩ (fun H locs hG hS _ _ => ?_)
          obtain ⟨φ14, eφ14⟩ : ∃ z : gF, z = (P_Looks_copy κ φ ψ i4).1 := ⟨_, rfl⟩
          rw [← eφ14] at hG
          obtain ⟨ψ15, eψ15⟩ : ∃ z : gG, z = (P_Looks_copy κ φ ψ i4).2 := ⟨_, rfl⟩
          rw [← eψ15] at hG
          have hI := inv_of hG
          exact J35 ls _ _ φ14 ψ15 i2 i3 i4 hG hS (by first | exact ⟨(mu_up (k := i4) (by assumption)).2, by assumption⟩ | exact ⟨by assumption, by assumption⟩) (by first | assumption | exact hlast) (by subst eψ15 eφ14 er11; exact hO.tr ((if_neg c10).trans (if_pos c12))) (lv_sub hl [0, 1, 2, 3, 4] rfl)
  refine lv_aload_n hx hb dLooker_tell_0 rfl (lv_at hl 0 rfl) ?_
  refine of_get S hC (of_8_0 hI) in_Looker rfl (by decide) qw_22d2793f25 dLooker_tell_1 ?_
  refine lv_iload_n hx hb dLooker_tell_4 rfl (lv_at hl 2 rfl) ?_
  refine pu_Vi (rest := []) S hC (f1_Trees_firstOf l γ A κ φ ψ x2) meTrees_firstOf qw_b381ab4f95 ⟨Nat.le_of_ble_eq_true rfl, Nat.le_of_ble_eq_true rfl⟩ (rv_1 hC hI) hG rfl hl.1 rfl (Nat.le_of_ble_eq_true rfl) dLooker_tell_5 ⟨Nat.zero_le _, Nat.zero_le _⟩ (fun r16 hr16 => ?_)
  obtain ⟨hr16, er16⟩ := hr16
  refine lv_istore (lv' := [(4, .int r16), (0, .ref (γ.2.2.2 8)), (1, .ref (γ.2.2.2 6)), (2, .int x2), (3, .int x3)]) hx hb dLooker_tell_8 hl (by decide) rfl (fun ls hl => ?_)
  exact J10 _ ls _ _ φ ψ x2 x3 r16 hG hS (by first | assumption | exact hlast) (by subst er16; exact hO.tr rfl) rfl (lv_sub hl [1, 2, 3, 4, 0] rfl)
set_option maxHeartbeats 4000000 in
set_option maxRecDepth 100000 in
theorem cx_copyOf (l : Launch) (γ : gE) (A : Nat → Prop) (a n k : Nat) (f : Nat → Int32) (H0 : Heap) (hk : n < k) (hk2 : k ≤ 65536) : MU l yjArrays_copyOf bjArrays_copyOf 3 (some (.array .int)) 1 60 1 k [.ref a, .int (nI k)] γ A (fun H => H = H0 ∧ A a ∧ H[a]? = some (vp_cell γ.2.1 (n, .inl f))) (mQr (fun r H1 => r = H0.size ∧ H1.size = H0.size + 1 ∧ (∀ q : Nat, q < H0.size → H1[q]? = H0[q]?) ∧ H1[r]? = some (vp_cell γ.2.1 (k, .inl (va_cpy f (fun _ => 0) 0 0 n)))) A) := by
  refine mu_openFR (Or.inr ⟨_, rfl⟩) (by decide +kernel) (Nat.le_of_ble_eq_true rfl) ?_
  intro p e s m args below meth c ls Q S hC hA hI hE hl
  obtain ⟨hx, hb, hml, hown, hW⟩ := id S
  obtain ⟨rfl, hAa, hcell⟩ := hI
  have hS : va_S A s.heap s.heap [] := va_S.rf
  have hl : lv_has ls 3 [(0, .ref a), (1, .int (nI k))] := hl
  have hP : va_P γ.1 vwCl [(a, .inl (γ.2.1, (n, .inl f)))] s.heap := one_P hcell
  have hD : va_D A [(a, .inl (γ.2.1, (n, .inl f)))] := one_D hAa
  have hlt : a < s.heap.size := (Array.getElem?_eq_some_iff.mp hcell).1
  refine lv_iload_n hx hb djArrays_copyOf_0 rfl (lv_at hl 1 rfl) ?_
  refine lv_aload_n hx hb djArrays_copyOf_1 rfl (lv_at hl 0 rfl) ?_
  refine va_alen hx hb hC.1 hP 0 0 rfl rfl (v := nI n) rfl djArrays_copyOf_2 ?_
  refine lv_icmp_ne (tgt := 14) hx hb djArrays_copyOf_3 (by decide) (fun _ => ?_) (fun c1 => absurd ((nI_eq (by omega) (by omega)).mp c1) (by omega))
  refine lv_iload_n hx hb djArrays_copyOf_14 rfl (lv_at hl 1 rfl) ?_
  refine va_newaK (atype := .int) (N := k) hx hb (hW _ qw_8e969fb20a) rfl djArrays_copyOf_15 rfl (nI_pos (by omega)) (nI_clamp (by omega)) (by show k * 4 ≤ _; omega) (Nat.le_refl _) (Nat.le_of_eq (Nat.zero_add k)) rfl (fun H cA e1 z1 o1 hAr hNm => ?_)
  have hcA : cA = γ.2.1 := Option.some.inj (hNm.symm.trans (va_nm_int (hC.1.2 0 _ rfl).2))
  subst hcA
  have hl := hl
  refine W.eq (g2 := F0 m 17 ls [.ref s.heap.size]) rfl ?_
  have hPn : va_P γ.1 vwCl [(s.heap.size, .inl (γ.2.1, (k, .inl (fun _ => 0))))] H := one_P e1
  have hDn : va_D (fun q => s.heap.size ≤ q) [(s.heap.size, .inl (γ.2.1, (k, .inl (fun _ => 0))))] := one_D (Nat.le_refl _)
  have hco : H[a]? = some (vp_cell γ.2.1 (n, .inl f)) := (o1 a hlt).trans hcell
  have hPo : va_P γ.1 vwCl [(a, .inl (γ.2.1, (n, .inl f)))] H := one_P hco
  have hS : va_S A s.heap H [] := ⟨by omega, fun q h1 _ => o1 q h1, fun _ h => by cases h⟩
  refine lv_astore_n (lv' := [(2, .ref s.heap.size), (0, .ref a), (1, .int (nI k))]) hx hb djArrays_copyOf_17 rfl hl (by decide) rfl (fun ls hl => ?_)
  refine lv_aload_n hx hb djArrays_copyOf_18 rfl (lv_at hl 1 rfl) ?_
  refine lv_iconst (v := 0) hx hb djArrays_copyOf_19 (by decide) ?_
  refine lv_aload_n hx hb djArrays_copyOf_20 rfl (lv_at hl 0 rfl) ?_
  refine lv_iconst (v := 0) hx hb djArrays_copyOf_21 (by decide) ?_
  refine lv_aload_n hx hb djArrays_copyOf_22 rfl (lv_at hl 1 rfl) ?_
  refine va_alen hx hb hC.1 hPo 0 0 rfl rfl (v := nI n) rfl djArrays_copyOf_23 ?_
  refine lv_iload_n hx hb djArrays_copyOf_24 rfl (lv_at hl 2 rfl) ?_
  refine va_mmin (rest := [.int 0, .ref s.heap.size, .int 0, .ref a]) hx hb (hml.trans hl.1.symm) hown (hW _ qw_7c2f99d6ce) (hW _ qw_1a05fe5770) (hW _ qw_0001fcaade) (hW _ qw_5e99ca5e66) (Nat.le_of_ble_eq_true rfl) (Nat.le_of_ble_eq_true rfl) (Nat.le_refl _) (Nat.le_of_eq (Nat.zero_add k)) djArrays_copyOf_25 ?_
  rw [if_neg (nI_nlt (a := k) (b := n) (by omega) (by omega))]
  refine st_copyi hx hb (hml.trans hl.1.symm) hown (hW _ qw_917c68b328) (hW _ qw_d8fd3cc6ff) (hW _ qw_fe691cbd75) (hW _ qw_3f8a6f3ebd) hC.1 hPn hDn (fun q h => hA q h) hS 0 0 0 hco rfl rfl rfl (by decide) (by decide) (nI_pos (by omega)) (by rw [sb_cl0, nI_clamp (by omega)]; omega) (by rw [sb_cl0, nI_clamp (by omega)]; omega) (Nat.le_of_ble_eq_true rfl) (Nat.le_of_ble_eq_true rfl) djArrays_copyOf_28 (fun H1 locs hP1 hD1 hS hz ho => ?_)
  refine lv_aload_n hx hb djArrays_copyOf_31 rfl (lv_at hl 0 rfl) ?_
  refine W.cs (Nat.zero_add 1) (Nat.zero_add k) ?_
  refine hE _ _ _ _ _ hS ⟨rfl, by rw [hz]; exact z1, fun q hq => (ho q (by omega)).trans (o1 q hq), ?_⟩ djArrays_copyOf_32
  have h9 := hP1 0 _ rfl
  rw [sb_cl0, nI_clamp (by omega)] at h9
  exact h9

set_option maxHeartbeats 4000000 in
set_option maxRecDepth 100000 in
theorem cx_copyOfL (l : Launch) (γ : gE) (A : Nat → Prop) (a n k : Nat) (f : Nat → Int64) (H0 : Heap) (hk : n < k) (hk2 : k ≤ 65536) : MU l yjArrays_copyOfL bjArrays_copyOfL 3 (some (.array .long)) 1 60 1 k [.ref a, .int (nI k)] γ A (fun H => H = H0 ∧ A a ∧ H[a]? = some (vp_cell γ.2.2.1 (n, .inr (.inl f)))) (mQr (fun r H1 => r = H0.size ∧ H1.size = H0.size + 1 ∧ (∀ q : Nat, q < H0.size → H1[q]? = H0[q]?) ∧ H1[r]? = some (vp_cell γ.2.2.1 (k, .inr (.inl (va_cpy f (fun _ => 0) 0 0 n))))) A) := by
  refine mu_openFR (Or.inr ⟨_, rfl⟩) (by decide +kernel) (Nat.le_of_ble_eq_true rfl) ?_
  intro p e s m args below meth c ls Q S hC hA hI hE hl
  obtain ⟨hx, hb, hml, hown, hW⟩ := id S
  obtain ⟨rfl, hAa, hcell⟩ := hI
  have hS : va_S A s.heap s.heap [] := va_S.rf
  have hl : lv_has ls 3 [(0, .ref a), (1, .int (nI k))] := hl
  have hP : va_P γ.1 vwCl [(a, .inl (γ.2.2.1, (n, .inr (.inl f))))] s.heap := one_P hcell
  have hD : va_D A [(a, .inl (γ.2.2.1, (n, .inr (.inl f))))] := one_D hAa
  have hlt : a < s.heap.size := (Array.getElem?_eq_some_iff.mp hcell).1
  refine lv_iload_n hx hb djArrays_copyOfL_0 rfl (lv_at hl 1 rfl) ?_
  refine lv_aload_n hx hb djArrays_copyOfL_1 rfl (lv_at hl 0 rfl) ?_
  refine va_alen hx hb hC.1 hP 0 1 rfl rfl (v := nI n) rfl djArrays_copyOfL_2 ?_
  refine lv_icmp_ne (tgt := 14) hx hb djArrays_copyOfL_3 (by decide) (fun _ => ?_) (fun c1 => absurd ((nI_eq (by omega) (by omega)).mp c1) (by omega))
  refine lv_iload_n hx hb djArrays_copyOfL_14 rfl (lv_at hl 1 rfl) ?_
  refine va_newaK (atype := .long) (N := k) hx hb (hW _ qw_6933bd775d) rfl djArrays_copyOfL_15 rfl (nI_pos (by omega)) (nI_clamp (by omega)) (by show k * 8 ≤ _; omega) (Nat.le_refl _) (Nat.le_of_eq (Nat.zero_add k)) rfl (fun H cA e1 z1 o1 hAr hNm => ?_)
  have hcA : cA = γ.2.2.1 := Option.some.inj (hNm.symm.trans (va_nm_long (hC.1.2 1 _ rfl).2))
  subst hcA
  have hl := hl
  refine W.eq (g2 := F0 m 17 ls [.ref s.heap.size]) rfl ?_
  have hPn : va_P γ.1 vwCl [(s.heap.size, .inl (γ.2.2.1, (k, .inr (.inl (fun _ => 0)))))] H := one_P e1
  have hDn : va_D (fun q => s.heap.size ≤ q) [(s.heap.size, .inl (γ.2.2.1, (k, .inr (.inl (fun _ => 0)))))] := one_D (Nat.le_refl _)
  have hco : H[a]? = some (vp_cell γ.2.2.1 (n, .inr (.inl f))) := (o1 a hlt).trans hcell
  have hPo : va_P γ.1 vwCl [(a, .inl (γ.2.2.1, (n, .inr (.inl f))))] H := one_P hco
  have hS : va_S A s.heap H [] := ⟨by omega, fun q h1 _ => o1 q h1, fun _ h => by cases h⟩
  refine lv_astore_n (lv' := [(2, .ref s.heap.size), (0, .ref a), (1, .int (nI k))]) hx hb djArrays_copyOfL_17 rfl hl (by decide) rfl (fun ls hl => ?_)
  refine lv_aload_n hx hb djArrays_copyOfL_18 rfl (lv_at hl 1 rfl) ?_
  refine lv_iconst (v := 0) hx hb djArrays_copyOfL_19 (by decide) ?_
  refine lv_aload_n hx hb djArrays_copyOfL_20 rfl (lv_at hl 0 rfl) ?_
  refine lv_iconst (v := 0) hx hb djArrays_copyOfL_21 (by decide) ?_
  refine lv_aload_n hx hb djArrays_copyOfL_22 rfl (lv_at hl 1 rfl) ?_
  refine va_alen hx hb hC.1 hPo 0 1 rfl rfl (v := nI n) rfl djArrays_copyOfL_23 ?_
  refine lv_iload_n hx hb djArrays_copyOfL_24 rfl (lv_at hl 2 rfl) ?_
  refine va_mmin (rest := [.int 0, .ref s.heap.size, .int 0, .ref a]) hx hb (hml.trans hl.1.symm) hown (hW _ qw_7c2f99d6ce) (hW _ qw_1a05fe5770) (hW _ qw_0001fcaade) (hW _ qw_5e99ca5e66) (Nat.le_of_ble_eq_true rfl) (Nat.le_of_ble_eq_true rfl) (Nat.le_refl _) (Nat.le_of_eq (Nat.zero_add k)) djArrays_copyOfL_25 ?_
  rw [if_neg (nI_nlt (a := k) (b := n) (by omega) (by omega))]
  refine st_copyl hx hb (hml.trans hl.1.symm) hown (hW _ qw_917c68b328) (hW _ qw_d8fd3cc6ff) (hW _ qw_fe691cbd75) (hW _ qw_3f8a6f3ebd) hC.1 hPn hDn (fun q h => hA q h) hS 0 1 1 hco rfl rfl rfl (by decide) (by decide) (nI_pos (by omega)) (by rw [sb_cl0, nI_clamp (by omega)]; omega) (by rw [sb_cl0, nI_clamp (by omega)]; omega) (Nat.le_of_ble_eq_true rfl) (Nat.le_of_ble_eq_true rfl) djArrays_copyOfL_28 (fun H1 locs hP1 hD1 hS hz ho => ?_)
  refine lv_aload_n hx hb djArrays_copyOfL_31 rfl (lv_at hl 0 rfl) ?_
  refine W.cs (Nat.zero_add 1) (Nat.zero_add k) ?_
  refine hE _ _ _ _ _ hS ⟨rfl, by rw [hz]; exact z1, fun q hq => (ho q (by omega)).trans (o1 q hq), ?_⟩ djArrays_copyOfL_32
  have h9 := hP1 0 _ rfl
  rw [sb_cl0, nI_clamp (by omega)] at h9
  exact h9

def P_wr (n N : Nat) (f : Nat → Int32) : Nat → Int32 := if N ≤ n then f else va_cpy f (fun _ => 0) 0 0 n

set_option maxHeartbeats 4000000 in
set_option maxRecDepth 100000 in
theorem cx_withRoom (l : Launch) (γ : gE) (A : Nat → Prop) (a n N : Nat) (f : Nat → Int32) (H0 : Heap) (hN : N ≤ 4096) (hn : n ≤ 8192) : MU l yTypeBook_withRoom bTypeBook_withRoom 2 (some (.array .int)) 2 82 (wc n N) (wm n N) [.ref a, .int (nI N)] γ A (fun H => H = H0 ∧ A a ∧ H[a]? = some (vp_cell γ.2.1 (n, .inl f))) (mQr (fun r H1 => (r = a ∨ H0.size ≤ r) ∧ A r ∧ H0.size ≤ H1.size ∧ (∀ q : Nat, q < H0.size → H1[q]? = H0[q]?) ∧ H1[r]? = some (vp_cell γ.2.1 (wl n N, .inl (P_wr n N f)))) A) := by
  refine mu_openR (Or.inr ⟨_, rfl⟩) (by decide) (Nat.le_of_ble_eq_true rfl) ?_
  intro p e s m args below meth c ls Q S hC hA hI hE hl
  obtain ⟨hx, hb, hml, hown, hW⟩ := id S
  obtain ⟨rfl, hAa, hcell⟩ := hI
  have hS : va_S A s.heap s.heap [] := va_S.rf
  have hl : lv_has ls 2 [(0, .ref a), (1, .int (nI N))] := hl
  have hP : va_P γ.1 vwCl [(a, .inl (γ.2.1, (n, .inl f)))] s.heap := one_P hcell
  have hlt : a < s.heap.size := (Array.getElem?_eq_some_iff.mp hcell).1
  refine lv_iload_n hx hb dTypeBook_withRoom_0 rfl (lv_at hl 1 rfl) ?_
  refine lv_aload_n hx hb dTypeBook_withRoom_1 rfl (lv_at hl 0 rfl) ?_
  refine va_alen hx hb hC.1 hP 0 0 rfl rfl (v := nI n) rfl dTypeBook_withRoom_2 ?_
  refine lv_icmp_gt (tgt := 10) hx hb dTypeBook_withRoom_3 (by decide) (fun c1 => ?_) (fun c1 => ?_)
  · have hgt : n < N := (nI_ltI (by omega) (by omega)).mp c1
    have e1 : wc n N = 1 := if_neg (by omega)
    have e2 : wm n N = max N (2 * n) := if_neg (by omega)
    have e3 : wl n N = max N (2 * n) := if_neg (by omega)
    rw [e1, e2] at hE ⊢
    rw [e3] at hE
    have hm : max N (2 * n) ≤ 65536 := by omega
    have hm2 : n < max N (2 * n) := by omega
    refine lv_aload_n hx hb dTypeBook_withRoom_10 rfl (lv_at hl 0 rfl) ?_
    refine lv_iload_n hx hb dTypeBook_withRoom_11 rfl (lv_at hl 1 rfl) ?_
    refine lv_iconst (v := 2) hx hb dTypeBook_withRoom_12 (by decide) ?_
    refine lv_aload_n hx hb dTypeBook_withRoom_13 rfl (lv_at hl 0 rfl) ?_
    refine va_alen hx hb hC.1 hP 0 0 rfl rfl (v := nI n) rfl dTypeBook_withRoom_14 ?_
    refine lv_imul hx hb dTypeBook_withRoom_15 ?_
    refine va_mmax (rest := [.ref a]) hx hb (hml.trans hl.1.symm) hown (hW _ qw_0d2310d85d) (hW _ qw_7cc87a9f9b) (hW _ qw_0001fcaade) (hW _ qw_6b973c1ba4) (Nat.le_of_ble_eq_true rfl) (Nat.le_of_ble_eq_true rfl) (Nat.zero_le _) (Nat.zero_le _) dTypeBook_withRoom_16 ?_
    have em : (if nI N < 2 * nI n then 2 * nI n else nI N) = nI (max N (2 * n)) := by
      have h2 : (2 : Int32) * nI n = nI (2 * n) := pk_mul 2 n
      rw [h2]
      by_cases h : N < 2 * n
      · rw [if_pos (nI_lt h (by omega))]
        congr 1
        omega
      · rw [if_neg (nI_nlt (by omega) (by omega))]
        congr 1
        omega
    rw [em]
    refine mu_Sr (rest := []) S hC (fun q h => hA q h) (fun q h => h) hS (cx_copyOf l γ A a n (max N (2 * n)) f s.heap hm2 hm) mejArrays_copyOf qw_13b4208a4c ⟨Nat.le_of_ble_eq_true rfl, Nat.le_of_ble_eq_true rfl⟩ ⟨rfl, hAa, hcell⟩ rfl hl.1 rfl (Nat.le_of_ble_eq_true rfl) dTypeBook_withRoom_19 ⟨Nat.le_refl _, Nat.le_of_eq (Nat.zero_add _)⟩ (fun r H locs hPO hS hz hk => ?_)
    obtain ⟨e4, e5, e6, e7⟩ := hPO
    have e9 : P_wr n N f = va_cpy f (fun _ => 0) 0 0 n := if_neg (by omega)
    rw [e9] at hE
    refine W.cs (Nat.zero_add 1) (Nat.zero_add _) ?_
    exact hE _ _ _ _ _ hS ⟨Or.inr (Nat.le_of_eq e4.symm), hA _ (Nat.le_of_eq e4.symm), by omega, e6, e7⟩ dTypeBook_withRoom_22
  · have hle : N ≤ n := by
      rcases Nat.lt_or_ge n N with h | h
      · exact absurd ((nI_ltI (by omega) (by omega)).mpr h) c1
      · exact h
    have e1 : wc n N = 0 := if_pos hle
    have e2 : wm n N = 0 := if_pos hle
    have e3 : wl n N = n := if_pos hle
    rw [e1, e2] at hE ⊢
    rw [e3] at hE
    refine lv_aload_n hx hb dTypeBook_withRoom_6 rfl (lv_at hl 0 rfl) ?_
    refine lv_goto (tgt := 22) hx hb dTypeBook_withRoom_7 (by decide) ?_
    exact hE _ _ _ _ _ hS ⟨Or.inl rfl, hAa, Nat.le_refl _, fun _ _ => rfl, (by rw [show P_wr n N f = f from if_pos hle]; exact hcell)⟩ dTypeBook_withRoom_22

def P_wrL (M N : Nat) (g : gg) : gg := if N ≤ M then g else va_cpy g (fun _ => 0) 0 0 (4 * M)

set_option maxHeartbeats 4000000 in
set_option maxRecDepth 100000 in
theorem fc_Rows_makeRoom (l : Launch) (γ : gE) (Z : Nat → Prop) (a M : Nat) (g : gg) (N : Nat) (hN : N ≤ 4096) : MU l yRows_makeRoom bRows_makeRoom 2 none 2 82 (wc M N) (4 * wm M N) [.ref a, .int (nI N)] γ Z (cmp γ (gRows γ a M g) Z) (mQv (fun H => cmp γ (gRows γ a (wl M N) (P_wrL M N g)) Z H) Z) := by
  refine mu_openV (by decide) (Nat.le_of_ble_eq_true rfl) ?_
  intro p e s m args below meth c ls Q S hnm hC hA hI hE hl
  obtain ⟨hx, hb, hml, hown, hW⟩ := id S
  have hS : va_S Z s.heap s.heap [] := va_S.rf
  have hl : lv_has ls 2 [(0, .ref a), (1, .int (nI N))] := hl
  obtain ⟨ws, ⟨b0, rfl, h1, h2⟩, hP, hD⟩ := id hI
  have hP : va_P γ.1 vwCl [(a, .inr (5, [.ref b0])), (b0, .inl (γ.2.2.1, 4 * M, .inr (.inl g)))] s.heap := hP
  have hD : va_D Z [(a, .inr (5, [.ref b0])), (b0, .inl (γ.2.2.1, 4 * M, .inr (.inl g)))] := hD
  have e0 : nI N * 4 = nI (4 * N) := by rw [Nat.mul_comm 4 N]; exact pk_mul N 4
  have em : (2 : Int32) * nI (4 * M) = nI (2 * (4 * M)) := pk_mul 2 (4 * M)
  refine lv_iload_n hx hb dRows_makeRoom_0 rfl (lv_at hl 1 rfl) ?_
  refine lv_iconst (v := 4) hx hb dRows_makeRoom_1 (by decide) ?_
  refine lv_imul hx hb dRows_makeRoom_2 ?_
  rw [e0]
  refine lv_aload_n hx hb dRows_makeRoom_3 rfl (lv_at hl 0 rfl) ?_
  refine va_get (D := γ.1) (ci := 5) (v := .ref b0) (C := R_Rows) (T := T_Rows) (N := 1) (Ts := bs_W0) hx hb hW in_Rows hown hC.1 hP 0 rfl rfl 0 (by decide) (hW _ qw_05e9c8a29d) (fun _ h9 => h9) rfl dRows_makeRoom_4 ?_
  refine va_alen hx hb hC.1 hP 1 1 rfl rfl (v := nI (4 * M)) rfl dRows_makeRoom_7 ?_
  refine lv_icmp_le (tgt := 35) hx hb dRows_makeRoom_8 (by decide) (fun c1 => ?_) (fun c1 => ?_)
  · have hle : N ≤ M := by have := (nI_leI (by omega) (by omega)).mp c1; omega
    have e1 : wc M N = 0 := if_pos hle
    have e2 : wm M N = 0 := if_pos hle
    have e3 : wl M N = M := if_pos hle
    rw [e1, e2] at hE ⊢
    rw [e3] at hE
    exact hE _ _ _ _ hS (by rw [show P_wrL M N g = g from if_pos hle]; exact hI) dRows_makeRoom_35
  · have hgt : M < N := by
      rcases Nat.lt_or_ge M N with h | h
      · exact h
      · exact absurd ((nI_leI (a := 4 * N) (b := 4 * M) (by omega) (by omega)).mpr (by omega)) c1
    have e1 : wc M N = 1 := if_neg (by omega)
    have e2 : wm M N = max N (2 * M) := if_neg (by omega)
    have e3 : wl M N = max N (2 * M) := if_neg (by omega)
    rw [e1, e2] at hE ⊢
    rw [e3] at hE
    refine lv_aload_n hx hb dRows_makeRoom_11 rfl (lv_at hl 0 rfl) ?_
    refine lv_aload_n hx hb dRows_makeRoom_12 rfl (lv_at hl 0 rfl) ?_
    refine va_get (D := γ.1) (ci := 5) (v := .ref b0) (C := R_Rows) (T := T_Rows) (N := 1) (Ts := bs_W0) hx hb hW in_Rows hown hC.1 hP 0 rfl rfl 0 (by decide) (hW _ qw_05e9c8a29d) (fun _ h9 => h9) rfl dRows_makeRoom_13 ?_
    refine lv_iload_n hx hb dRows_makeRoom_16 rfl (lv_at hl 1 rfl) ?_
    refine lv_iconst (v := 4) hx hb dRows_makeRoom_17 (by decide) ?_
    refine lv_imul hx hb dRows_makeRoom_18 ?_
    rw [e0]
    refine lv_iconst (v := 2) hx hb dRows_makeRoom_19 (by decide) ?_
    refine lv_aload_n hx hb dRows_makeRoom_20 rfl (lv_at hl 0 rfl) ?_
    refine va_get (D := γ.1) (ci := 5) (v := .ref b0) (C := R_Rows) (T := T_Rows) (N := 1) (Ts := bs_W0) hx hb hW in_Rows hown hC.1 hP 0 rfl rfl 0 (by decide) (hW _ qw_05e9c8a29d) (fun _ h9 => h9) rfl dRows_makeRoom_21 ?_
    refine va_alen hx hb hC.1 hP 1 1 rfl rfl (v := nI (4 * M)) rfl dRows_makeRoom_24 ?_
    refine lv_imul hx hb dRows_makeRoom_25 ?_
    rw [em]
    refine va_mmax (rest := [.ref b0, .ref a]) hx hb (hml.trans hl.1.symm) hown (hW _ qw_d78519f1e2) (hW _ qw_7cc87a9f9b) (hW _ qw_0001fcaade) (hW _ qw_6b973c1ba4) (Nat.le_of_ble_eq_true rfl) (Nat.le_of_ble_eq_true rfl) (Nat.zero_le _) (Nat.zero_le _) dRows_makeRoom_26 ?_
    have ek : (if nI (4 * N) < nI (2 * (4 * M)) then nI (2 * (4 * M)) else nI (4 * N)) = nI (4 * max N (2 * M)) := by
      by_cases h : 4 * N < 2 * (4 * M)
      · rw [if_pos (nI_lt h (by omega))]
        congr 1
        omega
      · rw [if_neg (nI_nlt (by omega) (by omega))]
        congr 1
        omega
    rw [ek]
    refine mu_Sr (rest := [.ref a]) S hC (fun q h => hA q h) (fun q h => h) hS (cx_copyOfL l γ Z b0 (4 * M) (4 * max N (2 * M)) g s.heap (by omega) (by omega)) mejArrays_copyOfL qw_04147e0ed0 ⟨Nat.le_of_ble_eq_true rfl, Nat.le_of_ble_eq_true rfl⟩ ⟨rfl, hD.2 1 _ rfl, hP 1 _ rfl⟩ rfl hl.1 rfl (Nat.le_of_ble_eq_true rfl) dRows_makeRoom_29 ⟨Nat.le_refl _, Nat.le_of_eq (Nat.zero_add _)⟩ (fun r H1 locs hPO hS _ _ => ?_)
    obtain ⟨q1, q2, q3, q4⟩ := hPO
    have e9 : P_wrL M N g = va_cpy g (fun _ => 0) 0 0 (4 * M) := if_neg (by omega)
    rw [e9] at hE
    obtain ⟨hP, hD⟩ := wr_join (i := 1) hP hD rfl q3 q4 (Or.inr (Nat.le_of_eq q1.symm)) (hA _ (Nat.le_of_eq q1.symm))
    have hP : va_P γ.1 vwCl [(a, .inr (5, [.ref b0])), (r, .inl (γ.2.2.1, 4 * max N (2 * M), .inr (.inl (va_cpy g (fun _ => 0) 0 0 (4 * M)))))] H1 := hP
    have hD : va_D Z [(a, .inr (5, [.ref b0])), (r, .inl (γ.2.2.1, 4 * max N (2 * M), .inr (.inl (va_cpy g (fun _ => 0) 0 0 (4 * M)))))] := hD
    refine va_put (D := γ.1) (ci := 5) (v := .ref r) (ty := .array .long) (C := R_Rows) (T := T_Rows) (N := 1) (Ts := bs_W0) hx hb hW in_Rows t_Rows t_Rows_ok n_Rows hown hC.1 hP hD hS 0 rfl rfl 0 (by decide) (hW _ qw_05e9c8a29d) (fun _ h9 => h9) rfl (by decide +kernel) rfl rfl (Nat.le_of_ble_eq_true rfl) dRows_makeRoom_32 (fun H locs hP hD hS => ?_)
    have hQ := hE _ _ 35 ls hS ⟨_, ⟨r, rfl, (by omega), (by omega)⟩, hP, hD⟩ dRows_makeRoom_35
    refine W.cs (cells' := 1) (slots' := 4 * max N (2 * M)) (by omega) (by omega) ?_
    exact hQ

theorem muk_vf {l : Launch} {y : MethodName} {bytes : ByteArray} {maxL fr lo mc ms : Nat} {ret : Option FieldType} {av : List Value} {γ : gE} {A : Nat → Prop} {κ κ' : Nat → Nat} {φ : gF} {ψ : gG} {c' : gf} (i : Nat) (h1 : 1 ≤ i) (h2 : i ≤ 10) (hj : ∀ j, j ≠ i → 1 ≤ j → j ≤ 10 → ∀ f g, FFG γ κ' f g j = FFG γ κ f g j)
    (hM : ∀ Z, MU l y bytes maxL ret fr lo mc ms av γ Z (cmp γ (FFG γ κ (φ i) (ψ i) i) Z) (mQv (cmp γ (FFG γ κ' c' (ψ i) i) Z) Z)) : MU l y bytes maxL ret fr lo mc ms av γ A (INVF γ A κ φ ψ) (mQv (INVF γ A κ' (up φ i c') ψ) A) :=
  met_x hM (fun a U h => by
    obtain ⟨ha, hC, hA, hI⟩ := h
    obtain ⟨Z, hc, hZn, hZA, hback⟩ := ing_lift hI hA i h1 h2
    refine ⟨Z, ⟨ha, hC, hZn, hc⟩, fun o t h => ?_, hZA⟩
    obtain ⟨⟨u, e1, e2, e3⟩, hz, hk⟩ := h
    exact ⟨⟨u, e1, e2, by have h9 := hback κ' c' (ψ i) _ hj e3 hz hk; rw [up_id ψ i] at h9; exact h9⟩, hz, fun q h3 h4 => hk q h3 (fun h5 => h4 (hZA q h5))⟩)
theorem muk_if {l : Launch} {y : MethodName} {bytes : ByteArray} {maxL fr lo mc ms : Nat} {ret : Option FieldType} {av : List Value} {γ : gE} {A : Nat → Prop} {κ κ' : Nat → Nat} {φ : gF} {ψ : gG} {c' : gf} {T : Int32 → Prop} (i : Nat) (h1 : 1 ≤ i) (h2 : i ≤ 10) (hj : ∀ j, j ≠ i → 1 ≤ j → j ≤ 10 → ∀ f g, FFG γ κ' f g j = FFG γ κ f g j)
    (hM : ∀ Z, MU l y bytes maxL ret fr lo mc ms av γ Z (cmp γ (FFG γ κ (φ i) (ψ i) i) Z) (mQi (fun r H => T r ∧ cmp γ (FFG γ κ' c' (ψ i) i) Z H) Z)) : MU l y bytes maxL ret fr lo mc ms av γ A (INVF γ A κ φ ψ) (mQi (fun r H => T r ∧ INVF γ A κ' (up φ i c') ψ H) A) :=
  met_x hM (fun a U h => by
    obtain ⟨ha, hC, hA, hI⟩ := h
    obtain ⟨Z, hc, hZn, hZA, hback⟩ := ing_lift hI hA i h1 h2
    refine ⟨Z, ⟨ha, hC, hZn, hc⟩, fun o t h => ?_, hZA⟩
    obtain ⟨⟨u, v, e1, e2, e0, e3⟩, hz, hk⟩ := h
    exact ⟨⟨u, v, e1, e2, e0, by have h9 := hback κ' c' (ψ i) _ hj e3 hz hk; rw [up_id ψ i] at h9; exact h9⟩, hz, fun q h3 h4 => hk q h3 (fun h5 => h4 (hZA q h5))⟩)
theorem muk_vg {l : Launch} {y : MethodName} {bytes : ByteArray} {maxL fr lo mc ms : Nat} {ret : Option FieldType} {av : List Value} {γ : gE} {A : Nat → Prop} {κ κ' : Nat → Nat} {φ : gF} {ψ : gG} {c' : gg} (i : Nat) (h1 : 1 ≤ i) (h2 : i ≤ 10) (hj : ∀ j, j ≠ i → 1 ≤ j → j ≤ 10 → ∀ f g, FFG γ κ' f g j = FFG γ κ f g j)
    (hM : ∀ Z, MU l y bytes maxL ret fr lo mc ms av γ Z (cmp γ (FFG γ κ (φ i) (ψ i) i) Z) (mQv (cmp γ (FFG γ κ' (φ i) c' i) Z) Z)) : MU l y bytes maxL ret fr lo mc ms av γ A (INVF γ A κ φ ψ) (mQv (INVF γ A κ' φ (up ψ i c')) A) :=
  met_x hM (fun a U h => by
    obtain ⟨ha, hC, hA, hI⟩ := h
    obtain ⟨Z, hc, hZn, hZA, hback⟩ := ing_lift hI hA i h1 h2
    refine ⟨Z, ⟨ha, hC, hZn, hc⟩, fun o t h => ?_, hZA⟩
    obtain ⟨⟨u, e1, e2, e3⟩, hz, hk⟩ := h
    exact ⟨⟨u, e1, e2, by have h9 := hback κ' (φ i) c' _ hj e3 hz hk; rw [up_id φ i] at h9; exact h9⟩, hz, fun q h3 h4 => hk q h3 (fun h5 => h4 (hZA q h5))⟩)
theorem P_wr_lt {n N j : Nat} {f : Nat → Int32} (h : j < n) : P_wr n N f j = f j := by
  unfold P_wr
  by_cases h9 : N ≤ n
  · rw [if_pos h9]
  · rw [if_neg h9]; exact sb_cpy0' h
def P_Types_put (N L : Nat) (f : gf) (x1 : Int32) (x2 : Int32) (x3 : Int32) (x4 : Int32) : Int32 × gf := ((nI (N)), (Au (Au (Au (Au (up (up (up (up f 0 (P_wr L (N + 1) (f 0))) 1 (P_wr L (N + 1) ((up f 0 (P_wr L (N + 1) (f 0))) 1))) 2 (P_wr L (N + 1) ((up (up f 0 (P_wr L (N + 1) (f 0))) 1 (P_wr L (N + 1) ((up f 0 (P_wr L (N + 1) (f 0))) 1))) 2))) 3 (P_wr L (N + 1) ((up (up (up f 0 (P_wr L (N + 1) (f 0))) 1 (P_wr L (N + 1) ((up f 0 (P_wr L (N + 1) (f 0))) 1))) 2 (P_wr L (N + 1) ((up (up f 0 (P_wr L (N + 1) (f 0))) 1 (P_wr L (N + 1) ((up f 0 (P_wr L (N + 1) (f 0))) 1))) 2))) 3))) 0 (nI (N)).toNatClampNeg x1) 1 (nI (N)).toNatClampNeg x2) 2 (nI (N)).toNatClampNeg x3) 3 (nI (N)).toNatClampNeg x4))
set_option maxHeartbeats 4000000 in
set_option maxRecDepth 100000 in
theorem fc_Types_put (l : Launch) (γ : gE) (Z : Nat → Prop) (a N L : Nat) (f : gf) (x1 : Int32) (x2 : Int32) (x3 : Int32) (x4 : Int32) (hN : N ≤ 4000) : MU l yTypes_put bTypes_put 5 (some .int) 3 103 (0 + wc L (N + 1) + wc L (N + 1) + wc L (N + 1) + wc L (N + 1)) (0 + wm L (N + 1) + wm L (N + 1) + wm L (N + 1) + wm L (N + 1)) [.ref a, .int x1, .int x2, .int x3, .int x4] γ Z (cmp γ (gTypes γ a N L f) Z) (mQi (fun r H => r = (P_Types_put N L f x1 x2 x3 x4).1 ∧ cmp γ (gTypes γ a (N + 1) (wl L (N + 1)) (P_Types_put N L f x1 x2 x3 x4).2) Z H) Z) := by
  refine mu_openI (by decide) (Nat.le_of_ble_eq_true rfl) ?_
  intro p e s m args below meth c ls Q S hnm hC hA hI hE hl
  obtain ⟨hx, hb, hml, hown, hW⟩ := id S
  have hS : va_S Z s.heap s.heap [] := va_S.rf
  have hl : lv_has ls 5 [(0, .ref a), (1, .int x1), (2, .int x2), (3, .int x3), (4, .int x4)] := hl
  have hb9 : L ≤ 8192 ∧ N ≤ L := (by obtain ⟨w9, ⟨_, _, _, _, _, h1, h2, _⟩, _, _⟩ := id hI; exact ⟨h2, h1⟩)
  have hwl := wl_ok (n := L) (N := N + 1) (by omega) (by omega)
  obtain ⟨OUT, hQ, hO⟩ : ∃ z, (z = P_Types_put N L f x1 x2 x3 x4) ∧ Oq z (P_Types_put N L f x1 x2 x3 x4) := ⟨_, rfl, rfl⟩
  rw [← hQ] at hE
  clear hQ
  refine lv_aload_n hx hb dTypes_put_0 rfl (lv_at hl 0 rfl) ?_
  refine lv_aload_n hx hb dTypes_put_1 rfl (lv_at hl 0 rfl) ?_
  obtain ⟨ws_2, ⟨b0_2, b1_2, b2_2, b3_2, rfl, h1_2, h2_2, h3_2⟩, hP, hD⟩ := id hI
  have hP : va_P γ.1 vwCl [(a, .inr (3, [.ref b0_2, .ref b1_2, .ref b2_2, .ref b3_2, .int (nI N)])), (b0_2, .inl (γ.2.1, L, .inl (f 0))), (b1_2, .inl (γ.2.1, L, .inl (f 1))), (b2_2, .inl (γ.2.1, L, .inl (f 2))), (b3_2, .inl (γ.2.1, L, .inl (f 3)))] _ := hP
  have hD : va_D Z [(a, .inr (3, [.ref b0_2, .ref b1_2, .ref b2_2, .ref b3_2, .int (nI N)])), (b0_2, .inl (γ.2.1, L, .inl (f 0))), (b1_2, .inl (γ.2.1, L, .inl (f 1))), (b2_2, .inl (γ.2.1, L, .inl (f 2))), (b3_2, .inl (γ.2.1, L, .inl (f 3)))] := hD
  refine va_get (D := γ.1) (ci := 3) (v := .ref b0_2) (C := R_Types) (T := T_Types) (N := 5) (Ts := bs_W0) hx hb hW in_Types hown hC.1 hP 0 rfl rfl 0 (by decide) (hW _ qw_9652573c2f) (fun _ h9 => h9) rfl dTypes_put_2 ?_
  refine lv_aload_n hx hb dTypes_put_5 rfl (lv_at hl 0 rfl) ?_
  refine va_get (D := γ.1) (ci := 3) (v := .int (nI N)) (C := R_Types) (T := T_Types) (N := 5) (Ts := bs_W0) hx hb hW in_Types hown hC.1 hP 0 rfl rfl 4 (by decide) (hW _ qw_f9da65449d) (fun _ h9 => h9) rfl dTypes_put_6 ?_
  refine lv_topi (fun v29 ev29 => ?_)
  refine lv_iconst (v := 1) hx hb dTypes_put_9 (by decide) ?_
  refine lv_iadd hx hb dTypes_put_10 ?_
  refine lv_topi (fun v30 ev30 => ?_)
  have ev30 : v30 = nI (N + 1) := by rw [ev30, ev29]; exact nI_add (N) (1)
  obtain rfl : v30 = nI (N + 1) := ev30
  refine mu_Tr (rest := [.ref a]) S hC (fun q h => hA q (Nat.le_trans hS.1 h)) (fun q h => h) hS (cx_withRoom l γ Z b0_2 L (N + 1) (f 0) _ (by omega) (by omega)) meTypeBook_withRoom (hC.2 _ qn_fe62be3d74 rfl) ⟨Nat.le_of_ble_eq_true rfl, Nat.le_of_ble_eq_true rfl⟩ ⟨rfl, hD.2 1 _ rfl, hP 1 _ rfl⟩ rfl hl.1 rfl (Nat.le_of_ble_eq_true rfl) dTypes_put_11 ⟨(by show _ ≤ 0 + wc L (N + 1) + wc L (N + 1) + wc L (N + 1) + wc L (N + 1); omega), (by show _ ≤ 0 + wm L (N + 1) + wm L (N + 1) + wm L (N + 1) + wm L (N + 1); omega)⟩ (fun r31 Hr31 locs hPO hS _ _ => ?_)
  obtain ⟨g1r31, g2r31, g3r31, g4r31, g5r31⟩ := hPO
  obtain ⟨hP, hD⟩ := wr_join (i := 1) hP hD rfl g4r31 g5r31 g1r31 g2r31
  obtain ⟨fc32, efc32⟩ : ∃ z : gf, z = up f 0 (P_wr L (N + 1) (f 0)) := ⟨_, rfl⟩
  have hP : va_P γ.1 vwCl [(a, .inr (3, [.ref b0_2, .ref b1_2, .ref b2_2, .ref b3_2, .int (nI N)])), (r31, .inl (γ.2.1, wl L (N + 1), .inl (fc32 0))), (b1_2, .inl (γ.2.1, L, .inl (fc32 1))), (b2_2, .inl (γ.2.1, L, .inl (fc32 2))), (b3_2, .inl (γ.2.1, L, .inl (fc32 3)))] _ := (by rw [efc32]; exact hP)
  have hD : va_D Z [(a, .inr (3, [.ref b0_2, .ref b1_2, .ref b2_2, .ref b3_2, .int (nI N)])), (r31, .inl (γ.2.1, wl L (N + 1), .inl (fc32 0))), (b1_2, .inl (γ.2.1, L, .inl (fc32 1))), (b2_2, .inl (γ.2.1, L, .inl (fc32 2))), (b3_2, .inl (γ.2.1, L, .inl (fc32 3)))] := (by rw [efc32]; exact hD)
  refine va_put (D := γ.1) (ci := 3) (v := .ref r31) (ty := .array .int) (C := R_Types) (T := T_Types) (N := 5) (Ts := bs_W0) hx hb hW in_Types t_Types t_Types_ok n_Types hown hC.1 hP hD hS 0 rfl rfl 0 (by decide) (hW _ qw_9652573c2f) (fun _ h9 => h9) rfl (by decide +kernel) rfl rfl (Nat.le_of_ble_eq_true rfl) dTypes_put_14 (fun H locs hP hD hS => ?_)
  have hP : va_P γ.1 vwCl [(a, .inr (3, [.ref r31, .ref b1_2, .ref b2_2, .ref b3_2, .int (nI N)])), (r31, .inl (γ.2.1, wl L (N + 1), .inl (fc32 0))), (b1_2, .inl (γ.2.1, L, .inl (fc32 1))), (b2_2, .inl (γ.2.1, L, .inl (fc32 2))), (b3_2, .inl (γ.2.1, L, .inl (fc32 3)))] _ := hP
  have hD : va_D Z [(a, .inr (3, [.ref r31, .ref b1_2, .ref b2_2, .ref b3_2, .int (nI N)])), (r31, .inl (γ.2.1, wl L (N + 1), .inl (fc32 0))), (b1_2, .inl (γ.2.1, L, .inl (fc32 1))), (b2_2, .inl (γ.2.1, L, .inl (fc32 2))), (b3_2, .inl (γ.2.1, L, .inl (fc32 3)))] := hD
  refine lv_aload_n hx hb dTypes_put_17 rfl (lv_at hl 0 rfl) ?_
  refine lv_aload_n hx hb dTypes_put_18 rfl (lv_at hl 0 rfl) ?_
  refine va_get (D := γ.1) (ci := 3) (v := .ref b1_2) (C := R_Types) (T := T_Types) (N := 5) (Ts := bs_W0) hx hb hW in_Types hown hC.1 hP 0 rfl rfl 1 (by decide) (hW _ qw_3e3b315a67) (fun _ h9 => h9) rfl dTypes_put_19 ?_
  refine lv_aload_n hx hb dTypes_put_22 rfl (lv_at hl 0 rfl) ?_
  refine va_get (D := γ.1) (ci := 3) (v := .int (nI N)) (C := R_Types) (T := T_Types) (N := 5) (Ts := bs_W0) hx hb hW in_Types hown hC.1 hP 0 rfl rfl 4 (by decide) (hW _ qw_f9da65449d) (fun _ h9 => h9) rfl dTypes_put_23 ?_
  refine lv_topi (fun v33 ev33 => ?_)
  refine lv_iconst (v := 1) hx hb dTypes_put_26 (by decide) ?_
  refine lv_iadd hx hb dTypes_put_27 ?_
  refine lv_topi (fun v34 ev34 => ?_)
  have ev34 : v34 = nI (N + 1) := by rw [ev34, ev33]; exact nI_add (N) (1)
  obtain rfl : v34 = nI (N + 1) := ev34
  refine mu_Tr (rest := [.ref a]) S hC (fun q h => hA q (Nat.le_trans hS.1 h)) (fun q h => h) hS (cx_withRoom l γ Z b1_2 L (N + 1) (fc32 1) _ (by omega) (by omega)) meTypeBook_withRoom (hC.2 _ qn_fe62be3d74 rfl) ⟨Nat.le_of_ble_eq_true rfl, Nat.le_of_ble_eq_true rfl⟩ ⟨rfl, hD.2 2 _ rfl, hP 2 _ rfl⟩ rfl hl.1 rfl (Nat.le_of_ble_eq_true rfl) dTypes_put_28 ⟨(by show _ ≤ 0 + wc L (N + 1) + wc L (N + 1) + wc L (N + 1) + wc L (N + 1); omega), (by show _ ≤ 0 + wm L (N + 1) + wm L (N + 1) + wm L (N + 1) + wm L (N + 1); omega)⟩ (fun r35 Hr35 locs hPO hS _ _ => ?_)
  obtain ⟨g1r35, g2r35, g3r35, g4r35, g5r35⟩ := hPO
  obtain ⟨hP, hD⟩ := wr_join (i := 2) hP hD rfl g4r35 g5r35 g1r35 g2r35
  obtain ⟨fc36, efc36⟩ : ∃ z : gf, z = up fc32 1 (P_wr L (N + 1) (fc32 1)) := ⟨_, rfl⟩
  have hP : va_P γ.1 vwCl [(a, .inr (3, [.ref r31, .ref b1_2, .ref b2_2, .ref b3_2, .int (nI N)])), (r31, .inl (γ.2.1, wl L (N + 1), .inl (fc36 0))), (r35, .inl (γ.2.1, wl L (N + 1), .inl (fc36 1))), (b2_2, .inl (γ.2.1, L, .inl (fc36 2))), (b3_2, .inl (γ.2.1, L, .inl (fc36 3)))] _ := (by rw [efc36]; exact hP)
  have hD : va_D Z [(a, .inr (3, [.ref r31, .ref b1_2, .ref b2_2, .ref b3_2, .int (nI N)])), (r31, .inl (γ.2.1, wl L (N + 1), .inl (fc36 0))), (r35, .inl (γ.2.1, wl L (N + 1), .inl (fc36 1))), (b2_2, .inl (γ.2.1, L, .inl (fc36 2))), (b3_2, .inl (γ.2.1, L, .inl (fc36 3)))] := (by rw [efc36]; exact hD)
  refine va_put (D := γ.1) (ci := 3) (v := .ref r35) (ty := .array .int) (C := R_Types) (T := T_Types) (N := 5) (Ts := bs_W0) hx hb hW in_Types t_Types t_Types_ok n_Types hown hC.1 hP hD hS 0 rfl rfl 1 (by decide) (hW _ qw_3e3b315a67) (fun _ h9 => h9) rfl (by decide +kernel) rfl rfl (Nat.le_of_ble_eq_true rfl) dTypes_put_31 (fun H locs hP hD hS => ?_)
  have hP : va_P γ.1 vwCl [(a, .inr (3, [.ref r31, .ref r35, .ref b2_2, .ref b3_2, .int (nI N)])), (r31, .inl (γ.2.1, wl L (N + 1), .inl (fc36 0))), (r35, .inl (γ.2.1, wl L (N + 1), .inl (fc36 1))), (b2_2, .inl (γ.2.1, L, .inl (fc36 2))), (b3_2, .inl (γ.2.1, L, .inl (fc36 3)))] _ := hP
  have hD : va_D Z [(a, .inr (3, [.ref r31, .ref r35, .ref b2_2, .ref b3_2, .int (nI N)])), (r31, .inl (γ.2.1, wl L (N + 1), .inl (fc36 0))), (r35, .inl (γ.2.1, wl L (N + 1), .inl (fc36 1))), (b2_2, .inl (γ.2.1, L, .inl (fc36 2))), (b3_2, .inl (γ.2.1, L, .inl (fc36 3)))] := hD
  refine lv_aload_n hx hb dTypes_put_34 rfl (lv_at hl 0 rfl) ?_
  refine lv_aload_n hx hb dTypes_put_35 rfl (lv_at hl 0 rfl) ?_
  refine va_get (D := γ.1) (ci := 3) (v := .ref b2_2) (C := R_Types) (T := T_Types) (N := 5) (Ts := bs_W0) hx hb hW in_Types hown hC.1 hP 0 rfl rfl 2 (by decide) (hW _ qw_dd571233a8) (fun _ h9 => h9) rfl dTypes_put_36 ?_
  refine lv_aload_n hx hb dTypes_put_39 rfl (lv_at hl 0 rfl) ?_
  refine va_get (D := γ.1) (ci := 3) (v := .int (nI N)) (C := R_Types) (T := T_Types) (N := 5) (Ts := bs_W0) hx hb hW in_Types hown hC.1 hP 0 rfl rfl 4 (by decide) (hW _ qw_f9da65449d) (fun _ h9 => h9) rfl dTypes_put_40 ?_
  refine lv_topi (fun v37 ev37 => ?_)
  refine lv_iconst (v := 1) hx hb dTypes_put_43 (by decide) ?_
  refine lv_iadd hx hb dTypes_put_44 ?_
  refine lv_topi (fun v38 ev38 => ?_)
  have ev38 : v38 = nI (N + 1) := by rw [ev38, ev37]; exact nI_add (N) (1)
  obtain rfl : v38 = nI (N + 1) := ev38
  refine mu_Tr (rest := [.ref a]) S hC (fun q h => hA q (Nat.le_trans hS.1 h)) (fun q h => h) hS (cx_withRoom l γ Z b2_2 L (N + 1) (fc36 2) _ (by omega) (by omega)) meTypeBook_withRoom (hC.2 _ qn_fe62be3d74 rfl) ⟨Nat.le_of_ble_eq_true rfl, Nat.le_of_ble_eq_true rfl⟩ ⟨rfl, hD.2 3 _ rfl, hP 3 _ rfl⟩ rfl hl.1 rfl (Nat.le_of_ble_eq_true rfl) dTypes_put_45 ⟨(by show _ ≤ 0 + wc L (N + 1) + wc L (N + 1) + wc L (N + 1) + wc L (N + 1); omega), (by show _ ≤ 0 + wm L (N + 1) + wm L (N + 1) + wm L (N + 1) + wm L (N + 1); omega)⟩ (fun r39 Hr39 locs hPO hS _ _ => ?_)
  obtain ⟨g1r39, g2r39, g3r39, g4r39, g5r39⟩ := hPO
  obtain ⟨hP, hD⟩ := wr_join (i := 3) hP hD rfl g4r39 g5r39 g1r39 g2r39
  obtain ⟨fc40, efc40⟩ : ∃ z : gf, z = up fc36 2 (P_wr L (N + 1) (fc36 2)) := ⟨_, rfl⟩
  have hP : va_P γ.1 vwCl [(a, .inr (3, [.ref r31, .ref r35, .ref b2_2, .ref b3_2, .int (nI N)])), (r31, .inl (γ.2.1, wl L (N + 1), .inl (fc40 0))), (r35, .inl (γ.2.1, wl L (N + 1), .inl (fc40 1))), (r39, .inl (γ.2.1, wl L (N + 1), .inl (fc40 2))), (b3_2, .inl (γ.2.1, L, .inl (fc40 3)))] _ := (by rw [efc40]; exact hP)
  have hD : va_D Z [(a, .inr (3, [.ref r31, .ref r35, .ref b2_2, .ref b3_2, .int (nI N)])), (r31, .inl (γ.2.1, wl L (N + 1), .inl (fc40 0))), (r35, .inl (γ.2.1, wl L (N + 1), .inl (fc40 1))), (r39, .inl (γ.2.1, wl L (N + 1), .inl (fc40 2))), (b3_2, .inl (γ.2.1, L, .inl (fc40 3)))] := (by rw [efc40]; exact hD)
  refine va_put (D := γ.1) (ci := 3) (v := .ref r39) (ty := .array .int) (C := R_Types) (T := T_Types) (N := 5) (Ts := bs_W0) hx hb hW in_Types t_Types t_Types_ok n_Types hown hC.1 hP hD hS 0 rfl rfl 2 (by decide) (hW _ qw_dd571233a8) (fun _ h9 => h9) rfl (by decide +kernel) rfl rfl (Nat.le_of_ble_eq_true rfl) dTypes_put_48 (fun H locs hP hD hS => ?_)
  have hP : va_P γ.1 vwCl [(a, .inr (3, [.ref r31, .ref r35, .ref r39, .ref b3_2, .int (nI N)])), (r31, .inl (γ.2.1, wl L (N + 1), .inl (fc40 0))), (r35, .inl (γ.2.1, wl L (N + 1), .inl (fc40 1))), (r39, .inl (γ.2.1, wl L (N + 1), .inl (fc40 2))), (b3_2, .inl (γ.2.1, L, .inl (fc40 3)))] _ := hP
  have hD : va_D Z [(a, .inr (3, [.ref r31, .ref r35, .ref r39, .ref b3_2, .int (nI N)])), (r31, .inl (γ.2.1, wl L (N + 1), .inl (fc40 0))), (r35, .inl (γ.2.1, wl L (N + 1), .inl (fc40 1))), (r39, .inl (γ.2.1, wl L (N + 1), .inl (fc40 2))), (b3_2, .inl (γ.2.1, L, .inl (fc40 3)))] := hD
  refine lv_aload_n hx hb dTypes_put_51 rfl (lv_at hl 0 rfl) ?_
  refine lv_aload_n hx hb dTypes_put_52 rfl (lv_at hl 0 rfl) ?_
  refine va_get (D := γ.1) (ci := 3) (v := .ref b3_2) (C := R_Types) (T := T_Types) (N := 5) (Ts := bs_W0) hx hb hW in_Types hown hC.1 hP 0 rfl rfl 3 (by decide) (hW _ qw_dded4610c2) (fun _ h9 => h9) rfl dTypes_put_53 ?_
  refine lv_aload_n hx hb dTypes_put_56 rfl (lv_at hl 0 rfl) ?_
  refine va_get (D := γ.1) (ci := 3) (v := .int (nI N)) (C := R_Types) (T := T_Types) (N := 5) (Ts := bs_W0) hx hb hW in_Types hown hC.1 hP 0 rfl rfl 4 (by decide) (hW _ qw_f9da65449d) (fun _ h9 => h9) rfl dTypes_put_57 ?_
  refine lv_topi (fun v41 ev41 => ?_)
  refine lv_iconst (v := 1) hx hb dTypes_put_60 (by decide) ?_
  refine lv_iadd hx hb dTypes_put_61 ?_
  refine lv_topi (fun v42 ev42 => ?_)
  have ev42 : v42 = nI (N + 1) := by rw [ev42, ev41]; exact nI_add (N) (1)
  obtain rfl : v42 = nI (N + 1) := ev42
  refine mu_Tr (rest := [.ref a]) S hC (fun q h => hA q (Nat.le_trans hS.1 h)) (fun q h => h) hS (cx_withRoom l γ Z b3_2 L (N + 1) (fc40 3) _ (by omega) (by omega)) meTypeBook_withRoom (hC.2 _ qn_fe62be3d74 rfl) ⟨Nat.le_of_ble_eq_true rfl, Nat.le_of_ble_eq_true rfl⟩ ⟨rfl, hD.2 4 _ rfl, hP 4 _ rfl⟩ rfl hl.1 rfl (Nat.le_of_ble_eq_true rfl) dTypes_put_62 ⟨(by show _ ≤ 0 + wc L (N + 1) + wc L (N + 1) + wc L (N + 1) + wc L (N + 1); omega), (by show _ ≤ 0 + wm L (N + 1) + wm L (N + 1) + wm L (N + 1) + wm L (N + 1); omega)⟩ (fun r43 Hr43 locs hPO hS _ _ => ?_)
  obtain ⟨g1r43, g2r43, g3r43, g4r43, g5r43⟩ := hPO
  obtain ⟨hP, hD⟩ := wr_join (i := 4) hP hD rfl g4r43 g5r43 g1r43 g2r43
  obtain ⟨fc44, efc44⟩ : ∃ z : gf, z = up fc40 3 (P_wr L (N + 1) (fc40 3)) := ⟨_, rfl⟩
  have hP : va_P γ.1 vwCl [(a, .inr (3, [.ref r31, .ref r35, .ref r39, .ref b3_2, .int (nI N)])), (r31, .inl (γ.2.1, wl L (N + 1), .inl (fc44 0))), (r35, .inl (γ.2.1, wl L (N + 1), .inl (fc44 1))), (r39, .inl (γ.2.1, wl L (N + 1), .inl (fc44 2))), (r43, .inl (γ.2.1, wl L (N + 1), .inl (fc44 3)))] _ := (by rw [efc44]; exact hP)
  have hD : va_D Z [(a, .inr (3, [.ref r31, .ref r35, .ref r39, .ref b3_2, .int (nI N)])), (r31, .inl (γ.2.1, wl L (N + 1), .inl (fc44 0))), (r35, .inl (γ.2.1, wl L (N + 1), .inl (fc44 1))), (r39, .inl (γ.2.1, wl L (N + 1), .inl (fc44 2))), (r43, .inl (γ.2.1, wl L (N + 1), .inl (fc44 3)))] := (by rw [efc44]; exact hD)
  refine va_put (D := γ.1) (ci := 3) (v := .ref r43) (ty := .array .int) (C := R_Types) (T := T_Types) (N := 5) (Ts := bs_W0) hx hb hW in_Types t_Types t_Types_ok n_Types hown hC.1 hP hD hS 0 rfl rfl 3 (by decide) (hW _ qw_dded4610c2) (fun _ h9 => h9) rfl (by decide +kernel) rfl rfl (Nat.le_of_ble_eq_true rfl) dTypes_put_65 (fun H locs hP hD hS => ?_)
  have hP : va_P γ.1 vwCl [(a, .inr (3, [.ref r31, .ref r35, .ref r39, .ref r43, .int (nI N)])), (r31, .inl (γ.2.1, wl L (N + 1), .inl (fc44 0))), (r35, .inl (γ.2.1, wl L (N + 1), .inl (fc44 1))), (r39, .inl (γ.2.1, wl L (N + 1), .inl (fc44 2))), (r43, .inl (γ.2.1, wl L (N + 1), .inl (fc44 3)))] _ := hP
  have hD : va_D Z [(a, .inr (3, [.ref r31, .ref r35, .ref r39, .ref r43, .int (nI N)])), (r31, .inl (γ.2.1, wl L (N + 1), .inl (fc44 0))), (r35, .inl (γ.2.1, wl L (N + 1), .inl (fc44 1))), (r39, .inl (γ.2.1, wl L (N + 1), .inl (fc44 2))), (r43, .inl (γ.2.1, wl L (N + 1), .inl (fc44 3)))] := hD
  refine lv_aload_n hx hb dTypes_put_68 rfl (lv_at hl 0 rfl) ?_
  refine va_get (D := γ.1) (ci := 3) (v := .ref r31) (C := R_Types) (T := T_Types) (N := 5) (Ts := bs_W0) hx hb hW in_Types hown hC.1 hP 0 rfl rfl 0 (by decide) (hW _ qw_9652573c2f) (fun _ h9 => h9) rfl dTypes_put_69 ?_
  refine lv_aload_n hx hb dTypes_put_72 rfl (lv_at hl 0 rfl) ?_
  refine va_get (D := γ.1) (ci := 3) (v := .int (nI N)) (C := R_Types) (T := T_Types) (N := 5) (Ts := bs_W0) hx hb hW in_Types hown hC.1 hP 0 rfl rfl 4 (by decide) (hW _ qw_f9da65449d) (fun _ h9 => h9) rfl dTypes_put_73 ?_
  refine lv_topi (fun v45 ev45 => ?_)
  refine lv_iload_n hx hb dTypes_put_76 rfl (lv_at hl 1 rfl) ?_
  refine va_iast hx hb hC.1 hP hD hS 1 0 rfl rfl (by rw [ev45]; exact in_sz (by omega) (by omega)) dTypes_put_77 (fun H locs hP hD hS => ?_)
  obtain ⟨fc46, efc46⟩ : ∃ z : gf, z = Au fc44 0 v45.toNatClampNeg x1 := ⟨_, rfl⟩
  have hP : va_P γ.1 vwCl [(a, .inr (3, [.ref r31, .ref r35, .ref r39, .ref r43, .int (nI N)])), (r31, .inl (γ.2.1, wl L (N + 1), .inl (fc46 0))), (r35, .inl (γ.2.1, wl L (N + 1), .inl (fc46 1))), (r39, .inl (γ.2.1, wl L (N + 1), .inl (fc46 2))), (r43, .inl (γ.2.1, wl L (N + 1), .inl (fc46 3)))] _ := (by rw [efc46]; exact hP)
  have hD : va_D Z [(a, .inr (3, [.ref r31, .ref r35, .ref r39, .ref r43, .int (nI N)])), (r31, .inl (γ.2.1, wl L (N + 1), .inl (fc46 0))), (r35, .inl (γ.2.1, wl L (N + 1), .inl (fc46 1))), (r39, .inl (γ.2.1, wl L (N + 1), .inl (fc46 2))), (r43, .inl (γ.2.1, wl L (N + 1), .inl (fc46 3)))] := (by rw [efc46]; exact hD)
  refine lv_aload_n hx hb dTypes_put_78 rfl (lv_at hl 0 rfl) ?_
  refine va_get (D := γ.1) (ci := 3) (v := .ref r35) (C := R_Types) (T := T_Types) (N := 5) (Ts := bs_W0) hx hb hW in_Types hown hC.1 hP 0 rfl rfl 1 (by decide) (hW _ qw_3e3b315a67) (fun _ h9 => h9) rfl dTypes_put_79 ?_
  refine lv_aload_n hx hb dTypes_put_82 rfl (lv_at hl 0 rfl) ?_
  refine va_get (D := γ.1) (ci := 3) (v := .int (nI N)) (C := R_Types) (T := T_Types) (N := 5) (Ts := bs_W0) hx hb hW in_Types hown hC.1 hP 0 rfl rfl 4 (by decide) (hW _ qw_f9da65449d) (fun _ h9 => h9) rfl dTypes_put_83 ?_
  refine lv_topi (fun v47 ev47 => ?_)
  refine lv_iload_n hx hb dTypes_put_86 rfl (lv_at hl 2 rfl) ?_
  refine va_iast hx hb hC.1 hP hD hS 2 0 rfl rfl (by rw [ev47]; exact in_sz (by omega) (by omega)) dTypes_put_87 (fun H locs hP hD hS => ?_)
  obtain ⟨fc48, efc48⟩ : ∃ z : gf, z = Au fc46 1 v47.toNatClampNeg x2 := ⟨_, rfl⟩
  have hP : va_P γ.1 vwCl [(a, .inr (3, [.ref r31, .ref r35, .ref r39, .ref r43, .int (nI N)])), (r31, .inl (γ.2.1, wl L (N + 1), .inl (fc48 0))), (r35, .inl (γ.2.1, wl L (N + 1), .inl (fc48 1))), (r39, .inl (γ.2.1, wl L (N + 1), .inl (fc48 2))), (r43, .inl (γ.2.1, wl L (N + 1), .inl (fc48 3)))] _ := (by rw [efc48]; exact hP)
  have hD : va_D Z [(a, .inr (3, [.ref r31, .ref r35, .ref r39, .ref r43, .int (nI N)])), (r31, .inl (γ.2.1, wl L (N + 1), .inl (fc48 0))), (r35, .inl (γ.2.1, wl L (N + 1), .inl (fc48 1))), (r39, .inl (γ.2.1, wl L (N + 1), .inl (fc48 2))), (r43, .inl (γ.2.1, wl L (N + 1), .inl (fc48 3)))] := (by rw [efc48]; exact hD)
  refine lv_aload_n hx hb dTypes_put_88 rfl (lv_at hl 0 rfl) ?_
  refine va_get (D := γ.1) (ci := 3) (v := .ref r39) (C := R_Types) (T := T_Types) (N := 5) (Ts := bs_W0) hx hb hW in_Types hown hC.1 hP 0 rfl rfl 2 (by decide) (hW _ qw_dd571233a8) (fun _ h9 => h9) rfl dTypes_put_89 ?_
  refine lv_aload_n hx hb dTypes_put_92 rfl (lv_at hl 0 rfl) ?_
  refine va_get (D := γ.1) (ci := 3) (v := .int (nI N)) (C := R_Types) (T := T_Types) (N := 5) (Ts := bs_W0) hx hb hW in_Types hown hC.1 hP 0 rfl rfl 4 (by decide) (hW _ qw_f9da65449d) (fun _ h9 => h9) rfl dTypes_put_93 ?_
  refine lv_topi (fun v49 ev49 => ?_)
  refine lv_iload_n hx hb dTypes_put_96 rfl (lv_at hl 3 rfl) ?_
  refine va_iast hx hb hC.1 hP hD hS 3 0 rfl rfl (by rw [ev49]; exact in_sz (by omega) (by omega)) dTypes_put_97 (fun H locs hP hD hS => ?_)
  obtain ⟨fc50, efc50⟩ : ∃ z : gf, z = Au fc48 2 v49.toNatClampNeg x3 := ⟨_, rfl⟩
  have hP : va_P γ.1 vwCl [(a, .inr (3, [.ref r31, .ref r35, .ref r39, .ref r43, .int (nI N)])), (r31, .inl (γ.2.1, wl L (N + 1), .inl (fc50 0))), (r35, .inl (γ.2.1, wl L (N + 1), .inl (fc50 1))), (r39, .inl (γ.2.1, wl L (N + 1), .inl (fc50 2))), (r43, .inl (γ.2.1, wl L (N + 1), .inl (fc50 3)))] _ := (by rw [efc50]; exact hP)
  have hD : va_D Z [(a, .inr (3, [.ref r31, .ref r35, .ref r39, .ref r43, .int (nI N)])), (r31, .inl (γ.2.1, wl L (N + 1), .inl (fc50 0))), (r35, .inl (γ.2.1, wl L (N + 1), .inl (fc50 1))), (r39, .inl (γ.2.1, wl L (N + 1), .inl (fc50 2))), (r43, .inl (γ.2.1, wl L (N + 1), .inl (fc50 3)))] := (by rw [efc50]; exact hD)
  refine lv_aload_n hx hb dTypes_put_98 rfl (lv_at hl 0 rfl) ?_
  refine va_get (D := γ.1) (ci := 3) (v := .ref r43) (C := R_Types) (T := T_Types) (N := 5) (Ts := bs_W0) hx hb hW in_Types hown hC.1 hP 0 rfl rfl 3 (by decide) (hW _ qw_dded4610c2) (fun _ h9 => h9) rfl dTypes_put_99 ?_
  refine lv_aload_n hx hb dTypes_put_102 rfl (lv_at hl 0 rfl) ?_
  refine va_get (D := γ.1) (ci := 3) (v := .int (nI N)) (C := R_Types) (T := T_Types) (N := 5) (Ts := bs_W0) hx hb hW in_Types hown hC.1 hP 0 rfl rfl 4 (by decide) (hW _ qw_f9da65449d) (fun _ h9 => h9) rfl dTypes_put_103 ?_
  refine lv_topi (fun v51 ev51 => ?_)
  refine lv_iload hx hb dTypes_put_106 (lv_at hl 4 rfl) ?_
  refine va_iast hx hb hC.1 hP hD hS 4 0 rfl rfl (by rw [ev51]; exact in_sz (by omega) (by omega)) dTypes_put_108 (fun H locs hP hD hS => ?_)
  obtain ⟨fc52, efc52⟩ : ∃ z : gf, z = Au fc50 3 v51.toNatClampNeg x4 := ⟨_, rfl⟩
  have hP : va_P γ.1 vwCl [(a, .inr (3, [.ref r31, .ref r35, .ref r39, .ref r43, .int (nI N)])), (r31, .inl (γ.2.1, wl L (N + 1), .inl (fc52 0))), (r35, .inl (γ.2.1, wl L (N + 1), .inl (fc52 1))), (r39, .inl (γ.2.1, wl L (N + 1), .inl (fc52 2))), (r43, .inl (γ.2.1, wl L (N + 1), .inl (fc52 3)))] _ := (by rw [efc52]; exact hP)
  have hD : va_D Z [(a, .inr (3, [.ref r31, .ref r35, .ref r39, .ref r43, .int (nI N)])), (r31, .inl (γ.2.1, wl L (N + 1), .inl (fc52 0))), (r35, .inl (γ.2.1, wl L (N + 1), .inl (fc52 1))), (r39, .inl (γ.2.1, wl L (N + 1), .inl (fc52 2))), (r43, .inl (γ.2.1, wl L (N + 1), .inl (fc52 3)))] := (by rw [efc52]; exact hD)
  refine lv_aload_n hx hb dTypes_put_109 rfl (lv_at hl 0 rfl) ?_
  refine lv_dup hx hb dTypes_put_110 rfl ?_
  refine va_get (D := γ.1) (ci := 3) (v := .int (nI N)) (C := R_Types) (T := T_Types) (N := 5) (Ts := bs_W0) hx hb hW in_Types hown hC.1 hP 0 rfl rfl 4 (by decide) (hW _ qw_f9da65449d) (fun _ h9 => h9) rfl dTypes_put_111 ?_
  refine lv_topi (fun v53 ev53 => ?_)
  refine lv_iconst (v := 1) hx hb dTypes_put_114 (by decide) ?_
  refine lv_iadd hx hb dTypes_put_115 ?_
  refine lv_topi (fun v54 ev54 => ?_)
  have ev54 : v54 = nI (N + 1) := by rw [ev54, ev53]; exact nI_add (N) (1)
  obtain rfl : v54 = nI (N + 1) := ev54
  refine va_put (D := γ.1) (ci := 3) (v := .int (nI (N + 1))) (ty := .int) (C := R_Types) (T := T_Types) (N := 5) (Ts := bs_W0) hx hb hW in_Types t_Types t_Types_ok n_Types hown hC.1 hP hD hS 0 rfl rfl 4 (by decide) (hW _ qw_f9da65449d) (fun _ h9 => h9) rfl (by decide +kernel) rfl rfl (Nat.le_of_ble_eq_true rfl) dTypes_put_116 (fun H locs hP hD hS => ?_)
  have hP : va_P γ.1 vwCl [(a, .inr (3, [.ref r31, .ref r35, .ref r39, .ref r43, .int (nI (N + 1))])), (r31, .inl (γ.2.1, wl L (N + 1), .inl (fc52 0))), (r35, .inl (γ.2.1, wl L (N + 1), .inl (fc52 1))), (r39, .inl (γ.2.1, wl L (N + 1), .inl (fc52 2))), (r43, .inl (γ.2.1, wl L (N + 1), .inl (fc52 3)))] _ := hP
  have hD : va_D Z [(a, .inr (3, [.ref r31, .ref r35, .ref r39, .ref r43, .int (nI (N + 1))])), (r31, .inl (γ.2.1, wl L (N + 1), .inl (fc52 0))), (r35, .inl (γ.2.1, wl L (N + 1), .inl (fc52 1))), (r39, .inl (γ.2.1, wl L (N + 1), .inl (fc52 2))), (r43, .inl (γ.2.1, wl L (N + 1), .inl (fc52 3)))] := hD
  refine lv_aload_n hx hb dTypes_put_119 rfl (lv_at hl 0 rfl) ?_
  refine va_get (D := γ.1) (ci := 3) (v := .int (nI (N + 1))) (C := R_Types) (T := T_Types) (N := 5) (Ts := bs_W0) hx hb hW in_Types hown hC.1 hP 0 rfl rfl 4 (by decide) (hW _ qw_f9da65449d) (fun _ h9 => h9) rfl dTypes_put_120 ?_
  refine lv_topi (fun v55 ev55 => ?_)
  refine lv_iconst (v := 1) hx hb dTypes_put_123 (by decide) ?_
  refine lv_isub hx hb dTypes_put_124 ?_
  refine lv_topi (fun v56 ev56 => ?_)
  have ev56 : v56 = nI (N) := by rw [ev56, ev55]; exact nI_pred (N)
  have hI : cmp γ (gTypes γ a (N + 1) (wl L (N + 1)) fc52) Z _ := ⟨_, ⟨r31, r35, r39, r43, rfl, (by omega), (by omega), (by omega)⟩, hP, hD⟩
  have hQ := hE _ _ _ 125 ls hS (by have hO2 : Oq OUT (v56, fc52) := (by subst ev56 ev55 ev53 efc52 ev51 efc50 ev49 efc48 ev47 efc46 ev45 efc44 ev41 efc40 ev37 efc36 ev33 efc32 ev29; exact hO.tr rfl); rw [hO2.eq]; exact ⟨rfl, hI⟩) dTypes_put_125
  refine W.cs (cells' := 0 + wc L (N + 1) + wc L (N + 1) + wc L (N + 1) + wc L (N + 1)) (slots' := 0 + wm L (N + 1) + wm L (N + 1) + wm L (N + 1) + wm L (N + 1)) (by omega) (by omega) ?_
  exact hQ
theorem f3_Types_put (l : Launch) (γ : gE) (A : Nat → Prop) (κ : Nat → Nat) (φ : gF) (ψ : gG) (x1 : Int32) (x2 : Int32) (x3 : Int32) (x4 : Int32) (hN : (κ 4) ≤ 4000) : MU l yTypes_put bTypes_put 5 (some .int) 3 103 (0 + wc (κ 13) ((κ 4) + 1) + wc (κ 13) ((κ 4) + 1) + wc (κ 13) ((κ 4) + 1) + wc (κ 13) ((κ 4) + 1)) (0 + wm (κ 13) ((κ 4) + 1) + wm (κ 13) ((κ 4) + 1) + wm (κ 13) ((κ 4) + 1) + wm (κ 13) ((κ 4) + 1)) [.ref (γ.2.2.2 3), .int x1, .int x2, .int x3, .int x4] γ A (INVF γ A κ φ ψ) (mQi (fun r H => r = (P_Types_put (κ 4) (κ 13) (φ 4) x1 x2 x3 x4).1 ∧ INVF γ A (ku (ku κ 4 ((κ 4) + 1)) 13 (wl (κ 13) ((κ 4) + 1))) (up φ 4 (P_Types_put (κ 4) (κ 13) (φ 4) x1 x2 x3 x4).2) ψ H) A) :=
  muk_if (κ := κ) (κ' := (ku (ku κ 4 ((κ 4) + 1)) 13 (wl (κ 13) ((κ 4) + 1)))) (T := fun r => r = (P_Types_put (κ 4) (κ 13) (φ 4) x1 x2 x3 x4).1) 4 (by decide) (by decide) (fun j h1 h2 h3 f g => by rcases (show j = 1 ∨ j = 2 ∨ j = 3 ∨ j = 4 ∨ j = 5 ∨ j = 6 ∨ j = 7 ∨ j = 8 ∨ j = 9 ∨ j = 10 by omega) with h | h | h | h | h | h | h | h | h | h <;> subst h <;> first | rfl | exact absurd rfl h1) (fun Z => fc_Types_put l γ Z (γ.2.2.2 3) (κ 4) (κ 13) (φ 4) x1 x2 x3 x4 hN)
def P_Names_put (N sc L : Nat) (f : gf) (x1 : Int32) (x2 : Int32) (x3 : Int32) (x4 : Int32) : gf := (Au (Au (Au (Au (Au (Au (up (up (up (up (up f 0 (P_wr L (N + 1) (f 0))) 1 (P_wr L (N + 1) ((up f 0 (P_wr L (N + 1) (f 0))) 1))) 2 (P_wr L (N + 1) ((up (up f 0 (P_wr L (N + 1) (f 0))) 1 (P_wr L (N + 1) ((up f 0 (P_wr L (N + 1) (f 0))) 1))) 2))) 3 (P_wr L (N + 1) ((up (up (up f 0 (P_wr L (N + 1) (f 0))) 1 (P_wr L (N + 1) ((up f 0 (P_wr L (N + 1) (f 0))) 1))) 2 (P_wr L (N + 1) ((up (up f 0 (P_wr L (N + 1) (f 0))) 1 (P_wr L (N + 1) ((up f 0 (P_wr L (N + 1) (f 0))) 1))) 2))) 3))) 4 (P_wr L (N + 1) ((up (up (up (up f 0 (P_wr L (N + 1) (f 0))) 1 (P_wr L (N + 1) ((up f 0 (P_wr L (N + 1) (f 0))) 1))) 2 (P_wr L (N + 1) ((up (up f 0 (P_wr L (N + 1) (f 0))) 1 (P_wr L (N + 1) ((up f 0 (P_wr L (N + 1) (f 0))) 1))) 2))) 3 (P_wr L (N + 1) ((up (up (up f 0 (P_wr L (N + 1) (f 0))) 1 (P_wr L (N + 1) ((up f 0 (P_wr L (N + 1) (f 0))) 1))) 2 (P_wr L (N + 1) ((up (up f 0 (P_wr L (N + 1) (f 0))) 1 (P_wr L (N + 1) ((up f 0 (P_wr L (N + 1) (f 0))) 1))) 2))) 3))) 4))) 0 (nI (N)).toNatClampNeg x1) 1 (nI (N)).toNatClampNeg x2) 2 (nI (N)).toNatClampNeg x3) 3 (nI (N)).toNatClampNeg x4) 4 (nI (N)).toNatClampNeg ((Au (Au (Au (Au (up (up (up (up (up f 0 (P_wr L (N + 1) (f 0))) 1 (P_wr L (N + 1) ((up f 0 (P_wr L (N + 1) (f 0))) 1))) 2 (P_wr L (N + 1) ((up (up f 0 (P_wr L (N + 1) (f 0))) 1 (P_wr L (N + 1) ((up f 0 (P_wr L (N + 1) (f 0))) 1))) 2))) 3 (P_wr L (N + 1) ((up (up (up f 0 (P_wr L (N + 1) (f 0))) 1 (P_wr L (N + 1) ((up f 0 (P_wr L (N + 1) (f 0))) 1))) 2 (P_wr L (N + 1) ((up (up f 0 (P_wr L (N + 1) (f 0))) 1 (P_wr L (N + 1) ((up f 0 (P_wr L (N + 1) (f 0))) 1))) 2))) 3))) 4 (P_wr L (N + 1) ((up (up (up (up f 0 (P_wr L (N + 1) (f 0))) 1 (P_wr L (N + 1) ((up f 0 (P_wr L (N + 1) (f 0))) 1))) 2 (P_wr L (N + 1) ((up (up f 0 (P_wr L (N + 1) (f 0))) 1 (P_wr L (N + 1) ((up f 0 (P_wr L (N + 1) (f 0))) 1))) 2))) 3 (P_wr L (N + 1) ((up (up (up f 0 (P_wr L (N + 1) (f 0))) 1 (P_wr L (N + 1) ((up f 0 (P_wr L (N + 1) (f 0))) 1))) 2 (P_wr L (N + 1) ((up (up f 0 (P_wr L (N + 1) (f 0))) 1 (P_wr L (N + 1) ((up f 0 (P_wr L (N + 1) (f 0))) 1))) 2))) 3))) 4))) 0 (nI (N)).toNatClampNeg x1) 1 (nI (N)).toNatClampNeg x2) 2 (nI (N)).toNatClampNeg x3) 3 (nI (N)).toNatClampNeg x4) 5 (x1 &&& 255).toNatClampNeg)) 5 (x1 &&& 255).toNatClampNeg (nI (N)))
set_option maxHeartbeats 4000000 in
set_option maxRecDepth 100000 in
theorem fc_Names_put (l : Launch) (γ : gE) (Z : Nat → Prop) (a N sc L : Nat) (f : gf) (x1 : Int32) (x2 : Int32) (x3 : Int32) (x4 : Int32) (hN : N ≤ 4000) : MU l yNames_put bNames_put 6 (none) 3 103 (0 + wc L (N + 1) + wc L (N + 1) + wc L (N + 1) + wc L (N + 1) + wc L (N + 1)) (0 + wm L (N + 1) + wm L (N + 1) + wm L (N + 1) + wm L (N + 1) + wm L (N + 1)) [.ref a, .int x1, .int x2, .int x3, .int x4] γ Z (cmp γ (gNames γ a N sc L f) Z) (mQv (fun H => cmp γ (gNames γ a (N + 1) sc (wl L (N + 1)) (P_Names_put N sc L f x1 x2 x3 x4)) Z H) Z) := by
  refine mu_openV (by decide) (Nat.le_of_ble_eq_true rfl) ?_
  intro p e s m args below meth c ls Q S hnm hC hA hI hE hl
  obtain ⟨hx, hb, hml, hown, hW⟩ := id S
  have hS : va_S Z s.heap s.heap [] := va_S.rf
  have hl : lv_has ls 6 [(0, .ref a), (1, .int x1), (2, .int x2), (3, .int x3), (4, .int x4)] := hl
  have hb9 : L ≤ 8192 ∧ N ≤ L := (by obtain ⟨w9, ⟨_, _, _, _, _, _, _, _, h1, h2, _⟩, _, _⟩ := id hI; exact ⟨h2, h1⟩)
  have hwl := wl_ok (n := L) (N := N + 1) (by omega) (by omega)
  obtain ⟨OUT, hQ, hO⟩ : ∃ z, (z = P_Names_put N sc L f x1 x2 x3 x4) ∧ Oq z (P_Names_put N sc L f x1 x2 x3 x4) := ⟨_, rfl, rfl⟩
  rw [← hQ] at hE
  clear hQ
  refine lv_aload_n hx hb dNames_put_0 rfl (lv_at hl 0 rfl) ?_
  refine lv_aload_n hx hb dNames_put_1 rfl (lv_at hl 0 rfl) ?_
  obtain ⟨ws_2, ⟨b0_2, b1_2, b2_2, b3_2, b4_2, b5_2, b6_2, rfl, h1_2, h2_2, h3_2, h4_2, h5_2, h6_2⟩, hP, hD⟩ := id hI
  have hP : va_P γ.1 vwCl [(a, .inr (2, [.ref b0_2, .ref b1_2, .ref b2_2, .ref b3_2, .ref b4_2, .ref b5_2, .ref b6_2, .int (nI N), .int (nI sc)])), (b0_2, .inl (γ.2.1, L, .inl (f 0))), (b1_2, .inl (γ.2.1, L, .inl (f 1))), (b2_2, .inl (γ.2.1, L, .inl (f 2))), (b3_2, .inl (γ.2.1, L, .inl (f 3))), (b4_2, .inl (γ.2.1, L, .inl (f 4))), (b5_2, .inl (γ.2.1, 256, .inl (f 5))), (b6_2, .inl (γ.2.1, 32, .inl (f 6)))] _ := hP
  have hD : va_D Z [(a, .inr (2, [.ref b0_2, .ref b1_2, .ref b2_2, .ref b3_2, .ref b4_2, .ref b5_2, .ref b6_2, .int (nI N), .int (nI sc)])), (b0_2, .inl (γ.2.1, L, .inl (f 0))), (b1_2, .inl (γ.2.1, L, .inl (f 1))), (b2_2, .inl (γ.2.1, L, .inl (f 2))), (b3_2, .inl (γ.2.1, L, .inl (f 3))), (b4_2, .inl (γ.2.1, L, .inl (f 4))), (b5_2, .inl (γ.2.1, 256, .inl (f 5))), (b6_2, .inl (γ.2.1, 32, .inl (f 6)))] := hD
  refine va_get (D := γ.1) (ci := 2) (v := .ref b0_2) (C := R_Names) (T := T_Names) (N := 9) (Ts := bs_W0) hx hb hW in_Names hown hC.1 hP 0 rfl rfl 0 (by decide) (hW _ qw_a8d4a716ae) (fun _ h9 => h9) rfl dNames_put_2 ?_
  refine lv_aload_n hx hb dNames_put_5 rfl (lv_at hl 0 rfl) ?_
  refine va_get (D := γ.1) (ci := 2) (v := .int (nI N)) (C := R_Names) (T := T_Names) (N := 9) (Ts := bs_W0) hx hb hW in_Names hown hC.1 hP 0 rfl rfl 7 (by decide) (hW _ qw_171adcdf9f) (fun _ h9 => h9) rfl dNames_put_6 ?_
  refine lv_topi (fun v37 ev37 => ?_)
  refine lv_iconst (v := 1) hx hb dNames_put_9 (by decide) ?_
  refine lv_iadd hx hb dNames_put_10 ?_
  refine lv_topi (fun v38 ev38 => ?_)
  have ev38 : v38 = nI (N + 1) := by rw [ev38, ev37]; exact nI_add (N) (1)
  obtain rfl : v38 = nI (N + 1) := ev38
  refine mu_Tr (rest := [.ref a]) S hC (fun q h => hA q (Nat.le_trans hS.1 h)) (fun q h => h) hS (cx_withRoom l γ Z b0_2 L (N + 1) (f 0) _ (by omega) (by omega)) meTypeBook_withRoom (hC.2 _ qn_8953b9cb9f rfl) ⟨Nat.le_of_ble_eq_true rfl, Nat.le_of_ble_eq_true rfl⟩ ⟨rfl, hD.2 1 _ rfl, hP 1 _ rfl⟩ rfl hl.1 rfl (Nat.le_of_ble_eq_true rfl) dNames_put_11 ⟨(by show _ ≤ 0 + wc L (N + 1) + wc L (N + 1) + wc L (N + 1) + wc L (N + 1) + wc L (N + 1); omega), (by show _ ≤ 0 + wm L (N + 1) + wm L (N + 1) + wm L (N + 1) + wm L (N + 1) + wm L (N + 1); omega)⟩ (fun r39 Hr39 locs hPO hS _ _ => ?_)
  obtain ⟨g1r39, g2r39, g3r39, g4r39, g5r39⟩ := hPO
  obtain ⟨hP, hD⟩ := wr_join (i := 1) hP hD rfl g4r39 g5r39 g1r39 g2r39
  obtain ⟨fc40, efc40⟩ : ∃ z : gf, z = up f 0 (P_wr L (N + 1) (f 0)) := ⟨_, rfl⟩
  have hP : va_P γ.1 vwCl [(a, .inr (2, [.ref b0_2, .ref b1_2, .ref b2_2, .ref b3_2, .ref b4_2, .ref b5_2, .ref b6_2, .int (nI N), .int (nI sc)])), (r39, .inl (γ.2.1, wl L (N + 1), .inl (fc40 0))), (b1_2, .inl (γ.2.1, L, .inl (fc40 1))), (b2_2, .inl (γ.2.1, L, .inl (fc40 2))), (b3_2, .inl (γ.2.1, L, .inl (fc40 3))), (b4_2, .inl (γ.2.1, L, .inl (fc40 4))), (b5_2, .inl (γ.2.1, 256, .inl (fc40 5))), (b6_2, .inl (γ.2.1, 32, .inl (fc40 6)))] _ := (by rw [efc40]; exact hP)
  have hD : va_D Z [(a, .inr (2, [.ref b0_2, .ref b1_2, .ref b2_2, .ref b3_2, .ref b4_2, .ref b5_2, .ref b6_2, .int (nI N), .int (nI sc)])), (r39, .inl (γ.2.1, wl L (N + 1), .inl (fc40 0))), (b1_2, .inl (γ.2.1, L, .inl (fc40 1))), (b2_2, .inl (γ.2.1, L, .inl (fc40 2))), (b3_2, .inl (γ.2.1, L, .inl (fc40 3))), (b4_2, .inl (γ.2.1, L, .inl (fc40 4))), (b5_2, .inl (γ.2.1, 256, .inl (fc40 5))), (b6_2, .inl (γ.2.1, 32, .inl (fc40 6)))] := (by rw [efc40]; exact hD)
  refine va_put (D := γ.1) (ci := 2) (v := .ref r39) (ty := .array .int) (C := R_Names) (T := T_Names) (N := 9) (Ts := bs_W0) hx hb hW in_Names t_Names t_Names_ok n_Names hown hC.1 hP hD hS 0 rfl rfl 0 (by decide) (hW _ qw_a8d4a716ae) (fun _ h9 => h9) rfl (by decide +kernel) rfl rfl (Nat.le_of_ble_eq_true rfl) dNames_put_14 (fun H locs hP hD hS => ?_)
  have hP : va_P γ.1 vwCl [(a, .inr (2, [.ref r39, .ref b1_2, .ref b2_2, .ref b3_2, .ref b4_2, .ref b5_2, .ref b6_2, .int (nI N), .int (nI sc)])), (r39, .inl (γ.2.1, wl L (N + 1), .inl (fc40 0))), (b1_2, .inl (γ.2.1, L, .inl (fc40 1))), (b2_2, .inl (γ.2.1, L, .inl (fc40 2))), (b3_2, .inl (γ.2.1, L, .inl (fc40 3))), (b4_2, .inl (γ.2.1, L, .inl (fc40 4))), (b5_2, .inl (γ.2.1, 256, .inl (fc40 5))), (b6_2, .inl (γ.2.1, 32, .inl (fc40 6)))] _ := hP
  have hD : va_D Z [(a, .inr (2, [.ref r39, .ref b1_2, .ref b2_2, .ref b3_2, .ref b4_2, .ref b5_2, .ref b6_2, .int (nI N), .int (nI sc)])), (r39, .inl (γ.2.1, wl L (N + 1), .inl (fc40 0))), (b1_2, .inl (γ.2.1, L, .inl (fc40 1))), (b2_2, .inl (γ.2.1, L, .inl (fc40 2))), (b3_2, .inl (γ.2.1, L, .inl (fc40 3))), (b4_2, .inl (γ.2.1, L, .inl (fc40 4))), (b5_2, .inl (γ.2.1, 256, .inl (fc40 5))), (b6_2, .inl (γ.2.1, 32, .inl (fc40 6)))] := hD
  refine lv_aload_n hx hb dNames_put_17 rfl (lv_at hl 0 rfl) ?_
  refine lv_aload_n hx hb dNames_put_18 rfl (lv_at hl 0 rfl) ?_
  refine va_get (D := γ.1) (ci := 2) (v := .ref b1_2) (C := R_Names) (T := T_Names) (N := 9) (Ts := bs_W0) hx hb hW in_Names hown hC.1 hP 0 rfl rfl 1 (by decide) (hW _ qw_5903ecb25d) (fun _ h9 => h9) rfl dNames_put_19 ?_
  refine lv_aload_n hx hb dNames_put_22 rfl (lv_at hl 0 rfl) ?_
  refine va_get (D := γ.1) (ci := 2) (v := .int (nI N)) (C := R_Names) (T := T_Names) (N := 9) (Ts := bs_W0) hx hb hW in_Names hown hC.1 hP 0 rfl rfl 7 (by decide) (hW _ qw_171adcdf9f) (fun _ h9 => h9) rfl dNames_put_23 ?_
  refine lv_topi (fun v41 ev41 => ?_)
  refine lv_iconst (v := 1) hx hb dNames_put_26 (by decide) ?_
  refine lv_iadd hx hb dNames_put_27 ?_
  refine lv_topi (fun v42 ev42 => ?_)
  have ev42 : v42 = nI (N + 1) := by rw [ev42, ev41]; exact nI_add (N) (1)
  obtain rfl : v42 = nI (N + 1) := ev42
  refine mu_Tr (rest := [.ref a]) S hC (fun q h => hA q (Nat.le_trans hS.1 h)) (fun q h => h) hS (cx_withRoom l γ Z b1_2 L (N + 1) (fc40 1) _ (by omega) (by omega)) meTypeBook_withRoom (hC.2 _ qn_8953b9cb9f rfl) ⟨Nat.le_of_ble_eq_true rfl, Nat.le_of_ble_eq_true rfl⟩ ⟨rfl, hD.2 2 _ rfl, hP 2 _ rfl⟩ rfl hl.1 rfl (Nat.le_of_ble_eq_true rfl) dNames_put_28 ⟨(by show _ ≤ 0 + wc L (N + 1) + wc L (N + 1) + wc L (N + 1) + wc L (N + 1) + wc L (N + 1); omega), (by show _ ≤ 0 + wm L (N + 1) + wm L (N + 1) + wm L (N + 1) + wm L (N + 1) + wm L (N + 1); omega)⟩ (fun r43 Hr43 locs hPO hS _ _ => ?_)
  obtain ⟨g1r43, g2r43, g3r43, g4r43, g5r43⟩ := hPO
  obtain ⟨hP, hD⟩ := wr_join (i := 2) hP hD rfl g4r43 g5r43 g1r43 g2r43
  obtain ⟨fc44, efc44⟩ : ∃ z : gf, z = up fc40 1 (P_wr L (N + 1) (fc40 1)) := ⟨_, rfl⟩
  have hP : va_P γ.1 vwCl [(a, .inr (2, [.ref r39, .ref b1_2, .ref b2_2, .ref b3_2, .ref b4_2, .ref b5_2, .ref b6_2, .int (nI N), .int (nI sc)])), (r39, .inl (γ.2.1, wl L (N + 1), .inl (fc44 0))), (r43, .inl (γ.2.1, wl L (N + 1), .inl (fc44 1))), (b2_2, .inl (γ.2.1, L, .inl (fc44 2))), (b3_2, .inl (γ.2.1, L, .inl (fc44 3))), (b4_2, .inl (γ.2.1, L, .inl (fc44 4))), (b5_2, .inl (γ.2.1, 256, .inl (fc44 5))), (b6_2, .inl (γ.2.1, 32, .inl (fc44 6)))] _ := (by rw [efc44]; exact hP)
  have hD : va_D Z [(a, .inr (2, [.ref r39, .ref b1_2, .ref b2_2, .ref b3_2, .ref b4_2, .ref b5_2, .ref b6_2, .int (nI N), .int (nI sc)])), (r39, .inl (γ.2.1, wl L (N + 1), .inl (fc44 0))), (r43, .inl (γ.2.1, wl L (N + 1), .inl (fc44 1))), (b2_2, .inl (γ.2.1, L, .inl (fc44 2))), (b3_2, .inl (γ.2.1, L, .inl (fc44 3))), (b4_2, .inl (γ.2.1, L, .inl (fc44 4))), (b5_2, .inl (γ.2.1, 256, .inl (fc44 5))), (b6_2, .inl (γ.2.1, 32, .inl (fc44 6)))] := (by rw [efc44]; exact hD)
  refine va_put (D := γ.1) (ci := 2) (v := .ref r43) (ty := .array .int) (C := R_Names) (T := T_Names) (N := 9) (Ts := bs_W0) hx hb hW in_Names t_Names t_Names_ok n_Names hown hC.1 hP hD hS 0 rfl rfl 1 (by decide) (hW _ qw_5903ecb25d) (fun _ h9 => h9) rfl (by decide +kernel) rfl rfl (Nat.le_of_ble_eq_true rfl) dNames_put_31 (fun H locs hP hD hS => ?_)
  have hP : va_P γ.1 vwCl [(a, .inr (2, [.ref r39, .ref r43, .ref b2_2, .ref b3_2, .ref b4_2, .ref b5_2, .ref b6_2, .int (nI N), .int (nI sc)])), (r39, .inl (γ.2.1, wl L (N + 1), .inl (fc44 0))), (r43, .inl (γ.2.1, wl L (N + 1), .inl (fc44 1))), (b2_2, .inl (γ.2.1, L, .inl (fc44 2))), (b3_2, .inl (γ.2.1, L, .inl (fc44 3))), (b4_2, .inl (γ.2.1, L, .inl (fc44 4))), (b5_2, .inl (γ.2.1, 256, .inl (fc44 5))), (b6_2, .inl (γ.2.1, 32, .inl (fc44 6)))] _ := hP
  have hD : va_D Z [(a, .inr (2, [.ref r39, .ref r43, .ref b2_2, .ref b3_2, .ref b4_2, .ref b5_2, .ref b6_2, .int (nI N), .int (nI sc)])), (r39, .inl (γ.2.1, wl L (N + 1), .inl (fc44 0))), (r43, .inl (γ.2.1, wl L (N + 1), .inl (fc44 1))), (b2_2, .inl (γ.2.1, L, .inl (fc44 2))), (b3_2, .inl (γ.2.1, L, .inl (fc44 3))), (b4_2, .inl (γ.2.1, L, .inl (fc44 4))), (b5_2, .inl (γ.2.1, 256, .inl (fc44 5))), (b6_2, .inl (γ.2.1, 32, .inl (fc44 6)))] := hD
  refine lv_aload_n hx hb dNames_put_34 rfl (lv_at hl 0 rfl) ?_
  refine lv_aload_n hx hb dNames_put_35 rfl (lv_at hl 0 rfl) ?_
  refine va_get (D := γ.1) (ci := 2) (v := .ref b2_2) (C := R_Names) (T := T_Names) (N := 9) (Ts := bs_W0) hx hb hW in_Names hown hC.1 hP 0 rfl rfl 2 (by decide) (hW _ qw_ee1ba38ad0) (fun _ h9 => h9) rfl dNames_put_36 ?_
  refine lv_aload_n hx hb dNames_put_39 rfl (lv_at hl 0 rfl) ?_
  refine va_get (D := γ.1) (ci := 2) (v := .int (nI N)) (C := R_Names) (T := T_Names) (N := 9) (Ts := bs_W0) hx hb hW in_Names hown hC.1 hP 0 rfl rfl 7 (by decide) (hW _ qw_171adcdf9f) (fun _ h9 => h9) rfl dNames_put_40 ?_
  refine lv_topi (fun v45 ev45 => ?_)
  refine lv_iconst (v := 1) hx hb dNames_put_43 (by decide) ?_
  refine lv_iadd hx hb dNames_put_44 ?_
  refine lv_topi (fun v46 ev46 => ?_)
  have ev46 : v46 = nI (N + 1) := by rw [ev46, ev45]; exact nI_add (N) (1)
  obtain rfl : v46 = nI (N + 1) := ev46
  refine mu_Tr (rest := [.ref a]) S hC (fun q h => hA q (Nat.le_trans hS.1 h)) (fun q h => h) hS (cx_withRoom l γ Z b2_2 L (N + 1) (fc44 2) _ (by omega) (by omega)) meTypeBook_withRoom (hC.2 _ qn_8953b9cb9f rfl) ⟨Nat.le_of_ble_eq_true rfl, Nat.le_of_ble_eq_true rfl⟩ ⟨rfl, hD.2 3 _ rfl, hP 3 _ rfl⟩ rfl hl.1 rfl (Nat.le_of_ble_eq_true rfl) dNames_put_45 ⟨(by show _ ≤ 0 + wc L (N + 1) + wc L (N + 1) + wc L (N + 1) + wc L (N + 1) + wc L (N + 1); omega), (by show _ ≤ 0 + wm L (N + 1) + wm L (N + 1) + wm L (N + 1) + wm L (N + 1) + wm L (N + 1); omega)⟩ (fun r47 Hr47 locs hPO hS _ _ => ?_)
  obtain ⟨g1r47, g2r47, g3r47, g4r47, g5r47⟩ := hPO
  obtain ⟨hP, hD⟩ := wr_join (i := 3) hP hD rfl g4r47 g5r47 g1r47 g2r47
  obtain ⟨fc48, efc48⟩ : ∃ z : gf, z = up fc44 2 (P_wr L (N + 1) (fc44 2)) := ⟨_, rfl⟩
  have hP : va_P γ.1 vwCl [(a, .inr (2, [.ref r39, .ref r43, .ref b2_2, .ref b3_2, .ref b4_2, .ref b5_2, .ref b6_2, .int (nI N), .int (nI sc)])), (r39, .inl (γ.2.1, wl L (N + 1), .inl (fc48 0))), (r43, .inl (γ.2.1, wl L (N + 1), .inl (fc48 1))), (r47, .inl (γ.2.1, wl L (N + 1), .inl (fc48 2))), (b3_2, .inl (γ.2.1, L, .inl (fc48 3))), (b4_2, .inl (γ.2.1, L, .inl (fc48 4))), (b5_2, .inl (γ.2.1, 256, .inl (fc48 5))), (b6_2, .inl (γ.2.1, 32, .inl (fc48 6)))] _ := (by rw [efc48]; exact hP)
  have hD : va_D Z [(a, .inr (2, [.ref r39, .ref r43, .ref b2_2, .ref b3_2, .ref b4_2, .ref b5_2, .ref b6_2, .int (nI N), .int (nI sc)])), (r39, .inl (γ.2.1, wl L (N + 1), .inl (fc48 0))), (r43, .inl (γ.2.1, wl L (N + 1), .inl (fc48 1))), (r47, .inl (γ.2.1, wl L (N + 1), .inl (fc48 2))), (b3_2, .inl (γ.2.1, L, .inl (fc48 3))), (b4_2, .inl (γ.2.1, L, .inl (fc48 4))), (b5_2, .inl (γ.2.1, 256, .inl (fc48 5))), (b6_2, .inl (γ.2.1, 32, .inl (fc48 6)))] := (by rw [efc48]; exact hD)
  refine va_put (D := γ.1) (ci := 2) (v := .ref r47) (ty := .array .int) (C := R_Names) (T := T_Names) (N := 9) (Ts := bs_W0) hx hb hW in_Names t_Names t_Names_ok n_Names hown hC.1 hP hD hS 0 rfl rfl 2 (by decide) (hW _ qw_ee1ba38ad0) (fun _ h9 => h9) rfl (by decide +kernel) rfl rfl (Nat.le_of_ble_eq_true rfl) dNames_put_48 (fun H locs hP hD hS => ?_)
  have hP : va_P γ.1 vwCl [(a, .inr (2, [.ref r39, .ref r43, .ref r47, .ref b3_2, .ref b4_2, .ref b5_2, .ref b6_2, .int (nI N), .int (nI sc)])), (r39, .inl (γ.2.1, wl L (N + 1), .inl (fc48 0))), (r43, .inl (γ.2.1, wl L (N + 1), .inl (fc48 1))), (r47, .inl (γ.2.1, wl L (N + 1), .inl (fc48 2))), (b3_2, .inl (γ.2.1, L, .inl (fc48 3))), (b4_2, .inl (γ.2.1, L, .inl (fc48 4))), (b5_2, .inl (γ.2.1, 256, .inl (fc48 5))), (b6_2, .inl (γ.2.1, 32, .inl (fc48 6)))] _ := hP
  have hD : va_D Z [(a, .inr (2, [.ref r39, .ref r43, .ref r47, .ref b3_2, .ref b4_2, .ref b5_2, .ref b6_2, .int (nI N), .int (nI sc)])), (r39, .inl (γ.2.1, wl L (N + 1), .inl (fc48 0))), (r43, .inl (γ.2.1, wl L (N + 1), .inl (fc48 1))), (r47, .inl (γ.2.1, wl L (N + 1), .inl (fc48 2))), (b3_2, .inl (γ.2.1, L, .inl (fc48 3))), (b4_2, .inl (γ.2.1, L, .inl (fc48 4))), (b5_2, .inl (γ.2.1, 256, .inl (fc48 5))), (b6_2, .inl (γ.2.1, 32, .inl (fc48 6)))] := hD
  refine lv_aload_n hx hb dNames_put_51 rfl (lv_at hl 0 rfl) ?_
  refine lv_aload_n hx hb dNames_put_52 rfl (lv_at hl 0 rfl) ?_
  refine va_get (D := γ.1) (ci := 2) (v := .ref b3_2) (C := R_Names) (T := T_Names) (N := 9) (Ts := bs_W0) hx hb hW in_Names hown hC.1 hP 0 rfl rfl 3 (by decide) (hW _ qw_1a22e5f505) (fun _ h9 => h9) rfl dNames_put_53 ?_
  refine lv_aload_n hx hb dNames_put_56 rfl (lv_at hl 0 rfl) ?_
  refine va_get (D := γ.1) (ci := 2) (v := .int (nI N)) (C := R_Names) (T := T_Names) (N := 9) (Ts := bs_W0) hx hb hW in_Names hown hC.1 hP 0 rfl rfl 7 (by decide) (hW _ qw_171adcdf9f) (fun _ h9 => h9) rfl dNames_put_57 ?_
  refine lv_topi (fun v49 ev49 => ?_)
  refine lv_iconst (v := 1) hx hb dNames_put_60 (by decide) ?_
  refine lv_iadd hx hb dNames_put_61 ?_
  refine lv_topi (fun v50 ev50 => ?_)
  have ev50 : v50 = nI (N + 1) := by rw [ev50, ev49]; exact nI_add (N) (1)
  obtain rfl : v50 = nI (N + 1) := ev50
  refine mu_Tr (rest := [.ref a]) S hC (fun q h => hA q (Nat.le_trans hS.1 h)) (fun q h => h) hS (cx_withRoom l γ Z b3_2 L (N + 1) (fc48 3) _ (by omega) (by omega)) meTypeBook_withRoom (hC.2 _ qn_8953b9cb9f rfl) ⟨Nat.le_of_ble_eq_true rfl, Nat.le_of_ble_eq_true rfl⟩ ⟨rfl, hD.2 4 _ rfl, hP 4 _ rfl⟩ rfl hl.1 rfl (Nat.le_of_ble_eq_true rfl) dNames_put_62 ⟨(by show _ ≤ 0 + wc L (N + 1) + wc L (N + 1) + wc L (N + 1) + wc L (N + 1) + wc L (N + 1); omega), (by show _ ≤ 0 + wm L (N + 1) + wm L (N + 1) + wm L (N + 1) + wm L (N + 1) + wm L (N + 1); omega)⟩ (fun r51 Hr51 locs hPO hS _ _ => ?_)
  obtain ⟨g1r51, g2r51, g3r51, g4r51, g5r51⟩ := hPO
  obtain ⟨hP, hD⟩ := wr_join (i := 4) hP hD rfl g4r51 g5r51 g1r51 g2r51
  obtain ⟨fc52, efc52⟩ : ∃ z : gf, z = up fc48 3 (P_wr L (N + 1) (fc48 3)) := ⟨_, rfl⟩
  have hP : va_P γ.1 vwCl [(a, .inr (2, [.ref r39, .ref r43, .ref r47, .ref b3_2, .ref b4_2, .ref b5_2, .ref b6_2, .int (nI N), .int (nI sc)])), (r39, .inl (γ.2.1, wl L (N + 1), .inl (fc52 0))), (r43, .inl (γ.2.1, wl L (N + 1), .inl (fc52 1))), (r47, .inl (γ.2.1, wl L (N + 1), .inl (fc52 2))), (r51, .inl (γ.2.1, wl L (N + 1), .inl (fc52 3))), (b4_2, .inl (γ.2.1, L, .inl (fc52 4))), (b5_2, .inl (γ.2.1, 256, .inl (fc52 5))), (b6_2, .inl (γ.2.1, 32, .inl (fc52 6)))] _ := (by rw [efc52]; exact hP)
  have hD : va_D Z [(a, .inr (2, [.ref r39, .ref r43, .ref r47, .ref b3_2, .ref b4_2, .ref b5_2, .ref b6_2, .int (nI N), .int (nI sc)])), (r39, .inl (γ.2.1, wl L (N + 1), .inl (fc52 0))), (r43, .inl (γ.2.1, wl L (N + 1), .inl (fc52 1))), (r47, .inl (γ.2.1, wl L (N + 1), .inl (fc52 2))), (r51, .inl (γ.2.1, wl L (N + 1), .inl (fc52 3))), (b4_2, .inl (γ.2.1, L, .inl (fc52 4))), (b5_2, .inl (γ.2.1, 256, .inl (fc52 5))), (b6_2, .inl (γ.2.1, 32, .inl (fc52 6)))] := (by rw [efc52]; exact hD)
  refine va_put (D := γ.1) (ci := 2) (v := .ref r51) (ty := .array .int) (C := R_Names) (T := T_Names) (N := 9) (Ts := bs_W0) hx hb hW in_Names t_Names t_Names_ok n_Names hown hC.1 hP hD hS 0 rfl rfl 3 (by decide) (hW _ qw_1a22e5f505) (fun _ h9 => h9) rfl (by decide +kernel) rfl rfl (Nat.le_of_ble_eq_true rfl) dNames_put_65 (fun H locs hP hD hS => ?_)
  have hP : va_P γ.1 vwCl [(a, .inr (2, [.ref r39, .ref r43, .ref r47, .ref r51, .ref b4_2, .ref b5_2, .ref b6_2, .int (nI N), .int (nI sc)])), (r39, .inl (γ.2.1, wl L (N + 1), .inl (fc52 0))), (r43, .inl (γ.2.1, wl L (N + 1), .inl (fc52 1))), (r47, .inl (γ.2.1, wl L (N + 1), .inl (fc52 2))), (r51, .inl (γ.2.1, wl L (N + 1), .inl (fc52 3))), (b4_2, .inl (γ.2.1, L, .inl (fc52 4))), (b5_2, .inl (γ.2.1, 256, .inl (fc52 5))), (b6_2, .inl (γ.2.1, 32, .inl (fc52 6)))] _ := hP
  have hD : va_D Z [(a, .inr (2, [.ref r39, .ref r43, .ref r47, .ref r51, .ref b4_2, .ref b5_2, .ref b6_2, .int (nI N), .int (nI sc)])), (r39, .inl (γ.2.1, wl L (N + 1), .inl (fc52 0))), (r43, .inl (γ.2.1, wl L (N + 1), .inl (fc52 1))), (r47, .inl (γ.2.1, wl L (N + 1), .inl (fc52 2))), (r51, .inl (γ.2.1, wl L (N + 1), .inl (fc52 3))), (b4_2, .inl (γ.2.1, L, .inl (fc52 4))), (b5_2, .inl (γ.2.1, 256, .inl (fc52 5))), (b6_2, .inl (γ.2.1, 32, .inl (fc52 6)))] := hD
  refine lv_aload_n hx hb dNames_put_68 rfl (lv_at hl 0 rfl) ?_
  refine lv_aload_n hx hb dNames_put_69 rfl (lv_at hl 0 rfl) ?_
  refine va_get (D := γ.1) (ci := 2) (v := .ref b4_2) (C := R_Names) (T := T_Names) (N := 9) (Ts := bs_W0) hx hb hW in_Names hown hC.1 hP 0 rfl rfl 4 (by decide) (hW _ qw_ddfb92ec41) (fun _ h9 => h9) rfl dNames_put_70 ?_
  refine lv_aload_n hx hb dNames_put_73 rfl (lv_at hl 0 rfl) ?_
  refine va_get (D := γ.1) (ci := 2) (v := .int (nI N)) (C := R_Names) (T := T_Names) (N := 9) (Ts := bs_W0) hx hb hW in_Names hown hC.1 hP 0 rfl rfl 7 (by decide) (hW _ qw_171adcdf9f) (fun _ h9 => h9) rfl dNames_put_74 ?_
  refine lv_topi (fun v53 ev53 => ?_)
  refine lv_iconst (v := 1) hx hb dNames_put_77 (by decide) ?_
  refine lv_iadd hx hb dNames_put_78 ?_
  refine lv_topi (fun v54 ev54 => ?_)
  have ev54 : v54 = nI (N + 1) := by rw [ev54, ev53]; exact nI_add (N) (1)
  obtain rfl : v54 = nI (N + 1) := ev54
  refine mu_Tr (rest := [.ref a]) S hC (fun q h => hA q (Nat.le_trans hS.1 h)) (fun q h => h) hS (cx_withRoom l γ Z b4_2 L (N + 1) (fc52 4) _ (by omega) (by omega)) meTypeBook_withRoom (hC.2 _ qn_8953b9cb9f rfl) ⟨Nat.le_of_ble_eq_true rfl, Nat.le_of_ble_eq_true rfl⟩ ⟨rfl, hD.2 5 _ rfl, hP 5 _ rfl⟩ rfl hl.1 rfl (Nat.le_of_ble_eq_true rfl) dNames_put_79 ⟨(by show _ ≤ 0 + wc L (N + 1) + wc L (N + 1) + wc L (N + 1) + wc L (N + 1) + wc L (N + 1); omega), (by show _ ≤ 0 + wm L (N + 1) + wm L (N + 1) + wm L (N + 1) + wm L (N + 1) + wm L (N + 1); omega)⟩ (fun r55 Hr55 locs hPO hS _ _ => ?_)
  obtain ⟨g1r55, g2r55, g3r55, g4r55, g5r55⟩ := hPO
  obtain ⟨hP, hD⟩ := wr_join (i := 5) hP hD rfl g4r55 g5r55 g1r55 g2r55
  obtain ⟨fc56, efc56⟩ : ∃ z : gf, z = up fc52 4 (P_wr L (N + 1) (fc52 4)) := ⟨_, rfl⟩
  have hP : va_P γ.1 vwCl [(a, .inr (2, [.ref r39, .ref r43, .ref r47, .ref r51, .ref b4_2, .ref b5_2, .ref b6_2, .int (nI N), .int (nI sc)])), (r39, .inl (γ.2.1, wl L (N + 1), .inl (fc56 0))), (r43, .inl (γ.2.1, wl L (N + 1), .inl (fc56 1))), (r47, .inl (γ.2.1, wl L (N + 1), .inl (fc56 2))), (r51, .inl (γ.2.1, wl L (N + 1), .inl (fc56 3))), (r55, .inl (γ.2.1, wl L (N + 1), .inl (fc56 4))), (b5_2, .inl (γ.2.1, 256, .inl (fc56 5))), (b6_2, .inl (γ.2.1, 32, .inl (fc56 6)))] _ := (by rw [efc56]; exact hP)
  have hD : va_D Z [(a, .inr (2, [.ref r39, .ref r43, .ref r47, .ref r51, .ref b4_2, .ref b5_2, .ref b6_2, .int (nI N), .int (nI sc)])), (r39, .inl (γ.2.1, wl L (N + 1), .inl (fc56 0))), (r43, .inl (γ.2.1, wl L (N + 1), .inl (fc56 1))), (r47, .inl (γ.2.1, wl L (N + 1), .inl (fc56 2))), (r51, .inl (γ.2.1, wl L (N + 1), .inl (fc56 3))), (r55, .inl (γ.2.1, wl L (N + 1), .inl (fc56 4))), (b5_2, .inl (γ.2.1, 256, .inl (fc56 5))), (b6_2, .inl (γ.2.1, 32, .inl (fc56 6)))] := (by rw [efc56]; exact hD)
  refine va_put (D := γ.1) (ci := 2) (v := .ref r55) (ty := .array .int) (C := R_Names) (T := T_Names) (N := 9) (Ts := bs_W0) hx hb hW in_Names t_Names t_Names_ok n_Names hown hC.1 hP hD hS 0 rfl rfl 4 (by decide) (hW _ qw_ddfb92ec41) (fun _ h9 => h9) rfl (by decide +kernel) rfl rfl (Nat.le_of_ble_eq_true rfl) dNames_put_82 (fun H locs hP hD hS => ?_)
  have hP : va_P γ.1 vwCl [(a, .inr (2, [.ref r39, .ref r43, .ref r47, .ref r51, .ref r55, .ref b5_2, .ref b6_2, .int (nI N), .int (nI sc)])), (r39, .inl (γ.2.1, wl L (N + 1), .inl (fc56 0))), (r43, .inl (γ.2.1, wl L (N + 1), .inl (fc56 1))), (r47, .inl (γ.2.1, wl L (N + 1), .inl (fc56 2))), (r51, .inl (γ.2.1, wl L (N + 1), .inl (fc56 3))), (r55, .inl (γ.2.1, wl L (N + 1), .inl (fc56 4))), (b5_2, .inl (γ.2.1, 256, .inl (fc56 5))), (b6_2, .inl (γ.2.1, 32, .inl (fc56 6)))] _ := hP
  have hD : va_D Z [(a, .inr (2, [.ref r39, .ref r43, .ref r47, .ref r51, .ref r55, .ref b5_2, .ref b6_2, .int (nI N), .int (nI sc)])), (r39, .inl (γ.2.1, wl L (N + 1), .inl (fc56 0))), (r43, .inl (γ.2.1, wl L (N + 1), .inl (fc56 1))), (r47, .inl (γ.2.1, wl L (N + 1), .inl (fc56 2))), (r51, .inl (γ.2.1, wl L (N + 1), .inl (fc56 3))), (r55, .inl (γ.2.1, wl L (N + 1), .inl (fc56 4))), (b5_2, .inl (γ.2.1, 256, .inl (fc56 5))), (b6_2, .inl (γ.2.1, 32, .inl (fc56 6)))] := hD
  refine lv_iload_n hx hb dNames_put_85 rfl (lv_at hl 1 rfl) ?_
  refine lv_sipush (v := 255) hx hb dNames_put_86 (by decide) ?_
  refine lv_iand hx hb dNames_put_89 ?_
  refine lv_topi (fun v57 ev57 => ?_)
  refine lv_istore (lv' := [(5, .int v57), (0, .ref a), (1, .int x1), (2, .int x2), (3, .int x3), (4, .int x4)]) hx hb dNames_put_90 hl (by decide) rfl (fun ls hl => ?_)
  refine lv_aload_n hx hb dNames_put_92 rfl (lv_at hl 1 rfl) ?_
  refine va_get (D := γ.1) (ci := 2) (v := .ref r39) (C := R_Names) (T := T_Names) (N := 9) (Ts := bs_W0) hx hb hW in_Names hown hC.1 hP 0 rfl rfl 0 (by decide) (hW _ qw_a8d4a716ae) (fun _ h9 => h9) rfl dNames_put_93 ?_
  refine lv_aload_n hx hb dNames_put_96 rfl (lv_at hl 1 rfl) ?_
  refine va_get (D := γ.1) (ci := 2) (v := .int (nI N)) (C := R_Names) (T := T_Names) (N := 9) (Ts := bs_W0) hx hb hW in_Names hown hC.1 hP 0 rfl rfl 7 (by decide) (hW _ qw_171adcdf9f) (fun _ h9 => h9) rfl dNames_put_97 ?_
  refine lv_topi (fun v58 ev58 => ?_)
  refine lv_iload_n hx hb dNames_put_100 rfl (lv_at hl 2 rfl) ?_
  refine va_iast hx hb hC.1 hP hD hS 1 0 rfl rfl (by rw [ev58]; exact in_sz (by omega) (by omega)) dNames_put_101 (fun H locs hP hD hS => ?_)
  obtain ⟨fc59, efc59⟩ : ∃ z : gf, z = Au fc56 0 v58.toNatClampNeg x1 := ⟨_, rfl⟩
  have hP : va_P γ.1 vwCl [(a, .inr (2, [.ref r39, .ref r43, .ref r47, .ref r51, .ref r55, .ref b5_2, .ref b6_2, .int (nI N), .int (nI sc)])), (r39, .inl (γ.2.1, wl L (N + 1), .inl (fc59 0))), (r43, .inl (γ.2.1, wl L (N + 1), .inl (fc59 1))), (r47, .inl (γ.2.1, wl L (N + 1), .inl (fc59 2))), (r51, .inl (γ.2.1, wl L (N + 1), .inl (fc59 3))), (r55, .inl (γ.2.1, wl L (N + 1), .inl (fc59 4))), (b5_2, .inl (γ.2.1, 256, .inl (fc59 5))), (b6_2, .inl (γ.2.1, 32, .inl (fc59 6)))] _ := (by rw [efc59]; exact hP)
  have hD : va_D Z [(a, .inr (2, [.ref r39, .ref r43, .ref r47, .ref r51, .ref r55, .ref b5_2, .ref b6_2, .int (nI N), .int (nI sc)])), (r39, .inl (γ.2.1, wl L (N + 1), .inl (fc59 0))), (r43, .inl (γ.2.1, wl L (N + 1), .inl (fc59 1))), (r47, .inl (γ.2.1, wl L (N + 1), .inl (fc59 2))), (r51, .inl (γ.2.1, wl L (N + 1), .inl (fc59 3))), (r55, .inl (γ.2.1, wl L (N + 1), .inl (fc59 4))), (b5_2, .inl (γ.2.1, 256, .inl (fc59 5))), (b6_2, .inl (γ.2.1, 32, .inl (fc59 6)))] := (by rw [efc59]; exact hD)
  refine lv_aload_n hx hb dNames_put_102 rfl (lv_at hl 1 rfl) ?_
  refine va_get (D := γ.1) (ci := 2) (v := .ref r43) (C := R_Names) (T := T_Names) (N := 9) (Ts := bs_W0) hx hb hW in_Names hown hC.1 hP 0 rfl rfl 1 (by decide) (hW _ qw_5903ecb25d) (fun _ h9 => h9) rfl dNames_put_103 ?_
  refine lv_aload_n hx hb dNames_put_106 rfl (lv_at hl 1 rfl) ?_
  refine va_get (D := γ.1) (ci := 2) (v := .int (nI N)) (C := R_Names) (T := T_Names) (N := 9) (Ts := bs_W0) hx hb hW in_Names hown hC.1 hP 0 rfl rfl 7 (by decide) (hW _ qw_171adcdf9f) (fun _ h9 => h9) rfl dNames_put_107 ?_
  refine lv_topi (fun v60 ev60 => ?_)
  refine lv_iload_n hx hb dNames_put_110 rfl (lv_at hl 3 rfl) ?_
  refine va_iast hx hb hC.1 hP hD hS 2 0 rfl rfl (by rw [ev60]; exact in_sz (by omega) (by omega)) dNames_put_111 (fun H locs hP hD hS => ?_)
  obtain ⟨fc61, efc61⟩ : ∃ z : gf, z = Au fc59 1 v60.toNatClampNeg x2 := ⟨_, rfl⟩
  have hP : va_P γ.1 vwCl [(a, .inr (2, [.ref r39, .ref r43, .ref r47, .ref r51, .ref r55, .ref b5_2, .ref b6_2, .int (nI N), .int (nI sc)])), (r39, .inl (γ.2.1, wl L (N + 1), .inl (fc61 0))), (r43, .inl (γ.2.1, wl L (N + 1), .inl (fc61 1))), (r47, .inl (γ.2.1, wl L (N + 1), .inl (fc61 2))), (r51, .inl (γ.2.1, wl L (N + 1), .inl (fc61 3))), (r55, .inl (γ.2.1, wl L (N + 1), .inl (fc61 4))), (b5_2, .inl (γ.2.1, 256, .inl (fc61 5))), (b6_2, .inl (γ.2.1, 32, .inl (fc61 6)))] _ := (by rw [efc61]; exact hP)
  have hD : va_D Z [(a, .inr (2, [.ref r39, .ref r43, .ref r47, .ref r51, .ref r55, .ref b5_2, .ref b6_2, .int (nI N), .int (nI sc)])), (r39, .inl (γ.2.1, wl L (N + 1), .inl (fc61 0))), (r43, .inl (γ.2.1, wl L (N + 1), .inl (fc61 1))), (r47, .inl (γ.2.1, wl L (N + 1), .inl (fc61 2))), (r51, .inl (γ.2.1, wl L (N + 1), .inl (fc61 3))), (r55, .inl (γ.2.1, wl L (N + 1), .inl (fc61 4))), (b5_2, .inl (γ.2.1, 256, .inl (fc61 5))), (b6_2, .inl (γ.2.1, 32, .inl (fc61 6)))] := (by rw [efc61]; exact hD)
  refine lv_aload_n hx hb dNames_put_112 rfl (lv_at hl 1 rfl) ?_
  refine va_get (D := γ.1) (ci := 2) (v := .ref r47) (C := R_Names) (T := T_Names) (N := 9) (Ts := bs_W0) hx hb hW in_Names hown hC.1 hP 0 rfl rfl 2 (by decide) (hW _ qw_ee1ba38ad0) (fun _ h9 => h9) rfl dNames_put_113 ?_
  refine lv_aload_n hx hb dNames_put_116 rfl (lv_at hl 1 rfl) ?_
  refine va_get (D := γ.1) (ci := 2) (v := .int (nI N)) (C := R_Names) (T := T_Names) (N := 9) (Ts := bs_W0) hx hb hW in_Names hown hC.1 hP 0 rfl rfl 7 (by decide) (hW _ qw_171adcdf9f) (fun _ h9 => h9) rfl dNames_put_117 ?_
  refine lv_topi (fun v62 ev62 => ?_)
  refine lv_iload_n hx hb dNames_put_120 rfl (lv_at hl 4 rfl) ?_
  refine va_iast hx hb hC.1 hP hD hS 3 0 rfl rfl (by rw [ev62]; exact in_sz (by omega) (by omega)) dNames_put_121 (fun H locs hP hD hS => ?_)
  obtain ⟨fc63, efc63⟩ : ∃ z : gf, z = Au fc61 2 v62.toNatClampNeg x3 := ⟨_, rfl⟩
  have hP : va_P γ.1 vwCl [(a, .inr (2, [.ref r39, .ref r43, .ref r47, .ref r51, .ref r55, .ref b5_2, .ref b6_2, .int (nI N), .int (nI sc)])), (r39, .inl (γ.2.1, wl L (N + 1), .inl (fc63 0))), (r43, .inl (γ.2.1, wl L (N + 1), .inl (fc63 1))), (r47, .inl (γ.2.1, wl L (N + 1), .inl (fc63 2))), (r51, .inl (γ.2.1, wl L (N + 1), .inl (fc63 3))), (r55, .inl (γ.2.1, wl L (N + 1), .inl (fc63 4))), (b5_2, .inl (γ.2.1, 256, .inl (fc63 5))), (b6_2, .inl (γ.2.1, 32, .inl (fc63 6)))] _ := (by rw [efc63]; exact hP)
  have hD : va_D Z [(a, .inr (2, [.ref r39, .ref r43, .ref r47, .ref r51, .ref r55, .ref b5_2, .ref b6_2, .int (nI N), .int (nI sc)])), (r39, .inl (γ.2.1, wl L (N + 1), .inl (fc63 0))), (r43, .inl (γ.2.1, wl L (N + 1), .inl (fc63 1))), (r47, .inl (γ.2.1, wl L (N + 1), .inl (fc63 2))), (r51, .inl (γ.2.1, wl L (N + 1), .inl (fc63 3))), (r55, .inl (γ.2.1, wl L (N + 1), .inl (fc63 4))), (b5_2, .inl (γ.2.1, 256, .inl (fc63 5))), (b6_2, .inl (γ.2.1, 32, .inl (fc63 6)))] := (by rw [efc63]; exact hD)
  refine lv_aload_n hx hb dNames_put_122 rfl (lv_at hl 1 rfl) ?_
  refine va_get (D := γ.1) (ci := 2) (v := .ref r51) (C := R_Names) (T := T_Names) (N := 9) (Ts := bs_W0) hx hb hW in_Names hown hC.1 hP 0 rfl rfl 3 (by decide) (hW _ qw_1a22e5f505) (fun _ h9 => h9) rfl dNames_put_123 ?_
  refine lv_aload_n hx hb dNames_put_126 rfl (lv_at hl 1 rfl) ?_
  refine va_get (D := γ.1) (ci := 2) (v := .int (nI N)) (C := R_Names) (T := T_Names) (N := 9) (Ts := bs_W0) hx hb hW in_Names hown hC.1 hP 0 rfl rfl 7 (by decide) (hW _ qw_171adcdf9f) (fun _ h9 => h9) rfl dNames_put_127 ?_
  refine lv_topi (fun v64 ev64 => ?_)
  refine lv_iload hx hb dNames_put_130 (lv_at hl 5 rfl) ?_
  refine va_iast hx hb hC.1 hP hD hS 4 0 rfl rfl (by rw [ev64]; exact in_sz (by omega) (by omega)) dNames_put_132 (fun H locs hP hD hS => ?_)
  obtain ⟨fc65, efc65⟩ : ∃ z : gf, z = Au fc63 3 v64.toNatClampNeg x4 := ⟨_, rfl⟩
  have hP : va_P γ.1 vwCl [(a, .inr (2, [.ref r39, .ref r43, .ref r47, .ref r51, .ref r55, .ref b5_2, .ref b6_2, .int (nI N), .int (nI sc)])), (r39, .inl (γ.2.1, wl L (N + 1), .inl (fc65 0))), (r43, .inl (γ.2.1, wl L (N + 1), .inl (fc65 1))), (r47, .inl (γ.2.1, wl L (N + 1), .inl (fc65 2))), (r51, .inl (γ.2.1, wl L (N + 1), .inl (fc65 3))), (r55, .inl (γ.2.1, wl L (N + 1), .inl (fc65 4))), (b5_2, .inl (γ.2.1, 256, .inl (fc65 5))), (b6_2, .inl (γ.2.1, 32, .inl (fc65 6)))] _ := (by rw [efc65]; exact hP)
  have hD : va_D Z [(a, .inr (2, [.ref r39, .ref r43, .ref r47, .ref r51, .ref r55, .ref b5_2, .ref b6_2, .int (nI N), .int (nI sc)])), (r39, .inl (γ.2.1, wl L (N + 1), .inl (fc65 0))), (r43, .inl (γ.2.1, wl L (N + 1), .inl (fc65 1))), (r47, .inl (γ.2.1, wl L (N + 1), .inl (fc65 2))), (r51, .inl (γ.2.1, wl L (N + 1), .inl (fc65 3))), (r55, .inl (γ.2.1, wl L (N + 1), .inl (fc65 4))), (b5_2, .inl (γ.2.1, 256, .inl (fc65 5))), (b6_2, .inl (γ.2.1, 32, .inl (fc65 6)))] := (by rw [efc65]; exact hD)
  refine lv_aload_n hx hb dNames_put_133 rfl (lv_at hl 1 rfl) ?_
  refine va_get (D := γ.1) (ci := 2) (v := .ref r55) (C := R_Names) (T := T_Names) (N := 9) (Ts := bs_W0) hx hb hW in_Names hown hC.1 hP 0 rfl rfl 4 (by decide) (hW _ qw_ddfb92ec41) (fun _ h9 => h9) rfl dNames_put_134 ?_
  refine lv_aload_n hx hb dNames_put_137 rfl (lv_at hl 1 rfl) ?_
  refine va_get (D := γ.1) (ci := 2) (v := .int (nI N)) (C := R_Names) (T := T_Names) (N := 9) (Ts := bs_W0) hx hb hW in_Names hown hC.1 hP 0 rfl rfl 7 (by decide) (hW _ qw_171adcdf9f) (fun _ h9 => h9) rfl dNames_put_138 ?_
  refine lv_topi (fun v66 ev66 => ?_)
  refine lv_aload_n hx hb dNames_put_141 rfl (lv_at hl 1 rfl) ?_
  refine va_get (D := γ.1) (ci := 2) (v := .ref b5_2) (C := R_Names) (T := T_Names) (N := 9) (Ts := bs_W0) hx hb hW in_Names hown hC.1 hP 0 rfl rfl 5 (by decide) (hW _ qw_ae9666db7d) (fun _ h9 => h9) rfl dNames_put_142 ?_
  refine lv_iload hx hb dNames_put_145 (lv_at hl 0 rfl) ?_
  refine va_iald hx hb hC.1 hP 6 0 rfl rfl (by rw [ev57]; exact pk_andIn _ 8 (by decide) (by decide)) dNames_put_147 ?_
  refine lv_topi (fun v67 ev67 => ?_)
  refine va_iast hx hb hC.1 hP hD hS 5 0 rfl rfl (by rw [ev66]; exact in_sz (by omega) (by omega)) dNames_put_148 (fun H locs hP hD hS => ?_)
  obtain ⟨fc68, efc68⟩ : ∃ z : gf, z = Au fc65 4 v66.toNatClampNeg v67 := ⟨_, rfl⟩
  have hP : va_P γ.1 vwCl [(a, .inr (2, [.ref r39, .ref r43, .ref r47, .ref r51, .ref r55, .ref b5_2, .ref b6_2, .int (nI N), .int (nI sc)])), (r39, .inl (γ.2.1, wl L (N + 1), .inl (fc68 0))), (r43, .inl (γ.2.1, wl L (N + 1), .inl (fc68 1))), (r47, .inl (γ.2.1, wl L (N + 1), .inl (fc68 2))), (r51, .inl (γ.2.1, wl L (N + 1), .inl (fc68 3))), (r55, .inl (γ.2.1, wl L (N + 1), .inl (fc68 4))), (b5_2, .inl (γ.2.1, 256, .inl (fc68 5))), (b6_2, .inl (γ.2.1, 32, .inl (fc68 6)))] _ := (by rw [efc68]; exact hP)
  have hD : va_D Z [(a, .inr (2, [.ref r39, .ref r43, .ref r47, .ref r51, .ref r55, .ref b5_2, .ref b6_2, .int (nI N), .int (nI sc)])), (r39, .inl (γ.2.1, wl L (N + 1), .inl (fc68 0))), (r43, .inl (γ.2.1, wl L (N + 1), .inl (fc68 1))), (r47, .inl (γ.2.1, wl L (N + 1), .inl (fc68 2))), (r51, .inl (γ.2.1, wl L (N + 1), .inl (fc68 3))), (r55, .inl (γ.2.1, wl L (N + 1), .inl (fc68 4))), (b5_2, .inl (γ.2.1, 256, .inl (fc68 5))), (b6_2, .inl (γ.2.1, 32, .inl (fc68 6)))] := (by rw [efc68]; exact hD)
  refine lv_aload_n hx hb dNames_put_149 rfl (lv_at hl 1 rfl) ?_
  refine va_get (D := γ.1) (ci := 2) (v := .ref b5_2) (C := R_Names) (T := T_Names) (N := 9) (Ts := bs_W0) hx hb hW in_Names hown hC.1 hP 0 rfl rfl 5 (by decide) (hW _ qw_ae9666db7d) (fun _ h9 => h9) rfl dNames_put_150 ?_
  refine lv_iload hx hb dNames_put_153 (lv_at hl 0 rfl) ?_
  refine lv_aload_n hx hb dNames_put_155 rfl (lv_at hl 1 rfl) ?_
  refine va_get (D := γ.1) (ci := 2) (v := .int (nI N)) (C := R_Names) (T := T_Names) (N := 9) (Ts := bs_W0) hx hb hW in_Names hown hC.1 hP 0 rfl rfl 7 (by decide) (hW _ qw_171adcdf9f) (fun _ h9 => h9) rfl dNames_put_156 ?_
  refine lv_topi (fun v69 ev69 => ?_)
  refine va_iast hx hb hC.1 hP hD hS 6 0 rfl rfl (by rw [ev57]; exact pk_andIn _ 8 (by decide) (by decide)) dNames_put_159 (fun H locs hP hD hS => ?_)
  obtain ⟨fc70, efc70⟩ : ∃ z : gf, z = Au fc68 5 v57.toNatClampNeg v69 := ⟨_, rfl⟩
  have hP : va_P γ.1 vwCl [(a, .inr (2, [.ref r39, .ref r43, .ref r47, .ref r51, .ref r55, .ref b5_2, .ref b6_2, .int (nI N), .int (nI sc)])), (r39, .inl (γ.2.1, wl L (N + 1), .inl (fc70 0))), (r43, .inl (γ.2.1, wl L (N + 1), .inl (fc70 1))), (r47, .inl (γ.2.1, wl L (N + 1), .inl (fc70 2))), (r51, .inl (γ.2.1, wl L (N + 1), .inl (fc70 3))), (r55, .inl (γ.2.1, wl L (N + 1), .inl (fc70 4))), (b5_2, .inl (γ.2.1, 256, .inl (fc70 5))), (b6_2, .inl (γ.2.1, 32, .inl (fc70 6)))] _ := (by rw [efc70]; exact hP)
  have hD : va_D Z [(a, .inr (2, [.ref r39, .ref r43, .ref r47, .ref r51, .ref r55, .ref b5_2, .ref b6_2, .int (nI N), .int (nI sc)])), (r39, .inl (γ.2.1, wl L (N + 1), .inl (fc70 0))), (r43, .inl (γ.2.1, wl L (N + 1), .inl (fc70 1))), (r47, .inl (γ.2.1, wl L (N + 1), .inl (fc70 2))), (r51, .inl (γ.2.1, wl L (N + 1), .inl (fc70 3))), (r55, .inl (γ.2.1, wl L (N + 1), .inl (fc70 4))), (b5_2, .inl (γ.2.1, 256, .inl (fc70 5))), (b6_2, .inl (γ.2.1, 32, .inl (fc70 6)))] := (by rw [efc70]; exact hD)
  refine lv_aload_n hx hb dNames_put_160 rfl (lv_at hl 1 rfl) ?_
  refine lv_dup hx hb dNames_put_161 rfl ?_
  refine va_get (D := γ.1) (ci := 2) (v := .int (nI N)) (C := R_Names) (T := T_Names) (N := 9) (Ts := bs_W0) hx hb hW in_Names hown hC.1 hP 0 rfl rfl 7 (by decide) (hW _ qw_171adcdf9f) (fun _ h9 => h9) rfl dNames_put_162 ?_
  refine lv_topi (fun v71 ev71 => ?_)
  refine lv_iconst (v := 1) hx hb dNames_put_165 (by decide) ?_
  refine lv_iadd hx hb dNames_put_166 ?_
  refine lv_topi (fun v72 ev72 => ?_)
  have ev72 : v72 = nI (N + 1) := by rw [ev72, ev71]; exact nI_add (N) (1)
  obtain rfl : v72 = nI (N + 1) := ev72
  refine va_put (D := γ.1) (ci := 2) (v := .int (nI (N + 1))) (ty := .int) (C := R_Names) (T := T_Names) (N := 9) (Ts := bs_W0) hx hb hW in_Names t_Names t_Names_ok n_Names hown hC.1 hP hD hS 0 rfl rfl 7 (by decide) (hW _ qw_171adcdf9f) (fun _ h9 => h9) rfl (by decide +kernel) rfl rfl (Nat.le_of_ble_eq_true rfl) dNames_put_167 (fun H locs hP hD hS => ?_)
  have hP : va_P γ.1 vwCl [(a, .inr (2, [.ref r39, .ref r43, .ref r47, .ref r51, .ref r55, .ref b5_2, .ref b6_2, .int (nI (N + 1)), .int (nI sc)])), (r39, .inl (γ.2.1, wl L (N + 1), .inl (fc70 0))), (r43, .inl (γ.2.1, wl L (N + 1), .inl (fc70 1))), (r47, .inl (γ.2.1, wl L (N + 1), .inl (fc70 2))), (r51, .inl (γ.2.1, wl L (N + 1), .inl (fc70 3))), (r55, .inl (γ.2.1, wl L (N + 1), .inl (fc70 4))), (b5_2, .inl (γ.2.1, 256, .inl (fc70 5))), (b6_2, .inl (γ.2.1, 32, .inl (fc70 6)))] _ := hP
  have hD : va_D Z [(a, .inr (2, [.ref r39, .ref r43, .ref r47, .ref r51, .ref r55, .ref b5_2, .ref b6_2, .int (nI (N + 1)), .int (nI sc)])), (r39, .inl (γ.2.1, wl L (N + 1), .inl (fc70 0))), (r43, .inl (γ.2.1, wl L (N + 1), .inl (fc70 1))), (r47, .inl (γ.2.1, wl L (N + 1), .inl (fc70 2))), (r51, .inl (γ.2.1, wl L (N + 1), .inl (fc70 3))), (r55, .inl (γ.2.1, wl L (N + 1), .inl (fc70 4))), (b5_2, .inl (γ.2.1, 256, .inl (fc70 5))), (b6_2, .inl (γ.2.1, 32, .inl (fc70 6)))] := hD
  have hI : cmp γ (gNames γ a (N + 1) sc (wl L (N + 1)) fc70) Z _ := ⟨_, ⟨r39, r43, r47, r51, r55, b5_2, b6_2, rfl, (by omega), (by omega), (by omega), (by omega), (by omega), (by obtain ⟨g, q1, q2, q3⟩ := h6_2; subst ev71 efc70 ev69 efc68 ev67 ev66 efc65 ev64 efc63 ev62 efc61 ev60 efc59 ev58 ev57 efc56 ev53 efc52 ev49 efc48 ev45 efc44 ev41 efc40 ev37; exact ⟨g, q1, q2, fun k hk => Nat.le_trans (q3 k hk) (by omega)⟩)⟩, hP, hD⟩
  have hQ := hE _ _ 170 ls hS (by have hO2 : Oq OUT fc70 := (by subst ev71 efc70 ev69 efc68 ev67 ev66 efc65 ev64 efc63 ev62 efc61 ev60 efc59 ev58 ev57 efc56 ev53 efc52 ev49 efc48 ev45 efc44 ev41 efc40 ev37; exact hO.tr rfl); rw [hO2.eq]; exact hI) dNames_put_170
  refine W.cs (cells' := 0 + wc L (N + 1) + wc L (N + 1) + wc L (N + 1) + wc L (N + 1) + wc L (N + 1)) (slots' := 0 + wm L (N + 1) + wm L (N + 1) + wm L (N + 1) + wm L (N + 1) + wm L (N + 1)) (by omega) (by omega) ?_
  exact hQ
theorem f2_Names_put (l : Launch) (γ : gE) (A : Nat → Prop) (κ : Nat → Nat) (φ : gF) (ψ : gG) (x1 : Int32) (x2 : Int32) (x3 : Int32) (x4 : Int32) (hN : (κ 2) ≤ 4000) : MU l yNames_put bNames_put 6 (none) 3 103 (0 + wc (κ 12) ((κ 2) + 1) + wc (κ 12) ((κ 2) + 1) + wc (κ 12) ((κ 2) + 1) + wc (κ 12) ((κ 2) + 1) + wc (κ 12) ((κ 2) + 1)) (0 + wm (κ 12) ((κ 2) + 1) + wm (κ 12) ((κ 2) + 1) + wm (κ 12) ((κ 2) + 1) + wm (κ 12) ((κ 2) + 1) + wm (κ 12) ((κ 2) + 1)) [.ref (γ.2.2.2 2), .int x1, .int x2, .int x3, .int x4] γ A (INVF γ A κ φ ψ) (mQv (fun H => INVF γ A (ku (ku κ 2 ((κ 2) + 1)) 12 (wl (κ 12) ((κ 2) + 1))) (up φ 3 (P_Names_put (κ 2) (κ 3) (κ 12) (φ 3) x1 x2 x3 x4)) ψ H) A) :=
  muk_vf (κ := κ) (κ' := (ku (ku κ 2 ((κ 2) + 1)) 12 (wl (κ 12) ((κ 2) + 1)))) 3 (by decide) (by decide) (fun j h1 h2 h3 f g => by rcases (show j = 1 ∨ j = 2 ∨ j = 3 ∨ j = 4 ∨ j = 5 ∨ j = 6 ∨ j = 7 ∨ j = 8 ∨ j = 9 ∨ j = 10 by omega) with h | h | h | h | h | h | h | h | h | h <;> subst h <;> first | rfl | exact absurd rfl h1) (fun Z => fc_Names_put l γ Z (γ.2.2.2 2) (κ 2) (κ 3) (κ 12) (φ 3) x1 x2 x3 x4 hN)
