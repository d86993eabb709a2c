def P_Operators_unary_50 (κ : Nat → Nat) (φ : gF) (ψ : gG) (i1 : Int32) (i2 : Int32) (i3 : Int32) (i4 : Int32) (t0 : Int32) : Int32 × gF × gG := (if t0 = 0 then (3, φ, ψ) else (if (P_Looks_isFixed (κ 7) ((up φ 9 (P_Looks_note (κ 7) (φ 9) i1 i4 (P_Looks_extentOf (κ 7) (φ 9) i3) (P_Looks_isFixed (κ 7) (φ 9) i3))) 9) i3) = 0 then (0, (up φ 9 (P_Looks_note (κ 7) (φ 9) i1 i4 (P_Looks_extentOf (κ 7) (φ 9) i3) (P_Looks_isFixed (κ 7) (φ 9) i3))), ψ) else (0, ((P_Operators_computeUnary κ (up φ 9 (P_Looks_note (κ 7) (φ 9) i1 i4 (P_Looks_extentOf (κ 7) (φ 9) i3) (P_Looks_isFixed (κ 7) (φ 9) i3))) ψ i1 i2 i3).1), ((P_Operators_computeUnary κ (up φ 9 (P_Looks_note (κ 7) (φ 9) i1 i4 (P_Looks_extentOf (κ 7) (φ 9) i3) (P_Looks_isFixed (κ 7) (φ 9) i3))) ψ i1 i2 i3).2))))
def P_Operators_unary_31 (κ : Nat → Nat) (φ : gF) (ψ : gG) (i1 : Int32) (i2 : Int32) (i3 : Int32) (i4 : Int32) : Int32 × gF × gG := (P_Operators_unary_50 κ  φ ψ i1 i2 i3 i4 1)
def P_Operators_unary (κ : Nat → Nat) (φ : gF) (ψ : gG) (x1 : Int32) (x2 : Int32) (x3 : Int32) : Int32 × gF × gG := (if x2 = 0 then (if (P_Looks_classOf (κ 7) (φ 9) x3) = 1 then (P_Operators_unary_31 κ  φ ψ x1 x2 x3 (P_Looks_classOf (κ 7) (φ 9) x3)) else (if (P_Looks_classOf (κ 7) (φ 9) x3) = 0 then (P_Operators_unary_31 κ  φ ψ x1 x2 x3 (P_Looks_classOf (κ 7) (φ 9) x3)) else (if (P_Looks_classOf (κ 7) (φ 9) x3) = 3 then (P_Operators_unary_31 κ  φ ψ x1 x2 x3 (P_Looks_classOf (κ 7) (φ 9) x3)) else (P_Operators_unary_50 κ  φ ψ x1 x2 x3 (P_Looks_classOf (κ 7) (φ 9) x3) 0)))) else (if (P_Looks_classOf (κ 7) (φ 9) x3) = 2 then (P_Operators_unary_50 κ  φ ψ x1 x2 x3 (P_Looks_classOf (κ 7) (φ 9) x3) 1) else (P_Operators_unary_50 κ  φ ψ x1 x2 x3 (P_Looks_classOf (κ 7) (φ 9) x3) 0)))
set_option maxHeartbeats 4000000 in
set_option maxRecDepth 100000 in
theorem f_Operators_unary (l : Launch) (γ : gE) (A : Nat → Prop) (κ : Nat → Nat) (φ : gF) (ψ : gG) (x1 : Int32) (x2 : Int32) (x3 : Int32) : MU l yOperators_unary bOperators_unary 6 (some .int) 3 68 0 0 [.ref (γ.2.2.2 11), .int x1, .int x2, .int x3] γ A (INVF γ A κ φ ψ) (mQi (fun r H => r = (P_Operators_unary κ φ ψ x1 x2 x3).1 ∧ INVF γ A κ (P_Operators_unary κ φ ψ x1 x2 x3).2.1 (P_Operators_unary κ φ ψ x1 x2 x3).2.2 H) A) := by
  refine mu_openI (by decide) (Nat.le_of_ble_eq_true rfl) ?_
  intro p e s m args below meth c ls Q S hnm hC hA hG hE hl
  obtain ⟨hx, hb, hml, hown, hW⟩ := id S
  have hI := inv_of hG
  have hS : va_S A s.heap s.heap [] := va_S.rf
  have hl : lv_has ls 6 [(0, .ref (γ.2.2.2 11)), (1, .int x1), (2, .int x2), (3, .int x3)] := hl
  obtain ⟨OUT, hQ, hO⟩ : ∃ z, (z = P_Operators_unary κ φ ψ x1 x2 x3) ∧ Oq z (P_Operators_unary κ φ ψ x1 x2 x3) := ⟨_, rfl, rfl⟩
  rw [← hQ] at hE
  clear hQ
  have J50 : ∀ (ls : Array Slot) (H : Heap) (locs : List Loc) (φ : gF) (ψ : gG) (i1 : Int32) (i2 : Int32) (i3 : Int32) (i4 : Int32) (t0 : Int32), INVF γ A κ φ ψ H → va_S A s.heap H locs → (Oq OUT (P_Operators_unary_50 κ   φ ψ i1 i2 i3 i4 t0)) → lv_has ls 6 [(0, .ref (γ.2.2.2 11)), (1, .int i1), (2, .int i2), (3, .int i3), (4, .int i4)] → W p l e (bs_rm 3 0 0 68) s m args below meth c H locs 0 0 Q (F0 m 50 ls [.int t0]) := by
    intro ls H locs φ ψ i1 i2 i3 i4 t0 hG hS hO hl
    have hI := inv_of hG
    refine lv_istore (lv' := [(5, .int t0), (0, .ref (γ.2.2.2 11)), (1, .int i1), (2, .int i2), (3, .int i3), (4, .int i4)]) hx hb dOperators_unary_50 hl (by decide) rfl (fun ls hl => ?_)
    refine lv_iload hx hb dOperators_unary_52 (lv_at hl 0 rfl) ?_
    refine lv_if_ne (tgt := 59) hx hb dOperators_unary_54 (by decide) (fun c17 => ?_) (fun c17 => ?_)
    · refine lv_aload_n hx hb dOperators_unary_59 rfl (lv_at hl 1 rfl) ?_
      refine of_get S hC (of_11_0 hI) in_Operators rfl (by decide) qw_46160f6e07 dOperators_unary_60 ?_
      refine lv_iload_n hx hb dOperators_unary_63 rfl (lv_at hl 2 rfl) ?_
      refine lv_iload hx hb dOperators_unary_64 (lv_at hl 5 rfl) ?_
      refine lv_aload_n hx hb dOperators_unary_66 rfl (lv_at hl 1 rfl) ?_
      refine of_get S hC (of_11_0 hI) in_Operators rfl (by decide) qw_46160f6e07 dOperators_unary_67 ?_
      refine lv_iload_n hx hb dOperators_unary_70 rfl (lv_at hl 4 rfl) ?_
      refine pu_Vi (rest := [.int i4, .int i1, .ref (γ.2.2.2 9)]) S hC (f9_Looks_extentOf l γ A κ φ ψ i3) meLooks_extentOf qw_b0051a6c7a ⟨Nat.le_of_ble_eq_true rfl, Nat.le_of_ble_eq_true rfl⟩ (rv_9 hC hI) hG rfl hl.1 rfl (Nat.le_of_ble_eq_true rfl) dOperators_unary_71 ⟨Nat.zero_le _, Nat.zero_le _⟩ (fun r18 hr18 => ?_)
      obtain ⟨hr18, er18⟩ := hr18
      refine lv_aload_n hx hb dOperators_unary_74 rfl (lv_at hl 1 rfl) ?_
      refine of_get S hC (of_11_0 hI) in_Operators rfl (by decide) qw_46160f6e07 dOperators_unary_75 ?_
      refine lv_iload_n hx hb dOperators_unary_78 rfl (lv_at hl 4 rfl) ?_
      refine pu_Vi (rest := [.int r18, .int i4, .int i1, .ref (γ.2.2.2 9)]) S hC (f9_Looks_isFixed l γ A κ φ ψ i3) meLooks_isFixed qw_c191710e5d ⟨Nat.le_of_ble_eq_true rfl, Nat.le_of_ble_eq_true rfl⟩ (rv_9 hC hI) hG rfl hl.1 rfl (Nat.le_of_ble_eq_true rfl) dOperators_unary_79 ⟨Nat.zero_le _, Nat.zero_le _⟩ (fun r19 hr19 => ?_)
      obtain ⟨hr19, er19⟩ := hr19
      refine mu_Vv (rest := []) S hC (fun q h => hA q (Nat.le_trans hS.1 h)) (fun q h => h) hS (f9_Looks_note l γ A κ φ ψ i1 i4 r18 r19) meLooks_note qw_97c82781ec ⟨Nat.le_of_ble_eq_true rfl, Nat.le_of_ble_eq_true rfl⟩ (rv_9 hC hI) hG rfl hl.1 rfl (Nat.le_of_ble_eq_true rfl) dOperators_unary_82 ⟨Nat.le_refl _, Nat.le_refl _⟩ (fun H locs hG hS _ _ => ?_)
      obtain ⟨φ21, eφ21⟩ : ∃ z : gF, z = up φ 9 (P_Looks_note (κ 7) (φ 9) i1 i4 r18 r19) := ⟨_, rfl⟩
      rw [← eφ21] at hG
      have hI := inv_of hG
      refine lv_aload_n hx hb dOperators_unary_85 rfl (lv_at hl 1 rfl) ?_
      refine of_get S hC (of_11_0 hI) in_Operators rfl (by decide) qw_46160f6e07 dOperators_unary_86 ?_
      refine lv_iload_n hx hb dOperators_unary_89 rfl (lv_at hl 4 rfl) ?_
      refine pu_Vi (rest := []) S hC (f9_Looks_isFixed l γ A κ φ21 ψ i3) meLooks_isFixed qw_c191710e5d ⟨Nat.le_of_ble_eq_true rfl, Nat.le_of_ble_eq_true rfl⟩ (rv_9 hC hI) hG rfl hl.1 rfl (Nat.le_of_ble_eq_true rfl) dOperators_unary_90 ⟨Nat.zero_le _, Nat.zero_le _⟩ (fun r22 hr22 => ?_)
      obtain ⟨hr22, er22⟩ := hr22
      refine lv_if_eq (tgt := 103) hx hb dOperators_unary_93 (by decide) (fun c23 => ?_) (fun c23 => ?_)
      · refine lv_iconst (v := 0) hx hb dOperators_unary_103 (by decide) ?_
        exact hE _ _ _ _ _ hS (by have hO2 : Oq OUT (0, φ21, ψ) := (by subst er22 eφ21 er19 er18; exact hO.tr ((if_neg c17).trans (if_pos c23))); rw [hO2.eq]; exact ⟨rfl, hG⟩) dOperators_unary_104
      · refine lv_aload_n hx hb dOperators_unary_96 rfl (lv_at hl 1 rfl) ?_
        refine lv_iload_n hx hb dOperators_unary_97 rfl (lv_at hl 2 rfl) ?_
        refine lv_iload_n hx hb dOperators_unary_98 rfl (lv_at hl 3 rfl) ?_
        refine lv_iload_n hx hb dOperators_unary_99 rfl (lv_at hl 4 rfl) ?_
        refine mu_Vv (rest := []) S hC (fun q h => hA q (Nat.le_trans hS.1 h)) (fun q h => h) hS (f_Operators_computeUnary l γ A κ φ21 ψ i1 i2 i3) meOperators_computeUnary qw_99a6d7a0dd ⟨Nat.le_of_ble_eq_true rfl, Nat.le_of_ble_eq_true rfl⟩ (rv_11 hC hI) hG rfl hl.1 rfl (Nat.le_of_ble_eq_true rfl) dOperators_unary_100 ⟨Nat.le_refl _, Nat.le_refl _⟩ (fun H locs hG hS _ _ => ?_)
        obtain ⟨φ25, eφ25⟩ : ∃ z : gF, z = (P_Operators_computeUnary κ φ21 ψ i1 i2 i3).1 := ⟨_, rfl⟩
        rw [← eφ25] at hG
        obtain ⟨ψ26, eψ26⟩ : ∃ z : gG, z = (P_Operators_computeUnary κ φ21 ψ i1 i2 i3).2 := ⟨_, rfl⟩
        rw [← eψ26] at hG
        have hI := inv_of hG
        refine lv_iconst (v := 0) hx hb dOperators_unary_103 (by decide) ?_
        exact hE _ _ _ _ _ hS (by have hO2 : Oq OUT (0, φ25, ψ26) := (by subst eψ26 eφ25 er22 eφ21 er19 er18; exact hO.tr ((if_neg c17).trans (if_neg c23))); rw [hO2.eq]; exact ⟨rfl, hG⟩) dOperators_unary_104
    · refine lv_iconst (v := 3) hx hb dOperators_unary_57 (by decide) ?_
      exact hE _ _ _ _ _ hS (by have hO2 : Oq OUT (3, φ, ψ) := (by exact hO.tr (if_pos c17)); rw [hO2.eq]; exact ⟨rfl, hG⟩) dOperators_unary_58
  have J31 : ∀ (ls : Array Slot) (H : Heap) (locs : List Loc) (φ : gF) (ψ : gG) (i1 : Int32) (i2 : Int32) (i3 : Int32) (i4 : Int32), INVF γ A κ φ ψ H → va_S A s.heap H locs → (Oq OUT (P_Operators_unary_31 κ   φ ψ i1 i2 i3 i4)) → lv_has ls 6 [(0, .ref (γ.2.2.2 11)), (1, .int i1), (2, .int i2), (3, .int i3), (4, .int i4)] → W p l e (bs_rm 3 0 0 68) s m args below meth c H locs 0 0 Q (F0 m 31 ls []) := by
    intro ls H locs φ ψ i1 i2 i3 i4 hG hS hO hl
    have hI := inv_of hG
    refine lv_iconst (v := 1) hx hb dOperators_unary_31 (by decide) ?_
    refine lv_goto (tgt := 50) hx hb dOperators_unary_32 (by decide) ?_
    exact J50 ls _ _ φ ψ i1 i2 i3 i4 1 hG hS (by exact hO.tr rfl) (lv_sub hl [0, 1, 2, 3, 4] rfl)
  refine lv_aload_n hx hb dOperators_unary_0 rfl (lv_at hl 0 rfl) ?_
  refine of_get S hC (of_11_0 hI) in_Operators rfl (by decide) qw_46160f6e07 dOperators_unary_1 ?_
  refine lv_iload_n hx hb dOperators_unary_4 rfl (lv_at hl 3 rfl) ?_
  refine pu_Vi (rest := []) S hC (f9_Looks_classOf l γ A κ φ ψ x3) meLooks_classOf qw_2e1b0e0eff ⟨Nat.le_of_ble_eq_true rfl, Nat.le_of_ble_eq_true rfl⟩ (rv_9 hC hI) hG rfl hl.1 rfl (Nat.le_of_ble_eq_true rfl) dOperators_unary_5 ⟨Nat.zero_le _, Nat.zero_le _⟩ (fun r27 hr27 => ?_)
  obtain ⟨hr27, er27⟩ := hr27
  refine lv_istore (lv' := [(4, .int r27), (0, .ref (γ.2.2.2 11)), (1, .int x1), (2, .int x2), (3, .int x3)]) hx hb dOperators_unary_8 hl (by decide) rfl (fun ls hl => ?_)
  refine lv_iload_n hx hb dOperators_unary_10 rfl (lv_at hl 3 rfl) ?_
  refine lv_if_ne (tgt := 39) hx hb dOperators_unary_11 (by decide) (fun c28 => ?_) (fun c28 => ?_)
  · refine lv_iload hx hb dOperators_unary_39 (lv_at hl 0 rfl) ?_
    refine lv_iconst (v := 2) hx hb dOperators_unary_41 (by decide) ?_
    refine lv_icmp_ne (tgt := 49) hx hb dOperators_unary_42 (by decide) (fun c29 => ?_) (fun c29 => ?_)
    · refine lv_iconst (v := 0) hx hb dOperators_unary_49 (by decide) ?_
      exact J50 ls _ _ φ ψ x1 x2 x3 r27 0 hG hS (by subst er27; exact hO.tr ((if_neg c28).trans (if_neg c29))) (lv_sub hl [1, 2, 3, 4, 0] rfl)
    · refine lv_iconst (v := 1) hx hb dOperators_unary_45 (by decide) ?_
      refine lv_goto (tgt := 50) hx hb dOperators_unary_46 (by decide) ?_
      exact J50 ls _ _ φ ψ x1 x2 x3 r27 1 hG hS (by subst er27; exact hO.tr ((if_neg c28).trans (if_pos c29))) (lv_sub hl [1, 2, 3, 4, 0] rfl)
  · refine lv_iload hx hb dOperators_unary_14 (lv_at hl 0 rfl) ?_
    refine lv_iconst (v := 1) hx hb dOperators_unary_16 (by decide) ?_
    refine lv_icmp_eq (tgt := 31) hx hb dOperators_unary_17 (by decide) (fun c30 => ?_) (fun c30 => ?_)
    · exact J31 ls _ _ φ ψ x1 x2 x3 r27 hG hS (by subst er27; exact hO.tr ((if_pos c28).trans (if_pos c30))) (lv_sub hl [1, 2, 3, 4, 0] rfl)
    · refine lv_iload hx hb dOperators_unary_20 (lv_at hl 0 rfl) ?_
      refine lv_if_eq (tgt := 31) hx hb dOperators_unary_22 (by decide) (fun c31 => ?_) (fun c31 => ?_)
      · exact J31 ls _ _ φ ψ x1 x2 x3 r27 hG hS (by subst er27; exact hO.tr ((if_pos c28).trans ((if_neg c30).trans (if_pos c31)))) (lv_sub hl [1, 2, 3, 4, 0] rfl)
      · refine lv_iload hx hb dOperators_unary_25 (lv_at hl 0 rfl) ?_
        refine lv_iconst (v := 3) hx hb dOperators_unary_27 (by decide) ?_
        refine lv_icmp_ne (tgt := 35) hx hb dOperators_unary_28 (by decide) (fun c32 => ?_) (fun c32 => ?_)
        · refine lv_iconst (v := 0) hx hb dOperators_unary_35 (by decide) ?_
          refine lv_goto (tgt := 50) hx hb dOperators_unary_36 (by decide) ?_
          exact J50 ls _ _ φ ψ x1 x2 x3 r27 0 hG hS (by subst er27; exact hO.tr ((if_pos c28).trans ((if_neg c30).trans ((if_neg c31).trans (if_neg c32))))) (lv_sub hl [1, 2, 3, 4, 0] rfl)
        · exact J31 ls _ _ φ ψ x1 x2 x3 r27 hG hS (by subst er27; exact hO.tr ((if_pos c28).trans ((if_neg c30).trans ((if_neg c31).trans (if_pos c32))))) (lv_sub hl [1, 2, 3, 4, 0] rfl)

def P_Operators_combine_88 (κ : Nat → Nat) (φ : gF) (ψ : gG) (i1 : Int32) (i2 : Int32) (i3 : Int32) (i4 : Int32) (t0 : Int32) (t1 : Int32) : gF × gG := ((up φ 9 (P_Looks_setNumber (κ 7) (φ 9) t1 t0)), ψ)
def P_Operators_combine_77 (κ : Nat → Nat) (φ : gF) (ψ : gG) (i1 : Int32) (i2 : Int32) (i3 : Int32) (i4 : Int32) (t0 : Int32) (t1 : Int32) (t2 : Int32) (t3 : Int32) : gF × gG := (if (P_Logic_ofTruths t2 t1 t0) = 0 then (P_Operators_combine_88 κ  φ ψ i1 i2 i3 i4 0 t3) else (P_Operators_combine_88 κ  φ ψ i1 i2 i3 i4 1 t3))
def P_Operators_combine_59 (κ : Nat → Nat) (φ : gF) (ψ : gG) (i1 : Int32) (i2 : Int32) (i3 : Int32) (i4 : Int32) (t0 : Int32) (t1 : Int32) (t2 : Int32) : gF × gG := (if (P_Looks_numberOf (κ 7) (φ 9) i4) = 1 then (P_Operators_combine_77 κ  φ ψ i1 i2 i3 i4 1 t0 t1 t2) else (P_Operators_combine_77 κ  φ ψ i1 i2 i3 i4 0 t0 t1 t2))
def P_Operators_combine_129 (κ : Nat → Nat) : Nat → gF → gG → Int32 → Int32 → Int32 → Int32 → Int32 → gF × gG
  | 0, _, _, _, _, _, _, _ => default
  | n + 1, φ, ψ, i1, i2, i3, i4, i5 => (if (P_Looks_extentOf (κ 7) (φ 9) i1) ≤ i5 then (φ, ψ) else (P_Operators_combine_129 κ n φ (up ψ 10 (P_Rows_set (κ 10) (ψ 10) i1 i5 (P_Logic_ofSigns i2 (P_Rows_get (κ 10) (ψ 10) i3 i5) (P_Rows_get (κ 10) (ψ 10) i4 i5)))) i1 i2 i3 i4 (i5 + 1)))
def P_Operators_combine (κ : Nat → Nat) (φ : gF) (ψ : gG) (x1 : Int32) (x2 : Int32) (x3 : Int32) (x4 : Int32) : gF × gG := (if (P_Looks_classOf (κ 7) (φ 9) x1) = 0 then ((up φ 9 (P_Looks_setNumber (κ 7) (φ 9) x1 (P_Logic_ofSigns x2 (P_Looks_numberOf (κ 7) (φ 9) x3) (P_Looks_numberOf (κ 7) (φ 9) x4)))), ψ) else (if (P_Looks_classOf (κ 7) (φ 9) x1) = 1 then (if (P_Looks_numberOf (κ 7) (φ 9) x3) = 1 then (P_Operators_combine_59 κ  φ ψ x1 x2 x3 x4 1 x2 x1) else (P_Operators_combine_59 κ  φ ψ x1 x2 x3 x4 0 x2 x1)) else (P_Operators_combine_129 κ  ((2147483647 - (0 : Int32).toInt).toNat + 1) φ ψ x1 x2 x3 x4 0)))
set_option maxHeartbeats 4000000 in
set_option maxRecDepth 100000 in
theorem f_Operators_combine (l : Launch) (γ : gE) (A : Nat → Prop) (κ : Nat → Nat) (φ : gF) (ψ : gG) (x1 : Int32) (x2 : Int32) (x3 : Int32) (x4 : Int32) : MU l yOperators_combine bOperators_combine 6 (none) 3 63 0 0 [.ref (γ.2.2.2 11), .int x1, .int x2, .int x3, .int x4] γ A (INVF γ A κ φ ψ) (mQv (fun H => INVF γ A κ (P_Operators_combine κ φ ψ x1 x2 x3 x4).1 (P_Operators_combine κ φ ψ x1 x2 x3 x4).2 H) A) := by
  refine mu_openV (by decide) (Nat.le_of_ble_eq_true rfl) ?_
  intro p e s m args below meth c ls Q S hnm hC hA hG hE hl
  obtain ⟨hx, hb, hml, hown, hW⟩ := id S
  have hI := inv_of hG
  have hS : va_S A s.heap s.heap [] := va_S.rf
  have hl : lv_has ls 6 [(0, .ref (γ.2.2.2 11)), (1, .int x1), (2, .int x2), (3, .int x3), (4, .int x4)] := hl
  obtain ⟨OUT, hQ, hO⟩ : ∃ z, (z = P_Operators_combine κ φ ψ x1 x2 x3 x4) ∧ Oq z (P_Operators_combine κ φ ψ x1 x2 x3 x4) := ⟨_, rfl, rfl⟩
  rw [← hQ] at hE
  clear hQ
  have J129 : ∀ (N129 : Nat) (ls : Array Slot) (H : Heap) (locs : List Loc) (φ : gF) (ψ : gG) (i1 : Int32) (i2 : Int32) (i3 : Int32) (i4 : Int32) (i5 : Int32), INVF γ A κ φ ψ H → va_S A s.heap H locs → (Oq OUT (P_Operators_combine_129 κ  (N129 + 1) φ ψ i1 i2 i3 i4 i5)) → (2147483647 - i5.toInt).toNat = N129 → lv_has ls 6 [(0, .ref (γ.2.2.2 11)), (1, .int i1), (2, .int i2), (3, .int i3), (4, .int i4), (5, .int i5)] → W p l e (bs_rm 3 0 0 63) s m args below meth c H locs 0 0 Q (F0 m 129 ls []) := by
    intro N129
    induction N129 using Nat.strongRecOn with
    | ind N129 ih129 =>
      intro ls H locs φ ψ i1 i2 i3 i4 i5 hG hS hO hm129 hl
      have hI := inv_of hG
      refine lv_iload hx hb dOperators_combine_129 (lv_at hl 5 rfl) ?_
      refine lv_aload_n hx hb dOperators_combine_131 rfl (lv_at hl 0 rfl) ?_
      refine of_get S hC (of_11_0 hI) in_Operators rfl (by decide) qw_46160f6e07 dOperators_combine_132 ?_
      refine lv_iload_n hx hb dOperators_combine_135 rfl (lv_at hl 1 rfl) ?_
      refine pu_Vi (rest := [.int i5]) S hC (f9_Looks_extentOf l γ A κ φ ψ i1) meLooks_extentOf qw_b0051a6c7a ⟨Nat.le_of_ble_eq_true rfl, Nat.le_of_ble_eq_true rfl⟩ (rv_9 hC hI) hG rfl hl.1 rfl (Nat.le_of_ble_eq_true rfl) dOperators_combine_136 ⟨Nat.zero_le _, Nat.zero_le _⟩ (fun r25 hr25 => ?_)
      obtain ⟨hr25, er25⟩ := hr25
      refine lv_icmp_ge (tgt := 192) hx hb dOperators_combine_139 (by decide) (fun c26 => ?_) (fun c26 => ?_)
      · exact hE _ _ _ _ hS (by have hO2 : Oq OUT (φ, ψ) := (by subst er25; exact hO.tr (if_pos c26)); rw [hO2.eq]; exact hG) dOperators_combine_192
      · refine lv_aload_n hx hb dOperators_combine_142 rfl (lv_at hl 0 rfl) ?_
        refine of_get S hC (of_11_0 hI) in_Operators rfl (by decide) qw_46160f6e07 dOperators_combine_143 ?_
        refine of_getN S hC (of_9_5 hI) in_Looks rfl (by decide) qn_de7362ca2e dOperators_combine_146 ?_
        refine lv_iload_n hx hb dOperators_combine_149 rfl (lv_at hl 1 rfl) ?_
        refine lv_iload hx hb dOperators_combine_150 (lv_at hl 5 rfl) ?_
        refine lv_iload_n hx hb dOperators_combine_152 rfl (lv_at hl 2 rfl) ?_
        refine lv_aload_n hx hb dOperators_combine_153 rfl (lv_at hl 0 rfl) ?_
        refine of_get S hC (of_11_0 hI) in_Operators rfl (by decide) qw_46160f6e07 dOperators_combine_154 ?_
        refine of_getN S hC (of_9_5 hI) in_Looks rfl (by decide) qn_de7362ca2e dOperators_combine_157 ?_
        refine lv_iload_n hx hb dOperators_combine_160 rfl (lv_at hl 3 rfl) ?_
        refine lv_iload hx hb dOperators_combine_161 (lv_at hl 5 rfl) ?_
        refine pu_Vi (rest := [.int i2, .int i5, .int i1, .ref (γ.2.2.2 10)]) S hC (f10_Rows_get l γ A κ φ ψ i3 i5) meRows_get qw_2b8ebea4b9 ⟨Nat.le_of_ble_eq_true rfl, Nat.le_of_ble_eq_true rfl⟩ (rv_10 hC hI) hG rfl hl.1 rfl (Nat.le_of_ble_eq_true rfl) dOperators_combine_163 ⟨Nat.zero_le _, Nat.zero_le _⟩ (fun r27 hr27 => ?_)
        obtain ⟨hr27, er27⟩ := hr27
        refine lv_aload_n hx hb dOperators_combine_166 rfl (lv_at hl 0 rfl) ?_
        refine of_get S hC (of_11_0 hI) in_Operators rfl (by decide) qw_46160f6e07 dOperators_combine_167 ?_
        refine of_getN S hC (of_9_5 hI) in_Looks rfl (by decide) qn_de7362ca2e dOperators_combine_170 ?_
        refine lv_iload hx hb dOperators_combine_173 (lv_at hl 4 rfl) ?_
        refine lv_iload hx hb dOperators_combine_175 (lv_at hl 5 rfl) ?_
        refine pu_Vi (rest := [.int r27, .int i2, .int i5, .int i1, .ref (γ.2.2.2 10)]) S hC (f10_Rows_get l γ A κ φ ψ i4 i5) meRows_get qw_2b8ebea4b9 ⟨Nat.le_of_ble_eq_true rfl, Nat.le_of_ble_eq_true rfl⟩ (rv_10 hC hI) hG rfl hl.1 rfl (Nat.le_of_ble_eq_true rfl) dOperators_combine_177 ⟨Nat.zero_le _, Nat.zero_le _⟩ (fun r28 hr28 => ?_)
        obtain ⟨hr28, er28⟩ := hr28
        refine pu_Si (rest := [.int i5, .int i1, .ref (γ.2.2.2 10)]) S hC (f_Logic_ofSigns l γ (INVF γ A κ φ ψ) i2 r27 r28) meLogic_ofSigns qw_a4407ee8b0 ⟨Nat.le_of_ble_eq_true rfl, Nat.le_of_ble_eq_true rfl⟩ hG rfl hl.1 rfl (Nat.le_of_ble_eq_true rfl) dOperators_combine_180 ⟨Nat.zero_le _, Nat.zero_le _⟩ (fun r29 hr29 => ?_)
        obtain ⟨hr29, er29⟩ := hr29
        refine mu_Vv (rest := []) S hC (fun q h => hA q (Nat.le_trans hS.1 h)) (fun q h => h) hS (f10_Rows_set l γ A κ φ ψ i1 i5 r29) meRows_set qw_33d0c54276 ⟨Nat.le_of_ble_eq_true rfl, Nat.le_of_ble_eq_true rfl⟩ (rv_10 hC hI) hG rfl hl.1 rfl (Nat.le_of_ble_eq_true rfl) dOperators_combine_183 ⟨Nat.le_refl _, Nat.le_refl _⟩ (fun H locs hG hS _ _ => ?_)
        obtain ⟨ψ31, eψ31⟩ : ∃ z : gG, z = up ψ 10 (P_Rows_set (κ 10) (ψ 10) i1 i5 r29) := ⟨_, rfl⟩
        rw [← eψ31] at hG
        have hI := inv_of hG
        obtain ⟨v32, ev32⟩ : ∃ y : Int32, y = i5 + 1 := ⟨_, rfl⟩
        refine lv_iinc (v := v32) (lv' := [(5, .int v32), (0, .ref (γ.2.2.2 11)), (1, .int i1), (2, .int i2), (3, .int i3), (4, .int i4)]) hx hb dOperators_combine_186 hl (k := 5) rfl (by rw [ev32]; rfl) (by decide) rfl (fun ls hl => ?_)
        refine lv_goto (tgt := 129) hx hb dOperators_combine_189 (by decide) ?_
        exact ih129 _ (by have q1 : i5.toInt < 2147483647 := (by first | exact (mu_up (k := i5) (by assumption)).2 | assumption); have q2 := mu_lt q1; rw [← ev32] at q2; omega) ls _ _ φ ψ31 i1 i2 i3 i4 v32 hG hS (by have hN : N129 = (2147483647 - v32.toInt).toNat + 1 := (by have q1 : i5.toInt < 2147483647 := (by first | exact (mu_up (k := i5) (by assumption)).2 | assumption); have q2 := mu_lt q1; rw [← ev32] at q2; omega); rw [← hN]; clear hN; subst ev32 eψ31 er29 er28 er27 er25; exact hO.tr (if_neg c26)) rfl (lv_sub hl [1, 2, 3, 4, 5, 0] rfl)
  have J88 : ∀ (ls : Array Slot) (H : Heap) (locs : List Loc) (φ : gF) (ψ : gG) (i1 : Int32) (i2 : Int32) (i3 : Int32) (i4 : Int32) (t0 : Int32) (t1 : Int32), INVF γ A κ φ ψ H → va_S A s.heap H locs → (Oq OUT (P_Operators_combine_88 κ   φ ψ i1 i2 i3 i4 t0 t1)) → lv_has ls 6 [(0, .ref (γ.2.2.2 11)), (1, .int i1), (2, .int i2), (3, .int i3), (4, .int i4)] → W p l e (bs_rm 3 0 0 63) s m args below meth c H locs 0 0 Q (F0 m 88 ls [.int t0, .int t1, .ref (γ.2.2.2 9)]) := by
    intro ls H locs φ ψ i1 i2 i3 i4 t0 t1 hG hS hO hl
    have hI := inv_of hG
    refine mu_Vv (rest := []) S hC (fun q h => hA q (Nat.le_trans hS.1 h)) (fun q h => h) hS (f9_Looks_setNumber l γ A κ φ ψ t1 t0) meLooks_setNumber qw_6899d83413 ⟨Nat.le_of_ble_eq_true rfl, Nat.le_of_ble_eq_true rfl⟩ (rv_9 hC hI) hG rfl hl.1 rfl (Nat.le_of_ble_eq_true rfl) dOperators_combine_88 ⟨Nat.le_refl _, Nat.le_refl _⟩ (fun H locs hG hS _ _ => ?_)
    obtain ⟨φ34, eφ34⟩ : ∃ z : gF, z = up φ 9 (P_Looks_setNumber (κ 7) (φ 9) t1 t0) := ⟨_, rfl⟩
    rw [← eφ34] at hG
    have hI := inv_of hG
    refine lv_goto (tgt := 192) hx hb dOperators_combine_91 (by decide) ?_
    exact hE _ _ _ _ hS (by have hO2 : Oq OUT (φ34, ψ) := (by subst eφ34; exact hO.tr rfl); rw [hO2.eq]; exact hG) dOperators_combine_192
  have J77 : ∀ (ls : Array Slot) (H : Heap) (locs : List Loc) (φ : gF) (ψ : gG) (i1 : Int32) (i2 : Int32) (i3 : Int32) (i4 : Int32) (t0 : Int32) (t1 : Int32) (t2 : Int32) (t3 : Int32), INVF γ A κ φ ψ H → va_S A s.heap H locs → (Oq OUT (P_Operators_combine_77 κ   φ ψ i1 i2 i3 i4 t0 t1 t2 t3)) → lv_has ls 6 [(0, .ref (γ.2.2.2 11)), (1, .int i1), (2, .int i2), (3, .int i3), (4, .int i4)] → W p l e (bs_rm 3 0 0 63) s m args below meth c H locs 0 0 Q (F0 m 77 ls [.int t0, .int t1, .int t2, .int t3, .ref (γ.2.2.2 9)]) := by
    intro ls H locs φ ψ i1 i2 i3 i4 t0 t1 t2 t3 hG hS hO hl
    have hI := inv_of hG
    refine pu_Si (rest := [.int t3, .ref (γ.2.2.2 9)]) S hC (f_Logic_ofTruths l γ (INVF γ A κ φ ψ) t2 t1 t0) meLogic_ofTruths qw_e9b8c9b1e9 ⟨Nat.le_of_ble_eq_true rfl, Nat.le_of_ble_eq_true rfl⟩ hG rfl hl.1 rfl (Nat.le_of_ble_eq_true rfl) dOperators_combine_77 ⟨Nat.zero_le _, Nat.zero_le _⟩ (fun r35 hr35 => ?_)
    obtain ⟨hr35, er35⟩ := hr35
    refine lv_if_eq (tgt := 87) hx hb dOperators_combine_80 (by decide) (fun c36 => ?_) (fun c36 => ?_)
    · refine lv_iconst (v := 0) hx hb dOperators_combine_87 (by decide) ?_
      exact J88 ls _ _ φ ψ i1 i2 i3 i4 0 t3 hG hS (by subst er35; exact hO.tr (if_pos c36)) (lv_sub hl [0, 1, 2, 3, 4] rfl)
    · refine lv_iconst (v := 1) hx hb dOperators_combine_83 (by decide) ?_
      refine lv_goto (tgt := 88) hx hb dOperators_combine_84 (by decide) ?_
      exact J88 ls _ _ φ ψ i1 i2 i3 i4 1 t3 hG hS (by subst er35; exact hO.tr (if_neg c36)) (lv_sub hl [0, 1, 2, 3, 4] rfl)
  have J59 : ∀ (ls : Array Slot) (H : Heap) (locs : List Loc) (φ : gF) (ψ : gG) (i1 : Int32) (i2 : Int32) (i3 : Int32) (i4 : Int32) (t0 : Int32) (t1 : Int32) (t2 : Int32), INVF γ A κ φ ψ H → va_S A s.heap H locs → (Oq OUT (P_Operators_combine_59 κ   φ ψ i1 i2 i3 i4 t0 t1 t2)) → lv_has ls 6 [(0, .ref (γ.2.2.2 11)), (1, .int i1), (2, .int i2), (3, .int i3), (4, .int i4)] → W p l e (bs_rm 3 0 0 63) s m args below meth c H locs 0 0 Q (F0 m 59 ls [.int t0, .int t1, .int t2, .ref (γ.2.2.2 9)]) := by
    intro ls H locs φ ψ i1 i2 i3 i4 t0 t1 t2 hG hS hO hl
    have hI := inv_of hG
    refine lv_aload_n hx hb dOperators_combine_59 rfl (lv_at hl 0 rfl) ?_
    refine of_get S hC (of_11_0 hI) in_Operators rfl (by decide) qw_46160f6e07 dOperators_combine_60 ?_
    refine lv_iload hx hb dOperators_combine_63 (lv_at hl 4 rfl) ?_
    refine pu_Vi (rest := [.int t0, .int t1, .int t2, .ref (γ.2.2.2 9)]) S hC (f9_Looks_numberOf l γ A κ φ ψ i4) meLooks_numberOf qw_567f1aae5f ⟨Nat.le_of_ble_eq_true rfl, Nat.le_of_ble_eq_true rfl⟩ (rv_9 hC hI) hG rfl hl.1 rfl (Nat.le_of_ble_eq_true rfl) dOperators_combine_65 ⟨Nat.zero_le _, Nat.zero_le _⟩ (fun r37 hr37 => ?_)
    obtain ⟨hr37, er37⟩ := hr37
    refine lv_iconst (v := 1) hx hb dOperators_combine_68 (by decide) ?_
    refine lv_icmp_ne (tgt := 76) hx hb dOperators_combine_69 (by decide) (fun c38 => ?_) (fun c38 => ?_)
    · refine lv_iconst (v := 0) hx hb dOperators_combine_76 (by decide) ?_
      exact J77 ls _ _ φ ψ i1 i2 i3 i4 0 t0 t1 t2 hG hS (by subst er37; exact hO.tr (if_neg c38)) (lv_sub hl [0, 1, 2, 3, 4] rfl)
    · refine lv_iconst (v := 1) hx hb dOperators_combine_72 (by decide) ?_
      refine lv_goto (tgt := 77) hx hb dOperators_combine_73 (by decide) ?_
      exact J77 ls _ _ φ ψ i1 i2 i3 i4 1 t0 t1 t2 hG hS (by subst er37; exact hO.tr (if_pos c38)) (lv_sub hl [0, 1, 2, 3, 4] rfl)
  refine lv_aload_n hx hb dOperators_combine_0 rfl (lv_at hl 0 rfl) ?_
  refine of_get S hC (of_11_0 hI) in_Operators rfl (by decide) qw_46160f6e07 dOperators_combine_1 ?_
  refine lv_iload_n hx hb dOperators_combine_4 rfl (lv_at hl 1 rfl) ?_
  refine pu_Vi (rest := []) S hC (f9_Looks_classOf l γ A κ φ ψ x1) meLooks_classOf qw_2e1b0e0eff ⟨Nat.le_of_ble_eq_true rfl, Nat.le_of_ble_eq_true rfl⟩ (rv_9 hC hI) hG rfl hl.1 rfl (Nat.le_of_ble_eq_true rfl) dOperators_combine_5 ⟨Nat.zero_le _, Nat.zero_le _⟩ (fun r39 hr39 => ?_)
  obtain ⟨hr39, er39⟩ := hr39
  by_cases k40 : r39 = 0
  · rw [k40]
    refine lv_lookup (tgt := 94) hx hb dOperators_combine_8 (by decide) rfl (by decide) ?_
    refine lv_aload_n hx hb dOperators_combine_94 rfl (lv_at hl 0 rfl) ?_
    refine of_get S hC (of_11_0 hI) in_Operators rfl (by decide) qw_46160f6e07 dOperators_combine_95 ?_
    refine lv_iload_n hx hb dOperators_combine_98 rfl (lv_at hl 1 rfl) ?_
    refine lv_iload_n hx hb dOperators_combine_99 rfl (lv_at hl 2 rfl) ?_
    refine lv_aload_n hx hb dOperators_combine_100 rfl (lv_at hl 0 rfl) ?_
    refine of_get S hC (of_11_0 hI) in_Operators rfl (by decide) qw_46160f6e07 dOperators_combine_101 ?_
    refine lv_iload_n hx hb dOperators_combine_104 rfl (lv_at hl 3 rfl) ?_
    refine pu_Vi (rest := [.int x2, .int x1, .ref (γ.2.2.2 9)]) S hC (f9_Looks_numberOf l γ A κ φ ψ x3) meLooks_numberOf qw_567f1aae5f ⟨Nat.le_of_ble_eq_true rfl, Nat.le_of_ble_eq_true rfl⟩ (rv_9 hC hI) hG rfl hl.1 rfl (Nat.le_of_ble_eq_true rfl) dOperators_combine_105 ⟨Nat.zero_le _, Nat.zero_le _⟩ (fun r41 hr41 => ?_)
    obtain ⟨hr41, er41⟩ := hr41
    refine lv_aload_n hx hb dOperators_combine_108 rfl (lv_at hl 0 rfl) ?_
    refine of_get S hC (of_11_0 hI) in_Operators rfl (by decide) qw_46160f6e07 dOperators_combine_109 ?_
    refine lv_iload hx hb dOperators_combine_112 (lv_at hl 4 rfl) ?_
    refine pu_Vi (rest := [.int r41, .int x2, .int x1, .ref (γ.2.2.2 9)]) S hC (f9_Looks_numberOf l γ A κ φ ψ x4) meLooks_numberOf qw_567f1aae5f ⟨Nat.le_of_ble_eq_true rfl, Nat.le_of_ble_eq_true rfl⟩ (rv_9 hC hI) hG rfl hl.1 rfl (Nat.le_of_ble_eq_true rfl) dOperators_combine_114 ⟨Nat.zero_le _, Nat.zero_le _⟩ (fun r42 hr42 => ?_)
    obtain ⟨hr42, er42⟩ := hr42
    refine pu_Si (rest := [.int x1, .ref (γ.2.2.2 9)]) S hC (f_Logic_ofSigns l γ (INVF γ A κ φ ψ) x2 r41 r42) meLogic_ofSigns qw_a4407ee8b0 ⟨Nat.le_of_ble_eq_true rfl, Nat.le_of_ble_eq_true rfl⟩ hG rfl hl.1 rfl (Nat.le_of_ble_eq_true rfl) dOperators_combine_117 ⟨Nat.zero_le _, Nat.zero_le _⟩ (fun r43 hr43 => ?_)
    obtain ⟨hr43, er43⟩ := hr43
    refine mu_Vv (rest := []) S hC (fun q h => hA q (Nat.le_trans hS.1 h)) (fun q h => h) hS (f9_Looks_setNumber l γ A κ φ ψ x1 r43) meLooks_setNumber qw_6899d83413 ⟨Nat.le_of_ble_eq_true rfl, Nat.le_of_ble_eq_true rfl⟩ (rv_9 hC hI) hG rfl hl.1 rfl (Nat.le_of_ble_eq_true rfl) dOperators_combine_120 ⟨Nat.le_refl _, Nat.le_refl _⟩ (fun H locs hG hS _ _ => ?_)
    obtain ⟨φ45, eφ45⟩ : ∃ z : gF, z = up φ 9 (P_Looks_setNumber (κ 7) (φ 9) x1 r43) := ⟨_, rfl⟩
    rw [← eφ45] at hG
    have hI := inv_of hG
    refine lv_goto (tgt := 192) hx hb dOperators_combine_123 (by decide) ?_
    exact hE _ _ _ _ hS (by have hO2 : Oq OUT (φ45, ψ) := (by subst eφ45 er43 er42 er41 er39; exact hO.tr (if_pos k40)); rw [hO2.eq]; exact hG) dOperators_combine_192
  by_cases k46 : r39 = 1
  · rw [k46]
    refine lv_lookup (tgt := 36) hx hb dOperators_combine_8 (by decide) rfl (by decide) ?_
    refine lv_aload_n hx hb dOperators_combine_36 rfl (lv_at hl 0 rfl) ?_
    refine of_get S hC (of_11_0 hI) in_Operators rfl (by decide) qw_46160f6e07 dOperators_combine_37 ?_
    refine lv_iload_n hx hb dOperators_combine_40 rfl (lv_at hl 1 rfl) ?_
    refine lv_iload_n hx hb dOperators_combine_41 rfl (lv_at hl 2 rfl) ?_
    refine lv_aload_n hx hb dOperators_combine_42 rfl (lv_at hl 0 rfl) ?_
    refine of_get S hC (of_11_0 hI) in_Operators rfl (by decide) qw_46160f6e07 dOperators_combine_43 ?_
    refine lv_iload_n hx hb dOperators_combine_46 rfl (lv_at hl 3 rfl) ?_
    refine pu_Vi (rest := [.int x2, .int x1, .ref (γ.2.2.2 9)]) S hC (f9_Looks_numberOf l γ A κ φ ψ x3) meLooks_numberOf qw_567f1aae5f ⟨Nat.le_of_ble_eq_true rfl, Nat.le_of_ble_eq_true rfl⟩ (rv_9 hC hI) hG rfl hl.1 rfl (Nat.le_of_ble_eq_true rfl) dOperators_combine_47 ⟨Nat.zero_le _, Nat.zero_le _⟩ (fun r47 hr47 => ?_)
    obtain ⟨hr47, er47⟩ := hr47
    refine lv_iconst (v := 1) hx hb dOperators_combine_50 (by decide) ?_
    refine lv_icmp_ne (tgt := 58) hx hb dOperators_combine_51 (by decide) (fun c48 => ?_) (fun c48 => ?_)
    · refine lv_iconst (v := 0) hx hb dOperators_combine_58 (by decide) ?_
      exact J59 ls _ _ φ ψ x1 x2 x3 x4 0 x2 x1 hG hS (by subst er47 er39; exact hO.tr ((if_neg k40).trans ((if_pos k46).trans (if_neg c48)))) (lv_sub hl [0, 1, 2, 3, 4] rfl)
    · refine lv_iconst (v := 1) hx hb dOperators_combine_54 (by decide) ?_
      refine lv_goto (tgt := 59) hx hb dOperators_combine_55 (by decide) ?_
      exact J59 ls _ _ φ ψ x1 x2 x3 x4 1 x2 x1 hG hS (by subst er47 er39; exact hO.tr ((if_neg k40).trans ((if_pos k46).trans (if_pos c48)))) (lv_sub hl [0, 1, 2, 3, 4] rfl)
  refine lv_lookup (off := 118) (tgt := 126) hx hb dOperators_combine_8 (by decide) ((lv_osw k40 (by decide)).trans ((lv_osw k46 (by decide)).trans rfl)) (by decide) ?_
  refine lv_iconst (v := 0) hx hb dOperators_combine_126 (by decide) ?_
  refine lv_istore (lv' := [(5, .int 0), (0, .ref (γ.2.2.2 11)), (1, .int x1), (2, .int x2), (3, .int x3), (4, .int x4)]) hx hb dOperators_combine_127 hl (by decide) rfl (fun ls hl => ?_)
  exact J129 _ ls _ _ φ ψ x1 x2 x3 x4 0 hG hS (by subst er39; exact hO.tr ((if_neg k40).trans (if_neg k46))) rfl (lv_sub hl [1, 2, 3, 4, 5, 0] rfl)

def P_Operators_sumRows_27 (κ : Nat → Nat) (φ : gF) (ψ : gG) (i1 : Int32) (i2 : Int32) (i3 : Int32) (i4 : Int32) (i5 : Int32) : gF × gG := (φ, (up ψ 10 (P_Rows_setAll (κ 10) (ψ 10) i1 i5 1)))
def P_Operators_sumRows_75 (κ : Nat → Nat) (φ : gF) (ψ : gG) (i1 : Int32) (i2 : Int32) (i3 : Int32) (i4 : Int32) (i5 : Int32) (t0 : Int64) : gF × gG := (φ, (up ψ 10 (P_Rows_setBits (κ 10) (ψ 10) i1 i5 t0)))
def P_Operators_sumRows (κ : Nat → Nat) (φ : gF) (ψ : gG) (x1 : Int32) (x2 : Int32) (x3 : Int32) (x4 : Int32) : gF × gG := (if (P_Operators_isClear κ φ ψ x3) = 0 then (P_Operators_sumRows_27 κ  φ ψ x1 x2 x3 x4 (P_Looks_extentOf (κ 7) (φ 9) x1)) else (if (P_Operators_isClear κ φ ψ x4) = 0 then (P_Operators_sumRows_27 κ  φ ψ x1 x2 x3 x4 (P_Looks_extentOf (κ 7) (φ 9) x1)) else (if x2 = 12 then (P_Operators_sumRows_75 κ  φ ψ x1 x2 x3 x4 (P_Looks_extentOf (κ 7) (φ 9) x1) ((P_Operators_countsAs κ φ ψ x3) + (P_Operators_countsAs κ φ ψ x4))) else (P_Operators_sumRows_75 κ  φ ψ x1 x2 x3 x4 (P_Looks_extentOf (κ 7) (φ 9) x1) ((P_Operators_countsAs κ φ ψ x3) - (P_Operators_countsAs κ φ ψ x4))))))
set_option maxHeartbeats 4000000 in
set_option maxRecDepth 100000 in
theorem f_Operators_sumRows (l : Launch) (γ : gE) (A : Nat → Prop) (κ : Nat → Nat) (φ : gF) (ψ : gG) (x1 : Int32) (x2 : Int32) (x3 : Int32) (x4 : Int32) : MU l yOperators_sumRows bOperators_sumRows 8 (none) 3 68 0 0 [.ref (γ.2.2.2 11), .int x1, .int x2, .int x3, .int x4] γ A (INVF γ A κ φ ψ) (mQv (fun H => INVF γ A κ (P_Operators_sumRows κ φ ψ x1 x2 x3 x4).1 (P_Operators_sumRows κ φ ψ x1 x2 x3 x4).2 H) A) := by
  refine mu_openV (by decide) (Nat.le_of_ble_eq_true rfl) ?_
  intro p e s m args below meth c ls Q S hnm hC hA hG hE hl
  obtain ⟨hx, hb, hml, hown, hW⟩ := id S
  have hI := inv_of hG
  have hS : va_S A s.heap s.heap [] := va_S.rf
  have hl : lv_has ls 8 [(0, .ref (γ.2.2.2 11)), (1, .int x1), (2, .int x2), (3, .int x3), (4, .int x4)] := hl
  obtain ⟨OUT, hQ, hO⟩ : ∃ z, (z = P_Operators_sumRows κ φ ψ x1 x2 x3 x4) ∧ Oq z (P_Operators_sumRows κ φ ψ x1 x2 x3 x4) := ⟨_, rfl, rfl⟩
  rw [← hQ] at hE
  clear hQ
  have J75 : ∀ (ls : Array Slot) (H : Heap) (locs : List Loc) (φ : gF) (ψ : gG) (i1 : Int32) (i2 : Int32) (i3 : Int32) (i4 : Int32) (i5 : Int32) (t0 : Int64), INVF γ A κ φ ψ H → va_S A s.heap H locs → (Oq OUT (P_Operators_sumRows_75 κ   φ ψ i1 i2 i3 i4 i5 t0)) → lv_has ls 8 [(0, .ref (γ.2.2.2 11)), (1, .int i1), (2, .int i2), (3, .int i3), (4, .int i4), (5, .int i5)] → W p l e (bs_rm 3 0 0 68) s m args below meth c H locs 0 0 Q (F0 m 75 ls [.long t0]) := by
    intro ls H locs φ ψ i1 i2 i3 i4 i5 t0 hG hS hO hl
    have hI := inv_of hG
    refine lv_lstore (lv' := [(6, .long t0), (0, .ref (γ.2.2.2 11)), (1, .int i1), (2, .int i2), (3, .int i3), (4, .int i4), (5, .int i5)]) hx hb dOperators_sumRows_75 hl (by decide) rfl (fun ls hl => ?_)
    refine lv_aload_n hx hb dOperators_sumRows_77 rfl (lv_at hl 1 rfl) ?_
    refine of_get S hC (of_11_0 hI) in_Operators rfl (by decide) qw_46160f6e07 dOperators_sumRows_78 ?_
    refine of_getN S hC (of_9_5 hI) in_Looks rfl (by decide) qn_de7362ca2e dOperators_sumRows_81 ?_
    refine lv_iload_n hx hb dOperators_sumRows_84 rfl (lv_at hl 2 rfl) ?_
    refine lv_iload hx hb dOperators_sumRows_85 (lv_at hl 6 rfl) ?_
    refine lv_lload hx hb dOperators_sumRows_87 (lv_at hl 0 rfl) ?_
    refine mu_Vv (rest := []) S hC (fun q h => hA q (Nat.le_trans hS.1 h)) (fun q h => h) hS (f10_Rows_setBits l γ A κ φ ψ i1 i5 t0) meRows_setBits qw_df3d8c3fd5 ⟨Nat.le_of_ble_eq_true rfl, Nat.le_of_ble_eq_true rfl⟩ (rv_10 hC hI) hG rfl hl.1 rfl (Nat.le_of_ble_eq_true rfl) dOperators_sumRows_89 ⟨Nat.le_refl _, Nat.le_refl _⟩ (fun H locs hG hS _ _ => ?_)
    obtain ⟨ψ18, eψ18⟩ : ∃ z : gG, z = up ψ 10 (P_Rows_setBits (κ 10) (ψ 10) i1 i5 t0) := ⟨_, rfl⟩
    rw [← eψ18] at hG
    have hI := inv_of hG
    exact hE _ _ _ _ hS (by have hO2 : Oq OUT (φ, ψ18) := (by subst eψ18; exact hO.tr rfl); rw [hO2.eq]; exact hG) dOperators_sumRows_92
  have J27 : ∀ (ls : Array Slot) (H : Heap) (locs : List Loc) (φ : gF) (ψ : gG) (i1 : Int32) (i2 : Int32) (i3 : Int32) (i4 : Int32) (i5 : Int32), INVF γ A κ φ ψ H → va_S A s.heap H locs → (Oq OUT (P_Operators_sumRows_27 κ   φ ψ i1 i2 i3 i4 i5)) → lv_has ls 8 [(0, .ref (γ.2.2.2 11)), (1, .int i1), (2, .int i2), (3, .int i3), (4, .int i4), (5, .int i5)] → W p l e (bs_rm 3 0 0 68) s m args below meth c H locs 0 0 Q (F0 m 27 ls []) := by
    intro ls H locs φ ψ i1 i2 i3 i4 i5 hG hS hO hl
    have hI := inv_of hG
    refine lv_aload_n hx hb dOperators_sumRows_27 rfl (lv_at hl 0 rfl) ?_
    refine of_get S hC (of_11_0 hI) in_Operators rfl (by decide) qw_46160f6e07 dOperators_sumRows_28 ?_
    refine of_getN S hC (of_9_5 hI) in_Looks rfl (by decide) qn_de7362ca2e dOperators_sumRows_31 ?_
    refine lv_iload_n hx hb dOperators_sumRows_34 rfl (lv_at hl 1 rfl) ?_
    refine lv_iload hx hb dOperators_sumRows_35 (lv_at hl 5 rfl) ?_
    refine lv_iconst (v := 1) hx hb dOperators_sumRows_37 (by decide) ?_
    refine mu_Vv (rest := []) S hC (fun q h => hA q (Nat.le_trans hS.1 h)) (fun q h => h) hS (f10_Rows_setAll l γ A κ φ ψ i1 i5 1) meRows_setAll qw_a4afa0eb1b ⟨Nat.le_of_ble_eq_true rfl, Nat.le_of_ble_eq_true rfl⟩ (rv_10 hC hI) hG rfl hl.1 rfl (Nat.le_of_ble_eq_true rfl) dOperators_sumRows_38 ⟨Nat.le_refl _, Nat.le_refl _⟩ (fun H locs hG hS _ _ => ?_)
    obtain ⟨ψ20, eψ20⟩ : ∃ z : gG, z = up ψ 10 (P_Rows_setAll (κ 10) (ψ 10) i1 i5 1) := ⟨_, rfl⟩
    rw [← eψ20] at hG
    have hI := inv_of hG
    exact hE _ _ _ _ hS (by have hO2 : Oq OUT (φ, ψ20) := (by subst eψ20; exact hO.tr rfl); rw [hO2.eq]; exact hG) dOperators_sumRows_41
  refine lv_aload_n hx hb dOperators_sumRows_0 rfl (lv_at hl 0 rfl) ?_
  refine of_get S hC (of_11_0 hI) in_Operators rfl (by decide) qw_46160f6e07 dOperators_sumRows_1 ?_
  refine lv_iload_n hx hb dOperators_sumRows_4 rfl (lv_at hl 1 rfl) ?_
  refine pu_Vi (rest := []) S hC (f9_Looks_extentOf l γ A κ φ ψ x1) meLooks_extentOf qw_b0051a6c7a ⟨Nat.le_of_ble_eq_true rfl, Nat.le_of_ble_eq_true rfl⟩ (rv_9 hC hI) hG rfl hl.1 rfl (Nat.le_of_ble_eq_true rfl) dOperators_sumRows_5 ⟨Nat.zero_le _, Nat.zero_le _⟩ (fun r21 hr21 => ?_)
  obtain ⟨hr21, er21⟩ := hr21
  refine lv_istore (lv' := [(5, .int r21), (0, .ref (γ.2.2.2 11)), (1, .int x1), (2, .int x2), (3, .int x3), (4, .int x4)]) hx hb dOperators_sumRows_8 hl (by decide) rfl (fun ls hl => ?_)
  refine lv_aload_n hx hb dOperators_sumRows_10 rfl (lv_at hl 1 rfl) ?_
  refine lv_iload_n hx hb dOperators_sumRows_11 rfl (lv_at hl 4 rfl) ?_
  refine pu_Vi (rest := []) S hC (f_Operators_isClear l γ A κ φ ψ x3) meOperators_isClear qw_9422e74c3c ⟨Nat.le_of_ble_eq_true rfl, Nat.le_of_ble_eq_true rfl⟩ (rv_11 hC hI) hG rfl hl.1 rfl (Nat.le_of_ble_eq_true rfl) dOperators_sumRows_12 ⟨Nat.zero_le _, Nat.zero_le _⟩ (fun r22 hr22 => ?_)
  obtain ⟨hr22, er22⟩ := hr22
  refine lv_if_eq (tgt := 27) hx hb dOperators_sumRows_15 (by decide) (fun c23 => ?_) (fun c23 => ?_)
  · exact J27 ls _ _ φ ψ x1 x2 x3 x4 r21 hG hS (by subst er22 er21; exact hO.tr (if_pos c23)) (lv_sub hl [1, 2, 3, 4, 5, 0] rfl)
  · refine lv_aload_n hx hb dOperators_sumRows_18 rfl (lv_at hl 1 rfl) ?_
    refine lv_iload hx hb dOperators_sumRows_19 (lv_at hl 5 rfl) ?_
    refine pu_Vi (rest := []) S hC (f_Operators_isClear l γ A κ φ ψ x4) meOperators_isClear qw_9422e74c3c ⟨Nat.le_of_ble_eq_true rfl, Nat.le_of_ble_eq_true rfl⟩ (rv_11 hC hI) hG rfl hl.1 rfl (Nat.le_of_ble_eq_true rfl) dOperators_sumRows_21 ⟨Nat.zero_le _, Nat.zero_le _⟩ (fun r24 hr24 => ?_)
    obtain ⟨hr24, er24⟩ := hr24
    refine lv_if_ne (tgt := 42) hx hb dOperators_sumRows_24 (by decide) (fun c25 => ?_) (fun c25 => ?_)
    · refine lv_iload_n hx hb dOperators_sumRows_42 rfl (lv_at hl 3 rfl) ?_
      refine lv_bipush (v := 12) hx hb dOperators_sumRows_43 (by decide) ?_
      refine lv_icmp_ne (tgt := 63) hx hb dOperators_sumRows_45 (by decide) (fun c26 => ?_) (fun c26 => ?_)
      · refine lv_aload_n hx hb dOperators_sumRows_63 rfl (lv_at hl 1 rfl) ?_
        refine lv_iload_n hx hb dOperators_sumRows_64 rfl (lv_at hl 4 rfl) ?_
        refine pu_Vl (rest := []) S hC (f_Operators_countsAs l γ A κ φ ψ x3) meOperators_countsAs qw_1ec68b5307 ⟨Nat.le_of_ble_eq_true rfl, Nat.le_of_ble_eq_true rfl⟩ (rv_11 hC hI) hG rfl hl.1 rfl (Nat.le_of_ble_eq_true rfl) dOperators_sumRows_65 ⟨Nat.zero_le _, Nat.zero_le _⟩ (fun r27 hr27 => ?_)
        obtain ⟨hr27, er27⟩ := hr27
        refine lv_aload_n hx hb dOperators_sumRows_68 rfl (lv_at hl 1 rfl) ?_
        refine lv_iload hx hb dOperators_sumRows_69 (lv_at hl 5 rfl) ?_
        refine pu_Vl (rest := [.long r27]) S hC (f_Operators_countsAs l γ A κ φ ψ x4) meOperators_countsAs qw_1ec68b5307 ⟨Nat.le_of_ble_eq_true rfl, Nat.le_of_ble_eq_true rfl⟩ (rv_11 hC hI) hG rfl hl.1 rfl (Nat.le_of_ble_eq_true rfl) dOperators_sumRows_71 ⟨Nat.zero_le _, Nat.zero_le _⟩ (fun r28 hr28 => ?_)
        obtain ⟨hr28, er28⟩ := hr28
        refine lv_lsub hx hb dOperators_sumRows_74 ?_
        refine lv_topl (fun v29 ev29 => ?_)
        exact J75 ls _ _ φ ψ x1 x2 x3 x4 r21 v29 hG hS (by subst ev29 er28 er27 er24 er22 er21; exact hO.tr ((if_neg c23).trans ((if_neg c25).trans (if_neg c26)))) (lv_sub hl [1, 2, 3, 4, 5, 0] rfl)
      · refine lv_aload_n hx hb dOperators_sumRows_48 rfl (lv_at hl 1 rfl) ?_
        refine lv_iload_n hx hb dOperators_sumRows_49 rfl (lv_at hl 4 rfl) ?_
        refine pu_Vl (rest := []) S hC (f_Operators_countsAs l γ A κ φ ψ x3) meOperators_countsAs qw_1ec68b5307 ⟨Nat.le_of_ble_eq_true rfl, Nat.le_of_ble_eq_true rfl⟩ (rv_11 hC hI) hG rfl hl.1 rfl (Nat.le_of_ble_eq_true rfl) dOperators_sumRows_50 ⟨Nat.zero_le _, Nat.zero_le _⟩ (fun r30 hr30 => ?_)
        obtain ⟨hr30, er30⟩ := hr30
        refine lv_aload_n hx hb dOperators_sumRows_53 rfl (lv_at hl 1 rfl) ?_
        refine lv_iload hx hb dOperators_sumRows_54 (lv_at hl 5 rfl) ?_
        refine pu_Vl (rest := [.long r30]) S hC (f_Operators_countsAs l γ A κ φ ψ x4) meOperators_countsAs qw_1ec68b5307 ⟨Nat.le_of_ble_eq_true rfl, Nat.le_of_ble_eq_true rfl⟩ (rv_11 hC hI) hG rfl hl.1 rfl (Nat.le_of_ble_eq_true rfl) dOperators_sumRows_56 ⟨Nat.zero_le _, Nat.zero_le _⟩ (fun r31 hr31 => ?_)
        obtain ⟨hr31, er31⟩ := hr31
        refine lv_ladd hx hb dOperators_sumRows_59 ?_
        refine lv_topl (fun v32 ev32 => ?_)
        refine lv_goto (tgt := 75) hx hb dOperators_sumRows_60 (by decide) ?_
        exact J75 ls _ _ φ ψ x1 x2 x3 x4 r21 v32 hG hS (by subst ev32 er31 er30 er24 er22 er21; exact hO.tr ((if_neg c23).trans ((if_neg c25).trans (if_pos c26)))) (lv_sub hl [1, 2, 3, 4, 5, 0] rfl)
    · exact J27 ls _ _ φ ψ x1 x2 x3 x4 r21 hG hS (by subst er24 er22 er21; exact hO.tr ((if_neg c23).trans (if_pos c25))) (lv_sub hl [1, 2, 3, 4, 5, 0] rfl)

def P_Operators_join_60 (κ : Nat → Nat) (k10 : gF → gG → Int32 → Int32 → Int32 → Int32 → Int32 → gF × gG) (φ : gF) (ψ : gG) (i1 : Int32) (i2 : Int32) (i3 : Int32) (i4 : Int32) (i5 : Int32) (t0 : Int32) (t1 : Int32) (t2 : Int32) : gF × gG := (k10 φ (up ψ 10 (P_Rows_set (κ 10) (ψ 10) t2 t1 t0)) i1 i2 i3 i4 (i5 + 1))
def P_Operators_join_10 (κ : Nat → Nat) : Nat → gF → gG → Int32 → Int32 → Int32 → Int32 → Int32 → gF × gG
  | 0, _, _, _, _, _, _, _ => default
  | n + 1, φ, ψ, i1, i2, i3, i4, i5 => (if (P_Looks_extentOf (κ 7) (φ 9) i1) ≤ i5 then (φ, ψ) else (if i4 ≤ i5 then (P_Operators_join_60 κ (fun a0 a1 a2 a3 a4 a5 a6 => P_Operators_join_10 κ  n a0 a1 a2 a3 a4 a5 a6) φ ψ i1 i2 i3 i4 i5 (P_Operators_elementOf κ φ ψ i2 (i5 - i4)) i5 i1) else (P_Operators_join_60 κ (fun a0 a1 a2 a3 a4 a5 a6 => P_Operators_join_10 κ  n a0 a1 a2 a3 a4 a5 a6) φ ψ i1 i2 i3 i4 i5 (P_Operators_elementOf κ φ ψ i3 i5) i5 i1)))
def P_Operators_join (κ : Nat → Nat) (φ : gF) (ψ : gG) (x1 : Int32) (x2 : Int32) (x3 : Int32) : gF × gG := (P_Operators_join_10 κ  ((2147483647 - (0 : Int32).toInt).toNat + 1) φ ψ x1 x2 x3 (P_Operators_widthOf κ φ ψ x3) 0)
set_option maxHeartbeats 4000000 in
set_option maxRecDepth 100000 in
theorem f_Operators_join (l : Launch) (γ : gE) (A : Nat → Prop) (κ : Nat → Nat) (φ : gF) (ψ : gG) (x1 : Int32) (x2 : Int32) (x3 : Int32) : MU l yOperators_join bOperators_join 6 (none) 3 64 0 0 [.ref (γ.2.2.2 11), .int x1, .int x2, .int x3] γ A (INVF γ A κ φ ψ) (mQv (fun H => INVF γ A κ (P_Operators_join κ φ ψ x1 x2 x3).1 (P_Operators_join κ φ ψ x1 x2 x3).2 H) A) := by
  refine mu_openV (by decide) (Nat.le_of_ble_eq_true rfl) ?_
  intro p e s m args below meth c ls Q S hnm hC hA hG hE hl
  obtain ⟨hx, hb, hml, hown, hW⟩ := id S
  have hI := inv_of hG
  have hS : va_S A s.heap s.heap [] := va_S.rf
  have hl : lv_has ls 6 [(0, .ref (γ.2.2.2 11)), (1, .int x1), (2, .int x2), (3, .int x3)] := hl
  obtain ⟨OUT, hQ, hO⟩ : ∃ z, (z = P_Operators_join κ φ ψ x1 x2 x3) ∧ Oq z (P_Operators_join κ φ ψ x1 x2 x3) := ⟨_, rfl, rfl⟩
  rw [← hQ] at hE
  clear hQ
  have J10 : ∀ (N10 : Nat) (ls : Array Slot) (H : Heap) (locs : List Loc) (φ : gF) (ψ : gG) (i1 : Int32) (i2 : Int32) (i3 : Int32) (i4 : Int32) (i5 : Int32), INVF γ A κ φ ψ H → va_S A s.heap H locs → (Oq OUT (P_Operators_join_10 κ  (N10 + 1) φ ψ i1 i2 i3 i4 i5)) → (2147483647 - i5.toInt).toNat = N10 → lv_has ls 6 [(0, .ref (γ.2.2.2 11)), (1, .int i1), (2, .int i2), (3, .int i3), (4, .int i4), (5, .int i5)] → W p l e (bs_rm 3 0 0 64) s m args below meth c H locs 0 0 Q (F0 m 10 ls []) := by
    intro N10
    induction N10 using Nat.strongRecOn with
    | ind N10 ih10 =>
      intro ls H locs φ ψ i1 i2 i3 i4 i5 hG hS hO hm10 hl
      have hI := inv_of hG
      have J60 : ∀ (ls : Array Slot) (H : Heap) (locs : List Loc) (φ : gF) (ψ : gG) (i1 : Int32) (i2 : Int32) (i3 : Int32) (i4 : Int32) (i5 : Int32) (t0 : Int32) (t1 : Int32) (t2 : Int32), INVF γ A κ φ ψ H → va_S A s.heap H locs → (i5.toInt < 2147483647 ∧ (2147483647 - i5.toInt).toNat = N10) → (Oq OUT (P_Operators_join_60 κ (fun a0 a1 a2 a3 a4 a5 a6 => P_Operators_join_10 κ N10 a0 a1 a2 a3 a4 a5 a6)  φ ψ i1 i2 i3 i4 i5 t0 t1 t2)) → lv_has ls 6 [(0, .ref (γ.2.2.2 11)), (1, .int i1), (2, .int i2), (3, .int i3), (4, .int i4), (5, .int i5)] → W p l e (bs_rm 3 0 0 64) s m args below meth c H locs 0 0 Q (F0 m 60 ls [.int t0, .int t1, .int t2, .ref (γ.2.2.2 10)]) := by
        intro ls H locs φ ψ i1 i2 i3 i4 i5 t0 t1 t2 hG hS ⟨hf10a, hf10b⟩ hO hl
        have hI := inv_of hG
        refine mu_Vv (rest := []) S hC (fun q h => hA q (Nat.le_trans hS.1 h)) (fun q h => h) hS (f10_Rows_set l γ A κ φ ψ t2 t1 t0) meRows_set qw_33d0c54276 ⟨Nat.le_of_ble_eq_true rfl, Nat.le_of_ble_eq_true rfl⟩ (rv_10 hC hI) hG rfl hl.1 rfl (Nat.le_of_ble_eq_true rfl) dOperators_join_60 ⟨Nat.le_refl _, Nat.le_refl _⟩ (fun H locs hG hS _ _ => ?_)
        obtain ⟨ψ12, eψ12⟩ : ∃ z : gG, z = up ψ 10 (P_Rows_set (κ 10) (ψ 10) t2 t1 t0) := ⟨_, rfl⟩
        rw [← eψ12] at hG
        have hI := inv_of hG
        obtain ⟨v13, ev13⟩ : ∃ y : Int32, y = i5 + 1 := ⟨_, rfl⟩
        refine lv_iinc (v := v13) (lv' := [(5, .int v13), (0, .ref (γ.2.2.2 11)), (1, .int i1), (2, .int i2), (3, .int i3), (4, .int i4)]) hx hb dOperators_join_63 hl (k := 5) rfl (by rw [ev13]; rfl) (by decide) rfl (fun ls hl => ?_)
        refine lv_goto (tgt := 10) hx hb dOperators_join_66 (by decide) ?_
        exact ih10 _ (by have q1 : i5.toInt < 2147483647 := (by first | exact (mu_up (k := i5) (by assumption)).2 | assumption); have q2 := mu_lt q1; rw [← ev13] at q2; omega) ls _ _ φ ψ12 i1 i2 i3 i4 v13 hG hS (by have hN : N10 = (2147483647 - v13.toInt).toNat + 1 := (by have q1 : i5.toInt < 2147483647 := (by first | exact (mu_up (k := i5) (by assumption)).2 | assumption); have q2 := mu_lt q1; rw [← ev13] at q2; omega); rw [← hN]; clear hN; subst ev13 eψ12; exact hO.tr rfl) rfl (lv_sub hl [1, 2, 3, 4, 5, 0] rfl)
      refine lv_iload hx hb dOperators_join_10 (lv_at hl 5 rfl) ?_
      refine lv_aload_n hx hb dOperators_join_12 rfl (lv_at hl 0 rfl) ?_
      refine of_get S hC (of_11_0 hI) in_Operators rfl (by decide) qw_46160f6e07 dOperators_join_13 ?_
      refine lv_iload_n hx hb dOperators_join_16 rfl (lv_at hl 1 rfl) ?_
      refine pu_Vi (rest := [.int i5]) S hC (f9_Looks_extentOf l γ A κ φ ψ i1) meLooks_extentOf qw_b0051a6c7a ⟨Nat.le_of_ble_eq_true rfl, Nat.le_of_ble_eq_true rfl⟩ (rv_9 hC hI) hG rfl hl.1 rfl (Nat.le_of_ble_eq_true rfl) dOperators_join_17 ⟨Nat.zero_le _, Nat.zero_le _⟩ (fun r14 hr14 => ?_)
      obtain ⟨hr14, er14⟩ := hr14
      refine lv_icmp_ge (tgt := 69) hx hb dOperators_join_20 (by decide) (fun c15 => ?_) (fun c15 => ?_)
      · exact hE _ _ _ _ hS (by have hO2 : Oq OUT (φ, ψ) := (by subst er14; exact hO.tr (if_pos c15)); rw [hO2.eq]; exact hG) dOperators_join_69
      · refine lv_aload_n hx hb dOperators_join_23 rfl (lv_at hl 0 rfl) ?_
        refine of_get S hC (of_11_0 hI) in_Operators rfl (by decide) qw_46160f6e07 dOperators_join_24 ?_
        refine of_getN S hC (of_9_5 hI) in_Looks rfl (by decide) qn_de7362ca2e dOperators_join_27 ?_
        refine lv_iload_n hx hb dOperators_join_30 rfl (lv_at hl 1 rfl) ?_
        refine lv_iload hx hb dOperators_join_31 (lv_at hl 5 rfl) ?_
        refine lv_iload hx hb dOperators_join_33 (lv_at hl 5 rfl) ?_
        refine lv_iload hx hb dOperators_join_35 (lv_at hl 4 rfl) ?_
        refine lv_icmp_ge (tgt := 50) hx hb dOperators_join_37 (by decide) (fun c16 => ?_) (fun c16 => ?_)
        · refine lv_aload_n hx hb dOperators_join_50 rfl (lv_at hl 0 rfl) ?_
          refine lv_iload_n hx hb dOperators_join_51 rfl (lv_at hl 2 rfl) ?_
          refine lv_iload hx hb dOperators_join_52 (lv_at hl 5 rfl) ?_
          refine lv_iload hx hb dOperators_join_54 (lv_at hl 4 rfl) ?_
          refine lv_isub hx hb dOperators_join_56 ?_
          refine lv_topi (fun v17 ev17 => ?_)
          refine pu_Vi (rest := [.int i5, .int i1, .ref (γ.2.2.2 10)]) S hC (f_Operators_elementOf l γ A κ φ ψ i2 v17) meOperators_elementOf qw_e268513ce3 ⟨Nat.le_of_ble_eq_true rfl, Nat.le_of_ble_eq_true rfl⟩ (rv_11 hC hI) hG rfl hl.1 rfl (Nat.le_of_ble_eq_true rfl) dOperators_join_57 ⟨Nat.zero_le _, Nat.zero_le _⟩ (fun r18 hr18 => ?_)
          obtain ⟨hr18, er18⟩ := hr18
          exact J60 ls _ _ φ ψ i1 i2 i3 i4 i5 r18 i5 i1 hG hS (by first | exact ⟨(mu_up (k := i5) (by assumption)).2, by assumption⟩ | exact ⟨by assumption, by assumption⟩) (by subst er18 ev17 er14; exact hO.tr ((if_neg c15).trans (if_pos c16))) (lv_sub hl [0, 1, 2, 3, 4, 5] rfl)
        · refine lv_aload_n hx hb dOperators_join_40 rfl (lv_at hl 0 rfl) ?_
          refine lv_iload_n hx hb dOperators_join_41 rfl (lv_at hl 3 rfl) ?_
          refine lv_iload hx hb dOperators_join_42 (lv_at hl 5 rfl) ?_
          refine pu_Vi (rest := [.int i5, .int i1, .ref (γ.2.2.2 10)]) S hC (f_Operators_elementOf l γ A κ φ ψ i3 i5) meOperators_elementOf qw_e268513ce3 ⟨Nat.le_of_ble_eq_true rfl, Nat.le_of_ble_eq_true rfl⟩ (rv_11 hC hI) hG rfl hl.1 rfl (Nat.le_of_ble_eq_true rfl) dOperators_join_44 ⟨Nat.zero_le _, Nat.zero_le _⟩ (fun r19 hr19 => ?_)
          obtain ⟨hr19, er19⟩ := hr19
          refine lv_goto (tgt := 60) hx hb dOperators_join_47 (by decide) ?_
          exact J60 ls _ _ φ ψ i1 i2 i3 i4 i5 r19 i5 i1 hG hS (by first | exact ⟨(mu_up (k := i5) (by assumption)).2, by assumption⟩ | exact ⟨by assumption, by assumption⟩) (by subst er19 er14; exact hO.tr ((if_neg c15).trans (if_neg c16))) (lv_sub hl [0, 1, 2, 3, 4, 5] rfl)
  refine lv_aload_n hx hb dOperators_join_0 rfl (lv_at hl 0 rfl) ?_
  refine lv_iload_n hx hb dOperators_join_1 rfl (lv_at hl 3 rfl) ?_
  refine pu_Vi (rest := []) S hC (f_Operators_widthOf l γ A κ φ ψ x3) meOperators_widthOf qw_c3b3c98375 ⟨Nat.le_of_ble_eq_true rfl, Nat.le_of_ble_eq_true rfl⟩ (rv_11 hC hI) hG rfl hl.1 rfl (Nat.le_of_ble_eq_true rfl) dOperators_join_2 ⟨Nat.zero_le _, Nat.zero_le _⟩ (fun r20 hr20 => ?_)
  obtain ⟨hr20, er20⟩ := hr20
  refine lv_istore (lv' := [(4, .int r20), (0, .ref (γ.2.2.2 11)), (1, .int x1), (2, .int x2), (3, .int x3)]) hx hb dOperators_join_5 hl (by decide) rfl (fun ls hl => ?_)
  refine lv_iconst (v := 0) hx hb dOperators_join_7 (by decide) ?_
  refine lv_istore (lv' := [(5, .int 0), (4, .int r20), (0, .ref (γ.2.2.2 11)), (1, .int x1), (2, .int x2), (3, .int x3)]) hx hb dOperators_join_8 hl (by decide) rfl (fun ls hl => ?_)
  exact J10 _ ls _ _ φ ψ x1 x2 x3 r20 0 hG hS (by subst er20; exact hO.tr rfl) rfl (lv_sub hl [2, 3, 4, 5, 1, 0] rfl)
def P_Operators_shift_72 (κ : Nat → Nat) (k13 : gF → gG → Int32 → Int32 → Int32 → Int32 → Int32 → gF × gG) (φ : gF) (ψ : gG) (i1 : Int32) (i2 : Int32) (i3 : Int32) (i4 : Int32) (i5 : Int32) (j6 : Int64) (t0 : Int32) (t1 : Int32) (t2 : Int32) : gF × gG := (k13 φ (up ψ 10 (P_Rows_set (κ 10) (ψ 10) t2 t1 t0)) i1 i2 i3 i4 (i5 + 1))
def P_Operators_shift_71 (κ : Nat → Nat) (k13 : gF → gG → Int32 → Int32 → Int32 → Int32 → Int32 → gF × gG) (φ : gF) (ψ : gG) (i1 : Int32) (i2 : Int32) (i3 : Int32) (i4 : Int32) (i5 : Int32) (j6 : Int64) (t0 : Int32) (t1 : Int32) : gF × gG := (P_Operators_shift_72 κ k13 φ ψ i1 i2 i3 i4 i5 j6 2 t0 t1)
def P_Operators_shift_13 (κ : Nat → Nat) : Nat → gF → gG → Int32 → Int32 → Int32 → Int32 → Int32 → gF × gG
  | 0, _, _, _, _, _, _, _ => default
  | n + 1, φ, ψ, i1, i2, i3, i4, i5 => (if i4 ≤ i5 then (φ, ψ) else (if (lg_cmp ((i5.toInt64) - (i3.toInt64)) 0) < 0 then (P_Operators_shift_71 κ (fun a0 a1 a2 a3 a4 a5 a6 => P_Operators_shift_13 κ  n a0 a1 a2 a3 a4 a5 a6) φ ψ i1 i2 i3 i4 i5 ((i5.toInt64) - (i3.toInt64)) i5 i1) else (if 0 ≤ (lg_cmp ((i5.toInt64) - (i3.toInt64)) (i4.toInt64)) then (P_Operators_shift_71 κ (fun a0 a1 a2 a3 a4 a5 a6 => P_Operators_shift_13 κ  n a0 a1 a2 a3 a4 a5 a6) φ ψ i1 i2 i3 i4 i5 ((i5.toInt64) - (i3.toInt64)) i5 i1) else (P_Operators_shift_72 κ (fun a0 a1 a2 a3 a4 a5 a6 => P_Operators_shift_13 κ  n a0 a1 a2 a3 a4 a5 a6) φ ψ i1 i2 i3 i4 i5 ((i5.toInt64) - (i3.toInt64)) (P_Rows_get (κ 10) (ψ 10) i2 (((i5.toInt64) - (i3.toInt64)).toInt32)) i5 i1))))
def P_Operators_shift (κ : Nat → Nat) (φ : gF) (ψ : gG) (x1 : Int32) (x2 : Int32) (x3 : Int32) : gF × gG := (P_Operators_shift_13 κ  ((2147483647 - (0 : Int32).toInt).toNat + 1) φ ψ x1 x2 x3 (P_Looks_extentOf (κ 7) (φ 9) x2) 0)
set_option maxHeartbeats 4000000 in
set_option maxRecDepth 100000 in
theorem f_Operators_shift (l : Launch) (γ : gE) (A : Nat → Prop) (κ : Nat → Nat) (φ : gF) (ψ : gG) (x1 : Int32) (x2 : Int32) (x3 : Int32) : MU l yOperators_shift bOperators_shift 8 (none) 2 42 0 0 [.ref (γ.2.2.2 11), .int x1, .int x2, .int x3] γ A (INVF γ A κ φ ψ) (mQv (fun H => INVF γ A κ (P_Operators_shift κ φ ψ x1 x2 x3).1 (P_Operators_shift κ φ ψ x1 x2 x3).2 H) A) := by
  refine mu_openV (by decide) (Nat.le_of_ble_eq_true rfl) ?_
  intro p e s m args below meth c ls Q S hnm hC hA hG hE hl
  obtain ⟨hx, hb, hml, hown, hW⟩ := id S
  have hI := inv_of hG
  have hS : va_S A s.heap s.heap [] := va_S.rf
  have hl : lv_has ls 8 [(0, .ref (γ.2.2.2 11)), (1, .int x1), (2, .int x2), (3, .int x3)] := hl
  obtain ⟨OUT, hQ, hO⟩ : ∃ z, (z = P_Operators_shift κ φ ψ x1 x2 x3) ∧ Oq z (P_Operators_shift κ φ ψ x1 x2 x3) := ⟨_, rfl, rfl⟩
  rw [← hQ] at hE
  clear hQ
  have J13 : ∀ (N13 : Nat) (ls : Array Slot) (H : Heap) (locs : List Loc) (φ : gF) (ψ : gG) (i1 : Int32) (i2 : Int32) (i3 : Int32) (i4 : Int32) (i5 : Int32), INVF γ A κ φ ψ H → va_S A s.heap H locs → (Oq OUT (P_Operators_shift_13 κ  (N13 + 1) φ ψ i1 i2 i3 i4 i5)) → (2147483647 - i5.toInt).toNat = N13 → lv_has ls 8 [(0, .ref (γ.2.2.2 11)), (1, .int i1), (2, .int i2), (3, .int i3), (4, .int i4), (5, .int i5)] → W p l e (bs_rm 2 0 0 42) s m args below meth c H locs 0 0 Q (F0 m 13 ls []) := by
    intro N13
    induction N13 using Nat.strongRecOn with
    | ind N13 ih13 =>
      intro ls H locs φ ψ i1 i2 i3 i4 i5 hG hS hO hm13 hl
      have hI := inv_of hG
      have J72 : ∀ (ls : Array Slot) (H : Heap) (locs : List Loc) (φ : gF) (ψ : gG) (i1 : Int32) (i2 : Int32) (i3 : Int32) (i4 : Int32) (i5 : Int32) (j6 : Int64) (t0 : Int32) (t1 : Int32) (t2 : Int32), INVF γ A κ φ ψ H → va_S A s.heap H locs → (i5.toInt < 2147483647 ∧ (2147483647 - i5.toInt).toNat = N13) → (Oq OUT (P_Operators_shift_72 κ (fun a0 a1 a2 a3 a4 a5 a6 => P_Operators_shift_13 κ N13 a0 a1 a2 a3 a4 a5 a6)  φ ψ i1 i2 i3 i4 i5 j6 t0 t1 t2)) → lv_has ls 8 [(0, .ref (γ.2.2.2 11)), (1, .int i1), (2, .int i2), (3, .int i3), (4, .int i4), (5, .int i5), (6, .long j6)] → W p l e (bs_rm 2 0 0 42) s m args below meth c H locs 0 0 Q (F0 m 72 ls [.int t0, .int t1, .int t2, .ref (γ.2.2.2 10)]) := by
        intro ls H locs φ ψ i1 i2 i3 i4 i5 j6 t0 t1 t2 hG hS ⟨hf13a, hf13b⟩ hO hl
        have hI := inv_of hG
        refine mu_Vv (rest := []) S hC (fun q h => hA q (Nat.le_trans hS.1 h)) (fun q h => h) hS (f10_Rows_set l γ A κ φ ψ t2 t1 t0) meRows_set qw_33d0c54276 ⟨Nat.le_of_ble_eq_true rfl, Nat.le_of_ble_eq_true rfl⟩ (rv_10 hC hI) hG rfl hl.1 rfl (Nat.le_of_ble_eq_true rfl) dOperators_shift_72 ⟨Nat.le_refl _, Nat.le_refl _⟩ (fun H locs hG hS _ _ => ?_)
        obtain ⟨ψ17, eψ17⟩ : ∃ z : gG, z = up ψ 10 (P_Rows_set (κ 10) (ψ 10) t2 t1 t0) := ⟨_, rfl⟩
        rw [← eψ17] at hG
        have hI := inv_of hG
        obtain ⟨v18, ev18⟩ : ∃ y : Int32, y = i5 + 1 := ⟨_, rfl⟩
        refine lv_iinc (v := v18) (lv' := [(5, .int v18), (0, .ref (γ.2.2.2 11)), (1, .int i1), (2, .int i2), (3, .int i3), (4, .int i4), (6, .long j6)]) hx hb dOperators_shift_75 hl (k := 5) rfl (by rw [ev18]; rfl) (by decide) rfl (fun ls hl => ?_)
        refine lv_goto (tgt := 13) hx hb dOperators_shift_78 (by decide) ?_
        exact ih13 _ (by have q1 : i5.toInt < 2147483647 := (by first | exact (mu_up (k := i5) (by assumption)).2 | assumption); have q2 := mu_lt q1; rw [← ev18] at q2; omega) ls _ _ φ ψ17 i1 i2 i3 i4 v18 hG hS (by have hN : N13 = (2147483647 - v18.toInt).toNat + 1 := (by have q1 : i5.toInt < 2147483647 := (by first | exact (mu_up (k := i5) (by assumption)).2 | assumption); have q2 := mu_lt q1; rw [← ev18] at q2; omega); rw [← hN]; clear hN; subst ev18 eψ17; exact hO.tr rfl) rfl (lv_sub hl [1, 2, 3, 4, 5, 0] rfl)
      have J71 : ∀ (ls : Array Slot) (H : Heap) (locs : List Loc) (φ : gF) (ψ : gG) (i1 : Int32) (i2 : Int32) (i3 : Int32) (i4 : Int32) (i5 : Int32) (j6 : Int64) (t0 : Int32) (t1 : Int32), INVF γ A κ φ ψ H → va_S A s.heap H locs → (i5.toInt < 2147483647 ∧ (2147483647 - i5.toInt).toNat = N13) → (Oq OUT (P_Operators_shift_71 κ (fun a0 a1 a2 a3 a4 a5 a6 => P_Operators_shift_13 κ N13 a0 a1 a2 a3 a4 a5 a6)  φ ψ i1 i2 i3 i4 i5 j6 t0 t1)) → lv_has ls 8 [(0, .ref (γ.2.2.2 11)), (1, .int i1), (2, .int i2), (3, .int i3), (4, .int i4), (5, .int i5), (6, .long j6)] → W p l e (bs_rm 2 0 0 42) s m args below meth c H locs 0 0 Q (F0 m 71 ls [.int t0, .int t1, .ref (γ.2.2.2 10)]) := by
        intro ls H locs φ ψ i1 i2 i3 i4 i5 j6 t0 t1 hG hS ⟨hf13a, hf13b⟩ hO hl
        have hI := inv_of hG
        refine lv_iconst (v := 2) hx hb dOperators_shift_71 (by decide) ?_
        exact J72 ls _ _ φ ψ i1 i2 i3 i4 i5 j6 2 t0 t1 hG hS (by first | exact ⟨(mu_up (k := i5) (by assumption)).2, by assumption⟩ | exact ⟨by assumption, by assumption⟩) (by exact hO.tr rfl) (lv_sub hl [0, 1, 2, 3, 4, 5, 6] rfl)
      refine lv_iload hx hb dOperators_shift_13 (lv_at hl 5 rfl) ?_
      refine lv_iload hx hb dOperators_shift_15 (lv_at hl 4 rfl) ?_
      refine lv_icmp_ge (tgt := 81) hx hb dOperators_shift_17 (by decide) (fun c19 => ?_) (fun c19 => ?_)
      · exact hE _ _ _ _ hS (by have hO2 : Oq OUT (φ, ψ) := (by exact hO.tr (if_pos c19)); rw [hO2.eq]; exact hG) dOperators_shift_81
      · refine lv_iload hx hb dOperators_shift_20 (lv_at hl 5 rfl) ?_
        refine lv_i2l hx hb dOperators_shift_22 rfl ?_
        refine lv_topl (fun v20 ev20 => ?_)
        refine lv_iload_n hx hb dOperators_shift_23 rfl (lv_at hl 3 rfl) ?_
        refine lv_i2l hx hb dOperators_shift_24 rfl ?_
        refine lv_topl (fun v21 ev21 => ?_)
        refine lv_lsub hx hb dOperators_shift_25 ?_
        refine lv_topl (fun v22 ev22 => ?_)
        refine lv_lstore (lv' := [(6, .long v22), (0, .ref (γ.2.2.2 11)), (1, .int i1), (2, .int i2), (3, .int i3), (4, .int i4), (5, .int i5)]) hx hb dOperators_shift_26 hl (by decide) rfl (fun ls hl => ?_)
        refine lv_aload_n hx hb dOperators_shift_28 rfl (lv_at hl 1 rfl) ?_
        refine of_get S hC (of_11_0 hI) in_Operators rfl (by decide) qw_46160f6e07 dOperators_shift_29 ?_
        refine of_getN S hC (of_9_5 hI) in_Looks rfl (by decide) qn_de7362ca2e dOperators_shift_32 ?_
        refine lv_iload_n hx hb dOperators_shift_35 rfl (lv_at hl 2 rfl) ?_
        refine lv_iload hx hb dOperators_shift_36 (lv_at hl 6 rfl) ?_
        refine lv_lload hx hb dOperators_shift_38 (lv_at hl 0 rfl) ?_
        refine lv_lconst (v := 0) hx hb dOperators_shift_40 (by decide) ?_
        refine W.lcmp hx hb dOperators_shift_41 ?_
        refine lv_topi (fun v23 ev23 => ?_)
        refine lv_if_lt (tgt := 71) hx hb dOperators_shift_42 (by decide) (fun c24 => ?_) (fun c24 => ?_)
        · exact J71 ls _ _ φ ψ i1 i2 i3 i4 i5 v22 i5 i1 hG hS (by first | exact ⟨(mu_up (k := i5) (by assumption)).2, by assumption⟩ | exact ⟨by assumption, by assumption⟩) (by subst ev23 ev22 ev21 ev20; exact hO.tr ((if_neg c19).trans (if_pos c24))) (lv_sub hl [1, 2, 3, 4, 5, 6, 0] rfl)
        · refine lv_lload hx hb dOperators_shift_45 (lv_at hl 0 rfl) ?_
          refine lv_iload hx hb dOperators_shift_47 (lv_at hl 5 rfl) ?_
          refine lv_i2l hx hb dOperators_shift_49 rfl ?_
          refine lv_topl (fun v25 ev25 => ?_)
          refine W.lcmp hx hb dOperators_shift_50 ?_
          refine lv_topi (fun v26 ev26 => ?_)
          refine lv_if_ge (tgt := 71) hx hb dOperators_shift_51 (by decide) (fun c27 => ?_) (fun c27 => ?_)
          · exact J71 ls _ _ φ ψ i1 i2 i3 i4 i5 v22 i5 i1 hG hS (by first | exact ⟨(mu_up (k := i5) (by assumption)).2, by assumption⟩ | exact ⟨by assumption, by assumption⟩) (by subst ev26 ev25 ev23 ev22 ev21 ev20; exact hO.tr ((if_neg c19).trans ((if_neg c24).trans (if_pos c27)))) (lv_sub hl [1, 2, 3, 4, 5, 6, 0] rfl)
          · refine lv_aload_n hx hb dOperators_shift_54 rfl (lv_at hl 1 rfl) ?_
            refine of_get S hC (of_11_0 hI) in_Operators rfl (by decide) qw_46160f6e07 dOperators_shift_55 ?_
            refine of_getN S hC (of_9_5 hI) in_Looks rfl (by decide) qn_de7362ca2e dOperators_shift_58 ?_
            refine lv_iload_n hx hb dOperators_shift_61 rfl (lv_at hl 3 rfl) ?_
            refine lv_lload hx hb dOperators_shift_62 (lv_at hl 0 rfl) ?_
            refine lv_l2i hx hb dOperators_shift_64 rfl ?_
            refine lv_topi (fun v28 ev28 => ?_)
            refine pu_Vi (rest := [.int i5, .int i1, .ref (γ.2.2.2 10)]) S hC (f10_Rows_get l γ A κ φ ψ i2 v28) meRows_get qw_2b8ebea4b9 ⟨Nat.le_of_ble_eq_true rfl, Nat.le_of_ble_eq_true rfl⟩ (rv_10 hC hI) hG rfl hl.1 rfl (Nat.le_of_ble_eq_true rfl) dOperators_shift_65 ⟨Nat.zero_le _, Nat.zero_le _⟩ (fun r29 hr29 => ?_)
            obtain ⟨hr29, er29⟩ := hr29
            refine lv_goto (tgt := 72) hx hb dOperators_shift_68 (by decide) ?_
            exact J72 ls _ _ φ ψ i1 i2 i3 i4 i5 v22 r29 i5 i1 hG hS (by first | exact ⟨(mu_up (k := i5) (by assumption)).2, by assumption⟩ | exact ⟨by assumption, by assumption⟩) (by subst er29 ev28 ev26 ev25 ev23 ev22 ev21 ev20; exact hO.tr ((if_neg c19).trans ((if_neg c24).trans (if_neg c27)))) (lv_sub hl [1, 2, 3, 4, 5, 6, 0] rfl)
  refine lv_aload_n hx hb dOperators_shift_0 rfl (lv_at hl 0 rfl) ?_
  refine of_get S hC (of_11_0 hI) in_Operators rfl (by decide) qw_46160f6e07 dOperators_shift_1 ?_
  refine lv_iload_n hx hb dOperators_shift_4 rfl (lv_at hl 2 rfl) ?_
  refine pu_Vi (rest := []) S hC (f9_Looks_extentOf l γ A κ φ ψ x2) meLooks_extentOf qw_b0051a6c7a ⟨Nat.le_of_ble_eq_true rfl, Nat.le_of_ble_eq_true rfl⟩ (rv_9 hC hI) hG rfl hl.1 rfl (Nat.le_of_ble_eq_true rfl) dOperators_shift_5 ⟨Nat.zero_le _, Nat.zero_le _⟩ (fun r30 hr30 => ?_)
  obtain ⟨hr30, er30⟩ := hr30
  refine lv_istore (lv' := [(4, .int r30), (0, .ref (γ.2.2.2 11)), (1, .int x1), (2, .int x2), (3, .int x3)]) hx hb dOperators_shift_8 hl (by decide) rfl (fun ls hl => ?_)
  refine lv_iconst (v := 0) hx hb dOperators_shift_10 (by decide) ?_
  refine lv_istore (lv' := [(5, .int 0), (4, .int r30), (0, .ref (γ.2.2.2 11)), (1, .int x1), (2, .int x2), (3, .int x3)]) hx hb dOperators_shift_11 hl (by decide) rfl (fun ls hl => ?_)
  exact J13 _ ls _ _ φ ψ x1 x2 x3 r30 0 hG hS (by subst er30; exact hO.tr rfl) rfl (lv_sub hl [2, 3, 4, 5, 1, 0] rfl)

def P_Operators_calculate_79 (κ : Nat → Nat) (φ : gF) (ψ : gG) (i1 : Int32) (i2 : Int32) (j3 : Int64) (j5 : Int64) (i7 : Int32) (t0 : Int64) : Int32 × gF × gG := (if 0 < (lg_cmp t0 2147483647) then (9, φ, ψ) else (if 0 ≤ (lg_cmp t0 (-2147483647)) then (0, (up φ 9 (P_Looks_setNumber (κ 7) (φ 9) i1 (t0.toInt32))), ψ) else (9, φ, ψ)))
def P_Operators_calculate_34 (κ : Nat → Nat) (φ : gF) (ψ : gG) (i1 : Int32) (i2 : Int32) (j3 : Int64) (j5 : Int64) (i7 : Int32) : Int32 × gF × gG := (if i7 = 0 then (if i2 = 12 then (P_Operators_calculate_79 κ  φ ψ i1 i2 j3 j5 i7 (j3 + j5)) else (if i2 = 13 then (P_Operators_calculate_79 κ  φ ψ i1 i2 j3 j5 i7 (j3 - j5)) else (P_Operators_calculate_79 κ  φ ψ i1 i2 j3 j5 i7 (j3 * j5)))) else (P_Operators_calculate_79 κ  φ ψ i1 i2 j3 j5 i7 (P_Operators_divided i2 j3 j5)))
def P_Operators_calculate_17 (κ : Nat → Nat) (φ : gF) (ψ : gG) (i1 : Int32) (i2 : Int32) (j3 : Int64) (j5 : Int64) (t0 : Int32) : Int32 × gF × gG := (if t0 = 0 then (P_Operators_calculate_34 κ  φ ψ i1 i2 j3 j5 t0) else (if (lg_cmp j5 0) = 0 then (10, φ, ψ) else (P_Operators_calculate_34 κ  φ ψ i1 i2 j3 j5 t0)))
def P_Operators_calculate_16 (κ : Nat → Nat) (φ : gF) (ψ : gG) (i1 : Int32) (i2 : Int32) (j3 : Int64) (j5 : Int64) : Int32 × gF × gG := (P_Operators_calculate_17 κ  φ ψ i1 i2 j3 j5 0)
def P_Operators_calculate (κ : Nat → Nat) (φ : gF) (ψ : gG) (x1 : Int32) (x2 : Int32) (x3 : Int64) (x5 : Int64) : Int32 × gF × gG := (if x2 < 16 then (P_Operators_calculate_16 κ  φ ψ x1 x2 x3 x5) else (if 18 < x2 then (P_Operators_calculate_16 κ  φ ψ x1 x2 x3 x5) else (P_Operators_calculate_17 κ  φ ψ x1 x2 x3 x5 1)))
set_option maxHeartbeats 4000000 in
set_option maxRecDepth 100000 in
theorem f_Operators_calculate (l : Launch) (γ : gE) (A : Nat → Prop) (κ : Nat → Nat) (φ : gF) (ψ : gG) (x1 : Int32) (x2 : Int32) (x3 : Int64) (x5 : Int64) : MU l yOperators_calculate bOperators_calculate 10 (some .int) 2 49 0 0 [.ref (γ.2.2.2 11), .int x1, .int x2, .long x3, .long x5] γ A (INVF γ A κ φ ψ) (mQi (fun r H => r = (P_Operators_calculate κ φ ψ x1 x2 x3 x5).1 ∧ INVF γ A κ (P_Operators_calculate κ φ ψ x1 x2 x3 x5).2.1 (P_Operators_calculate κ φ ψ x1 x2 x3 x5).2.2 H) A) := by
  refine mu_openI (by decide) (Nat.le_of_ble_eq_true rfl) ?_
  intro p e s m args below meth c ls Q S hnm hC hA hG hE hl
  obtain ⟨hx, hb, hml, hown, hW⟩ := id S
  have hI := inv_of hG
  have hS : va_S A s.heap s.heap [] := va_S.rf
  have hl : lv_has ls 10 [(0, .ref (γ.2.2.2 11)), (1, .int x1), (2, .int x2), (3, .long x3), (5, .long x5)] := hl
  obtain ⟨OUT, hQ, hO⟩ : ∃ z, (z = P_Operators_calculate κ φ ψ x1 x2 x3 x5) ∧ Oq z (P_Operators_calculate κ φ ψ x1 x2 x3 x5) := ⟨_, rfl, rfl⟩
  rw [← hQ] at hE
  clear hQ
  have J79 : ∀ (ls : Array Slot) (H : Heap) (locs : List Loc) (φ : gF) (ψ : gG) (i1 : Int32) (i2 : Int32) (j3 : Int64) (j5 : Int64) (i7 : Int32) (t0 : Int64), INVF γ A κ φ ψ H → va_S A s.heap H locs → (Oq OUT (P_Operators_calculate_79 κ   φ ψ i1 i2 j3 j5 i7 t0)) → lv_has ls 10 [(0, .ref (γ.2.2.2 11)), (1, .int i1), (2, .int i2), (3, .long j3), (5, .long j5), (7, .int i7)] → W p l e (bs_rm 2 0 0 49) s m args below meth c H locs 0 0 Q (F0 m 79 ls [.long t0]) := by
    intro ls H locs φ ψ i1 i2 j3 j5 i7 t0 hG hS hO hl
    have hI := inv_of hG
    refine lv_lstore (lv' := [(8, .long t0), (0, .ref (γ.2.2.2 11)), (1, .int i1), (2, .int i2), (3, .long j3), (5, .long j5), (7, .int i7)]) hx hb dOperators_calculate_79 hl (by decide) rfl (fun ls hl => ?_)
    refine lv_lload hx hb dOperators_calculate_81 (lv_at hl 0 rfl) ?_
    refine lv_ldc2 (v := 2147483647) hx hb hown (hW _ qw_c4acc06d08) dOperators_calculate_83 ?_
    refine W.lcmp hx hb dOperators_calculate_86 ?_
    refine lv_topi (fun v20 ev20 => ?_)
    refine lv_if_gt (tgt := 99) hx hb dOperators_calculate_87 (by decide) (fun c21 => ?_) (fun c21 => ?_)
    · refine lv_bipush (v := 9) hx hb dOperators_calculate_99 (by decide) ?_
      exact hE _ _ _ _ _ hS (by have hO2 : Oq OUT (9, φ, ψ) := (by subst ev20; exact hO.tr (if_pos c21)); rw [hO2.eq]; exact ⟨rfl, hG⟩) dOperators_calculate_101
    · refine lv_lload hx hb dOperators_calculate_90 (lv_at hl 0 rfl) ?_
      refine lv_ldc2 (v := (-2147483647)) hx hb hown (hW _ qw_f2665edad9) dOperators_calculate_92 ?_
      refine W.lcmp hx hb dOperators_calculate_95 ?_
      refine lv_topi (fun v22 ev22 => ?_)
      refine lv_if_ge (tgt := 102) hx hb dOperators_calculate_96 (by decide) (fun c23 => ?_) (fun c23 => ?_)
      · refine lv_aload_n hx hb dOperators_calculate_102 rfl (lv_at hl 1 rfl) ?_
        refine of_get S hC (of_11_0 hI) in_Operators rfl (by decide) qw_46160f6e07 dOperators_calculate_103 ?_
        refine lv_iload_n hx hb dOperators_calculate_106 rfl (lv_at hl 2 rfl) ?_
        refine lv_lload hx hb dOperators_calculate_107 (lv_at hl 0 rfl) ?_
        refine lv_l2i hx hb dOperators_calculate_109 rfl ?_
        refine lv_topi (fun v24 ev24 => ?_)
        refine mu_Vv (rest := []) S hC (fun q h => hA q (Nat.le_trans hS.1 h)) (fun q h => h) hS (f9_Looks_setNumber l γ A κ φ ψ i1 v24) meLooks_setNumber qw_6899d83413 ⟨Nat.le_of_ble_eq_true rfl, Nat.le_of_ble_eq_true rfl⟩ (rv_9 hC hI) hG rfl hl.1 rfl (Nat.le_of_ble_eq_true rfl) dOperators_calculate_110 ⟨Nat.le_refl _, Nat.le_refl _⟩ (fun H locs hG hS _ _ => ?_)
        obtain ⟨φ26, eφ26⟩ : ∃ z : gF, z = up φ 9 (P_Looks_setNumber (κ 7) (φ 9) i1 v24) := ⟨_, rfl⟩
        rw [← eφ26] at hG
        have hI := inv_of hG
        refine lv_iconst (v := 0) hx hb dOperators_calculate_113 (by decide) ?_
        exact hE _ _ _ _ _ hS (by have hO2 : Oq OUT (0, φ26, ψ) := (by subst eφ26 ev24 ev22 ev20; exact hO.tr ((if_neg c21).trans (if_pos c23))); rw [hO2.eq]; exact ⟨rfl, hG⟩) dOperators_calculate_114
      · refine lv_bipush (v := 9) hx hb dOperators_calculate_99 (by decide) ?_
        exact hE _ _ _ _ _ hS (by have hO2 : Oq OUT (9, φ, ψ) := (by subst ev22 ev20; exact hO.tr ((if_neg c21).trans (if_neg c23))); rw [hO2.eq]; exact ⟨rfl, hG⟩) dOperators_calculate_101
  have J34 : ∀ (ls : Array Slot) (H : Heap) (locs : List Loc) (φ : gF) (ψ : gG) (i1 : Int32) (i2 : Int32) (j3 : Int64) (j5 : Int64) (i7 : Int32), INVF γ A κ φ ψ H → va_S A s.heap H locs → (Oq OUT (P_Operators_calculate_34 κ   φ ψ i1 i2 j3 j5 i7)) → lv_has ls 10 [(0, .ref (γ.2.2.2 11)), (1, .int i1), (2, .int i2), (3, .long j3), (5, .long j5), (7, .int i7)] → W p l e (bs_rm 2 0 0 49) s m args below meth c H locs 0 0 Q (F0 m 34 ls []) := by
    intro ls H locs φ ψ i1 i2 j3 j5 i7 hG hS hO hl
    have hI := inv_of hG
    refine lv_iload hx hb dOperators_calculate_34 (lv_at hl 5 rfl) ?_
    refine lv_if_eq (tgt := 49) hx hb dOperators_calculate_36 (by decide) (fun c27 => ?_) (fun c27 => ?_)
    · refine lv_iload_n hx hb dOperators_calculate_49 rfl (lv_at hl 2 rfl) ?_
      refine lv_bipush (v := 12) hx hb dOperators_calculate_50 (by decide) ?_
      refine lv_icmp_ne (tgt := 62) hx hb dOperators_calculate_52 (by decide) (fun c28 => ?_) (fun c28 => ?_)
      · refine lv_iload_n hx hb dOperators_calculate_62 rfl (lv_at hl 2 rfl) ?_
        refine lv_bipush (v := 13) hx hb dOperators_calculate_63 (by decide) ?_
        refine lv_icmp_ne (tgt := 75) hx hb dOperators_calculate_65 (by decide) (fun c29 => ?_) (fun c29 => ?_)
        · refine lv_lload_n hx hb dOperators_calculate_75 rfl (lv_at hl 3 rfl) ?_
          refine lv_lload hx hb dOperators_calculate_76 (lv_at hl 4 rfl) ?_
          refine lv_lmul hx hb dOperators_calculate_78 ?_
          refine lv_topl (fun v30 ev30 => ?_)
          exact J79 ls _ _ φ ψ i1 i2 j3 j5 i7 v30 hG hS (by subst ev30; exact hO.tr ((if_pos c27).trans ((if_neg c28).trans (if_neg c29)))) (lv_sub hl [0, 1, 2, 3, 4, 5] rfl)
        · refine lv_lload_n hx hb dOperators_calculate_68 rfl (lv_at hl 3 rfl) ?_
          refine lv_lload hx hb dOperators_calculate_69 (lv_at hl 4 rfl) ?_
          refine lv_lsub hx hb dOperators_calculate_71 ?_
          refine lv_topl (fun v31 ev31 => ?_)
          refine lv_goto (tgt := 79) hx hb dOperators_calculate_72 (by decide) ?_
          exact J79 ls _ _ φ ψ i1 i2 j3 j5 i7 v31 hG hS (by subst ev31; exact hO.tr ((if_pos c27).trans ((if_neg c28).trans (if_pos c29)))) (lv_sub hl [0, 1, 2, 3, 4, 5] rfl)
      · refine lv_lload_n hx hb dOperators_calculate_55 rfl (lv_at hl 3 rfl) ?_
        refine lv_lload hx hb dOperators_calculate_56 (lv_at hl 4 rfl) ?_
        refine lv_ladd hx hb dOperators_calculate_58 ?_
        refine lv_topl (fun v32 ev32 => ?_)
        refine lv_goto (tgt := 79) hx hb dOperators_calculate_59 (by decide) ?_
        exact J79 ls _ _ φ ψ i1 i2 j3 j5 i7 v32 hG hS (by subst ev32; exact hO.tr ((if_pos c27).trans (if_pos c28))) (lv_sub hl [0, 1, 2, 3, 4, 5] rfl)
    · refine lv_iload_n hx hb dOperators_calculate_39 rfl (lv_at hl 2 rfl) ?_
      refine lv_lload_n hx hb dOperators_calculate_40 rfl (lv_at hl 3 rfl) ?_
      refine lv_lload hx hb dOperators_calculate_41 (lv_at hl 4 rfl) ?_
      refine pu_Sl (rest := []) S hC (f_Operators_divided l γ (INVF γ A κ φ ψ) i2 j3 j5) meOperators_divided qw_9930071977 ⟨Nat.le_of_ble_eq_true rfl, Nat.le_of_ble_eq_true rfl⟩ hG rfl hl.1 rfl (Nat.le_of_ble_eq_true rfl) dOperators_calculate_43 ⟨Nat.zero_le _, Nat.zero_le _⟩ (fun r33 hr33 => ?_)
      obtain ⟨hr33, er33⟩ := hr33
      refine lv_goto (tgt := 79) hx hb dOperators_calculate_46 (by decide) ?_
      exact J79 ls _ _ φ ψ i1 i2 j3 j5 i7 r33 hG hS (by subst er33; exact hO.tr (if_neg c27)) (lv_sub hl [0, 1, 2, 3, 4, 5] rfl)
  have J17 : ∀ (ls : Array Slot) (H : Heap) (locs : List Loc) (φ : gF) (ψ : gG) (i1 : Int32) (i2 : Int32) (j3 : Int64) (j5 : Int64) (t0 : Int32), INVF γ A κ φ ψ H → va_S A s.heap H locs → (Oq OUT (P_Operators_calculate_17 κ   φ ψ i1 i2 j3 j5 t0)) → lv_has ls 10 [(0, .ref (γ.2.2.2 11)), (1, .int i1), (2, .int i2), (3, .long j3), (5, .long j5)] → W p l e (bs_rm 2 0 0 49) s m args below meth c H locs 0 0 Q (F0 m 17 ls [.int t0]) := by
    intro ls H locs φ ψ i1 i2 j3 j5 t0 hG hS hO hl
    have hI := inv_of hG
    refine lv_istore (lv' := [(7, .int t0), (0, .ref (γ.2.2.2 11)), (1, .int i1), (2, .int i2), (3, .long j3), (5, .long j5)]) hx hb dOperators_calculate_17 hl (by decide) rfl (fun ls hl => ?_)
    refine lv_iload hx hb dOperators_calculate_19 (lv_at hl 0 rfl) ?_
    refine lv_if_eq (tgt := 34) hx hb dOperators_calculate_21 (by decide) (fun c34 => ?_) (fun c34 => ?_)
    · exact J34 ls _ _ φ ψ i1 i2 j3 j5 t0 hG hS (by exact hO.tr (if_pos c34)) (lv_sub hl [1, 2, 3, 4, 5, 0] rfl)
    · refine lv_lload hx hb dOperators_calculate_24 (lv_at hl 5 rfl) ?_
      refine lv_lconst (v := 0) hx hb dOperators_calculate_26 (by decide) ?_
      refine W.lcmp hx hb dOperators_calculate_27 ?_
      refine lv_topi (fun v35 ev35 => ?_)
      refine lv_if_ne (tgt := 34) hx hb dOperators_calculate_28 (by decide) (fun c36 => ?_) (fun c36 => ?_)
      · exact J34 ls _ _ φ ψ i1 i2 j3 j5 t0 hG hS (by subst ev35; exact hO.tr ((if_neg c34).trans (if_neg c36))) (lv_sub hl [1, 2, 3, 4, 5, 0] rfl)
      · refine lv_bipush (v := 10) hx hb dOperators_calculate_31 (by decide) ?_
        exact hE _ _ _ _ _ hS (by have hO2 : Oq OUT (10, φ, ψ) := (by subst ev35; exact hO.tr ((if_neg c34).trans (if_pos c36))); rw [hO2.eq]; exact ⟨rfl, hG⟩) dOperators_calculate_33
  have J16 : ∀ (ls : Array Slot) (H : Heap) (locs : List Loc) (φ : gF) (ψ : gG) (i1 : Int32) (i2 : Int32) (j3 : Int64) (j5 : Int64), INVF γ A κ φ ψ H → va_S A s.heap H locs → (Oq OUT (P_Operators_calculate_16 κ   φ ψ i1 i2 j3 j5)) → lv_has ls 10 [(0, .ref (γ.2.2.2 11)), (1, .int i1), (2, .int i2), (3, .long j3), (5, .long j5)] → W p l e (bs_rm 2 0 0 49) s m args below meth c H locs 0 0 Q (F0 m 16 ls []) := by
    intro ls H locs φ ψ i1 i2 j3 j5 hG hS hO hl
    have hI := inv_of hG
    refine lv_iconst (v := 0) hx hb dOperators_calculate_16 (by decide) ?_
    exact J17 ls _ _ φ ψ i1 i2 j3 j5 0 hG hS (by exact hO.tr rfl) (lv_sub hl [0, 1, 2, 3, 4] rfl)
  refine lv_iload_n hx hb dOperators_calculate_0 rfl (lv_at hl 2 rfl) ?_
  refine lv_bipush (v := 16) hx hb dOperators_calculate_1 (by decide) ?_
  refine lv_icmp_lt (tgt := 16) hx hb dOperators_calculate_3 (by decide) (fun c37 => ?_) (fun c37 => ?_)
  · exact J16 ls _ _ φ ψ x1 x2 x3 x5 hG hS (by exact hO.tr (if_pos c37)) (lv_sub hl [0, 1, 2, 3, 4] rfl)
  · refine lv_iload_n hx hb dOperators_calculate_6 rfl (lv_at hl 2 rfl) ?_
    refine lv_bipush (v := 18) hx hb dOperators_calculate_7 (by decide) ?_
    refine lv_icmp_gt (tgt := 16) hx hb dOperators_calculate_9 (by decide) (fun c38 => ?_) (fun c38 => ?_)
    · exact J16 ls _ _ φ ψ x1 x2 x3 x5 hG hS (by exact hO.tr ((if_neg c37).trans (if_pos c38))) (lv_sub hl [0, 1, 2, 3, 4] rfl)
    · refine lv_iconst (v := 1) hx hb dOperators_calculate_12 (by decide) ?_
      refine lv_goto (tgt := 17) hx hb dOperators_calculate_13 (by decide) ?_
      exact J17 ls _ _ φ ψ x1 x2 x3 x5 1 hG hS (by exact hO.tr ((if_neg c37).trans (if_neg c38))) (lv_sub hl [0, 1, 2, 3, 4] rfl)

def P_Operators_binary_354 (κ : Nat → Nat) (φ : gF) (ψ : gG) (i1 : Int32) (i2 : Int32) (i3 : Int32) (i4 : Int32) (i5 : Int32) (i6 : Int32) (i7 : Int32) (t0 : Int32) (t1 : Int32) (t2 : Int32) : Int32 × gF × gG := (0, ((P_Operators_shift κ φ ψ t2 t1 t0).1), ((P_Operators_shift κ φ ψ t2 t1 t0).2))
def P_Operators_binary_282 (κ : Nat → Nat) (φ : gF) (ψ : gG) (i1 : Int32) (i2 : Int32) (i3 : Int32) (i4 : Int32) (i5 : Int32) (i6 : Int32) (i7 : Int32) (t0 : Int32) (t1 : Int32) : Int32 × gF × gG := (0, (up φ 9 (P_Looks_setNumber (κ 7) (φ 9) t1 t0)), ψ)
def P_Operators_binary_249 (κ : Nat → Nat) (φ : gF) (ψ : gG) (i1 : Int32) (i2 : Int32) (i3 : Int32) (i4 : Int32) (i5 : Int32) (i6 : Int32) (i7 : Int32) (t0 : Int32) (t1 : Int32) : Int32 × gF × gG := (0, (up φ 9 (P_Looks_setNumber (κ 7) (φ 9) t1 t0)), ψ)
def P_Operators_binary_241 (κ : Nat → Nat) (φ : gF) (ψ : gG) (i1 : Int32) (i2 : Int32) (i3 : Int32) (i4 : Int32) (i5 : Int32) (i6 : Int32) (i7 : Int32) (t0 : Int32) (t1 : Int32) (t2 : Int32) : Int32 × gF × gG := (if t1 = t0 then (P_Operators_binary_249 κ  φ ψ i1 i2 i3 i4 i5 i6 i7 1 t2) else (P_Operators_binary_249 κ  φ ψ i1 i2 i3 i4 i5 i6 i7 0 t2))
def P_Operators_binary_150 (κ : Nat → Nat) (φ : gF) (ψ : gG) (i1 : Int32) (i2 : Int32) (i3 : Int32) (i4 : Int32) (i5 : Int32) (i6 : Int32) (i7 : Int32) : Int32 × gF × gG := (if (P_Looks_isFixed (κ 7) (φ 9) i1) = 0 then (0, φ, ψ) else (if i5 = 2 then ((P_Operators_calculate κ φ ψ i1 i2 ((P_Looks_numberOf (κ 7) (φ 9) i3).toInt64) ((P_Looks_numberOf (κ 7) (φ 9) i4).toInt64)).1, ((P_Operators_calculate κ φ ψ i1 i2 ((P_Looks_numberOf (κ 7) (φ 9) i3).toInt64) ((P_Looks_numberOf (κ 7) (φ 9) i4).toInt64)).2.1), ((P_Operators_calculate κ φ ψ i1 i2 ((P_Looks_numberOf (κ 7) (φ 9) i3).toInt64) ((P_Looks_numberOf (κ 7) (φ 9) i4).toInt64)).2.2)) else (if 5 < i2 then (if 7 < i2 then (if 11 < i2 then (if 13 < i2 then (if i2 = 14 then (0, ((P_Operators_join κ φ ψ i1 i3 i4).1), ((P_Operators_join κ φ ψ i1 i3 i4).2)) else (if i2 = 19 then (P_Operators_binary_354 κ  φ ψ i1 i2 i3 i4 i5 i6 i7 (P_Looks_numberOf (κ 7) (φ 9) i4) i3 i1) else (P_Operators_binary_354 κ  φ ψ i1 i2 i3 i4 i5 i6 i7 (-(P_Looks_numberOf (κ 7) (φ 9) i4)) i3 i1))) else (0, ((P_Operators_sumRows κ φ ψ i1 i2 i3 i4).1), ((P_Operators_sumRows κ φ ψ i1 i2 i3 i4).2))) else (if (P_Operators_isOrdered κ φ ψ i2 i3 i4) = 0 then (P_Operators_binary_282 κ  φ ψ i1 i2 i3 i4 i5 i6 i7 0 i1) else (P_Operators_binary_282 κ  φ ψ i1 i2 i3 i4 i5 i6 i7 1 i1))) else (if i2 = 6 then (P_Operators_binary_241 κ  φ ψ i1 i2 i3 i4 i5 i6 i7 1 (P_Operators_areAlike κ φ ψ i3 i4) i1) else (P_Operators_binary_241 κ  φ ψ i1 i2 i3 i4 i5 i6 i7 0 (P_Operators_areAlike κ φ ψ i3 i4) i1))) else (0, ((P_Operators_combine κ φ ψ i1 i2 i3 i4).1), ((P_Operators_combine κ φ ψ i1 i2 i3 i4).2)))))
def P_Operators_binary_108 (κ : Nat → Nat) (φ : gF) (ψ : gG) (i1 : Int32) (i2 : Int32) (i3 : Int32) (i4 : Int32) (i5 : Int32) (i6 : Int32) (t0 : Int32) : Int32 × gF × gG := (if 64 < i6 then (4, φ, ψ) else (if t0 = 0 then (P_Operators_binary_150 κ  φ ψ i1 i2 i3 i4 i5 i6 t0) else (if i2 = 14 then (P_Operators_binary_150 κ  φ ψ i1 i2 i3 i4 i5 i6 t0) else (if (P_Looks_extentOf (κ 7) (φ 9) i3) = (P_Looks_extentOf (κ 7) (φ 9) i4) then (P_Operators_binary_150 κ  φ ψ i1 i2 i3 i4 i5 i6 t0) else (4, φ, ψ)))))
def P_Operators_binary_107 (κ : Nat → Nat) (φ : gF) (ψ : gG) (i1 : Int32) (i2 : Int32) (i3 : Int32) (i4 : Int32) (i5 : Int32) (i6 : Int32) : Int32 × gF × gG := (P_Operators_binary_108 κ  φ ψ i1 i2 i3 i4 i5 i6 0)
def P_Operators_binary_75 (κ : Nat → Nat) (φ : gF) (ψ : gG) (i1 : Int32) (i2 : Int32) (i3 : Int32) (i4 : Int32) (i5 : Int32) (i6 : Int32) (t0 : Int32) (t1 : Int32) (t2 : Int32) (t3 : Int32) : Int32 × gF × gG := (if (P_Looks_classOf (κ 7) ((up φ 9 (P_Looks_note (κ 7) (φ 9) t3 t2 t1 t0)) 9) i3) = 3 then (if (P_Looks_classOf (κ 7) ((up φ 9 (P_Looks_note (κ 7) (φ 9) t3 t2 t1 t0)) 9) i4) = 3 then (P_Operators_binary_108 κ  (up φ 9 (P_Looks_note (κ 7) (φ 9) t3 t2 t1 t0)) ψ i1 i2 i3 i4 i5 i6 1) else (P_Operators_binary_107 κ  (up φ 9 (P_Looks_note (κ 7) (φ 9) t3 t2 t1 t0)) ψ i1 i2 i3 i4 i5 i6)) else (P_Operators_binary_107 κ  (up φ 9 (P_Looks_note (κ 7) (φ 9) t3 t2 t1 t0)) ψ i1 i2 i3 i4 i5 i6))
def P_Operators_binary_74 (κ : Nat → Nat) (φ : gF) (ψ : gG) (i1 : Int32) (i2 : Int32) (i3 : Int32) (i4 : Int32) (i5 : Int32) (i6 : Int32) (t0 : Int32) (t1 : Int32) (t2 : Int32) : Int32 × gF × gG := (P_Operators_binary_75 κ  φ ψ i1 i2 i3 i4 i5 i6 0 t0 t1 t2)
def P_Operators_binary_36 (κ : Nat → Nat) (φ : gF) (ψ : gG) (i1 : Int32) (i2 : Int32) (i3 : Int32) (i4 : Int32) (i5 : Int32) (t0 : Int32) : Int32 × gF × gG := (if (P_Looks_isFixed (κ 7) (φ 9) i3) = 0 then (P_Operators_binary_74 κ  φ ψ i1 i2 i3 i4 i5 t0 t0 i5 i1) else (if (P_Looks_isFixed (κ 7) (φ 9) i4) = 0 then (P_Operators_binary_74 κ  φ ψ i1 i2 i3 i4 i5 t0 t0 i5 i1) else (P_Operators_binary_75 κ  φ ψ i1 i2 i3 i4 i5 t0 1 t0 i5 i1)))
def P_Operators_binary (κ : Nat → Nat) (φ : gF) (ψ : gG) (x1 : Int32) (x2 : Int32) (x3 : Int32) (x4 : Int32) : Int32 × gF × gG := (if (P_Operators_resultClass κ φ ψ x2 x3 x4) = (-1) then (3, φ, ψ) else (if (P_Operators_resultClass κ φ ψ x2 x3 x4) = 3 then (P_Operators_binary_36 κ  φ ψ x1 x2 x3 x4 (P_Operators_resultClass κ φ ψ x2 x3 x4) (P_Operators_resultLength κ φ ψ x2 x3 x4)) else (P_Operators_binary_36 κ  φ ψ x1 x2 x3 x4 (P_Operators_resultClass κ φ ψ x2 x3 x4) 0)))
set_option maxHeartbeats 4000000 in
set_option maxRecDepth 100000 in
theorem f_Operators_binary (l : Launch) (γ : gE) (A : Nat → Prop) (κ : Nat → Nat) (φ : gF) (ψ : gG) (x1 : Int32) (x2 : Int32) (x3 : Int32) (x4 : Int32) : MU l yOperators_binary bOperators_binary 8 (some .int) 4 95 0 0 [.ref (γ.2.2.2 11), .int x1, .int x2, .int x3, .int x4] γ A (INVF γ A κ φ ψ) (mQi (fun r H => r = (P_Operators_binary κ φ ψ x1 x2 x3 x4).1 ∧ INVF γ A κ (P_Operators_binary κ φ ψ x1 x2 x3 x4).2.1 (P_Operators_binary κ φ ψ x1 x2 x3 x4).2.2 H) A) := by
  refine mu_openI (by decide) (Nat.le_of_ble_eq_true rfl) ?_
  intro p e s m args below meth c ls Q S hnm hC hA hG hE hl
  obtain ⟨hx, hb, hml, hown, hW⟩ := id S
  have hI := inv_of hG
  have hS : va_S A s.heap s.heap [] := va_S.rf
  have hl : lv_has ls 8 [(0, .ref (γ.2.2.2 11)), (1, .int x1), (2, .int x2), (3, .int x3), (4, .int x4)] := hl
  obtain ⟨OUT, hQ, hO⟩ : ∃ z, (z = P_Operators_binary κ φ ψ x1 x2 x3 x4) ∧ Oq z (P_Operators_binary κ φ ψ x1 x2 x3 x4) := ⟨_, rfl, rfl⟩
  rw [← hQ] at hE
  clear hQ
  have J354 : ∀ (ls : Array Slot) (H : Heap) (locs : List Loc) (φ : gF) (ψ : gG) (i1 : Int32) (i2 : Int32) (i3 : Int32) (i4 : Int32) (i5 : Int32) (i6 : Int32) (i7 : Int32) (t0 : Int32) (t1 : Int32) (t2 : Int32), INVF γ A κ φ ψ H → va_S A s.heap H locs → (Oq OUT (P_Operators_binary_354 κ   φ ψ i1 i2 i3 i4 i5 i6 i7 t0 t1 t2)) → lv_has ls 8 [(0, .ref (γ.2.2.2 11)), (1, .int i1), (2, .int i2), (3, .int i3), (4, .int i4), (5, .int i5), (6, .int i6), (7, .int i7)] → W p l e (bs_rm 4 0 0 95) s m args below meth c H locs 0 0 Q (F0 m 354 ls [.int t0, .int t1, .int t2, .ref (γ.2.2.2 11)]) := by
    intro ls H locs φ ψ i1 i2 i3 i4 i5 i6 i7 t0 t1 t2 hG hS hO hl
    have hI := inv_of hG
    refine mu_Vv (rest := []) S hC (fun q h => hA q (Nat.le_trans hS.1 h)) (fun q h => h) hS (f_Operators_shift l γ A κ φ ψ t2 t1 t0) meOperators_shift qw_446a3f39f2 ⟨Nat.le_of_ble_eq_true rfl, Nat.le_of_ble_eq_true rfl⟩ (rv_11 hC hI) hG rfl hl.1 rfl (Nat.le_of_ble_eq_true rfl) dOperators_binary_354 ⟨Nat.le_refl _, Nat.le_refl _⟩ (fun H locs hG hS _ _ => ?_)
    obtain ⟨φ62, eφ62⟩ : ∃ z : gF, z = (P_Operators_shift κ φ ψ t2 t1 t0).1 := ⟨_, rfl⟩
    rw [← eφ62] at hG
    obtain ⟨ψ63, eψ63⟩ : ∃ z : gG, z = (P_Operators_shift κ φ ψ t2 t1 t0).2 := ⟨_, rfl⟩
    rw [← eψ63] at hG
    have hI := inv_of hG
    refine lv_iconst (v := 0) hx hb dOperators_binary_357 (by decide) ?_
    exact hE _ _ _ _ _ hS (by have hO2 : Oq OUT (0, φ62, ψ63) := (by subst eψ63 eφ62; exact hO.tr rfl); rw [hO2.eq]; exact ⟨rfl, hG⟩) dOperators_binary_358
  have J282 : ∀ (ls : Array Slot) (H : Heap) (locs : List Loc) (φ : gF) (ψ : gG) (i1 : Int32) (i2 : Int32) (i3 : Int32) (i4 : Int32) (i5 : Int32) (i6 : Int32) (i7 : Int32) (t0 : Int32) (t1 : Int32), INVF γ A κ φ ψ H → va_S A s.heap H locs → (Oq OUT (P_Operators_binary_282 κ   φ ψ i1 i2 i3 i4 i5 i6 i7 t0 t1)) → lv_has ls 8 [(0, .ref (γ.2.2.2 11)), (1, .int i1), (2, .int i2), (3, .int i3), (4, .int i4), (5, .int i5), (6, .int i6), (7, .int i7)] → W p l e (bs_rm 4 0 0 95) s m args below meth c H locs 0 0 Q (F0 m 282 ls [.int t0, .int t1, .ref (γ.2.2.2 9)]) := by
    intro ls H locs φ ψ i1 i2 i3 i4 i5 i6 i7 t0 t1 hG hS hO hl
    have hI := inv_of hG
    refine mu_Vv (rest := []) S hC (fun q h => hA q (Nat.le_trans hS.1 h)) (fun q h => h) hS (f9_Looks_setNumber l γ A κ φ ψ t1 t0) meLooks_setNumber qw_6899d83413 ⟨Nat.le_of_ble_eq_true rfl, Nat.le_of_ble_eq_true rfl⟩ (rv_9 hC hI) hG rfl hl.1 rfl (Nat.le_of_ble_eq_true rfl) dOperators_binary_282 ⟨Nat.le_refl _, Nat.le_refl _⟩ (fun H locs hG hS _ _ => ?_)
    obtain ⟨φ65, eφ65⟩ : ∃ z : gF, z = up φ 9 (P_Looks_setNumber (κ 7) (φ 9) t1 t0) := ⟨_, rfl⟩
    rw [← eφ65] at hG
    have hI := inv_of hG
    refine lv_goto (tgt := 357) hx hb dOperators_binary_285 (by decide) ?_
    refine lv_iconst (v := 0) hx hb dOperators_binary_357 (by decide) ?_
    exact hE _ _ _ _ _ hS (by have hO2 : Oq OUT (0, φ65, ψ) := (by subst eφ65; exact hO.tr rfl); rw [hO2.eq]; exact ⟨rfl, hG⟩) dOperators_binary_358
  have J249 : ∀ (ls : Array Slot) (H : Heap) (locs : List Loc) (φ : gF) (ψ : gG) (i1 : Int32) (i2 : Int32) (i3 : Int32) (i4 : Int32) (i5 : Int32) (i6 : Int32) (i7 : Int32) (t0 : Int32) (t1 : Int32), INVF γ A κ φ ψ H → va_S A s.heap H locs → (Oq OUT (P_Operators_binary_249 κ   φ ψ i1 i2 i3 i4 i5 i6 i7 t0 t1)) → lv_has ls 8 [(0, .ref (γ.2.2.2 11)), (1, .int i1), (2, .int i2), (3, .int i3), (4, .int i4), (5, .int i5), (6, .int i6), (7, .int i7)] → W p l e (bs_rm 4 0 0 95) s m args below meth c H locs 0 0 Q (F0 m 249 ls [.int t0, .int t1, .ref (γ.2.2.2 9)]) := by
    intro ls H locs φ ψ i1 i2 i3 i4 i5 i6 i7 t0 t1 hG hS hO hl
    have hI := inv_of hG
    refine mu_Vv (rest := []) S hC (fun q h => hA q (Nat.le_trans hS.1 h)) (fun q h => h) hS (f9_Looks_setNumber l γ A κ φ ψ t1 t0) meLooks_setNumber qw_6899d83413 ⟨Nat.le_of_ble_eq_true rfl, Nat.le_of_ble_eq_true rfl⟩ (rv_9 hC hI) hG rfl hl.1 rfl (Nat.le_of_ble_eq_true rfl) dOperators_binary_249 ⟨Nat.le_refl _, Nat.le_refl _⟩ (fun H locs hG hS _ _ => ?_)
    obtain ⟨φ67, eφ67⟩ : ∃ z : gF, z = up φ 9 (P_Looks_setNumber (κ 7) (φ 9) t1 t0) := ⟨_, rfl⟩
    rw [← eφ67] at hG
    have hI := inv_of hG
    refine lv_goto (tgt := 357) hx hb dOperators_binary_252 (by decide) ?_
    refine lv_iconst (v := 0) hx hb dOperators_binary_357 (by decide) ?_
    exact hE _ _ _ _ _ hS (by have hO2 : Oq OUT (0, φ67, ψ) := (by subst eφ67; exact hO.tr rfl); rw [hO2.eq]; exact ⟨rfl, hG⟩) dOperators_binary_358
  have J241 : ∀ (ls : Array Slot) (H : Heap) (locs : List Loc) (φ : gF) (ψ : gG) (i1 : Int32) (i2 : Int32) (i3 : Int32) (i4 : Int32) (i5 : Int32) (i6 : Int32) (i7 : Int32) (t0 : Int32) (t1 : Int32) (t2 : Int32), INVF γ A κ φ ψ H → va_S A s.heap H locs → (Oq OUT (P_Operators_binary_241 κ   φ ψ i1 i2 i3 i4 i5 i6 i7 t0 t1 t2)) → lv_has ls 8 [(0, .ref (γ.2.2.2 11)), (1, .int i1), (2, .int i2), (3, .int i3), (4, .int i4), (5, .int i5), (6, .int i6), (7, .int i7)] → W p l e (bs_rm 4 0 0 95) s m args below meth c H locs 0 0 Q (F0 m 241 ls [.int t0, .int t1, .int t2, .ref (γ.2.2.2 9)]) := by
    intro ls H locs φ ψ i1 i2 i3 i4 i5 i6 i7 t0 t1 t2 hG hS hO hl
    have hI := inv_of hG
    refine lv_icmp_ne (tgt := 248) hx hb dOperators_binary_241 (by decide) (fun c68 => ?_) (fun c68 => ?_)
    · refine lv_iconst (v := 0) hx hb dOperators_binary_248 (by decide) ?_
      exact J249 ls _ _ φ ψ i1 i2 i3 i4 i5 i6 i7 0 t2 hG hS (by exact hO.tr (if_neg c68)) (lv_sub hl [0, 1, 2, 3, 4, 5, 6, 7] rfl)
    · refine lv_iconst (v := 1) hx hb dOperators_binary_244 (by decide) ?_
      refine lv_goto (tgt := 249) hx hb dOperators_binary_245 (by decide) ?_
      exact J249 ls _ _ φ ψ i1 i2 i3 i4 i5 i6 i7 1 t2 hG hS (by exact hO.tr (if_pos c68)) (lv_sub hl [0, 1, 2, 3, 4, 5, 6, 7] rfl)
  have J150 : ∀ (ls : Array Slot) (H : Heap) (locs : List Loc) (φ : gF) (ψ : gG) (i1 : Int32) (i2 : Int32) (i3 : Int32) (i4 : Int32) (i5 : Int32) (i6 : Int32) (i7 : Int32), INVF γ A κ φ ψ H → va_S A s.heap H locs → (Oq OUT (P_Operators_binary_150 κ   φ ψ i1 i2 i3 i4 i5 i6 i7)) → lv_has ls 8 [(0, .ref (γ.2.2.2 11)), (1, .int i1), (2, .int i2), (3, .int i3), (4, .int i4), (5, .int i5), (6, .int i6), (7, .int i7)] → W p l e (bs_rm 4 0 0 95) s m args below meth c H locs 0 0 Q (F0 m 150 ls []) := by
    intro ls H locs φ ψ i1 i2 i3 i4 i5 i6 i7 hG hS hO hl
    have hI := inv_of hG
    refine lv_aload_n hx hb dOperators_binary_150 rfl (lv_at hl 0 rfl) ?_
    refine of_get S hC (of_11_0 hI) in_Operators rfl (by decide) qw_46160f6e07 dOperators_binary_151 ?_
    refine lv_iload_n hx hb dOperators_binary_154 rfl (lv_at hl 1 rfl) ?_
    refine pu_Vi (rest := []) S hC (f9_Looks_isFixed l γ A κ φ ψ i1) meLooks_isFixed qw_c191710e5d ⟨Nat.le_of_ble_eq_true rfl, Nat.le_of_ble_eq_true rfl⟩ (rv_9 hC hI) hG rfl hl.1 rfl (Nat.le_of_ble_eq_true rfl) dOperators_binary_155 ⟨Nat.zero_le _, Nat.zero_le _⟩ (fun r69 hr69 => ?_)
    obtain ⟨hr69, er69⟩ := hr69
    refine lv_if_ne (tgt := 163) hx hb dOperators_binary_158 (by decide) (fun c70 => ?_) (fun c70 => ?_)
    · refine lv_iload hx hb dOperators_binary_163 (lv_at hl 5 rfl) ?_
      refine lv_iconst (v := 2) hx hb dOperators_binary_165 (by decide) ?_
      refine lv_icmp_ne (tgt := 195) hx hb dOperators_binary_166 (by decide) (fun c71 => ?_) (fun c71 => ?_)
      · refine lv_iload_n hx hb dOperators_binary_195 rfl (lv_at hl 2 rfl) ?_
        refine lv_iconst (v := 5) hx hb dOperators_binary_196 (by decide) ?_
        refine lv_icmp_gt (tgt := 212) hx hb dOperators_binary_197 (by decide) (fun c72 => ?_) (fun c72 => ?_)
        · refine lv_iload_n hx hb dOperators_binary_212 rfl (lv_at hl 2 rfl) ?_
          refine lv_bipush (v := 7) hx hb dOperators_binary_213 (by decide) ?_
          refine lv_icmp_gt (tgt := 255) hx hb dOperators_binary_215 (by decide) (fun c73 => ?_) (fun c73 => ?_)
          · refine lv_iload_n hx hb dOperators_binary_255 rfl (lv_at hl 2 rfl) ?_
            refine lv_bipush (v := 11) hx hb dOperators_binary_256 (by decide) ?_
            refine lv_icmp_gt (tgt := 288) hx hb dOperators_binary_258 (by decide) (fun c74 => ?_) (fun c74 => ?_)
            · refine lv_iload_n hx hb dOperators_binary_288 rfl (lv_at hl 2 rfl) ?_
              refine lv_bipush (v := 13) hx hb dOperators_binary_289 (by decide) ?_
              refine lv_icmp_gt (tgt := 306) hx hb dOperators_binary_291 (by decide) (fun c75 => ?_) (fun c75 => ?_)
              · refine lv_iload_n hx hb dOperators_binary_306 rfl (lv_at hl 2 rfl) ?_
                refine lv_bipush (v := 14) hx hb dOperators_binary_307 (by decide) ?_
                refine lv_icmp_ne (tgt := 323) hx hb dOperators_binary_309 (by decide) (fun c76 => ?_) (fun c76 => ?_)
                · refine lv_aload_n hx hb dOperators_binary_323 rfl (lv_at hl 0 rfl) ?_
                  refine lv_iload_n hx hb dOperators_binary_324 rfl (lv_at hl 1 rfl) ?_
                  refine lv_iload_n hx hb dOperators_binary_325 rfl (lv_at hl 3 rfl) ?_
                  refine lv_iload_n hx hb dOperators_binary_326 rfl (lv_at hl 2 rfl) ?_
                  refine lv_bipush (v := 19) hx hb dOperators_binary_327 (by decide) ?_
                  refine lv_icmp_ne (tgt := 344) hx hb dOperators_binary_329 (by decide) (fun c77 => ?_) (fun c77 => ?_)
                  · refine lv_aload_n hx hb dOperators_binary_344 rfl (lv_at hl 0 rfl) ?_
                    refine of_get S hC (of_11_0 hI) in_Operators rfl (by decide) qw_46160f6e07 dOperators_binary_345 ?_
                    refine lv_iload hx hb dOperators_binary_348 (lv_at hl 4 rfl) ?_
                    refine pu_Vi (rest := [.int i3, .int i1, .ref (γ.2.2.2 11)]) S hC (f9_Looks_numberOf l γ A κ φ ψ i4) meLooks_numberOf qw_567f1aae5f ⟨Nat.le_of_ble_eq_true rfl, Nat.le_of_ble_eq_true rfl⟩ (rv_9 hC hI) hG rfl hl.1 rfl (Nat.le_of_ble_eq_true rfl) dOperators_binary_350 ⟨Nat.zero_le _, Nat.zero_le _⟩ (fun r78 hr78 => ?_)
                    obtain ⟨hr78, er78⟩ := hr78
                    refine lv_ineg hx hb dOperators_binary_353 ?_
                    refine lv_topi (fun v79 ev79 => ?_)
                    exact J354 ls _ _ φ ψ i1 i2 i3 i4 i5 i6 i7 v79 i3 i1 hG hS (by subst ev79 er78 er69; exact hO.tr ((if_neg c70).trans ((if_neg c71).trans ((if_pos c72).trans ((if_pos c73).trans ((if_pos c74).trans ((if_pos c75).trans ((if_neg c76).trans (if_neg c77))))))))) (lv_sub hl [0, 1, 2, 3, 4, 5, 6, 7] rfl)
                  · refine lv_aload_n hx hb dOperators_binary_332 rfl (lv_at hl 0 rfl) ?_
                    refine of_get S hC (of_11_0 hI) in_Operators rfl (by decide) qw_46160f6e07 dOperators_binary_333 ?_
                    refine lv_iload hx hb dOperators_binary_336 (lv_at hl 4 rfl) ?_
                    refine pu_Vi (rest := [.int i3, .int i1, .ref (γ.2.2.2 11)]) S hC (f9_Looks_numberOf l γ A κ φ ψ i4) meLooks_numberOf qw_567f1aae5f ⟨Nat.le_of_ble_eq_true rfl, Nat.le_of_ble_eq_true rfl⟩ (rv_9 hC hI) hG rfl hl.1 rfl (Nat.le_of_ble_eq_true rfl) dOperators_binary_338 ⟨Nat.zero_le _, Nat.zero_le _⟩ (fun r80 hr80 => ?_)
                    obtain ⟨hr80, er80⟩ := hr80
                    refine lv_goto (tgt := 354) hx hb dOperators_binary_341 (by decide) ?_
                    exact J354 ls _ _ φ ψ i1 i2 i3 i4 i5 i6 i7 r80 i3 i1 hG hS (by subst er80 er69; exact hO.tr ((if_neg c70).trans ((if_neg c71).trans ((if_pos c72).trans ((if_pos c73).trans ((if_pos c74).trans ((if_pos c75).trans ((if_neg c76).trans (if_pos c77))))))))) (lv_sub hl [0, 1, 2, 3, 4, 5, 6, 7] rfl)
                · refine lv_aload_n hx hb dOperators_binary_312 rfl (lv_at hl 0 rfl) ?_
                  refine lv_iload_n hx hb dOperators_binary_313 rfl (lv_at hl 1 rfl) ?_
                  refine lv_iload_n hx hb dOperators_binary_314 rfl (lv_at hl 3 rfl) ?_
                  refine lv_iload hx hb dOperators_binary_315 (lv_at hl 4 rfl) ?_
                  refine mu_Vv (rest := []) S hC (fun q h => hA q (Nat.le_trans hS.1 h)) (fun q h => h) hS (f_Operators_join l γ A κ φ ψ i1 i3 i4) meOperators_join qw_cfad81ad60 ⟨Nat.le_of_ble_eq_true rfl, Nat.le_of_ble_eq_true rfl⟩ (rv_11 hC hI) hG rfl hl.1 rfl (Nat.le_of_ble_eq_true rfl) dOperators_binary_317 ⟨Nat.le_refl _, Nat.le_refl _⟩ (fun H locs hG hS _ _ => ?_)
                  obtain ⟨φ82, eφ82⟩ : ∃ z : gF, z = (P_Operators_join κ φ ψ i1 i3 i4).1 := ⟨_, rfl⟩
                  rw [← eφ82] at hG
                  obtain ⟨ψ83, eψ83⟩ : ∃ z : gG, z = (P_Operators_join κ φ ψ i1 i3 i4).2 := ⟨_, rfl⟩
                  rw [← eψ83] at hG
                  have hI := inv_of hG
                  refine lv_goto (tgt := 357) hx hb dOperators_binary_320 (by decide) ?_
                  refine lv_iconst (v := 0) hx hb dOperators_binary_357 (by decide) ?_
                  exact hE _ _ _ _ _ hS (by have hO2 : Oq OUT (0, φ82, ψ83) := (by subst eψ83 eφ82 er69; exact hO.tr ((if_neg c70).trans ((if_neg c71).trans ((if_pos c72).trans ((if_pos c73).trans ((if_pos c74).trans ((if_pos c75).trans (if_pos c76)))))))); rw [hO2.eq]; exact ⟨rfl, hG⟩) dOperators_binary_358
              · refine lv_aload_n hx hb dOperators_binary_294 rfl (lv_at hl 0 rfl) ?_
                refine lv_iload_n hx hb dOperators_binary_295 rfl (lv_at hl 1 rfl) ?_
                refine lv_iload_n hx hb dOperators_binary_296 rfl (lv_at hl 2 rfl) ?_
                refine lv_iload_n hx hb dOperators_binary_297 rfl (lv_at hl 3 rfl) ?_
                refine lv_iload hx hb dOperators_binary_298 (lv_at hl 4 rfl) ?_
                refine mu_Vv (rest := []) S hC (fun q h => hA q (Nat.le_trans hS.1 h)) (fun q h => h) hS (f_Operators_sumRows l γ A κ φ ψ i1 i2 i3 i4) meOperators_sumRows qw_7021c7185b ⟨Nat.le_of_ble_eq_true rfl, Nat.le_of_ble_eq_true rfl⟩ (rv_11 hC hI) hG rfl hl.1 rfl (Nat.le_of_ble_eq_true rfl) dOperators_binary_300 ⟨Nat.le_refl _, Nat.le_refl _⟩ (fun H locs hG hS _ _ => ?_)
                obtain ⟨φ85, eφ85⟩ : ∃ z : gF, z = (P_Operators_sumRows κ φ ψ i1 i2 i3 i4).1 := ⟨_, rfl⟩
                rw [← eφ85] at hG
                obtain ⟨ψ86, eψ86⟩ : ∃ z : gG, z = (P_Operators_sumRows κ φ ψ i1 i2 i3 i4).2 := ⟨_, rfl⟩
                rw [← eψ86] at hG
                have hI := inv_of hG
                refine lv_goto (tgt := 357) hx hb dOperators_binary_303 (by decide) ?_
                refine lv_iconst (v := 0) hx hb dOperators_binary_357 (by decide) ?_
                exact hE _ _ _ _ _ hS (by have hO2 : Oq OUT (0, φ85, ψ86) := (by subst eψ86 eφ85 er69; exact hO.tr ((if_neg c70).trans ((if_neg c71).trans ((if_pos c72).trans ((if_pos c73).trans ((if_pos c74).trans (if_neg c75))))))); rw [hO2.eq]; exact ⟨rfl, hG⟩) dOperators_binary_358
            · refine lv_aload_n hx hb dOperators_binary_261 rfl (lv_at hl 0 rfl) ?_
              refine of_get S hC (of_11_0 hI) in_Operators rfl (by decide) qw_46160f6e07 dOperators_binary_262 ?_
              refine lv_iload_n hx hb dOperators_binary_265 rfl (lv_at hl 1 rfl) ?_
              refine lv_aload_n hx hb dOperators_binary_266 rfl (lv_at hl 0 rfl) ?_
              refine lv_iload_n hx hb dOperators_binary_267 rfl (lv_at hl 2 rfl) ?_
              refine lv_iload_n hx hb dOperators_binary_268 rfl (lv_at hl 3 rfl) ?_
              refine lv_iload hx hb dOperators_binary_269 (lv_at hl 4 rfl) ?_
              refine pu_Vi (rest := [.int i1, .ref (γ.2.2.2 9)]) S hC (f_Operators_isOrdered l γ A κ φ ψ i2 i3 i4) meOperators_isOrdered qw_6712b2d4fd ⟨Nat.le_of_ble_eq_true rfl, Nat.le_of_ble_eq_true rfl⟩ (rv_11 hC hI) hG rfl hl.1 rfl (Nat.le_of_ble_eq_true rfl) dOperators_binary_271 ⟨Nat.zero_le _, Nat.zero_le _⟩ (fun r87 hr87 => ?_)
              obtain ⟨hr87, er87⟩ := hr87
              refine lv_if_eq (tgt := 281) hx hb dOperators_binary_274 (by decide) (fun c88 => ?_) (fun c88 => ?_)
              · refine lv_iconst (v := 0) hx hb dOperators_binary_281 (by decide) ?_
                exact J282 ls _ _ φ ψ i1 i2 i3 i4 i5 i6 i7 0 i1 hG hS (by subst er87 er69; exact hO.tr ((if_neg c70).trans ((if_neg c71).trans ((if_pos c72).trans ((if_pos c73).trans ((if_neg c74).trans (if_pos c88))))))) (lv_sub hl [0, 1, 2, 3, 4, 5, 6, 7] rfl)
              · refine lv_iconst (v := 1) hx hb dOperators_binary_277 (by decide) ?_
                refine lv_goto (tgt := 282) hx hb dOperators_binary_278 (by decide) ?_
                exact J282 ls _ _ φ ψ i1 i2 i3 i4 i5 i6 i7 1 i1 hG hS (by subst er87 er69; exact hO.tr ((if_neg c70).trans ((if_neg c71).trans ((if_pos c72).trans ((if_pos c73).trans ((if_neg c74).trans (if_neg c88))))))) (lv_sub hl [0, 1, 2, 3, 4, 5, 6, 7] rfl)
          · refine lv_aload_n hx hb dOperators_binary_218 rfl (lv_at hl 0 rfl) ?_
            refine of_get S hC (of_11_0 hI) in_Operators rfl (by decide) qw_46160f6e07 dOperators_binary_219 ?_
            refine lv_iload_n hx hb dOperators_binary_222 rfl (lv_at hl 1 rfl) ?_
            refine lv_aload_n hx hb dOperators_binary_223 rfl (lv_at hl 0 rfl) ?_
            refine lv_iload_n hx hb dOperators_binary_224 rfl (lv_at hl 3 rfl) ?_
            refine lv_iload hx hb dOperators_binary_225 (lv_at hl 4 rfl) ?_
            refine pu_Vi (rest := [.int i1, .ref (γ.2.2.2 9)]) S hC (f_Operators_areAlike l γ A κ φ ψ i3 i4) meOperators_areAlike qw_dd9a5adbb1 ⟨Nat.le_of_ble_eq_true rfl, Nat.le_of_ble_eq_true rfl⟩ (rv_11 hC hI) hG rfl hl.1 rfl (Nat.le_of_ble_eq_true rfl) dOperators_binary_227 ⟨Nat.zero_le _, Nat.zero_le _⟩ (fun r89 hr89 => ?_)
            obtain ⟨hr89, er89⟩ := hr89
            refine lv_iload_n hx hb dOperators_binary_230 rfl (lv_at hl 2 rfl) ?_
            refine lv_bipush (v := 6) hx hb dOperators_binary_231 (by decide) ?_
            refine lv_icmp_ne (tgt := 240) hx hb dOperators_binary_233 (by decide) (fun c90 => ?_) (fun c90 => ?_)
            · refine lv_iconst (v := 0) hx hb dOperators_binary_240 (by decide) ?_
              exact J241 ls _ _ φ ψ i1 i2 i3 i4 i5 i6 i7 0 r89 i1 hG hS (by subst er89 er69; exact hO.tr ((if_neg c70).trans ((if_neg c71).trans ((if_pos c72).trans ((if_neg c73).trans (if_neg c90)))))) (lv_sub hl [0, 1, 2, 3, 4, 5, 6, 7] rfl)
            · refine lv_iconst (v := 1) hx hb dOperators_binary_236 (by decide) ?_
              refine lv_goto (tgt := 241) hx hb dOperators_binary_237 (by decide) ?_
              exact J241 ls _ _ φ ψ i1 i2 i3 i4 i5 i6 i7 1 r89 i1 hG hS (by subst er89 er69; exact hO.tr ((if_neg c70).trans ((if_neg c71).trans ((if_pos c72).trans ((if_neg c73).trans (if_pos c90)))))) (lv_sub hl [0, 1, 2, 3, 4, 5, 6, 7] rfl)
        · refine lv_aload_n hx hb dOperators_binary_200 rfl (lv_at hl 0 rfl) ?_
          refine lv_iload_n hx hb dOperators_binary_201 rfl (lv_at hl 1 rfl) ?_
          refine lv_iload_n hx hb dOperators_binary_202 rfl (lv_at hl 2 rfl) ?_
          refine lv_iload_n hx hb dOperators_binary_203 rfl (lv_at hl 3 rfl) ?_
          refine lv_iload hx hb dOperators_binary_204 (lv_at hl 4 rfl) ?_
          refine mu_Vv (rest := []) S hC (fun q h => hA q (Nat.le_trans hS.1 h)) (fun q h => h) hS (f_Operators_combine l γ A κ φ ψ i1 i2 i3 i4) meOperators_combine qw_1b3bfb6306 ⟨Nat.le_of_ble_eq_true rfl, Nat.le_of_ble_eq_true rfl⟩ (rv_11 hC hI) hG rfl hl.1 rfl (Nat.le_of_ble_eq_true rfl) dOperators_binary_206 ⟨Nat.le_refl _, Nat.le_refl _⟩ (fun H locs hG hS _ _ => ?_)
          obtain ⟨φ92, eφ92⟩ : ∃ z : gF, z = (P_Operators_combine κ φ ψ i1 i2 i3 i4).1 := ⟨_, rfl⟩
          rw [← eφ92] at hG
          obtain ⟨ψ93, eψ93⟩ : ∃ z : gG, z = (P_Operators_combine κ φ ψ i1 i2 i3 i4).2 := ⟨_, rfl⟩
          rw [← eψ93] at hG
          have hI := inv_of hG
          refine lv_goto (tgt := 357) hx hb dOperators_binary_209 (by decide) ?_
          refine lv_iconst (v := 0) hx hb dOperators_binary_357 (by decide) ?_
          exact hE _ _ _ _ _ hS (by have hO2 : Oq OUT (0, φ92, ψ93) := (by subst eψ93 eφ92 er69; exact hO.tr ((if_neg c70).trans ((if_neg c71).trans (if_neg c72)))); rw [hO2.eq]; exact ⟨rfl, hG⟩) dOperators_binary_358
      · refine lv_aload_n hx hb dOperators_binary_169 rfl (lv_at hl 0 rfl) ?_
        refine lv_iload_n hx hb dOperators_binary_170 rfl (lv_at hl 1 rfl) ?_
        refine lv_iload_n hx hb dOperators_binary_171 rfl (lv_at hl 2 rfl) ?_
        refine lv_aload_n hx hb dOperators_binary_172 rfl (lv_at hl 0 rfl) ?_
        refine of_get S hC (of_11_0 hI) in_Operators rfl (by decide) qw_46160f6e07 dOperators_binary_173 ?_
        refine lv_iload_n hx hb dOperators_binary_176 rfl (lv_at hl 3 rfl) ?_
        refine pu_Vi (rest := [.int i2, .int i1, .ref (γ.2.2.2 11)]) S hC (f9_Looks_numberOf l γ A κ φ ψ i3) meLooks_numberOf qw_567f1aae5f ⟨Nat.le_of_ble_eq_true rfl, Nat.le_of_ble_eq_true rfl⟩ (rv_9 hC hI) hG rfl hl.1 rfl (Nat.le_of_ble_eq_true rfl) dOperators_binary_177 ⟨Nat.zero_le _, Nat.zero_le _⟩ (fun r94 hr94 => ?_)
        obtain ⟨hr94, er94⟩ := hr94
        refine lv_i2l hx hb dOperators_binary_180 rfl ?_
        refine lv_topl (fun v95 ev95 => ?_)
        refine lv_aload_n hx hb dOperators_binary_181 rfl (lv_at hl 0 rfl) ?_
        refine of_get S hC (of_11_0 hI) in_Operators rfl (by decide) qw_46160f6e07 dOperators_binary_182 ?_
        refine lv_iload hx hb dOperators_binary_185 (lv_at hl 4 rfl) ?_
        refine pu_Vi (rest := [.long v95, .int i2, .int i1, .ref (γ.2.2.2 11)]) S hC (f9_Looks_numberOf l γ A κ φ ψ i4) meLooks_numberOf qw_567f1aae5f ⟨Nat.le_of_ble_eq_true rfl, Nat.le_of_ble_eq_true rfl⟩ (rv_9 hC hI) hG rfl hl.1 rfl (Nat.le_of_ble_eq_true rfl) dOperators_binary_187 ⟨Nat.zero_le _, Nat.zero_le _⟩ (fun r96 hr96 => ?_)
        obtain ⟨hr96, er96⟩ := hr96
        refine lv_i2l hx hb dOperators_binary_190 rfl ?_
        refine lv_topl (fun v97 ev97 => ?_)
        refine mu_Vi (rest := []) S hC (fun q h => hA q (Nat.le_trans hS.1 h)) (fun q h => h) hS (f_Operators_calculate l γ A κ φ ψ i1 i2 v95 v97) meOperators_calculate qw_055df11e33 ⟨Nat.le_of_ble_eq_true rfl, Nat.le_of_ble_eq_true rfl⟩ (rv_11 hC hI) hG rfl hl.1 rfl (Nat.le_of_ble_eq_true rfl) dOperators_binary_191 ⟨Nat.le_refl _, Nat.le_refl _⟩ (fun r98 H locs ⟨er98, hG⟩ hS _ _ => ?_)
        obtain ⟨φ99, eφ99⟩ : ∃ z : gF, z = (P_Operators_calculate κ φ ψ i1 i2 v95 v97).2.1 := ⟨_, rfl⟩
        rw [← eφ99] at hG
        obtain ⟨ψ100, eψ100⟩ : ∃ z : gG, z = (P_Operators_calculate κ φ ψ i1 i2 v95 v97).2.2 := ⟨_, rfl⟩
        rw [← eψ100] at hG
        have hI := inv_of hG
        exact hE _ _ _ _ _ hS (by have hO2 : Oq OUT (r98, φ99, ψ100) := (by subst eψ100 eφ99 er98 ev97 er96 ev95 er94 er69; exact hO.tr ((if_neg c70).trans (if_pos c71))); rw [hO2.eq]; exact ⟨rfl, hG⟩) dOperators_binary_194
    · refine lv_iconst (v := 0) hx hb dOperators_binary_161 (by decide) ?_
      exact hE _ _ _ _ _ hS (by have hO2 : Oq OUT (0, φ, ψ) := (by subst er69; exact hO.tr (if_pos c70)); rw [hO2.eq]; exact ⟨rfl, hG⟩) dOperators_binary_162
  have J108 : ∀ (ls : Array Slot) (H : Heap) (locs : List Loc) (φ : gF) (ψ : gG) (i1 : Int32) (i2 : Int32) (i3 : Int32) (i4 : Int32) (i5 : Int32) (i6 : Int32) (t0 : Int32), INVF γ A κ φ ψ H → va_S A s.heap H locs → (Oq OUT (P_Operators_binary_108 κ   φ ψ i1 i2 i3 i4 i5 i6 t0)) → lv_has ls 8 [(0, .ref (γ.2.2.2 11)), (1, .int i1), (2, .int i2), (3, .int i3), (4, .int i4), (5, .int i5), (6, .int i6)] → W p l e (bs_rm 4 0 0 95) s m args below meth c H locs 0 0 Q (F0 m 108 ls [.int t0]) := by
    intro ls H locs φ ψ i1 i2 i3 i4 i5 i6 t0 hG hS hO hl
    have hI := inv_of hG
    refine lv_istore (lv' := [(7, .int t0), (0, .ref (γ.2.2.2 11)), (1, .int i1), (2, .int i2), (3, .int i3), (4, .int i4), (5, .int i5), (6, .int i6)]) hx hb dOperators_binary_108 hl (by decide) rfl (fun ls hl => ?_)
    refine lv_iload hx hb dOperators_binary_110 (lv_at hl 7 rfl) ?_
    refine lv_bipush (v := 64) hx hb dOperators_binary_112 (by decide) ?_
    refine lv_icmp_gt (tgt := 148) hx hb dOperators_binary_114 (by decide) (fun c101 => ?_) (fun c101 => ?_)
    · refine lv_iconst (v := 4) hx hb dOperators_binary_148 (by decide) ?_
      exact hE _ _ _ _ _ hS (by have hO2 : Oq OUT (4, φ, ψ) := (by exact hO.tr (if_pos c101)); rw [hO2.eq]; exact ⟨rfl, hG⟩) dOperators_binary_149
    · refine lv_iload hx hb dOperators_binary_117 (lv_at hl 0 rfl) ?_
      refine lv_if_eq (tgt := 150) hx hb dOperators_binary_119 (by decide) (fun c102 => ?_) (fun c102 => ?_)
      · exact J150 ls _ _ φ ψ i1 i2 i3 i4 i5 i6 t0 hG hS (by exact hO.tr ((if_neg c101).trans (if_pos c102))) (lv_sub hl [1, 2, 3, 4, 5, 6, 7, 0] rfl)
      · refine lv_iload_n hx hb dOperators_binary_122 rfl (lv_at hl 3 rfl) ?_
        refine lv_bipush (v := 14) hx hb dOperators_binary_123 (by decide) ?_
        refine lv_icmp_eq (tgt := 150) hx hb dOperators_binary_125 (by decide) (fun c103 => ?_) (fun c103 => ?_)
        · exact J150 ls _ _ φ ψ i1 i2 i3 i4 i5 i6 t0 hG hS (by exact hO.tr ((if_neg c101).trans ((if_neg c102).trans (if_pos c103)))) (lv_sub hl [1, 2, 3, 4, 5, 6, 7, 0] rfl)
        · refine lv_aload_n hx hb dOperators_binary_128 rfl (lv_at hl 1 rfl) ?_
          refine of_get S hC (of_11_0 hI) in_Operators rfl (by decide) qw_46160f6e07 dOperators_binary_129 ?_
          refine lv_iload_n hx hb dOperators_binary_132 rfl (lv_at hl 4 rfl) ?_
          refine pu_Vi (rest := []) S hC (f9_Looks_extentOf l γ A κ φ ψ i3) meLooks_extentOf qw_b0051a6c7a ⟨Nat.le_of_ble_eq_true rfl, Nat.le_of_ble_eq_true rfl⟩ (rv_9 hC hI) hG rfl hl.1 rfl (Nat.le_of_ble_eq_true rfl) dOperators_binary_133 ⟨Nat.zero_le _, Nat.zero_le _⟩ (fun r104 hr104 => ?_)
          obtain ⟨hr104, er104⟩ := hr104
          refine lv_aload_n hx hb dOperators_binary_136 rfl (lv_at hl 1 rfl) ?_
          refine of_get S hC (of_11_0 hI) in_Operators rfl (by decide) qw_46160f6e07 dOperators_binary_137 ?_
          refine lv_iload hx hb dOperators_binary_140 (lv_at hl 5 rfl) ?_
          refine pu_Vi (rest := [.int r104]) S hC (f9_Looks_extentOf l γ A κ φ ψ i4) meLooks_extentOf qw_b0051a6c7a ⟨Nat.le_of_ble_eq_true rfl, Nat.le_of_ble_eq_true rfl⟩ (rv_9 hC hI) hG rfl hl.1 rfl (Nat.le_of_ble_eq_true rfl) dOperators_binary_142 ⟨Nat.zero_le _, Nat.zero_le _⟩ (fun r105 hr105 => ?_)
          obtain ⟨hr105, er105⟩ := hr105
          refine lv_icmp_eq (tgt := 150) hx hb dOperators_binary_145 (by decide) (fun c106 => ?_) (fun c106 => ?_)
          · exact J150 ls _ _ φ ψ i1 i2 i3 i4 i5 i6 t0 hG hS (by subst er105 er104; exact hO.tr ((if_neg c101).trans ((if_neg c102).trans ((if_neg c103).trans (if_pos c106))))) (lv_sub hl [1, 2, 3, 4, 5, 6, 7, 0] rfl)
          · refine lv_iconst (v := 4) hx hb dOperators_binary_148 (by decide) ?_
            exact hE _ _ _ _ _ hS (by have hO2 : Oq OUT (4, φ, ψ) := (by subst er105 er104; exact hO.tr ((if_neg c101).trans ((if_neg c102).trans ((if_neg c103).trans (if_neg c106))))); rw [hO2.eq]; exact ⟨rfl, hG⟩) dOperators_binary_149
  have J107 : ∀ (ls : Array Slot) (H : Heap) (locs : List Loc) (φ : gF) (ψ : gG) (i1 : Int32) (i2 : Int32) (i3 : Int32) (i4 : Int32) (i5 : Int32) (i6 : Int32), INVF γ A κ φ ψ H → va_S A s.heap H locs → (Oq OUT (P_Operators_binary_107 κ   φ ψ i1 i2 i3 i4 i5 i6)) → lv_has ls 8 [(0, .ref (γ.2.2.2 11)), (1, .int i1), (2, .int i2), (3, .int i3), (4, .int i4), (5, .int i5), (6, .int i6)] → W p l e (bs_rm 4 0 0 95) s m args below meth c H locs 0 0 Q (F0 m 107 ls []) := by
    intro ls H locs φ ψ i1 i2 i3 i4 i5 i6 hG hS hO hl
    have hI := inv_of hG
    refine lv_iconst (v := 0) hx hb dOperators_binary_107 (by decide) ?_
    exact J108 ls _ _ φ ψ i1 i2 i3 i4 i5 i6 0 hG hS (by exact hO.tr rfl) (lv_sub hl [0, 1, 2, 3, 4, 5, 6] rfl)
  have J75 : ∀ (ls : Array Slot) (H : Heap) (locs : List Loc) (φ : gF) (ψ : gG) (i1 : Int32) (i2 : Int32) (i3 : Int32) (i4 : Int32) (i5 : Int32) (i6 : Int32) (t0 : Int32) (t1 : Int32) (t2 : Int32) (t3 : Int32), INVF γ A κ φ ψ H → va_S A s.heap H locs → (Oq OUT (P_Operators_binary_75 κ   φ ψ i1 i2 i3 i4 i5 i6 t0 t1 t2 t3)) → lv_has ls 8 [(0, .ref (γ.2.2.2 11)), (1, .int i1), (2, .int i2), (3, .int i3), (4, .int i4), (5, .int i5), (6, .int i6)] → W p l e (bs_rm 4 0 0 95) s m args below meth c H locs 0 0 Q (F0 m 75 ls [.int t0, .int t1, .int t2, .int t3, .ref (γ.2.2.2 9)]) := by
    intro ls H locs φ ψ i1 i2 i3 i4 i5 i6 t0 t1 t2 t3 hG hS hO hl
    have hI := inv_of hG
    refine mu_Vv (rest := []) S hC (fun q h => hA q (Nat.le_trans hS.1 h)) (fun q h => h) hS (f9_Looks_note l γ A κ φ ψ t3 t2 t1 t0) meLooks_note qw_97c82781ec ⟨Nat.le_of_ble_eq_true rfl, Nat.le_of_ble_eq_true rfl⟩ (rv_9 hC hI) hG rfl hl.1 rfl (Nat.le_of_ble_eq_true rfl) dOperators_binary_75 ⟨Nat.le_refl _, Nat.le_refl _⟩ (fun H locs hG hS _ _ => ?_)
    obtain ⟨φ108, eφ108⟩ : ∃ z : gF, z = up φ 9 (P_Looks_note (κ 7) (φ 9) t3 t2 t1 t0) := ⟨_, rfl⟩
    rw [← eφ108] at hG
    have hI := inv_of hG
    refine lv_aload_n hx hb dOperators_binary_78 rfl (lv_at hl 0 rfl) ?_
    refine of_get S hC (of_11_0 hI) in_Operators rfl (by decide) qw_46160f6e07 dOperators_binary_79 ?_
    refine lv_iload_n hx hb dOperators_binary_82 rfl (lv_at hl 3 rfl) ?_
    refine pu_Vi (rest := []) S hC (f9_Looks_classOf l γ A κ φ108 ψ i3) meLooks_classOf qw_2e1b0e0eff ⟨Nat.le_of_ble_eq_true rfl, Nat.le_of_ble_eq_true rfl⟩ (rv_9 hC hI) hG rfl hl.1 rfl (Nat.le_of_ble_eq_true rfl) dOperators_binary_83 ⟨Nat.zero_le _, Nat.zero_le _⟩ (fun r109 hr109 => ?_)
    obtain ⟨hr109, er109⟩ := hr109
    refine lv_iconst (v := 3) hx hb dOperators_binary_86 (by decide) ?_
    refine lv_icmp_ne (tgt := 107) hx hb dOperators_binary_87 (by decide) (fun c110 => ?_) (fun c110 => ?_)
    · exact J107 ls _ _ φ108 ψ i1 i2 i3 i4 i5 i6 hG hS (by subst er109 eφ108; exact hO.tr (if_neg c110)) (lv_sub hl [0, 1, 2, 3, 4, 5, 6] rfl)
    · refine lv_aload_n hx hb dOperators_binary_90 rfl (lv_at hl 0 rfl) ?_
      refine of_get S hC (of_11_0 hI) in_Operators rfl (by decide) qw_46160f6e07 dOperators_binary_91 ?_
      refine lv_iload hx hb dOperators_binary_94 (lv_at hl 4 rfl) ?_
      refine pu_Vi (rest := []) S hC (f9_Looks_classOf l γ A κ φ108 ψ i4) meLooks_classOf qw_2e1b0e0eff ⟨Nat.le_of_ble_eq_true rfl, Nat.le_of_ble_eq_true rfl⟩ (rv_9 hC hI) hG rfl hl.1 rfl (Nat.le_of_ble_eq_true rfl) dOperators_binary_96 ⟨Nat.zero_le _, Nat.zero_le _⟩ (fun r111 hr111 => ?_)
      obtain ⟨hr111, er111⟩ := hr111
      refine lv_iconst (v := 3) hx hb dOperators_binary_99 (by decide) ?_
      refine lv_icmp_ne (tgt := 107) hx hb dOperators_binary_100 (by decide) (fun c112 => ?_) (fun c112 => ?_)
      · exact J107 ls _ _ φ108 ψ i1 i2 i3 i4 i5 i6 hG hS (by subst er111 er109 eφ108; exact hO.tr ((if_pos c110).trans (if_neg c112))) (lv_sub hl [0, 1, 2, 3, 4, 5, 6] rfl)
      · refine lv_iconst (v := 1) hx hb dOperators_binary_103 (by decide) ?_
        refine lv_goto (tgt := 108) hx hb dOperators_binary_104 (by decide) ?_
        exact J108 ls _ _ φ108 ψ i1 i2 i3 i4 i5 i6 1 hG hS (by subst er111 er109 eφ108; exact hO.tr ((if_pos c110).trans (if_pos c112))) (lv_sub hl [0, 1, 2, 3, 4, 5, 6] rfl)
  have J74 : ∀ (ls : Array Slot) (H : Heap) (locs : List Loc) (φ : gF) (ψ : gG) (i1 : Int32) (i2 : Int32) (i3 : Int32) (i4 : Int32) (i5 : Int32) (i6 : Int32) (t0 : Int32) (t1 : Int32) (t2 : Int32), INVF γ A κ φ ψ H → va_S A s.heap H locs → (Oq OUT (P_Operators_binary_74 κ   φ ψ i1 i2 i3 i4 i5 i6 t0 t1 t2)) → lv_has ls 8 [(0, .ref (γ.2.2.2 11)), (1, .int i1), (2, .int i2), (3, .int i3), (4, .int i4), (5, .int i5), (6, .int i6)] → W p l e (bs_rm 4 0 0 95) s m args below meth c H locs 0 0 Q (F0 m 74 ls [.int t0, .int t1, .int t2, .ref (γ.2.2.2 9)]) := by
    intro ls H locs φ ψ i1 i2 i3 i4 i5 i6 t0 t1 t2 hG hS hO hl
    have hI := inv_of hG
    refine lv_iconst (v := 0) hx hb dOperators_binary_74 (by decide) ?_
    exact J75 ls _ _ φ ψ i1 i2 i3 i4 i5 i6 0 t0 t1 t2 hG hS (by exact hO.tr rfl) (lv_sub hl [0, 1, 2, 3, 4, 5, 6] rfl)
  have J36 : ∀ (ls : Array Slot) (H : Heap) (locs : List Loc) (φ : gF) (ψ : gG) (i1 : Int32) (i2 : Int32) (i3 : Int32) (i4 : Int32) (i5 : Int32) (t0 : Int32), INVF γ A κ φ ψ H → va_S A s.heap H locs → (Oq OUT (P_Operators_binary_36 κ   φ ψ i1 i2 i3 i4 i5 t0)) → lv_has ls 8 [(0, .ref (γ.2.2.2 11)), (1, .int i1), (2, .int i2), (3, .int i3), (4, .int i4), (5, .int i5)] → W p l e (bs_rm 4 0 0 95) s m args below meth c H locs 0 0 Q (F0 m 36 ls [.int t0]) := by
    intro ls H locs φ ψ i1 i2 i3 i4 i5 t0 hG hS hO hl
    have hI := inv_of hG
    refine lv_istore (lv' := [(6, .int t0), (0, .ref (γ.2.2.2 11)), (1, .int i1), (2, .int i2), (3, .int i3), (4, .int i4), (5, .int i5)]) hx hb dOperators_binary_36 hl (by decide) rfl (fun ls hl => ?_)
    refine lv_aload_n hx hb dOperators_binary_38 rfl (lv_at hl 1 rfl) ?_
    refine of_get S hC (of_11_0 hI) in_Operators rfl (by decide) qw_46160f6e07 dOperators_binary_39 ?_
    refine lv_iload_n hx hb dOperators_binary_42 rfl (lv_at hl 2 rfl) ?_
    refine lv_iload hx hb dOperators_binary_43 (lv_at hl 6 rfl) ?_
    refine lv_iload hx hb dOperators_binary_45 (lv_at hl 0 rfl) ?_
    refine lv_aload_n hx hb dOperators_binary_47 rfl (lv_at hl 1 rfl) ?_
    refine of_get S hC (of_11_0 hI) in_Operators rfl (by decide) qw_46160f6e07 dOperators_binary_48 ?_
    refine lv_iload_n hx hb dOperators_binary_51 rfl (lv_at hl 4 rfl) ?_
    refine pu_Vi (rest := [.int t0, .int i5, .int i1, .ref (γ.2.2.2 9)]) S hC (f9_Looks_isFixed l γ A κ φ ψ i3) meLooks_isFixed qw_c191710e5d ⟨Nat.le_of_ble_eq_true rfl, Nat.le_of_ble_eq_true rfl⟩ (rv_9 hC hI) hG rfl hl.1 rfl (Nat.le_of_ble_eq_true rfl) dOperators_binary_52 ⟨Nat.zero_le _, Nat.zero_le _⟩ (fun r113 hr113 => ?_)
    obtain ⟨hr113, er113⟩ := hr113
    refine lv_if_eq (tgt := 74) hx hb dOperators_binary_55 (by decide) (fun c114 => ?_) (fun c114 => ?_)
    · exact J74 ls _ _ φ ψ i1 i2 i3 i4 i5 t0 t0 i5 i1 hG hS (by subst er113; exact hO.tr (if_pos c114)) (lv_sub hl [1, 2, 3, 4, 5, 6, 0] rfl)
    · refine lv_aload_n hx hb dOperators_binary_58 rfl (lv_at hl 1 rfl) ?_
      refine of_get S hC (of_11_0 hI) in_Operators rfl (by decide) qw_46160f6e07 dOperators_binary_59 ?_
      refine lv_iload hx hb dOperators_binary_62 (lv_at hl 5 rfl) ?_
      refine pu_Vi (rest := [.int t0, .int i5, .int i1, .ref (γ.2.2.2 9)]) S hC (f9_Looks_isFixed l γ A κ φ ψ i4) meLooks_isFixed qw_c191710e5d ⟨Nat.le_of_ble_eq_true rfl, Nat.le_of_ble_eq_true rfl⟩ (rv_9 hC hI) hG rfl hl.1 rfl (Nat.le_of_ble_eq_true rfl) dOperators_binary_64 ⟨Nat.zero_le _, Nat.zero_le _⟩ (fun r115 hr115 => ?_)
      obtain ⟨hr115, er115⟩ := hr115
      refine lv_if_eq (tgt := 74) hx hb dOperators_binary_67 (by decide) (fun c116 => ?_) (fun c116 => ?_)
      · exact J74 ls _ _ φ ψ i1 i2 i3 i4 i5 t0 t0 i5 i1 hG hS (by subst er115 er113; exact hO.tr ((if_neg c114).trans (if_pos c116))) (lv_sub hl [1, 2, 3, 4, 5, 6, 0] rfl)
      · refine lv_iconst (v := 1) hx hb dOperators_binary_70 (by decide) ?_
        refine lv_goto (tgt := 75) hx hb dOperators_binary_71 (by decide) ?_
        exact J75 ls _ _ φ ψ i1 i2 i3 i4 i5 t0 1 t0 i5 i1 hG hS (by subst er115 er113; exact hO.tr ((if_neg c114).trans (if_neg c116))) (lv_sub hl [1, 2, 3, 4, 5, 6, 0] rfl)
  refine lv_aload_n hx hb dOperators_binary_0 rfl (lv_at hl 0 rfl) ?_
  refine lv_iload_n hx hb dOperators_binary_1 rfl (lv_at hl 2 rfl) ?_
  refine lv_iload_n hx hb dOperators_binary_2 rfl (lv_at hl 3 rfl) ?_
  refine lv_iload hx hb dOperators_binary_3 (lv_at hl 4 rfl) ?_
  refine pu_Vi (rest := []) S hC (f_Operators_resultClass l γ A κ φ ψ x2 x3 x4) meOperators_resultClass qw_fcae91e82f ⟨Nat.le_of_ble_eq_true rfl, Nat.le_of_ble_eq_true rfl⟩ (rv_11 hC hI) hG rfl hl.1 rfl (Nat.le_of_ble_eq_true rfl) dOperators_binary_5 ⟨Nat.zero_le _, Nat.zero_le _⟩ (fun r117 hr117 => ?_)
  obtain ⟨hr117, er117⟩ := hr117
  refine lv_istore (lv' := [(5, .int r117), (0, .ref (γ.2.2.2 11)), (1, .int x1), (2, .int x2), (3, .int x3), (4, .int x4)]) hx hb dOperators_binary_8 hl (by decide) rfl (fun ls hl => ?_)
  refine lv_iload hx hb dOperators_binary_10 (lv_at hl 0 rfl) ?_
  refine lv_iconst (v := (-1)) hx hb dOperators_binary_12 (by decide) ?_
  refine lv_icmp_ne (tgt := 18) hx hb dOperators_binary_13 (by decide) (fun c118 => ?_) (fun c118 => ?_)
  · refine lv_iload hx hb dOperators_binary_18 (lv_at hl 0 rfl) ?_
    refine lv_iconst (v := 3) hx hb dOperators_binary_20 (by decide) ?_
    refine lv_icmp_ne (tgt := 35) hx hb dOperators_binary_21 (by decide) (fun c119 => ?_) (fun c119 => ?_)
    · refine lv_iconst (v := 0) hx hb dOperators_binary_35 (by decide) ?_
      exact J36 ls _ _ φ ψ x1 x2 x3 x4 r117 0 hG hS (by subst er117; exact hO.tr ((if_neg c118).trans (if_neg c119))) (lv_sub hl [1, 2, 3, 4, 5, 0] rfl)
    · refine lv_aload_n hx hb dOperators_binary_24 rfl (lv_at hl 1 rfl) ?_
      refine lv_iload_n hx hb dOperators_binary_25 rfl (lv_at hl 3 rfl) ?_
      refine lv_iload_n hx hb dOperators_binary_26 rfl (lv_at hl 4 rfl) ?_
      refine lv_iload hx hb dOperators_binary_27 (lv_at hl 5 rfl) ?_
      refine pu_Vi (rest := []) S hC (f_Operators_resultLength l γ A κ φ ψ x2 x3 x4) meOperators_resultLength qw_38a5a3e266 ⟨Nat.le_of_ble_eq_true rfl, Nat.le_of_ble_eq_true rfl⟩ (rv_11 hC hI) hG rfl hl.1 rfl (Nat.le_of_ble_eq_true rfl) dOperators_binary_29 ⟨Nat.zero_le _, Nat.zero_le _⟩ (fun r120 hr120 => ?_)
      obtain ⟨hr120, er120⟩ := hr120
      refine lv_goto (tgt := 36) hx hb dOperators_binary_32 (by decide) ?_
      exact J36 ls _ _ φ ψ x1 x2 x3 x4 r117 r120 hG hS (by subst er120 er117; exact hO.tr ((if_neg c118).trans (if_pos c119))) (lv_sub hl [1, 2, 3, 4, 5, 0] rfl)
  · refine lv_iconst (v := 3) hx hb dOperators_binary_16 (by decide) ?_
    exact hE _ _ _ _ _ hS (by have hO2 : Oq OUT (3, φ, ψ) := (by subst er117; exact hO.tr (if_pos c118)); rw [hO2.eq]; exact ⟨rfl, hG⟩) dOperators_binary_17
