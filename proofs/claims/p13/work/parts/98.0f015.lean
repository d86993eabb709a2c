def P_Meanings_slice_130 (κ : Nat → Nat) (φ : gF) (ψ : gG) (i1 : Int32) (i2 : Int32) (i3 : Int32) (i4 : Int32) (t0 : Int32) (t1 : Int32) (t2 : Int32) (t3 : Int32) : Int32 × gF × gG := (if (P_Looks_isFixed (κ 7) ((up (up φ 9 (P_Looks_note (κ 7) (φ 9) t3 t2 t1 t0)) 9 (P_Looks_setMeaning (κ 7) ((up φ 9 (P_Looks_note (κ 7) (φ 9) t3 t2 t1 t0)) 9) i1 i2)) 9) i4) = 0 then (5, (up (up φ 9 (P_Looks_note (κ 7) (φ 9) t3 t2 t1 t0)) 9 (P_Looks_setMeaning (κ 7) ((up φ 9 (P_Looks_note (κ 7) (φ 9) t3 t2 t1 t0)) 9) i1 i2)), ψ) else (if (P_Looks_isFixed (κ 7) ((up (up φ 9 (P_Looks_note (κ 7) (φ 9) t3 t2 t1 t0)) 9 (P_Looks_setMeaning (κ 7) ((up φ 9 (P_Looks_note (κ 7) (φ 9) t3 t2 t1 t0)) 9) i1 i2)) 9) i3) = 0 then (5, (up (up φ 9 (P_Looks_note (κ 7) (φ 9) t3 t2 t1 t0)) 9 (P_Looks_setMeaning (κ 7) ((up φ 9 (P_Looks_note (κ 7) (φ 9) t3 t2 t1 t0)) 9) i1 i2)), ψ) else ((P_Meanings_cut κ (up (up φ 9 (P_Looks_note (κ 7) (φ 9) t3 t2 t1 t0)) 9 (P_Looks_setMeaning (κ 7) ((up φ 9 (P_Looks_note (κ 7) (φ 9) t3 t2 t1 t0)) 9) i1 i2)) ψ i1 i2 (P_Looks_numberOf (κ 7) ((up (up φ 9 (P_Looks_note (κ 7) (φ 9) t3 t2 t1 t0)) 9 (P_Looks_setMeaning (κ 7) ((up φ 9 (P_Looks_note (κ 7) (φ 9) t3 t2 t1 t0)) 9) i1 i2)) 9) i4) (P_Looks_numberOf (κ 7) ((up (up φ 9 (P_Looks_note (κ 7) (φ 9) t3 t2 t1 t0)) 9 (P_Looks_setMeaning (κ 7) ((up φ 9 (P_Looks_note (κ 7) (φ 9) t3 t2 t1 t0)) 9) i1 i2)) 9) i3)).1, ((P_Meanings_cut κ (up (up φ 9 (P_Looks_note (κ 7) (φ 9) t3 t2 t1 t0)) 9 (P_Looks_setMeaning (κ 7) ((up φ 9 (P_Looks_note (κ 7) (φ 9) t3 t2 t1 t0)) 9) i1 i2)) ψ i1 i2 (P_Looks_numberOf (κ 7) ((up (up φ 9 (P_Looks_note (κ 7) (φ 9) t3 t2 t1 t0)) 9 (P_Looks_setMeaning (κ 7) ((up φ 9 (P_Looks_note (κ 7) (φ 9) t3 t2 t1 t0)) 9) i1 i2)) 9) i4) (P_Looks_numberOf (κ 7) ((up (up φ 9 (P_Looks_note (κ 7) (φ 9) t3 t2 t1 t0)) 9 (P_Looks_setMeaning (κ 7) ((up φ 9 (P_Looks_note (κ 7) (φ 9) t3 t2 t1 t0)) 9) i1 i2)) 9) i3)).2.1), ((P_Meanings_cut κ (up (up φ 9 (P_Looks_note (κ 7) (φ 9) t3 t2 t1 t0)) 9 (P_Looks_setMeaning (κ 7) ((up φ 9 (P_Looks_note (κ 7) (φ 9) t3 t2 t1 t0)) 9) i1 i2)) ψ i1 i2 (P_Looks_numberOf (κ 7) ((up (up φ 9 (P_Looks_note (κ 7) (φ 9) t3 t2 t1 t0)) 9 (P_Looks_setMeaning (κ 7) ((up φ 9 (P_Looks_note (κ 7) (φ 9) t3 t2 t1 t0)) 9) i1 i2)) 9) i4) (P_Looks_numberOf (κ 7) ((up (up φ 9 (P_Looks_note (κ 7) (φ 9) t3 t2 t1 t0)) 9 (P_Looks_setMeaning (κ 7) ((up φ 9 (P_Looks_note (κ 7) (φ 9) t3 t2 t1 t0)) 9) i1 i2)) 9) i3)).2.2))))
def P_Meanings_slice_129 (κ : Nat → Nat) (φ : gF) (ψ : gG) (i1 : Int32) (i2 : Int32) (i3 : Int32) (i4 : Int32) (t0 : Int32) (t1 : Int32) (t2 : Int32) : Int32 × gF × gG := (P_Meanings_slice_130 κ  φ ψ i1 i2 i3 i4 0 t0 t1 t2)
def P_Meanings_slice (κ : Nat → Nat) (φ : gF) (ψ : gG) (x1 : Int32) : Int32 × gF × gG := (if (P_Trees_countOf (κ 0) (κ 1) (κ 11) (φ 2) x1) = 2 then (if (P_Meanings_isUnknown κ φ ψ x1) = 0 then (if (P_Meanings_objectAt κ φ ψ x1) = (-1) then (2, φ, ψ) else (if (P_Meanings_isRow κ φ ψ (P_Meanings_objectAt κ φ ψ x1)) = 0 then (2, φ, ψ) else (if (P_Looks_classOf (κ 7) (φ 9) (P_Trees_leftOfTwo (κ 0) (κ 1) (κ 11) (φ 2) x1)) = 2 then (if (P_Looks_classOf (κ 7) (φ 9) (x1 - 1)) = 2 then (if (P_Meanings_isConstant κ φ ψ (P_Meanings_objectAt κ φ ψ x1)) = 0 then (P_Meanings_slice_129 κ  φ ψ x1 (P_Meanings_objectAt κ φ ψ x1) (x1 - 1) (P_Trees_leftOfTwo (κ 0) (κ 1) (κ 11) (φ 2) x1) 0 3 x1) else (if (P_Looks_isFixed (κ 7) (φ 9) (P_Trees_leftOfTwo (κ 0) (κ 1) (κ 11) (φ 2) x1)) = 0 then (P_Meanings_slice_129 κ  φ ψ x1 (P_Meanings_objectAt κ φ ψ x1) (x1 - 1) (P_Trees_leftOfTwo (κ 0) (κ 1) (κ 11) (φ 2) x1) 0 3 x1) else (if (P_Looks_isFixed (κ 7) (φ 9) (x1 - 1)) = 0 then (P_Meanings_slice_129 κ  φ ψ x1 (P_Meanings_objectAt κ φ ψ x1) (x1 - 1) (P_Trees_leftOfTwo (κ 0) (κ 1) (κ 11) (φ 2) x1) 0 3 x1) else (P_Meanings_slice_130 κ  φ ψ x1 (P_Meanings_objectAt κ φ ψ x1) (x1 - 1) (P_Trees_leftOfTwo (κ 0) (κ 1) (κ 11) (φ 2) x1) 1 0 3 x1)))) else (3, φ, ψ)) else (3, φ, ψ)))) else (1, φ, ψ)) else (11, φ, ψ))
set_option maxHeartbeats 4000000 in
set_option maxRecDepth 100000 in
theorem f_Meanings_slice (l : Launch) (γ : gE) (A : Nat → Prop) (κ : Nat → Nat) (φ : gF) (ψ : gG) (x1 : Int32) : MU l yMeanings_slice bMeanings_slice 5 (some .int) 4 96 0 0 [.ref (γ.2.2.2 12), .int x1] γ A (INVF γ A κ φ ψ) (mQi (fun r H => r = (P_Meanings_slice κ φ ψ x1).1 ∧ INVF γ A κ (P_Meanings_slice κ φ ψ x1).2.1 (P_Meanings_slice κ φ ψ x1).2.2 H) A) := by
  refine mu_openI (by decide) (Nat.le_of_ble_eq_true rfl) ?_
  intro p e s m args below meth c ls Q S hnm hC hA hG hE hl
  obtain ⟨hx, hb, hml, hown, hW⟩ := id S
  have hI := inv_of hG
  have hS : va_S A s.heap s.heap [] := va_S.rf
  have hl : lv_has ls 5 [(0, .ref (γ.2.2.2 12)), (1, .int x1)] := hl
  obtain ⟨OUT, hQ, hO⟩ : ∃ z, (z = P_Meanings_slice κ φ ψ x1) ∧ Oq z (P_Meanings_slice κ φ ψ x1) := ⟨_, rfl, rfl⟩
  rw [← hQ] at hE
  clear hQ
  have J130 : ∀ (ls : Array Slot) (H : Heap) (locs : List Loc) (φ : gF) (ψ : gG) (i1 : Int32) (i2 : Int32) (i3 : Int32) (i4 : Int32) (t0 : Int32) (t1 : Int32) (t2 : Int32) (t3 : Int32), INVF γ A κ φ ψ H → va_S A s.heap H locs → (Oq OUT (P_Meanings_slice_130 κ   φ ψ i1 i2 i3 i4 t0 t1 t2 t3)) → lv_has ls 5 [(0, .ref (γ.2.2.2 12)), (1, .int i1), (2, .int i2), (3, .int i3), (4, .int i4)] → W p l e (bs_rm 4 0 0 96) s m args below meth c H locs 0 0 Q (F0 m 130 ls [.int t0, .int t1, .int t2, .int t3, .ref (γ.2.2.2 9)]) := by
    intro ls H locs φ ψ i1 i2 i3 i4 t0 t1 t2 t3 hG hS hO hl
    have hI := inv_of hG
    refine mu_Vv (rest := []) S hC (fun q h => hA q (Nat.le_trans hS.1 h)) (fun q h => h) hS (f9_Looks_note l γ A κ φ ψ t3 t2 t1 t0) meLooks_note qw_454d4ae88d ⟨Nat.le_of_ble_eq_true rfl, Nat.le_of_ble_eq_true rfl⟩ (rv_9 hC hI) hG rfl hl.1 rfl (Nat.le_of_ble_eq_true rfl) dMeanings_slice_130 ⟨Nat.le_refl _, Nat.le_refl _⟩ (fun H locs hG hS _ _ => ?_)
    obtain ⟨φ35, eφ35⟩ : ∃ z : gF, z = up φ 9 (P_Looks_note (κ 7) (φ 9) t3 t2 t1 t0) := ⟨_, rfl⟩
    rw [← eφ35] at hG
    have hI := inv_of hG
    refine lv_aload_n hx hb dMeanings_slice_133 rfl (lv_at hl 0 rfl) ?_
    refine of_get S hC (of_12_4 hI) in_Meanings rfl (by decide) qw_aa3d3bbcf9 dMeanings_slice_134 ?_
    refine lv_iload_n hx hb dMeanings_slice_137 rfl (lv_at hl 1 rfl) ?_
    refine lv_iload_n hx hb dMeanings_slice_138 rfl (lv_at hl 2 rfl) ?_
    refine mu_Vv (rest := []) S hC (fun q h => hA q (Nat.le_trans hS.1 h)) (fun q h => h) hS (f9_Looks_setMeaning l γ A κ φ35 ψ i1 i2) meLooks_setMeaning qw_23315a9189 ⟨Nat.le_of_ble_eq_true rfl, Nat.le_of_ble_eq_true rfl⟩ (rv_9 hC hI) hG rfl hl.1 rfl (Nat.le_of_ble_eq_true rfl) dMeanings_slice_139 ⟨Nat.le_refl _, Nat.le_refl _⟩ (fun H locs hG hS _ _ => ?_)
    obtain ⟨φ37, eφ37⟩ : ∃ z : gF, z = up φ35 9 (P_Looks_setMeaning (κ 7) (φ35 9) i1 i2) := ⟨_, rfl⟩
    rw [← eφ37] at hG
    have hI := inv_of hG
    refine lv_aload_n hx hb dMeanings_slice_142 rfl (lv_at hl 0 rfl) ?_
    refine of_get S hC (of_12_4 hI) in_Meanings rfl (by decide) qw_aa3d3bbcf9 dMeanings_slice_143 ?_
    refine lv_iload hx hb dMeanings_slice_146 (lv_at hl 4 rfl) ?_
    refine pu_Vi (rest := []) S hC (f9_Looks_isFixed l γ A κ φ37 ψ i4) meLooks_isFixed qw_e1e43cfc73 ⟨Nat.le_of_ble_eq_true rfl, Nat.le_of_ble_eq_true rfl⟩ (rv_9 hC hI) hG rfl hl.1 rfl (Nat.le_of_ble_eq_true rfl) dMeanings_slice_148 ⟨Nat.zero_le _, Nat.zero_le _⟩ (fun r38 hr38 => ?_)
    obtain ⟨hr38, er38⟩ := hr38
    refine lv_if_eq (tgt := 165) hx hb dMeanings_slice_151 (by decide) (fun c39 => ?_) (fun c39 => ?_)
    · refine lv_iconst (v := 5) hx hb dMeanings_slice_165 (by decide) ?_
      exact hE _ _ _ _ _ hS (by have hO2 : Oq OUT (5, φ37, ψ) := (by subst er38 eφ37 eφ35; exact hO.tr (if_pos c39)); rw [hO2.eq]; exact ⟨rfl, hG⟩) dMeanings_slice_166
    · refine lv_aload_n hx hb dMeanings_slice_154 rfl (lv_at hl 0 rfl) ?_
      refine of_get S hC (of_12_4 hI) in_Meanings rfl (by decide) qw_aa3d3bbcf9 dMeanings_slice_155 ?_
      refine lv_iload_n hx hb dMeanings_slice_158 rfl (lv_at hl 3 rfl) ?_
      refine pu_Vi (rest := []) S hC (f9_Looks_isFixed l γ A κ φ37 ψ i3) meLooks_isFixed qw_e1e43cfc73 ⟨Nat.le_of_ble_eq_true rfl, Nat.le_of_ble_eq_true rfl⟩ (rv_9 hC hI) hG rfl hl.1 rfl (Nat.le_of_ble_eq_true rfl) dMeanings_slice_159 ⟨Nat.zero_le _, Nat.zero_le _⟩ (fun r40 hr40 => ?_)
      obtain ⟨hr40, er40⟩ := hr40
      refine lv_if_ne (tgt := 167) hx hb dMeanings_slice_162 (by decide) (fun c41 => ?_) (fun c41 => ?_)
      · refine lv_aload_n hx hb dMeanings_slice_167 rfl (lv_at hl 0 rfl) ?_
        refine lv_iload_n hx hb dMeanings_slice_168 rfl (lv_at hl 1 rfl) ?_
        refine lv_iload_n hx hb dMeanings_slice_169 rfl (lv_at hl 2 rfl) ?_
        refine lv_aload_n hx hb dMeanings_slice_170 rfl (lv_at hl 0 rfl) ?_
        refine of_get S hC (of_12_4 hI) in_Meanings rfl (by decide) qw_aa3d3bbcf9 dMeanings_slice_171 ?_
        refine lv_iload hx hb dMeanings_slice_174 (lv_at hl 4 rfl) ?_
        refine pu_Vi (rest := [.int i2, .int i1, .ref (γ.2.2.2 12)]) S hC (f9_Looks_numberOf l γ A κ φ37 ψ i4) meLooks_numberOf qw_58178e0f63 ⟨Nat.le_of_ble_eq_true rfl, Nat.le_of_ble_eq_true rfl⟩ (rv_9 hC hI) hG rfl hl.1 rfl (Nat.le_of_ble_eq_true rfl) dMeanings_slice_176 ⟨Nat.zero_le _, Nat.zero_le _⟩ (fun r42 hr42 => ?_)
        obtain ⟨hr42, er42⟩ := hr42
        refine lv_aload_n hx hb dMeanings_slice_179 rfl (lv_at hl 0 rfl) ?_
        refine of_get S hC (of_12_4 hI) in_Meanings rfl (by decide) qw_aa3d3bbcf9 dMeanings_slice_180 ?_
        refine lv_iload_n hx hb dMeanings_slice_183 rfl (lv_at hl 3 rfl) ?_
        refine pu_Vi (rest := [.int r42, .int i2, .int i1, .ref (γ.2.2.2 12)]) S hC (f9_Looks_numberOf l γ A κ φ37 ψ i3) meLooks_numberOf qw_58178e0f63 ⟨Nat.le_of_ble_eq_true rfl, Nat.le_of_ble_eq_true rfl⟩ (rv_9 hC hI) hG rfl hl.1 rfl (Nat.le_of_ble_eq_true rfl) dMeanings_slice_184 ⟨Nat.zero_le _, Nat.zero_le _⟩ (fun r43 hr43 => ?_)
        obtain ⟨hr43, er43⟩ := hr43
        refine mu_Vi (rest := []) S hC (fun q h => hA q (Nat.le_trans hS.1 h)) (fun q h => h) hS (f_Meanings_cut l γ A κ φ37 ψ i1 i2 r42 r43) meMeanings_cut qw_61f742eb08 ⟨Nat.le_of_ble_eq_true rfl, Nat.le_of_ble_eq_true rfl⟩ (rv_12 hC hI) hG rfl hl.1 rfl (Nat.le_of_ble_eq_true rfl) dMeanings_slice_187 ⟨Nat.le_refl _, Nat.le_refl _⟩ (fun r44 H locs ⟨er44, hG⟩ hS _ _ => ?_)
        obtain ⟨φ45, eφ45⟩ : ∃ z : gF, z = (P_Meanings_cut κ φ37 ψ i1 i2 r42 r43).2.1 := ⟨_, rfl⟩
        rw [← eφ45] at hG
        obtain ⟨ψ46, eψ46⟩ : ∃ z : gG, z = (P_Meanings_cut κ φ37 ψ i1 i2 r42 r43).2.2 := ⟨_, rfl⟩
        rw [← eψ46] at hG
        have hI := inv_of hG
        exact hE _ _ _ _ _ hS (by have hO2 : Oq OUT (r44, φ45, ψ46) := (by subst eψ46 eφ45 er44 er43 er42 er40 er38 eφ37 eφ35; exact hO.tr ((if_neg c39).trans (if_neg c41))); rw [hO2.eq]; exact ⟨rfl, hG⟩) dMeanings_slice_190
      · refine lv_iconst (v := 5) hx hb dMeanings_slice_165 (by decide) ?_
        exact hE _ _ _ _ _ hS (by have hO2 : Oq OUT (5, φ37, ψ) := (by subst er40 er38 eφ37 eφ35; exact hO.tr ((if_neg c39).trans (if_pos c41))); rw [hO2.eq]; exact ⟨rfl, hG⟩) dMeanings_slice_166
  have J129 : ∀ (ls : Array Slot) (H : Heap) (locs : List Loc) (φ : gF) (ψ : gG) (i1 : Int32) (i2 : Int32) (i3 : Int32) (i4 : Int32) (t0 : Int32) (t1 : Int32) (t2 : Int32), INVF γ A κ φ ψ H → va_S A s.heap H locs → (Oq OUT (P_Meanings_slice_129 κ   φ ψ i1 i2 i3 i4 t0 t1 t2)) → lv_has ls 5 [(0, .ref (γ.2.2.2 12)), (1, .int i1), (2, .int i2), (3, .int i3), (4, .int i4)] → W p l e (bs_rm 4 0 0 96) s m args below meth c H locs 0 0 Q (F0 m 129 ls [.int t0, .int t1, .int t2, .ref (γ.2.2.2 9)]) := by
    intro ls H locs φ ψ i1 i2 i3 i4 t0 t1 t2 hG hS hO hl
    have hI := inv_of hG
    refine lv_iconst (v := 0) hx hb dMeanings_slice_129 (by decide) ?_
    exact J130 ls _ _ φ ψ i1 i2 i3 i4 0 t0 t1 t2 hG hS (by exact hO.tr rfl) (lv_sub hl [0, 1, 2, 3, 4] rfl)
  refine lv_aload_n hx hb dMeanings_slice_0 rfl (lv_at hl 0 rfl) ?_
  refine of_get S hC (of_12_0 hI) in_Meanings rfl (by decide) qw_c54cffb97e dMeanings_slice_1 ?_
  refine lv_iload_n hx hb dMeanings_slice_4 rfl (lv_at hl 1 rfl) ?_
  refine pu_Vi (rest := []) S hC (f1_Trees_countOf l γ A κ φ ψ x1) meTrees_countOf qw_08981d77a7 ⟨Nat.le_of_ble_eq_true rfl, Nat.le_of_ble_eq_true rfl⟩ (rv_1 hC hI) hG rfl hl.1 rfl (Nat.le_of_ble_eq_true rfl) dMeanings_slice_5 ⟨Nat.zero_le _, Nat.zero_le _⟩ (fun r47 hr47 => ?_)
  obtain ⟨hr47, er47⟩ := hr47
  refine lv_iconst (v := 2) hx hb dMeanings_slice_8 (by decide) ?_
  refine lv_icmp_eq (tgt := 15) hx hb dMeanings_slice_9 (by decide) (fun c48 => ?_) (fun c48 => ?_)
  · refine lv_aload_n hx hb dMeanings_slice_15 rfl (lv_at hl 0 rfl) ?_
    refine lv_iload_n hx hb dMeanings_slice_16 rfl (lv_at hl 1 rfl) ?_
    refine pu_Vi (rest := []) S hC (f_Meanings_isUnknown l γ A κ φ ψ x1) meMeanings_isUnknown qw_88d34ce9ff ⟨Nat.le_of_ble_eq_true rfl, Nat.le_of_ble_eq_true rfl⟩ (rv_12 hC hI) hG rfl hl.1 rfl (Nat.le_of_ble_eq_true rfl) dMeanings_slice_17 ⟨Nat.zero_le _, Nat.zero_le _⟩ (fun r49 hr49 => ?_)
    obtain ⟨hr49, er49⟩ := hr49
    refine lv_if_eq (tgt := 25) hx hb dMeanings_slice_20 (by decide) (fun c50 => ?_) (fun c50 => ?_)
    · refine lv_aload_n hx hb dMeanings_slice_25 rfl (lv_at hl 0 rfl) ?_
      refine lv_iload_n hx hb dMeanings_slice_26 rfl (lv_at hl 1 rfl) ?_
      refine pu_Vi (rest := []) S hC (f_Meanings_objectAt l γ A κ φ ψ x1) meMeanings_objectAt qw_1c1a520089 ⟨Nat.le_of_ble_eq_true rfl, Nat.le_of_ble_eq_true rfl⟩ (rv_12 hC hI) hG rfl hl.1 rfl (Nat.le_of_ble_eq_true rfl) dMeanings_slice_27 ⟨Nat.zero_le _, Nat.zero_le _⟩ (fun r51 hr51 => ?_)
      obtain ⟨hr51, er51⟩ := hr51
      refine lv_istore_n (lv' := [(2, .int r51), (0, .ref (γ.2.2.2 12)), (1, .int x1)]) hx hb dMeanings_slice_30 rfl hl (by decide) rfl (fun ls hl => ?_)
      refine lv_iload_n hx hb dMeanings_slice_31 rfl (lv_at hl 0 rfl) ?_
      refine lv_iconst (v := (-1)) hx hb dMeanings_slice_32 (by decide) ?_
      refine lv_icmp_eq (tgt := 44) hx hb dMeanings_slice_33 (by decide) (fun c52 => ?_) (fun c52 => ?_)
      · refine lv_iconst (v := 2) hx hb dMeanings_slice_44 (by decide) ?_
        exact hE _ _ _ _ _ hS (by have hO2 : Oq OUT (2, φ, ψ) := (by subst er51 er49 er47; exact hO.tr ((if_pos c48).trans ((if_pos c50).trans (if_pos c52)))); rw [hO2.eq]; exact ⟨rfl, hG⟩) dMeanings_slice_45
      · refine lv_aload_n hx hb dMeanings_slice_36 rfl (lv_at hl 1 rfl) ?_
        refine lv_iload_n hx hb dMeanings_slice_37 rfl (lv_at hl 0 rfl) ?_
        refine pu_Vi (rest := []) S hC (f_Meanings_isRow l γ A κ φ ψ r51) meMeanings_isRow qw_5342b138aa ⟨Nat.le_of_ble_eq_true rfl, Nat.le_of_ble_eq_true rfl⟩ (rv_12 hC hI) hG rfl hl.1 rfl (Nat.le_of_ble_eq_true rfl) dMeanings_slice_38 ⟨Nat.zero_le _, Nat.zero_le _⟩ (fun r53 hr53 => ?_)
        obtain ⟨hr53, er53⟩ := hr53
        refine lv_if_ne (tgt := 46) hx hb dMeanings_slice_41 (by decide) (fun c54 => ?_) (fun c54 => ?_)
        · refine lv_iload_n hx hb dMeanings_slice_46 rfl (lv_at hl 2 rfl) ?_
          refine lv_iconst (v := 1) hx hb dMeanings_slice_47 (by decide) ?_
          refine lv_isub hx hb dMeanings_slice_48 ?_
          refine lv_topi (fun v55 ev55 => ?_)
          refine lv_istore_n (lv' := [(3, .int v55), (2, .int r51), (0, .ref (γ.2.2.2 12)), (1, .int x1)]) hx hb dMeanings_slice_49 rfl hl (by decide) rfl (fun ls hl => ?_)
          refine lv_aload_n hx hb dMeanings_slice_50 rfl (lv_at hl 2 rfl) ?_
          refine of_get S hC (of_12_0 hI) in_Meanings rfl (by decide) qw_c54cffb97e dMeanings_slice_51 ?_
          refine lv_iload_n hx hb dMeanings_slice_54 rfl (lv_at hl 3 rfl) ?_
          refine pu_Vi (rest := []) S hC (f1_Trees_leftOfTwo l γ A κ φ ψ x1) meTrees_leftOfTwo qw_8972b5ce5c ⟨Nat.le_of_ble_eq_true rfl, Nat.le_of_ble_eq_true rfl⟩ (rv_1 hC hI) hG rfl hl.1 rfl (Nat.le_of_ble_eq_true rfl) dMeanings_slice_55 ⟨Nat.zero_le _, Nat.zero_le _⟩ (fun r56 hr56 => ?_)
          obtain ⟨hr56, er56⟩ := hr56
          refine lv_istore (lv' := [(4, .int r56), (3, .int v55), (2, .int r51), (0, .ref (γ.2.2.2 12)), (1, .int x1)]) hx hb dMeanings_slice_58 hl (by decide) rfl (fun ls hl => ?_)
          refine lv_aload_n hx hb dMeanings_slice_60 rfl (lv_at hl 3 rfl) ?_
          refine of_get S hC (of_12_4 hI) in_Meanings rfl (by decide) qw_aa3d3bbcf9 dMeanings_slice_61 ?_
          refine lv_iload hx hb dMeanings_slice_64 (lv_at hl 0 rfl) ?_
          refine pu_Vi (rest := []) S hC (f9_Looks_classOf l γ A κ φ ψ r56) meLooks_classOf qw_631ccf37b6 ⟨Nat.le_of_ble_eq_true rfl, Nat.le_of_ble_eq_true rfl⟩ (rv_9 hC hI) hG rfl hl.1 rfl (Nat.le_of_ble_eq_true rfl) dMeanings_slice_66 ⟨Nat.zero_le _, Nat.zero_le _⟩ (fun r57 hr57 => ?_)
          obtain ⟨hr57, er57⟩ := hr57
          refine lv_iconst (v := 2) hx hb dMeanings_slice_69 (by decide) ?_
          refine lv_icmp_ne (tgt := 85) hx hb dMeanings_slice_70 (by decide) (fun c58 => ?_) (fun c58 => ?_)
          · refine lv_iconst (v := 3) hx hb dMeanings_slice_85 (by decide) ?_
            exact hE _ _ _ _ _ hS (by have hO2 : Oq OUT (3, φ, ψ) := (by subst er57 er56 ev55 er53 er51 er49 er47; exact hO.tr ((if_pos c48).trans ((if_pos c50).trans ((if_neg c52).trans ((if_neg c54).trans (if_neg c58)))))); rw [hO2.eq]; exact ⟨rfl, hG⟩) dMeanings_slice_86
          · refine lv_aload_n hx hb dMeanings_slice_73 rfl (lv_at hl 3 rfl) ?_
            refine of_get S hC (of_12_4 hI) in_Meanings rfl (by decide) qw_aa3d3bbcf9 dMeanings_slice_74 ?_
            refine lv_iload_n hx hb dMeanings_slice_77 rfl (lv_at hl 1 rfl) ?_
            refine pu_Vi (rest := []) S hC (f9_Looks_classOf l γ A κ φ ψ v55) meLooks_classOf qw_631ccf37b6 ⟨Nat.le_of_ble_eq_true rfl, Nat.le_of_ble_eq_true rfl⟩ (rv_9 hC hI) hG rfl hl.1 rfl (Nat.le_of_ble_eq_true rfl) dMeanings_slice_78 ⟨Nat.zero_le _, Nat.zero_le _⟩ (fun r59 hr59 => ?_)
            obtain ⟨hr59, er59⟩ := hr59
            refine lv_iconst (v := 2) hx hb dMeanings_slice_81 (by decide) ?_
            refine lv_icmp_eq (tgt := 87) hx hb dMeanings_slice_82 (by decide) (fun c60 => ?_) (fun c60 => ?_)
            · refine lv_aload_n hx hb dMeanings_slice_87 rfl (lv_at hl 3 rfl) ?_
              refine of_get S hC (of_12_4 hI) in_Meanings rfl (by decide) qw_aa3d3bbcf9 dMeanings_slice_88 ?_
              refine lv_iload_n hx hb dMeanings_slice_91 rfl (lv_at hl 4 rfl) ?_
              refine lv_iconst (v := 3) hx hb dMeanings_slice_92 (by decide) ?_
              refine lv_iconst (v := 0) hx hb dMeanings_slice_93 (by decide) ?_
              refine lv_aload_n hx hb dMeanings_slice_94 rfl (lv_at hl 3 rfl) ?_
              refine lv_iload_n hx hb dMeanings_slice_95 rfl (lv_at hl 2 rfl) ?_
              refine pu_Vi (rest := [.int 0, .int 3, .int x1, .ref (γ.2.2.2 9)]) S hC (f_Meanings_isConstant l γ A κ φ ψ r51) meMeanings_isConstant qw_39c162a16b ⟨Nat.le_of_ble_eq_true rfl, Nat.le_of_ble_eq_true rfl⟩ (rv_12 hC hI) hG rfl hl.1 rfl (Nat.le_of_ble_eq_true rfl) dMeanings_slice_96 ⟨Nat.zero_le _, Nat.zero_le _⟩ (fun r61 hr61 => ?_)
              obtain ⟨hr61, er61⟩ := hr61
              refine lv_if_eq (tgt := 129) hx hb dMeanings_slice_99 (by decide) (fun c62 => ?_) (fun c62 => ?_)
              · exact J129 ls _ _ φ ψ x1 r51 v55 r56 0 3 x1 hG hS (by subst er61 er59 er57 er56 ev55 er53 er51 er49 er47; exact hO.tr ((if_pos c48).trans ((if_pos c50).trans ((if_neg c52).trans ((if_neg c54).trans ((if_pos c58).trans ((if_pos c60).trans (if_pos c62)))))))) (lv_sub hl [3, 4, 2, 1, 0] rfl)
              · refine lv_aload_n hx hb dMeanings_slice_102 rfl (lv_at hl 3 rfl) ?_
                refine of_get S hC (of_12_4 hI) in_Meanings rfl (by decide) qw_aa3d3bbcf9 dMeanings_slice_103 ?_
                refine lv_iload hx hb dMeanings_slice_106 (lv_at hl 0 rfl) ?_
                refine pu_Vi (rest := [.int 0, .int 3, .int x1, .ref (γ.2.2.2 9)]) S hC (f9_Looks_isFixed l γ A κ φ ψ r56) meLooks_isFixed qw_e1e43cfc73 ⟨Nat.le_of_ble_eq_true rfl, Nat.le_of_ble_eq_true rfl⟩ (rv_9 hC hI) hG rfl hl.1 rfl (Nat.le_of_ble_eq_true rfl) dMeanings_slice_108 ⟨Nat.zero_le _, Nat.zero_le _⟩ (fun r63 hr63 => ?_)
                obtain ⟨hr63, er63⟩ := hr63
                refine lv_if_eq (tgt := 129) hx hb dMeanings_slice_111 (by decide) (fun c64 => ?_) (fun c64 => ?_)
                · exact J129 ls _ _ φ ψ x1 r51 v55 r56 0 3 x1 hG hS (by subst er63 er61 er59 er57 er56 ev55 er53 er51 er49 er47; exact hO.tr ((if_pos c48).trans ((if_pos c50).trans ((if_neg c52).trans ((if_neg c54).trans ((if_pos c58).trans ((if_pos c60).trans ((if_neg c62).trans (if_pos c64))))))))) (lv_sub hl [3, 4, 2, 1, 0] rfl)
                · refine lv_aload_n hx hb dMeanings_slice_114 rfl (lv_at hl 3 rfl) ?_
                  refine of_get S hC (of_12_4 hI) in_Meanings rfl (by decide) qw_aa3d3bbcf9 dMeanings_slice_115 ?_
                  refine lv_iload_n hx hb dMeanings_slice_118 rfl (lv_at hl 1 rfl) ?_
                  refine pu_Vi (rest := [.int 0, .int 3, .int x1, .ref (γ.2.2.2 9)]) S hC (f9_Looks_isFixed l γ A κ φ ψ v55) meLooks_isFixed qw_e1e43cfc73 ⟨Nat.le_of_ble_eq_true rfl, Nat.le_of_ble_eq_true rfl⟩ (rv_9 hC hI) hG rfl hl.1 rfl (Nat.le_of_ble_eq_true rfl) dMeanings_slice_119 ⟨Nat.zero_le _, Nat.zero_le _⟩ (fun r65 hr65 => ?_)
                  obtain ⟨hr65, er65⟩ := hr65
                  refine lv_if_eq (tgt := 129) hx hb dMeanings_slice_122 (by decide) (fun c66 => ?_) (fun c66 => ?_)
                  · exact J129 ls _ _ φ ψ x1 r51 v55 r56 0 3 x1 hG hS (by subst er65 er63 er61 er59 er57 er56 ev55 er53 er51 er49 er47; exact hO.tr ((if_pos c48).trans ((if_pos c50).trans ((if_neg c52).trans ((if_neg c54).trans ((if_pos c58).trans ((if_pos c60).trans ((if_neg c62).trans ((if_neg c64).trans (if_pos c66)))))))))) (lv_sub hl [3, 4, 2, 1, 0] rfl)
                  · refine lv_iconst (v := 1) hx hb dMeanings_slice_125 (by decide) ?_
                    refine lv_goto (tgt := 130) hx hb dMeanings_slice_126 (by decide) ?_
                    exact J130 ls _ _ φ ψ x1 r51 v55 r56 1 0 3 x1 hG hS (by subst er65 er63 er61 er59 er57 er56 ev55 er53 er51 er49 er47; exact hO.tr ((if_pos c48).trans ((if_pos c50).trans ((if_neg c52).trans ((if_neg c54).trans ((if_pos c58).trans ((if_pos c60).trans ((if_neg c62).trans ((if_neg c64).trans (if_neg c66)))))))))) (lv_sub hl [3, 4, 2, 1, 0] rfl)
            · refine lv_iconst (v := 3) hx hb dMeanings_slice_85 (by decide) ?_
              exact hE _ _ _ _ _ hS (by have hO2 : Oq OUT (3, φ, ψ) := (by subst er59 er57 er56 ev55 er53 er51 er49 er47; exact hO.tr ((if_pos c48).trans ((if_pos c50).trans ((if_neg c52).trans ((if_neg c54).trans ((if_pos c58).trans (if_neg c60))))))); rw [hO2.eq]; exact ⟨rfl, hG⟩) dMeanings_slice_86
        · refine lv_iconst (v := 2) hx hb dMeanings_slice_44 (by decide) ?_
          exact hE _ _ _ _ _ hS (by have hO2 : Oq OUT (2, φ, ψ) := (by subst er53 er51 er49 er47; exact hO.tr ((if_pos c48).trans ((if_pos c50).trans ((if_neg c52).trans (if_pos c54))))); rw [hO2.eq]; exact ⟨rfl, hG⟩) dMeanings_slice_45
    · refine lv_iconst (v := 1) hx hb dMeanings_slice_23 (by decide) ?_
      exact hE _ _ _ _ _ hS (by have hO2 : Oq OUT (1, φ, ψ) := (by subst er49 er47; exact hO.tr ((if_pos c48).trans (if_neg c50))); rw [hO2.eq]; exact ⟨rfl, hG⟩) dMeanings_slice_24
  · refine lv_bipush (v := 11) hx hb dMeanings_slice_12 (by decide) ?_
    exact hE _ _ _ _ _ hS (by have hO2 : Oq OUT (11, φ, ψ) := (by subst er47; exact hO.tr (if_neg c48)); rw [hO2.eq]; exact ⟨rfl, hG⟩) dMeanings_slice_14

def P_Meanings_noteAttribute (κ : Nat → Nat) (φ : gF) (ψ : gG) (x1 : Int32) (x2 : Int32) (x3 : Int32) : gF × gG := (if x2 < 18 then (if x2 = 17 then ((up φ 9 (P_Looks_note (κ 7) (φ 9) x1 (P_Types_classOf (κ 4) (κ 13) (φ 4) x3) (P_Types_extentOf (κ 4) (κ 13) (φ 4) x3) 0)), ψ) else ((up φ 9 (P_Looks_note (κ 7) (φ 9) x1 1 0 0)), ψ)) else ((up (up φ 9 (P_Looks_note (κ 7) (φ 9) x1 2 0 1)) 9 (P_Looks_setNumber (κ 7) ((up φ 9 (P_Looks_note (κ 7) (φ 9) x1 2 0 1)) 9) x1 (P_Meanings_boundOf κ (up φ 9 (P_Looks_note (κ 7) (φ 9) x1 2 0 1)) ψ x2 x3))), ψ))
set_option maxHeartbeats 4000000 in
set_option maxRecDepth 100000 in
theorem f_Meanings_noteAttribute (l : Launch) (γ : gE) (A : Nat → Prop) (κ : Nat → Nat) (φ : gF) (ψ : gG) (x1 : Int32) (x2 : Int32) (x3 : Int32) : MU l yMeanings_noteAttribute bMeanings_noteAttribute 4 (none) 3 66 0 0 [.ref (γ.2.2.2 12), .int x1, .int x2, .int x3] γ A (INVF γ A κ φ ψ) (mQv (fun H => INVF γ A κ (P_Meanings_noteAttribute κ φ ψ x1 x2 x3).1 (P_Meanings_noteAttribute κ φ ψ x1 x2 x3).2 H) A) := by
  refine mu_openV (by decide) (Nat.le_of_ble_eq_true rfl) ?_
  intro p e s m args below meth c ls Q S hnm hC hA hG hE hl
  obtain ⟨hx, hb, hml, hown, hW⟩ := id S
  have hI := inv_of hG
  have hS : va_S A s.heap s.heap [] := va_S.rf
  have hl : lv_has ls 4 [(0, .ref (γ.2.2.2 12)), (1, .int x1), (2, .int x2), (3, .int x3)] := hl
  obtain ⟨OUT, hQ, hO⟩ : ∃ z, (z = P_Meanings_noteAttribute κ φ ψ x1 x2 x3) ∧ Oq z (P_Meanings_noteAttribute κ φ ψ x1 x2 x3) := ⟨_, rfl, rfl⟩
  rw [← hQ] at hE
  clear hQ
  refine lv_iload_n hx hb dMeanings_noteAttribute_0 rfl (lv_at hl 2 rfl) ?_
  refine lv_bipush (v := 18) hx hb dMeanings_noteAttribute_1 (by decide) ?_
  refine lv_icmp_lt (tgt := 34) hx hb dMeanings_noteAttribute_3 (by decide) (fun c14 => ?_) (fun c14 => ?_)
  · refine lv_iload_n hx hb dMeanings_noteAttribute_34 rfl (lv_at hl 2 rfl) ?_
    refine lv_bipush (v := 17) hx hb dMeanings_noteAttribute_35 (by decide) ?_
    refine lv_icmp_ne (tgt := 68) hx hb dMeanings_noteAttribute_37 (by decide) (fun c15 => ?_) (fun c15 => ?_)
    · refine lv_aload_n hx hb dMeanings_noteAttribute_68 rfl (lv_at hl 0 rfl) ?_
      refine of_get S hC (of_12_4 hI) in_Meanings rfl (by decide) qw_aa3d3bbcf9 dMeanings_noteAttribute_69 ?_
      refine lv_iload_n hx hb dMeanings_noteAttribute_72 rfl (lv_at hl 1 rfl) ?_
      refine lv_iconst (v := 1) hx hb dMeanings_noteAttribute_73 (by decide) ?_
      refine lv_iconst (v := 0) hx hb dMeanings_noteAttribute_74 (by decide) ?_
      refine lv_iconst (v := 0) hx hb dMeanings_noteAttribute_75 (by decide) ?_
      refine mu_Vv (rest := []) S hC (fun q h => hA q (Nat.le_trans hS.1 h)) (fun q h => h) hS (f9_Looks_note l γ A κ φ ψ x1 1 0 0) meLooks_note qw_454d4ae88d ⟨Nat.le_of_ble_eq_true rfl, Nat.le_of_ble_eq_true rfl⟩ (rv_9 hC hI) hG rfl hl.1 rfl (Nat.le_of_ble_eq_true rfl) dMeanings_noteAttribute_76 ⟨Nat.le_refl _, Nat.le_refl _⟩ (fun H locs hG hS _ _ => ?_)
      obtain ⟨φ17, eφ17⟩ : ∃ z : gF, z = up φ 9 (P_Looks_note (κ 7) (φ 9) x1 1 0 0) := ⟨_, rfl⟩
      rw [← eφ17] at hG
      have hI := inv_of hG
      exact hE _ _ _ _ hS (by have hO2 : Oq OUT (φ17, ψ) := (by subst eφ17; exact hO.tr ((if_pos c14).trans (if_neg c15))); rw [hO2.eq]; exact hG) dMeanings_noteAttribute_79
    · refine lv_aload_n hx hb dMeanings_noteAttribute_40 rfl (lv_at hl 0 rfl) ?_
      refine of_get S hC (of_12_4 hI) in_Meanings rfl (by decide) qw_aa3d3bbcf9 dMeanings_noteAttribute_41 ?_
      refine lv_iload_n hx hb dMeanings_noteAttribute_44 rfl (lv_at hl 1 rfl) ?_
      refine lv_aload_n hx hb dMeanings_noteAttribute_45 rfl (lv_at hl 0 rfl) ?_
      refine of_get S hC (of_12_2 hI) in_Meanings rfl (by decide) qw_e2a2dba4a9 dMeanings_noteAttribute_46 ?_
      refine lv_iload_n hx hb dMeanings_noteAttribute_49 rfl (lv_at hl 3 rfl) ?_
      refine pu_Vi (rest := [.int x1, .ref (γ.2.2.2 9)]) S hC (f3_Types_classOf l γ A κ φ ψ x3) meTypes_classOf qw_ac19273b21 ⟨Nat.le_of_ble_eq_true rfl, Nat.le_of_ble_eq_true rfl⟩ (rv_3 hC hI) hG rfl hl.1 rfl (Nat.le_of_ble_eq_true rfl) dMeanings_noteAttribute_50 ⟨Nat.zero_le _, Nat.zero_le _⟩ (fun r18 hr18 => ?_)
      obtain ⟨hr18, er18⟩ := hr18
      refine lv_aload_n hx hb dMeanings_noteAttribute_53 rfl (lv_at hl 0 rfl) ?_
      refine of_get S hC (of_12_2 hI) in_Meanings rfl (by decide) qw_e2a2dba4a9 dMeanings_noteAttribute_54 ?_
      refine lv_iload_n hx hb dMeanings_noteAttribute_57 rfl (lv_at hl 3 rfl) ?_
      refine pu_Vi (rest := [.int r18, .int x1, .ref (γ.2.2.2 9)]) S hC (f3_Types_extentOf l γ A κ φ ψ x3) meTypes_extentOf qw_3b2c7270bb ⟨Nat.le_of_ble_eq_true rfl, Nat.le_of_ble_eq_true rfl⟩ (rv_3 hC hI) hG rfl hl.1 rfl (Nat.le_of_ble_eq_true rfl) dMeanings_noteAttribute_58 ⟨Nat.zero_le _, Nat.zero_le _⟩ (fun r19 hr19 => ?_)
      obtain ⟨hr19, er19⟩ := hr19
      refine lv_iconst (v := 0) hx hb dMeanings_noteAttribute_61 (by decide) ?_
      refine mu_Vv (rest := []) S hC (fun q h => hA q (Nat.le_trans hS.1 h)) (fun q h => h) hS (f9_Looks_note l γ A κ φ ψ x1 r18 r19 0) meLooks_note qw_454d4ae88d ⟨Nat.le_of_ble_eq_true rfl, Nat.le_of_ble_eq_true rfl⟩ (rv_9 hC hI) hG rfl hl.1 rfl (Nat.le_of_ble_eq_true rfl) dMeanings_noteAttribute_62 ⟨Nat.le_refl _, Nat.le_refl _⟩ (fun H locs hG hS _ _ => ?_)
      obtain ⟨φ21, eφ21⟩ : ∃ z : gF, z = up φ 9 (P_Looks_note (κ 7) (φ 9) x1 r18 r19 0) := ⟨_, rfl⟩
      rw [← eφ21] at hG
      have hI := inv_of hG
      refine lv_goto (tgt := 79) hx hb dMeanings_noteAttribute_65 (by decide) ?_
      exact hE _ _ _ _ hS (by have hO2 : Oq OUT (φ21, ψ) := (by subst eφ21 er19 er18; exact hO.tr ((if_pos c14).trans (if_pos c15))); rw [hO2.eq]; exact hG) dMeanings_noteAttribute_79
  · refine lv_aload_n hx hb dMeanings_noteAttribute_6 rfl (lv_at hl 0 rfl) ?_
    refine of_get S hC (of_12_4 hI) in_Meanings rfl (by decide) qw_aa3d3bbcf9 dMeanings_noteAttribute_7 ?_
    refine lv_iload_n hx hb dMeanings_noteAttribute_10 rfl (lv_at hl 1 rfl) ?_
    refine lv_iconst (v := 2) hx hb dMeanings_noteAttribute_11 (by decide) ?_
    refine lv_iconst (v := 0) hx hb dMeanings_noteAttribute_12 (by decide) ?_
    refine lv_iconst (v := 1) hx hb dMeanings_noteAttribute_13 (by decide) ?_
    refine mu_Vv (rest := []) S hC (fun q h => hA q (Nat.le_trans hS.1 h)) (fun q h => h) hS (f9_Looks_note l γ A κ φ ψ x1 2 0 1) meLooks_note qw_454d4ae88d ⟨Nat.le_of_ble_eq_true rfl, Nat.le_of_ble_eq_true rfl⟩ (rv_9 hC hI) hG rfl hl.1 rfl (Nat.le_of_ble_eq_true rfl) dMeanings_noteAttribute_14 ⟨Nat.le_refl _, Nat.le_refl _⟩ (fun H locs hG hS _ _ => ?_)
    obtain ⟨φ23, eφ23⟩ : ∃ z : gF, z = up φ 9 (P_Looks_note (κ 7) (φ 9) x1 2 0 1) := ⟨_, rfl⟩
    rw [← eφ23] at hG
    have hI := inv_of hG
    refine lv_aload_n hx hb dMeanings_noteAttribute_17 rfl (lv_at hl 0 rfl) ?_
    refine of_get S hC (of_12_4 hI) in_Meanings rfl (by decide) qw_aa3d3bbcf9 dMeanings_noteAttribute_18 ?_
    refine lv_iload_n hx hb dMeanings_noteAttribute_21 rfl (lv_at hl 1 rfl) ?_
    refine lv_aload_n hx hb dMeanings_noteAttribute_22 rfl (lv_at hl 0 rfl) ?_
    refine lv_iload_n hx hb dMeanings_noteAttribute_23 rfl (lv_at hl 2 rfl) ?_
    refine lv_iload_n hx hb dMeanings_noteAttribute_24 rfl (lv_at hl 3 rfl) ?_
    refine pu_Vi (rest := [.int x1, .ref (γ.2.2.2 9)]) S hC (f_Meanings_boundOf l γ A κ φ23 ψ x2 x3) meMeanings_boundOf qw_d7f92bc95d ⟨Nat.le_of_ble_eq_true rfl, Nat.le_of_ble_eq_true rfl⟩ (rv_12 hC hI) hG rfl hl.1 rfl (Nat.le_of_ble_eq_true rfl) dMeanings_noteAttribute_25 ⟨Nat.zero_le _, Nat.zero_le _⟩ (fun r24 hr24 => ?_)
    obtain ⟨hr24, er24⟩ := hr24
    refine mu_Vv (rest := []) S hC (fun q h => hA q (Nat.le_trans hS.1 h)) (fun q h => h) hS (f9_Looks_setNumber l γ A κ φ23 ψ x1 r24) meLooks_setNumber qw_86190d2de0 ⟨Nat.le_of_ble_eq_true rfl, Nat.le_of_ble_eq_true rfl⟩ (rv_9 hC hI) hG rfl hl.1 rfl (Nat.le_of_ble_eq_true rfl) dMeanings_noteAttribute_28 ⟨Nat.le_refl _, Nat.le_refl _⟩ (fun H locs hG hS _ _ => ?_)
    obtain ⟨φ26, eφ26⟩ : ∃ z : gF, z = up φ23 9 (P_Looks_setNumber (κ 7) (φ23 9) x1 r24) := ⟨_, rfl⟩
    rw [← eφ26] at hG
    have hI := inv_of hG
    refine lv_goto (tgt := 79) hx hb dMeanings_noteAttribute_31 (by decide) ?_
    exact hE _ _ _ _ hS (by have hO2 : Oq OUT (φ26, ψ) := (by subst eφ26 er24 eφ23; exact hO.tr (if_neg c14)); rw [hO2.eq]; exact hG) dMeanings_noteAttribute_79

def P_Meanings_attribute_124 (κ : Nat → Nat) (φ : gF) (ψ : gG) (i1 : Int32) (i2 : Int32) (i3 : Int32) (i4 : Int32) : Int32 × gF × gG := (0, (up ((P_Meanings_noteAttribute κ φ ψ i1 i3 (P_Objects_typeOfObject (κ 5) (κ 14) (φ 5) i4)).1) 9 (P_Looks_setMeaning (κ 7) (((P_Meanings_noteAttribute κ φ ψ i1 i3 (P_Objects_typeOfObject (κ 5) (κ 14) (φ 5) i4)).1) 9) i1 i4)), ((P_Meanings_noteAttribute κ φ ψ i1 i3 (P_Objects_typeOfObject (κ 5) (κ 14) (φ 5) i4)).2))
def P_Meanings_attribute_107 (κ : Nat → Nat) (φ : gF) (ψ : gG) (i1 : Int32) (i2 : Int32) (i3 : Int32) (i4 : Int32) : Int32 × gF × gG := (if i3 < 18 then (P_Meanings_attribute_124 κ  φ ψ i1 i2 i3 i4) else (if (P_Meanings_isRow κ φ ψ i4) = 0 then (3, φ, ψ) else (P_Meanings_attribute_124 κ  φ ψ i1 i2 i3 i4)))
def P_Meanings_attribute (κ : Nat → Nat) (φ : gF) (ψ : gG) (x1 : Int32) : Int32 × gF × gG := (if (P_Trees_countOf (κ 0) (κ 1) (κ 11) (φ 2) x1) = 1 then (if (P_Trees_kindOf (κ 0) (κ 1) (κ 11) (φ 2) (x1 - 1)) = 1 then (if (P_Trees_countOf (κ 0) (κ 1) (κ 11) (φ 2) (x1 - 1)) = 0 then (if (P_Trees_valueOf (κ 0) (κ 1) (κ 11) (φ 2) (x1 - 1)) < 15 then (11, φ, ψ) else (if (P_Trees_valueOf (κ 0) (κ 1) (κ 11) (φ 2) (x1 - 1)) ≤ 22 then (if (P_Meanings_isUnknown κ φ ψ x1) = 0 then (if (P_Meanings_objectAt κ φ ψ x1) = (-1) then (2, φ, ψ) else (if 17 < (P_Trees_valueOf (κ 0) (κ 1) (κ 11) (φ 2) (x1 - 1)) then (P_Meanings_attribute_107 κ  φ ψ x1 (x1 - 1) (P_Trees_valueOf (κ 0) (κ 1) (κ 11) (φ 2) (x1 - 1)) (P_Meanings_objectAt κ φ ψ x1)) else (if (P_Objects_whatOf (κ 5) (κ 14) (φ 5) (P_Meanings_objectAt κ φ ψ x1)) = 1 then (P_Meanings_attribute_107 κ  φ ψ x1 (x1 - 1) (P_Trees_valueOf (κ 0) (κ 1) (κ 11) (φ 2) (x1 - 1)) (P_Meanings_objectAt κ φ ψ x1)) else (2, φ, ψ)))) else (1, φ, ψ)) else (11, φ, ψ))) else (11, φ, ψ)) else (11, φ, ψ)) else (11, φ, ψ))
set_option maxHeartbeats 4000000 in
set_option maxRecDepth 100000 in
theorem f_Meanings_attribute (l : Launch) (γ : gE) (A : Nat → Prop) (κ : Nat → Nat) (φ : gF) (ψ : gG) (x1 : Int32) : MU l yMeanings_attribute bMeanings_attribute 5 (some .int) 4 89 0 0 [.ref (γ.2.2.2 12), .int x1] γ A (INVF γ A κ φ ψ) (mQi (fun r H => r = (P_Meanings_attribute κ φ ψ x1).1 ∧ INVF γ A κ (P_Meanings_attribute κ φ ψ x1).2.1 (P_Meanings_attribute κ φ ψ x1).2.2 H) A) := by
  refine mu_openI (by decide) (Nat.le_of_ble_eq_true rfl) ?_
  intro p e s m args below meth c ls Q S hnm hC hA hG hE hl
  obtain ⟨hx, hb, hml, hown, hW⟩ := id S
  have hI := inv_of hG
  have hS : va_S A s.heap s.heap [] := va_S.rf
  have hl : lv_has ls 5 [(0, .ref (γ.2.2.2 12)), (1, .int x1)] := hl
  obtain ⟨OUT, hQ, hO⟩ : ∃ z, (z = P_Meanings_attribute κ φ ψ x1) ∧ Oq z (P_Meanings_attribute κ φ ψ x1) := ⟨_, rfl, rfl⟩
  rw [← hQ] at hE
  clear hQ
  have J124 : ∀ (ls : Array Slot) (H : Heap) (locs : List Loc) (φ : gF) (ψ : gG) (i1 : Int32) (i2 : Int32) (i3 : Int32) (i4 : Int32), INVF γ A κ φ ψ H → va_S A s.heap H locs → (Oq OUT (P_Meanings_attribute_124 κ   φ ψ i1 i2 i3 i4)) → lv_has ls 5 [(0, .ref (γ.2.2.2 12)), (1, .int i1), (2, .int i2), (3, .int i3), (4, .int i4)] → W p l e (bs_rm 4 0 0 89) s m args below meth c H locs 0 0 Q (F0 m 124 ls []) := by
    intro ls H locs φ ψ i1 i2 i3 i4 hG hS hO hl
    have hI := inv_of hG
    refine lv_aload_n hx hb dMeanings_attribute_124 rfl (lv_at hl 0 rfl) ?_
    refine lv_iload_n hx hb dMeanings_attribute_125 rfl (lv_at hl 1 rfl) ?_
    refine lv_iload_n hx hb dMeanings_attribute_126 rfl (lv_at hl 3 rfl) ?_
    refine lv_aload_n hx hb dMeanings_attribute_127 rfl (lv_at hl 0 rfl) ?_
    refine of_get S hC (of_12_3 hI) in_Meanings rfl (by decide) qw_9bfdade5f5 dMeanings_attribute_128 ?_
    refine lv_iload hx hb dMeanings_attribute_131 (lv_at hl 4 rfl) ?_
    refine pu_Vi (rest := [.int i3, .int i1, .ref (γ.2.2.2 12)]) S hC (f4_Objects_typeOfObject l γ A κ φ ψ i4) meObjects_typeOfObject qw_bc7306873f ⟨Nat.le_of_ble_eq_true rfl, Nat.le_of_ble_eq_true rfl⟩ (rv_4 hC hI) hG rfl hl.1 rfl (Nat.le_of_ble_eq_true rfl) dMeanings_attribute_133 ⟨Nat.zero_le _, Nat.zero_le _⟩ (fun r27 hr27 => ?_)
    obtain ⟨hr27, er27⟩ := hr27
    refine mu_Vv (rest := []) S hC (fun q h => hA q (Nat.le_trans hS.1 h)) (fun q h => h) hS (f_Meanings_noteAttribute l γ A κ φ ψ i1 i3 r27) meMeanings_noteAttribute qw_ef57f773bb ⟨Nat.le_of_ble_eq_true rfl, Nat.le_of_ble_eq_true rfl⟩ (rv_12 hC hI) hG rfl hl.1 rfl (Nat.le_of_ble_eq_true rfl) dMeanings_attribute_136 ⟨Nat.le_refl _, Nat.le_refl _⟩ (fun H locs hG hS _ _ => ?_)
    obtain ⟨φ29, eφ29⟩ : ∃ z : gF, z = (P_Meanings_noteAttribute κ φ ψ i1 i3 r27).1 := ⟨_, rfl⟩
    rw [← eφ29] at hG
    obtain ⟨ψ30, eψ30⟩ : ∃ z : gG, z = (P_Meanings_noteAttribute κ φ ψ i1 i3 r27).2 := ⟨_, rfl⟩
    rw [← eψ30] at hG
    have hI := inv_of hG
    refine lv_aload_n hx hb dMeanings_attribute_139 rfl (lv_at hl 0 rfl) ?_
    refine of_get S hC (of_12_4 hI) in_Meanings rfl (by decide) qw_aa3d3bbcf9 dMeanings_attribute_140 ?_
    refine lv_iload_n hx hb dMeanings_attribute_143 rfl (lv_at hl 1 rfl) ?_
    refine lv_iload hx hb dMeanings_attribute_144 (lv_at hl 4 rfl) ?_
    refine mu_Vv (rest := []) S hC (fun q h => hA q (Nat.le_trans hS.1 h)) (fun q h => h) hS (f9_Looks_setMeaning l γ A κ φ29 ψ30 i1 i4) meLooks_setMeaning qw_23315a9189 ⟨Nat.le_of_ble_eq_true rfl, Nat.le_of_ble_eq_true rfl⟩ (rv_9 hC hI) hG rfl hl.1 rfl (Nat.le_of_ble_eq_true rfl) dMeanings_attribute_146 ⟨Nat.le_refl _, Nat.le_refl _⟩ (fun H locs hG hS _ _ => ?_)
    obtain ⟨φ32, eφ32⟩ : ∃ z : gF, z = up φ29 9 (P_Looks_setMeaning (κ 7) (φ29 9) i1 i4) := ⟨_, rfl⟩
    rw [← eφ32] at hG
    have hI := inv_of hG
    refine lv_iconst (v := 0) hx hb dMeanings_attribute_149 (by decide) ?_
    exact hE _ _ _ _ _ hS (by have hO2 : Oq OUT (0, φ32, ψ30) := (by subst eφ32 eψ30 eφ29 er27; exact hO.tr rfl); rw [hO2.eq]; exact ⟨rfl, hG⟩) dMeanings_attribute_150
  have J107 : ∀ (ls : Array Slot) (H : Heap) (locs : List Loc) (φ : gF) (ψ : gG) (i1 : Int32) (i2 : Int32) (i3 : Int32) (i4 : Int32), INVF γ A κ φ ψ H → va_S A s.heap H locs → (Oq OUT (P_Meanings_attribute_107 κ   φ ψ i1 i2 i3 i4)) → lv_has ls 5 [(0, .ref (γ.2.2.2 12)), (1, .int i1), (2, .int i2), (3, .int i3), (4, .int i4)] → W p l e (bs_rm 4 0 0 89) s m args below meth c H locs 0 0 Q (F0 m 107 ls []) := by
    intro ls H locs φ ψ i1 i2 i3 i4 hG hS hO hl
    have hI := inv_of hG
    refine lv_iload_n hx hb dMeanings_attribute_107 rfl (lv_at hl 3 rfl) ?_
    refine lv_bipush (v := 18) hx hb dMeanings_attribute_108 (by decide) ?_
    refine lv_icmp_lt (tgt := 124) hx hb dMeanings_attribute_110 (by decide) (fun c33 => ?_) (fun c33 => ?_)
    · exact J124 ls _ _ φ ψ i1 i2 i3 i4 hG hS (by exact hO.tr (if_pos c33)) (lv_sub hl [0, 1, 2, 3, 4] rfl)
    · refine lv_aload_n hx hb dMeanings_attribute_113 rfl (lv_at hl 0 rfl) ?_
      refine lv_iload hx hb dMeanings_attribute_114 (lv_at hl 4 rfl) ?_
      refine pu_Vi (rest := []) S hC (f_Meanings_isRow l γ A κ φ ψ i4) meMeanings_isRow qw_5342b138aa ⟨Nat.le_of_ble_eq_true rfl, Nat.le_of_ble_eq_true rfl⟩ (rv_12 hC hI) hG rfl hl.1 rfl (Nat.le_of_ble_eq_true rfl) dMeanings_attribute_116 ⟨Nat.zero_le _, Nat.zero_le _⟩ (fun r34 hr34 => ?_)
      obtain ⟨hr34, er34⟩ := hr34
      refine lv_if_ne (tgt := 124) hx hb dMeanings_attribute_119 (by decide) (fun c35 => ?_) (fun c35 => ?_)
      · exact J124 ls _ _ φ ψ i1 i2 i3 i4 hG hS (by subst er34; exact hO.tr ((if_neg c33).trans (if_neg c35))) (lv_sub hl [0, 1, 2, 3, 4] rfl)
      · refine lv_iconst (v := 3) hx hb dMeanings_attribute_122 (by decide) ?_
        exact hE _ _ _ _ _ hS (by have hO2 : Oq OUT (3, φ, ψ) := (by subst er34; exact hO.tr ((if_neg c33).trans (if_pos c35))); rw [hO2.eq]; exact ⟨rfl, hG⟩) dMeanings_attribute_123
  refine lv_iload_n hx hb dMeanings_attribute_0 rfl (lv_at hl 1 rfl) ?_
  refine lv_iconst (v := 1) hx hb dMeanings_attribute_1 (by decide) ?_
  refine lv_isub hx hb dMeanings_attribute_2 ?_
  refine lv_topi (fun v36 ev36 => ?_)
  refine lv_istore_n (lv' := [(2, .int v36), (0, .ref (γ.2.2.2 12)), (1, .int x1)]) hx hb dMeanings_attribute_3 rfl hl (by decide) rfl (fun ls hl => ?_)
  refine lv_aload_n hx hb dMeanings_attribute_4 rfl (lv_at hl 1 rfl) ?_
  refine of_get S hC (of_12_0 hI) in_Meanings rfl (by decide) qw_c54cffb97e dMeanings_attribute_5 ?_
  refine lv_iload_n hx hb dMeanings_attribute_8 rfl (lv_at hl 0 rfl) ?_
  refine pu_Vi (rest := []) S hC (f1_Trees_valueOf l γ A κ φ ψ v36) meTrees_valueOf qw_b5139988c8 ⟨Nat.le_of_ble_eq_true rfl, Nat.le_of_ble_eq_true rfl⟩ (rv_1 hC hI) hG rfl hl.1 rfl (Nat.le_of_ble_eq_true rfl) dMeanings_attribute_9 ⟨Nat.zero_le _, Nat.zero_le _⟩ (fun r37 hr37 => ?_)
  obtain ⟨hr37, er37⟩ := hr37
  refine lv_istore_n (lv' := [(3, .int r37), (2, .int v36), (0, .ref (γ.2.2.2 12)), (1, .int x1)]) hx hb dMeanings_attribute_12 rfl hl (by decide) rfl (fun ls hl => ?_)
  refine lv_aload_n hx hb dMeanings_attribute_13 rfl (lv_at hl 2 rfl) ?_
  refine of_get S hC (of_12_0 hI) in_Meanings rfl (by decide) qw_c54cffb97e dMeanings_attribute_14 ?_
  refine lv_iload_n hx hb dMeanings_attribute_17 rfl (lv_at hl 3 rfl) ?_
  refine pu_Vi (rest := []) S hC (f1_Trees_countOf l γ A κ φ ψ x1) meTrees_countOf qw_08981d77a7 ⟨Nat.le_of_ble_eq_true rfl, Nat.le_of_ble_eq_true rfl⟩ (rv_1 hC hI) hG rfl hl.1 rfl (Nat.le_of_ble_eq_true rfl) dMeanings_attribute_18 ⟨Nat.zero_le _, Nat.zero_le _⟩ (fun r38 hr38 => ?_)
  obtain ⟨hr38, er38⟩ := hr38
  refine lv_iconst (v := 1) hx hb dMeanings_attribute_21 (by decide) ?_
  refine lv_icmp_ne (tgt := 60) hx hb dMeanings_attribute_22 (by decide) (fun c39 => ?_) (fun c39 => ?_)
  · refine lv_bipush (v := 11) hx hb dMeanings_attribute_60 (by decide) ?_
    exact hE _ _ _ _ _ hS (by have hO2 : Oq OUT (11, φ, ψ) := (by subst er38 er37 ev36; exact hO.tr (if_neg c39)); rw [hO2.eq]; exact ⟨rfl, hG⟩) dMeanings_attribute_62
  · refine lv_aload_n hx hb dMeanings_attribute_25 rfl (lv_at hl 2 rfl) ?_
    refine of_get S hC (of_12_0 hI) in_Meanings rfl (by decide) qw_c54cffb97e dMeanings_attribute_26 ?_
    refine lv_iload_n hx hb dMeanings_attribute_29 rfl (lv_at hl 1 rfl) ?_
    refine pu_Vi (rest := []) S hC (f1_Trees_kindOf l γ A κ φ ψ v36) meTrees_kindOf qw_6dd2778f5c ⟨Nat.le_of_ble_eq_true rfl, Nat.le_of_ble_eq_true rfl⟩ (rv_1 hC hI) hG rfl hl.1 rfl (Nat.le_of_ble_eq_true rfl) dMeanings_attribute_30 ⟨Nat.zero_le _, Nat.zero_le _⟩ (fun r40 hr40 => ?_)
    obtain ⟨hr40, er40⟩ := hr40
    refine lv_iconst (v := 1) hx hb dMeanings_attribute_33 (by decide) ?_
    refine lv_icmp_ne (tgt := 60) hx hb dMeanings_attribute_34 (by decide) (fun c41 => ?_) (fun c41 => ?_)
    · refine lv_bipush (v := 11) hx hb dMeanings_attribute_60 (by decide) ?_
      exact hE _ _ _ _ _ hS (by have hO2 : Oq OUT (11, φ, ψ) := (by subst er40 er38 er37 ev36; exact hO.tr ((if_pos c39).trans (if_neg c41))); rw [hO2.eq]; exact ⟨rfl, hG⟩) dMeanings_attribute_62
    · refine lv_aload_n hx hb dMeanings_attribute_37 rfl (lv_at hl 2 rfl) ?_
      refine of_get S hC (of_12_0 hI) in_Meanings rfl (by decide) qw_c54cffb97e dMeanings_attribute_38 ?_
      refine lv_iload_n hx hb dMeanings_attribute_41 rfl (lv_at hl 1 rfl) ?_
      refine pu_Vi (rest := []) S hC (f1_Trees_countOf l γ A κ φ ψ v36) meTrees_countOf qw_08981d77a7 ⟨Nat.le_of_ble_eq_true rfl, Nat.le_of_ble_eq_true rfl⟩ (rv_1 hC hI) hG rfl hl.1 rfl (Nat.le_of_ble_eq_true rfl) dMeanings_attribute_42 ⟨Nat.zero_le _, Nat.zero_le _⟩ (fun r42 hr42 => ?_)
      obtain ⟨hr42, er42⟩ := hr42
      refine lv_if_ne (tgt := 60) hx hb dMeanings_attribute_45 (by decide) (fun c43 => ?_) (fun c43 => ?_)
      · refine lv_bipush (v := 11) hx hb dMeanings_attribute_60 (by decide) ?_
        exact hE _ _ _ _ _ hS (by have hO2 : Oq OUT (11, φ, ψ) := (by subst er42 er40 er38 er37 ev36; exact hO.tr ((if_pos c39).trans ((if_pos c41).trans (if_neg c43)))); rw [hO2.eq]; exact ⟨rfl, hG⟩) dMeanings_attribute_62
      · refine lv_iload_n hx hb dMeanings_attribute_48 rfl (lv_at hl 0 rfl) ?_
        refine lv_bipush (v := 15) hx hb dMeanings_attribute_49 (by decide) ?_
        refine lv_icmp_lt (tgt := 60) hx hb dMeanings_attribute_51 (by decide) (fun c44 => ?_) (fun c44 => ?_)
        · refine lv_bipush (v := 11) hx hb dMeanings_attribute_60 (by decide) ?_
          exact hE _ _ _ _ _ hS (by have hO2 : Oq OUT (11, φ, ψ) := (by subst er42 er40 er38 er37 ev36; exact hO.tr ((if_pos c39).trans ((if_pos c41).trans ((if_pos c43).trans (if_pos c44))))); rw [hO2.eq]; exact ⟨rfl, hG⟩) dMeanings_attribute_62
        · refine lv_iload_n hx hb dMeanings_attribute_54 rfl (lv_at hl 0 rfl) ?_
          refine lv_bipush (v := 22) hx hb dMeanings_attribute_55 (by decide) ?_
          refine lv_icmp_le (tgt := 63) hx hb dMeanings_attribute_57 (by decide) (fun c45 => ?_) (fun c45 => ?_)
          · refine lv_aload_n hx hb dMeanings_attribute_63 rfl (lv_at hl 2 rfl) ?_
            refine lv_iload_n hx hb dMeanings_attribute_64 rfl (lv_at hl 3 rfl) ?_
            refine pu_Vi (rest := []) S hC (f_Meanings_isUnknown l γ A κ φ ψ x1) meMeanings_isUnknown qw_88d34ce9ff ⟨Nat.le_of_ble_eq_true rfl, Nat.le_of_ble_eq_true rfl⟩ (rv_12 hC hI) hG rfl hl.1 rfl (Nat.le_of_ble_eq_true rfl) dMeanings_attribute_65 ⟨Nat.zero_le _, Nat.zero_le _⟩ (fun r46 hr46 => ?_)
            obtain ⟨hr46, er46⟩ := hr46
            refine lv_if_eq (tgt := 73) hx hb dMeanings_attribute_68 (by decide) (fun c47 => ?_) (fun c47 => ?_)
            · refine lv_aload_n hx hb dMeanings_attribute_73 rfl (lv_at hl 2 rfl) ?_
              refine lv_iload_n hx hb dMeanings_attribute_74 rfl (lv_at hl 3 rfl) ?_
              refine pu_Vi (rest := []) S hC (f_Meanings_objectAt l γ A κ φ ψ x1) meMeanings_objectAt qw_1c1a520089 ⟨Nat.le_of_ble_eq_true rfl, Nat.le_of_ble_eq_true rfl⟩ (rv_12 hC hI) hG rfl hl.1 rfl (Nat.le_of_ble_eq_true rfl) dMeanings_attribute_75 ⟨Nat.zero_le _, Nat.zero_le _⟩ (fun r48 hr48 => ?_)
              obtain ⟨hr48, er48⟩ := hr48
              refine lv_istore (lv' := [(4, .int r48), (3, .int r37), (2, .int v36), (0, .ref (γ.2.2.2 12)), (1, .int x1)]) hx hb dMeanings_attribute_78 hl (by decide) rfl (fun ls hl => ?_)
              refine lv_iload hx hb dMeanings_attribute_80 (lv_at hl 0 rfl) ?_
              refine lv_iconst (v := (-1)) hx hb dMeanings_attribute_82 (by decide) ?_
              refine lv_icmp_eq (tgt := 105) hx hb dMeanings_attribute_83 (by decide) (fun c49 => ?_) (fun c49 => ?_)
              · refine lv_iconst (v := 2) hx hb dMeanings_attribute_105 (by decide) ?_
                exact hE _ _ _ _ _ hS (by have hO2 : Oq OUT (2, φ, ψ) := (by subst er48 er46 er42 er40 er38 er37 ev36; exact hO.tr ((if_pos c39).trans ((if_pos c41).trans ((if_pos c43).trans ((if_neg c44).trans ((if_pos c45).trans ((if_pos c47).trans (if_pos c49)))))))); rw [hO2.eq]; exact ⟨rfl, hG⟩) dMeanings_attribute_106
              · refine lv_iload_n hx hb dMeanings_attribute_86 rfl (lv_at hl 1 rfl) ?_
                refine lv_bipush (v := 17) hx hb dMeanings_attribute_87 (by decide) ?_
                refine lv_icmp_gt (tgt := 107) hx hb dMeanings_attribute_89 (by decide) (fun c50 => ?_) (fun c50 => ?_)
                · exact J107 ls _ _ φ ψ x1 v36 r37 r48 hG hS (by subst er48 er46 er42 er40 er38 er37 ev36; exact hO.tr ((if_pos c39).trans ((if_pos c41).trans ((if_pos c43).trans ((if_neg c44).trans ((if_pos c45).trans ((if_pos c47).trans ((if_neg c49).trans (if_pos c50))))))))) (lv_sub hl [3, 4, 2, 1, 0] rfl)
                · refine lv_aload_n hx hb dMeanings_attribute_92 rfl (lv_at hl 3 rfl) ?_
                  refine of_get S hC (of_12_3 hI) in_Meanings rfl (by decide) qw_9bfdade5f5 dMeanings_attribute_93 ?_
                  refine lv_iload hx hb dMeanings_attribute_96 (lv_at hl 0 rfl) ?_
                  refine pu_Vi (rest := []) S hC (f4_Objects_whatOf l γ A κ φ ψ r48) meObjects_whatOf qw_2c7313498c ⟨Nat.le_of_ble_eq_true rfl, Nat.le_of_ble_eq_true rfl⟩ (rv_4 hC hI) hG rfl hl.1 rfl (Nat.le_of_ble_eq_true rfl) dMeanings_attribute_98 ⟨Nat.zero_le _, Nat.zero_le _⟩ (fun r51 hr51 => ?_)
                  obtain ⟨hr51, er51⟩ := hr51
                  refine lv_iconst (v := 1) hx hb dMeanings_attribute_101 (by decide) ?_
                  refine lv_icmp_eq (tgt := 107) hx hb dMeanings_attribute_102 (by decide) (fun c52 => ?_) (fun c52 => ?_)
                  · exact J107 ls _ _ φ ψ x1 v36 r37 r48 hG hS (by subst er51 er48 er46 er42 er40 er38 er37 ev36; exact hO.tr ((if_pos c39).trans ((if_pos c41).trans ((if_pos c43).trans ((if_neg c44).trans ((if_pos c45).trans ((if_pos c47).trans ((if_neg c49).trans ((if_neg c50).trans (if_pos c52)))))))))) (lv_sub hl [3, 4, 2, 1, 0] rfl)
                  · refine lv_iconst (v := 2) hx hb dMeanings_attribute_105 (by decide) ?_
                    exact hE _ _ _ _ _ hS (by have hO2 : Oq OUT (2, φ, ψ) := (by subst er51 er48 er46 er42 er40 er38 er37 ev36; exact hO.tr ((if_pos c39).trans ((if_pos c41).trans ((if_pos c43).trans ((if_neg c44).trans ((if_pos c45).trans ((if_pos c47).trans ((if_neg c49).trans ((if_neg c50).trans (if_neg c52)))))))))); rw [hO2.eq]; exact ⟨rfl, hG⟩) dMeanings_attribute_106
            · refine lv_iconst (v := 1) hx hb dMeanings_attribute_71 (by decide) ?_
              exact hE _ _ _ _ _ hS (by have hO2 : Oq OUT (1, φ, ψ) := (by subst er46 er42 er40 er38 er37 ev36; exact hO.tr ((if_pos c39).trans ((if_pos c41).trans ((if_pos c43).trans ((if_neg c44).trans ((if_pos c45).trans (if_neg c47))))))); rw [hO2.eq]; exact ⟨rfl, hG⟩) dMeanings_attribute_72
          · refine lv_bipush (v := 11) hx hb dMeanings_attribute_60 (by decide) ?_
            exact hE _ _ _ _ _ hS (by have hO2 : Oq OUT (11, φ, ψ) := (by subst er42 er40 er38 er37 ev36; exact hO.tr ((if_pos c39).trans ((if_pos c41).trans ((if_pos c43).trans ((if_neg c44).trans (if_neg c45)))))); rw [hO2.eq]; exact ⟨rfl, hG⟩) dMeanings_attribute_62

def P_Looker_leaf (κ : Nat → Nat) (φ : gF) (ψ : gG) (x1 : Int32) (x2 : Int32) (x3 : Int32) : Int32 × gF × gG := (if (P_Trees_countOf (κ 0) (κ 1) (κ 11) (φ 2) x1) = 0 then (if (P_Trees_valueOf (κ 0) (κ 1) (κ 11) (φ 2) x1) < 0 then (11, φ, ψ) else (if (P_Trees_valueOf (κ 0) (κ 1) (κ 11) (φ 2) x1) ≤ x3 then (0, (up (up φ 9 (P_Looks_note (κ 7) (φ 9) x1 x2 0 1)) 9 (P_Looks_setNumber (κ 7) ((up φ 9 (P_Looks_note (κ 7) (φ 9) x1 x2 0 1)) 9) x1 (P_Trees_valueOf (κ 0) (κ 1) (κ 11) (φ 2) x1))), ψ) else (11, φ, ψ))) else (11, φ, ψ))
set_option maxHeartbeats 4000000 in
set_option maxRecDepth 100000 in
theorem f_Looker_leaf (l : Launch) (γ : gE) (A : Nat → Prop) (κ : Nat → Nat) (φ : gF) (ψ : gG) (x1 : Int32) (x2 : Int32) (x3 : Int32) : MU l yLooker_leaf bLooker_leaf 5 (some .int) 2 45 0 0 [.ref (γ.2.2.2 8), .int x1, .int x2, .int x3] γ A (INVF γ A κ φ ψ) (mQi (fun r H => r = (P_Looker_leaf κ φ ψ x1 x2 x3).1 ∧ INVF γ A κ (P_Looker_leaf κ φ ψ x1 x2 x3).2.1 (P_Looker_leaf κ φ ψ x1 x2 x3).2.2 H) A) := by
  refine mu_openI (by decide) (Nat.le_of_ble_eq_true rfl) ?_
  intro p e s m args below meth c ls Q S hnm hC hA hG hE hl
  obtain ⟨hx, hb, hml, hown, hW⟩ := id S
  have hI := inv_of hG
  have hS : va_S A s.heap s.heap [] := va_S.rf
  have hl : lv_has ls 5 [(0, .ref (γ.2.2.2 8)), (1, .int x1), (2, .int x2), (3, .int x3)] := hl
  obtain ⟨OUT, hQ, hO⟩ : ∃ z, (z = P_Looker_leaf κ φ ψ x1 x2 x3) ∧ Oq z (P_Looker_leaf κ φ ψ x1 x2 x3) := ⟨_, rfl, rfl⟩
  rw [← hQ] at hE
  clear hQ
  refine lv_aload_n hx hb dLooker_leaf_0 rfl (lv_at hl 0 rfl) ?_
  refine of_get S hC (of_8_0 hI) in_Looker rfl (by decide) qw_22d2793f25 dLooker_leaf_1 ?_
  refine lv_iload_n hx hb dLooker_leaf_4 rfl (lv_at hl 1 rfl) ?_
  refine pu_Vi (rest := []) S hC (f1_Trees_valueOf l γ A κ φ ψ x1) meTrees_valueOf qw_ea9162cf9a ⟨Nat.le_of_ble_eq_true rfl, Nat.le_of_ble_eq_true rfl⟩ (rv_1 hC hI) hG rfl hl.1 rfl (Nat.le_of_ble_eq_true rfl) dLooker_leaf_5 ⟨Nat.zero_le _, Nat.zero_le _⟩ (fun r10 hr10 => ?_)
  obtain ⟨hr10, er10⟩ := hr10
  refine lv_istore (lv' := [(4, .int r10), (0, .ref (γ.2.2.2 8)), (1, .int x1), (2, .int x2), (3, .int x3)]) hx hb dLooker_leaf_8 hl (by decide) rfl (fun ls hl => ?_)
  refine lv_aload_n hx hb dLooker_leaf_10 rfl (lv_at hl 1 rfl) ?_
  refine of_get S hC (of_8_0 hI) in_Looker rfl (by decide) qw_22d2793f25 dLooker_leaf_11 ?_
  refine lv_iload_n hx hb dLooker_leaf_14 rfl (lv_at hl 2 rfl) ?_
  refine pu_Vi (rest := []) S hC (f1_Trees_countOf l γ A κ φ ψ x1) meTrees_countOf qw_195048702c ⟨Nat.le_of_ble_eq_true rfl, Nat.le_of_ble_eq_true rfl⟩ (rv_1 hC hI) hG rfl hl.1 rfl (Nat.le_of_ble_eq_true rfl) dLooker_leaf_15 ⟨Nat.zero_le _, Nat.zero_le _⟩ (fun r11 hr11 => ?_)
  obtain ⟨hr11, er11⟩ := hr11
  refine lv_if_ne (tgt := 32) hx hb dLooker_leaf_18 (by decide) (fun c12 => ?_) (fun c12 => ?_)
  · refine lv_bipush (v := 11) hx hb dLooker_leaf_32 (by decide) ?_
    exact hE _ _ _ _ _ hS (by have hO2 : Oq OUT (11, φ, ψ) := (by subst er11 er10; exact hO.tr (if_neg c12)); rw [hO2.eq]; exact ⟨rfl, hG⟩) dLooker_leaf_34
  · refine lv_iload hx hb dLooker_leaf_21 (lv_at hl 0 rfl) ?_
    refine lv_if_lt (tgt := 32) hx hb dLooker_leaf_23 (by decide) (fun c13 => ?_) (fun c13 => ?_)
    · refine lv_bipush (v := 11) hx hb dLooker_leaf_32 (by decide) ?_
      exact hE _ _ _ _ _ hS (by have hO2 : Oq OUT (11, φ, ψ) := (by subst er11 er10; exact hO.tr ((if_pos c12).trans (if_pos c13))); rw [hO2.eq]; exact ⟨rfl, hG⟩) dLooker_leaf_34
    · refine lv_iload hx hb dLooker_leaf_26 (lv_at hl 0 rfl) ?_
      refine lv_iload_n hx hb dLooker_leaf_28 rfl (lv_at hl 4 rfl) ?_
      refine lv_icmp_le (tgt := 35) hx hb dLooker_leaf_29 (by decide) (fun c14 => ?_) (fun c14 => ?_)
      · refine lv_aload_n hx hb dLooker_leaf_35 rfl (lv_at hl 1 rfl) ?_
        refine of_get S hC (of_8_3 hI) in_Looker rfl (by decide) qw_77aeadf252 dLooker_leaf_36 ?_
        refine lv_iload_n hx hb dLooker_leaf_39 rfl (lv_at hl 2 rfl) ?_
        refine lv_iload_n hx hb dLooker_leaf_40 rfl (lv_at hl 3 rfl) ?_
        refine lv_iconst (v := 0) hx hb dLooker_leaf_41 (by decide) ?_
        refine lv_iconst (v := 1) hx hb dLooker_leaf_42 (by decide) ?_
        refine mu_Vv (rest := []) S hC (fun q h => hA q (Nat.le_trans hS.1 h)) (fun q h => h) hS (f9_Looks_note l γ A κ φ ψ x1 x2 0 1) meLooks_note qw_4a9343ff4b ⟨Nat.le_of_ble_eq_true rfl, Nat.le_of_ble_eq_true rfl⟩ (rv_9 hC hI) hG rfl hl.1 rfl (Nat.le_of_ble_eq_true rfl) dLooker_leaf_43 ⟨Nat.le_refl _, Nat.le_refl _⟩ (fun H locs hG hS _ _ => ?_)
        obtain ⟨φ16, eφ16⟩ : ∃ z : gF, z = up φ 9 (P_Looks_note (κ 7) (φ 9) x1 x2 0 1) := ⟨_, rfl⟩
        rw [← eφ16] at hG
        have hI := inv_of hG
        refine lv_aload_n hx hb dLooker_leaf_46 rfl (lv_at hl 1 rfl) ?_
        refine of_get S hC (of_8_3 hI) in_Looker rfl (by decide) qw_77aeadf252 dLooker_leaf_47 ?_
        refine lv_iload_n hx hb dLooker_leaf_50 rfl (lv_at hl 2 rfl) ?_
        refine lv_iload hx hb dLooker_leaf_51 (lv_at hl 0 rfl) ?_
        refine mu_Vv (rest := []) S hC (fun q h => hA q (Nat.le_trans hS.1 h)) (fun q h => h) hS (f9_Looks_setNumber l γ A κ φ16 ψ x1 r10) meLooks_setNumber qw_e1c79dd267 ⟨Nat.le_of_ble_eq_true rfl, Nat.le_of_ble_eq_true rfl⟩ (rv_9 hC hI) hG rfl hl.1 rfl (Nat.le_of_ble_eq_true rfl) dLooker_leaf_53 ⟨Nat.le_refl _, Nat.le_refl _⟩ (fun H locs hG hS _ _ => ?_)
        obtain ⟨φ18, eφ18⟩ : ∃ z : gF, z = up φ16 9 (P_Looks_setNumber (κ 7) (φ16 9) x1 r10) := ⟨_, rfl⟩
        rw [← eφ18] at hG
        have hI := inv_of hG
        refine lv_iconst (v := 0) hx hb dLooker_leaf_56 (by decide) ?_
        exact hE _ _ _ _ _ hS (by have hO2 : Oq OUT (0, φ18, ψ) := (by subst eφ18 eφ16 er11 er10; exact hO.tr ((if_pos c12).trans ((if_neg c13).trans (if_pos c14)))); rw [hO2.eq]; exact ⟨rfl, hG⟩) dLooker_leaf_57
      · refine lv_bipush (v := 11) hx hb dLooker_leaf_32 (by decide) ?_
        exact hE _ _ _ _ _ hS (by have hO2 : Oq OUT (11, φ, ψ) := (by subst er11 er10; exact hO.tr ((if_pos c12).trans ((if_neg c13).trans (if_neg c14)))); rw [hO2.eq]; exact ⟨rfl, hG⟩) dLooker_leaf_34
def P_Looker_signs_30 (κ : Nat → Nat) : Nat → gF → gG → Int32 → Int32 → Int32 → Int32 → Int32 × gF × gG
  | 0, _, _, _, _, _, _ => default
  | n + 1, φ, ψ, i1, i2, i3, i4 => (if i2 ≤ i4 then (0, (up φ 9 (P_Looks_note (κ 7) (φ 9) i1 3 i2 1)), ψ) else (if (P_Trees_kindOf (κ 0) (κ 1) (κ 11) (φ 2) i3) = 3 then (P_Looker_signs_30 κ n φ (up ψ 10 (P_Rows_set (κ 10) (ψ 10) i1 i4 (P_Trees_valueOf (κ 0) (κ 1) (κ 11) (φ 2) i3))) i1 i2 ((P_Trees_firstOf (κ 0) (κ 1) (κ 11) (φ 2) i3) - 1) (i4 + 1)) else (11, φ, ψ)))
def P_Looker_signs (κ : Nat → Nat) (φ : gF) (ψ : gG) (x1 : Int32) : Int32 × gF × gG := (if (P_Trees_countOf (κ 0) (κ 1) (κ 11) (φ 2) x1) < 1 then (11, φ, ψ) else (if (P_Trees_countOf (κ 0) (κ 1) (κ 11) (φ 2) x1) ≤ 64 then (P_Looker_signs_30 κ  ((2147483647 - (0 : Int32).toInt).toNat + 1) φ ψ x1 (P_Trees_countOf (κ 0) (κ 1) (κ 11) (φ 2) x1) (x1 - 1) 0) else (11, φ, ψ)))
set_option maxHeartbeats 4000000 in
set_option maxRecDepth 100000 in
theorem f_Looker_signs (l : Launch) (γ : gE) (A : Nat → Prop) (κ : Nat → Nat) (φ : gF) (ψ : gG) (x1 : Int32) : MU l yLooker_signs bLooker_signs 5 (some .int) 2 45 0 0 [.ref (γ.2.2.2 8), .int x1] γ A (INVF γ A κ φ ψ) (mQi (fun r H => r = (P_Looker_signs κ φ ψ x1).1 ∧ INVF γ A κ (P_Looker_signs κ φ ψ x1).2.1 (P_Looker_signs κ φ ψ x1).2.2 H) A) := by
  refine mu_openI (by decide) (Nat.le_of_ble_eq_true rfl) ?_
  intro p e s m args below meth c ls Q S hnm hC hA hG hE hl
  obtain ⟨hx, hb, hml, hown, hW⟩ := id S
  have hI := inv_of hG
  have hS : va_S A s.heap s.heap [] := va_S.rf
  have hl : lv_has ls 5 [(0, .ref (γ.2.2.2 8)), (1, .int x1)] := hl
  obtain ⟨OUT, hQ, hO⟩ : ∃ z, (z = P_Looker_signs κ φ ψ x1) ∧ Oq z (P_Looker_signs κ φ ψ x1) := ⟨_, rfl, rfl⟩
  rw [← hQ] at hE
  clear hQ
  have J30 : ∀ (N30 : Nat) (ls : Array Slot) (H : Heap) (locs : List Loc) (φ : gF) (ψ : gG) (i1 : Int32) (i2 : Int32) (i3 : Int32) (i4 : Int32), INVF γ A κ φ ψ H → va_S A s.heap H locs → (Oq OUT (P_Looker_signs_30 κ  (N30 + 1) φ ψ i1 i2 i3 i4)) → (2147483647 - i4.toInt).toNat = N30 → lv_has ls 5 [(0, .ref (γ.2.2.2 8)), (1, .int i1), (2, .int i2), (3, .int i3), (4, .int i4)] → W p l e (bs_rm 2 0 0 45) s m args below meth c H locs 0 0 Q (F0 m 30 ls []) := by
    intro N30
    induction N30 using Nat.strongRecOn with
    | ind N30 ih30 =>
      intro ls H locs φ ψ i1 i2 i3 i4 hG hS hO hm30 hl
      have hI := inv_of hG
      refine lv_iload hx hb dLooker_signs_30 (lv_at hl 4 rfl) ?_
      refine lv_iload_n hx hb dLooker_signs_32 rfl (lv_at hl 2 rfl) ?_
      refine lv_icmp_ge (tgt := 89) hx hb dLooker_signs_33 (by decide) (fun c16 => ?_) (fun c16 => ?_)
      · refine lv_aload_n hx hb dLooker_signs_89 rfl (lv_at hl 0 rfl) ?_
        refine of_get S hC (of_8_3 hI) in_Looker rfl (by decide) qw_77aeadf252 dLooker_signs_90 ?_
        refine lv_iload_n hx hb dLooker_signs_93 rfl (lv_at hl 1 rfl) ?_
        refine lv_iconst (v := 3) hx hb dLooker_signs_94 (by decide) ?_
        refine lv_iload_n hx hb dLooker_signs_95 rfl (lv_at hl 2 rfl) ?_
        refine lv_iconst (v := 1) hx hb dLooker_signs_96 (by decide) ?_
        refine mu_Vv (rest := []) S hC (fun q h => hA q (Nat.le_trans hS.1 h)) (fun q h => h) hS (f9_Looks_note l γ A κ φ ψ i1 3 i2 1) meLooks_note qw_4a9343ff4b ⟨Nat.le_of_ble_eq_true rfl, Nat.le_of_ble_eq_true rfl⟩ (rv_9 hC hI) hG rfl hl.1 rfl (Nat.le_of_ble_eq_true rfl) dLooker_signs_97 ⟨Nat.le_refl _, Nat.le_refl _⟩ (fun H locs hG hS _ _ => ?_)
        obtain ⟨φ18, eφ18⟩ : ∃ z : gF, z = up φ 9 (P_Looks_note (κ 7) (φ 9) i1 3 i2 1) := ⟨_, rfl⟩
        rw [← eφ18] at hG
        have hI := inv_of hG
        refine lv_iconst (v := 0) hx hb dLooker_signs_100 (by decide) ?_
        exact hE _ _ _ _ _ hS (by have hO2 : Oq OUT (0, φ18, ψ) := (by subst eφ18; exact hO.tr (if_pos c16)); rw [hO2.eq]; exact ⟨rfl, hG⟩) dLooker_signs_101
      · refine lv_aload_n hx hb dLooker_signs_36 rfl (lv_at hl 0 rfl) ?_
        refine of_get S hC (of_8_0 hI) in_Looker rfl (by decide) qw_22d2793f25 dLooker_signs_37 ?_
        refine lv_iload_n hx hb dLooker_signs_40 rfl (lv_at hl 3 rfl) ?_
        refine pu_Vi (rest := []) S hC (f1_Trees_kindOf l γ A κ φ ψ i3) meTrees_kindOf qw_f48a4a6aed ⟨Nat.le_of_ble_eq_true rfl, Nat.le_of_ble_eq_true rfl⟩ (rv_1 hC hI) hG rfl hl.1 rfl (Nat.le_of_ble_eq_true rfl) dLooker_signs_41 ⟨Nat.zero_le _, Nat.zero_le _⟩ (fun r19 hr19 => ?_)
        obtain ⟨hr19, er19⟩ := hr19
        refine lv_iconst (v := 3) hx hb dLooker_signs_44 (by decide) ?_
        refine lv_icmp_eq (tgt := 51) hx hb dLooker_signs_45 (by decide) (fun c20 => ?_) (fun c20 => ?_)
        · refine lv_aload_n hx hb dLooker_signs_51 rfl (lv_at hl 0 rfl) ?_
          refine of_get S hC (of_8_3 hI) in_Looker rfl (by decide) qw_77aeadf252 dLooker_signs_52 ?_
          refine of_getN S hC (of_9_5 hI) in_Looks rfl (by decide) qn_a213139c06 dLooker_signs_55 ?_
          refine lv_iload_n hx hb dLooker_signs_58 rfl (lv_at hl 1 rfl) ?_
          refine lv_iload hx hb dLooker_signs_59 (lv_at hl 4 rfl) ?_
          refine lv_aload_n hx hb dLooker_signs_61 rfl (lv_at hl 0 rfl) ?_
          refine of_get S hC (of_8_0 hI) in_Looker rfl (by decide) qw_22d2793f25 dLooker_signs_62 ?_
          refine lv_iload_n hx hb dLooker_signs_65 rfl (lv_at hl 3 rfl) ?_
          refine pu_Vi (rest := [.int i4, .int i1, .ref (γ.2.2.2 10)]) S hC (f1_Trees_valueOf l γ A κ φ ψ i3) meTrees_valueOf qw_ea9162cf9a ⟨Nat.le_of_ble_eq_true rfl, Nat.le_of_ble_eq_true rfl⟩ (rv_1 hC hI) hG rfl hl.1 rfl (Nat.le_of_ble_eq_true rfl) dLooker_signs_66 ⟨Nat.zero_le _, Nat.zero_le _⟩ (fun r21 hr21 => ?_)
          obtain ⟨hr21, er21⟩ := hr21
          refine mu_Vv (rest := []) S hC (fun q h => hA q (Nat.le_trans hS.1 h)) (fun q h => h) hS (f10_Rows_set l γ A κ φ ψ i1 i4 r21) meRows_set qw_b9b967fb15 ⟨Nat.le_of_ble_eq_true rfl, Nat.le_of_ble_eq_true rfl⟩ (rv_10 hC hI) hG rfl hl.1 rfl (Nat.le_of_ble_eq_true rfl) dLooker_signs_69 ⟨Nat.le_refl _, Nat.le_refl _⟩ (fun H locs hG hS _ _ => ?_)
          obtain ⟨ψ23, eψ23⟩ : ∃ z : gG, z = up ψ 10 (P_Rows_set (κ 10) (ψ 10) i1 i4 r21) := ⟨_, rfl⟩
          rw [← eψ23] at hG
          have hI := inv_of hG
          refine lv_aload_n hx hb dLooker_signs_72 rfl (lv_at hl 0 rfl) ?_
          refine of_get S hC (of_8_0 hI) in_Looker rfl (by decide) qw_22d2793f25 dLooker_signs_73 ?_
          refine lv_iload_n hx hb dLooker_signs_76 rfl (lv_at hl 3 rfl) ?_
          refine pu_Vi (rest := []) S hC (f1_Trees_firstOf l γ A κ φ ψ23 i3) meTrees_firstOf qw_b381ab4f95 ⟨Nat.le_of_ble_eq_true rfl, Nat.le_of_ble_eq_true rfl⟩ (rv_1 hC hI) hG rfl hl.1 rfl (Nat.le_of_ble_eq_true rfl) dLooker_signs_77 ⟨Nat.zero_le _, Nat.zero_le _⟩ (fun r24 hr24 => ?_)
          obtain ⟨hr24, er24⟩ := hr24
          refine lv_iconst (v := 1) hx hb dLooker_signs_80 (by decide) ?_
          refine lv_isub hx hb dLooker_signs_81 ?_
          refine lv_topi (fun v25 ev25 => ?_)
          refine lv_istore_n (lv' := [(3, .int v25), (0, .ref (γ.2.2.2 8)), (1, .int i1), (2, .int i2), (4, .int i4)]) hx hb dLooker_signs_82 rfl hl (by decide) rfl (fun ls hl => ?_)
          obtain ⟨v26, ev26⟩ : ∃ y : Int32, y = i4 + 1 := ⟨_, rfl⟩
          refine lv_iinc (v := v26) (lv' := [(4, .int v26), (3, .int v25), (0, .ref (γ.2.2.2 8)), (1, .int i1), (2, .int i2)]) hx hb dLooker_signs_83 hl (k := 4) rfl (by rw [ev26]; rfl) (by decide) rfl (fun ls hl => ?_)
          refine lv_goto (tgt := 30) hx hb dLooker_signs_86 (by decide) ?_
          exact ih30 _ (by have q1 : i4.toInt < 2147483647 := (by first | exact (mu_up (k := i4) (by assumption)).2 | assumption); have q2 := mu_lt q1; rw [← ev26] at q2; omega) ls _ _ φ ψ23 i1 i2 v25 v26 hG hS (by have hN : N30 = (2147483647 - v26.toInt).toNat + 1 := (by have q1 : i4.toInt < 2147483647 := (by first | exact (mu_up (k := i4) (by assumption)).2 | assumption); have q2 := mu_lt q1; rw [← ev26] at q2; omega); rw [← hN]; clear hN; subst ev26 ev25 er24 eψ23 er21 er19; exact hO.tr ((if_neg c16).trans (if_pos c20))) rfl (lv_sub hl [2, 3, 4, 1, 0] rfl)
        · refine lv_bipush (v := 11) hx hb dLooker_signs_48 (by decide) ?_
          exact hE _ _ _ _ _ hS (by have hO2 : Oq OUT (11, φ, ψ) := (by subst er19; exact hO.tr ((if_neg c16).trans (if_neg c20))); rw [hO2.eq]; exact ⟨rfl, hG⟩) dLooker_signs_50
  refine lv_aload_n hx hb dLooker_signs_0 rfl (lv_at hl 0 rfl) ?_
  refine of_get S hC (of_8_0 hI) in_Looker rfl (by decide) qw_22d2793f25 dLooker_signs_1 ?_
  refine lv_iload_n hx hb dLooker_signs_4 rfl (lv_at hl 1 rfl) ?_
  refine pu_Vi (rest := []) S hC (f1_Trees_countOf l γ A κ φ ψ x1) meTrees_countOf qw_195048702c ⟨Nat.le_of_ble_eq_true rfl, Nat.le_of_ble_eq_true rfl⟩ (rv_1 hC hI) hG rfl hl.1 rfl (Nat.le_of_ble_eq_true rfl) dLooker_signs_5 ⟨Nat.zero_le _, Nat.zero_le _⟩ (fun r27 hr27 => ?_)
  obtain ⟨hr27, er27⟩ := hr27
  refine lv_istore_n (lv' := [(2, .int r27), (0, .ref (γ.2.2.2 8)), (1, .int x1)]) hx hb dLooker_signs_8 rfl hl (by decide) rfl (fun ls hl => ?_)
  refine lv_iload_n hx hb dLooker_signs_9 rfl (lv_at hl 0 rfl) ?_
  refine lv_iconst (v := 1) hx hb dLooker_signs_10 (by decide) ?_
  refine lv_icmp_lt (tgt := 20) hx hb dLooker_signs_11 (by decide) (fun c28 => ?_) (fun c28 => ?_)
  · refine lv_bipush (v := 11) hx hb dLooker_signs_20 (by decide) ?_
    exact hE _ _ _ _ _ hS (by have hO2 : Oq OUT (11, φ, ψ) := (by subst er27; exact hO.tr (if_pos c28)); rw [hO2.eq]; exact ⟨rfl, hG⟩) dLooker_signs_22
  · refine lv_iload_n hx hb dLooker_signs_14 rfl (lv_at hl 0 rfl) ?_
    refine lv_bipush (v := 64) hx hb dLooker_signs_15 (by decide) ?_
    refine lv_icmp_le (tgt := 23) hx hb dLooker_signs_17 (by decide) (fun c29 => ?_) (fun c29 => ?_)
    · refine lv_iload_n hx hb dLooker_signs_23 rfl (lv_at hl 2 rfl) ?_
      refine lv_iconst (v := 1) hx hb dLooker_signs_24 (by decide) ?_
      refine lv_isub hx hb dLooker_signs_25 ?_
      refine lv_topi (fun v30 ev30 => ?_)
      refine lv_istore_n (lv' := [(3, .int v30), (2, .int r27), (0, .ref (γ.2.2.2 8)), (1, .int x1)]) hx hb dLooker_signs_26 rfl hl (by decide) rfl (fun ls hl => ?_)
      refine lv_iconst (v := 0) hx hb dLooker_signs_27 (by decide) ?_
      refine lv_istore (lv' := [(4, .int 0), (3, .int v30), (2, .int r27), (0, .ref (γ.2.2.2 8)), (1, .int x1)]) hx hb dLooker_signs_28 hl (by decide) rfl (fun ls hl => ?_)
      exact J30 _ ls _ _ φ ψ x1 r27 v30 0 hG hS (by subst ev30 er27; exact hO.tr ((if_neg c28).trans (if_pos c29))) rfl (lv_sub hl [3, 4, 2, 1, 0] rfl)
    · refine lv_bipush (v := 11) hx hb dLooker_signs_20 (by decide) ?_
      exact hE _ _ _ _ _ hS (by have hO2 : Oq OUT (11, φ, ψ) := (by subst er27; exact hO.tr ((if_neg c28).trans (if_neg c29))); rw [hO2.eq]; exact ⟨rfl, hG⟩) dLooker_signs_22

def P_Looker_lookAt (κ : Nat → Nat) (φ : gF) (ψ : gG) (x1 : Int32) : Int32 × gF × gG := (if (P_Trees_kindOf (κ 0) (κ 1) (κ 11) ((up φ 9 (P_Looks_forget (κ 7) (φ 9) x1)) 2) x1) = 1 then ((P_Meanings_name κ (up φ 9 (P_Looks_forget (κ 7) (φ 9) x1)) ψ x1).1, ((P_Meanings_name κ (up φ 9 (P_Looks_forget (κ 7) (φ 9) x1)) ψ x1).2.1), ((P_Meanings_name κ (up φ 9 (P_Looks_forget (κ 7) (φ 9) x1)) ψ x1).2.2)) else (if (P_Trees_kindOf (κ 0) (κ 1) (κ 11) ((up φ 9 (P_Looks_forget (κ 7) (φ 9) x1)) 2) x1) = 2 then ((P_Looker_leaf κ (up φ 9 (P_Looks_forget (κ 7) (φ 9) x1)) ψ x1 2 2147483647).1, ((P_Looker_leaf κ (up φ 9 (P_Looks_forget (κ 7) (φ 9) x1)) ψ x1 2 2147483647).2.1), ((P_Looker_leaf κ (up φ 9 (P_Looks_forget (κ 7) (φ 9) x1)) ψ x1 2 2147483647).2.2)) else (if (P_Trees_kindOf (κ 0) (κ 1) (κ 11) ((up φ 9 (P_Looks_forget (κ 7) (φ 9) x1)) 2) x1) = 3 then ((P_Looker_leaf κ (up φ 9 (P_Looks_forget (κ 7) (φ 9) x1)) ψ x1 0 8).1, ((P_Looker_leaf κ (up φ 9 (P_Looks_forget (κ 7) (φ 9) x1)) ψ x1 0 8).2.1), ((P_Looker_leaf κ (up φ 9 (P_Looks_forget (κ 7) (φ 9) x1)) ψ x1 0 8).2.2)) else (if (P_Trees_kindOf (κ 0) (κ 1) (κ 11) ((up φ 9 (P_Looks_forget (κ 7) (φ 9) x1)) 2) x1) = 4 then ((P_Looker_signs κ (up φ 9 (P_Looks_forget (κ 7) (φ 9) x1)) ψ x1).1, ((P_Looker_signs κ (up φ 9 (P_Looks_forget (κ 7) (φ 9) x1)) ψ x1).2.1), ((P_Looker_signs κ (up φ 9 (P_Looks_forget (κ 7) (φ 9) x1)) ψ x1).2.2)) else (if (P_Trees_kindOf (κ 0) (κ 1) (κ 11) ((up φ 9 (P_Looks_forget (κ 7) (φ 9) x1)) 2) x1) = 5 then (11, (up φ 9 (P_Looks_forget (κ 7) (φ 9) x1)), ψ) else (if (P_Trees_kindOf (κ 0) (κ 1) (κ 11) ((up φ 9 (P_Looks_forget (κ 7) (φ 9) x1)) 2) x1) = 6 then (11, (up φ 9 (P_Looks_forget (κ 7) (φ 9) x1)), ψ) else (if (P_Trees_kindOf (κ 0) (κ 1) (κ 11) ((up φ 9 (P_Looks_forget (κ 7) (φ 9) x1)) 2) x1) = 7 then (11, (up φ 9 (P_Looks_forget (κ 7) (φ 9) x1)), ψ) else (if (P_Trees_kindOf (κ 0) (κ 1) (κ 11) ((up φ 9 (P_Looks_forget (κ 7) (φ 9) x1)) 2) x1) = 8 then (11, (up φ 9 (P_Looks_forget (κ 7) (φ 9) x1)), ψ) else (if (P_Trees_kindOf (κ 0) (κ 1) (κ 11) ((up φ 9 (P_Looks_forget (κ 7) (φ 9) x1)) 2) x1) = 9 then (11, (up φ 9 (P_Looks_forget (κ 7) (φ 9) x1)), ψ) else (if (P_Trees_kindOf (κ 0) (κ 1) (κ 11) ((up φ 9 (P_Looks_forget (κ 7) (φ 9) x1)) 2) x1) = 10 then (11, (up φ 9 (P_Looks_forget (κ 7) (φ 9) x1)), ψ) else (if (P_Trees_kindOf (κ 0) (κ 1) (κ 11) ((up φ 9 (P_Looks_forget (κ 7) (φ 9) x1)) 2) x1) = 11 then (11, (up φ 9 (P_Looks_forget (κ 7) (φ 9) x1)), ψ) else (if (P_Trees_kindOf (κ 0) (κ 1) (κ 11) ((up φ 9 (P_Looks_forget (κ 7) (φ 9) x1)) 2) x1) = 12 then (11, (up φ 9 (P_Looks_forget (κ 7) (φ 9) x1)), ψ) else (if (P_Trees_kindOf (κ 0) (κ 1) (κ 11) ((up φ 9 (P_Looks_forget (κ 7) (φ 9) x1)) 2) x1) = 13 then (11, (up φ 9 (P_Looks_forget (κ 7) (φ 9) x1)), ψ) else (if (P_Trees_kindOf (κ 0) (κ 1) (κ 11) ((up φ 9 (P_Looks_forget (κ 7) (φ 9) x1)) 2) x1) = 14 then (11, (up φ 9 (P_Looks_forget (κ 7) (φ 9) x1)), ψ) else (if (P_Trees_kindOf (κ 0) (κ 1) (κ 11) ((up φ 9 (P_Looks_forget (κ 7) (φ 9) x1)) 2) x1) = 15 then (11, (up φ 9 (P_Looks_forget (κ 7) (φ 9) x1)), ψ) else (if (P_Trees_kindOf (κ 0) (κ 1) (κ 11) ((up φ 9 (P_Looks_forget (κ 7) (φ 9) x1)) 2) x1) = 16 then (11, (up φ 9 (P_Looks_forget (κ 7) (φ 9) x1)), ψ) else (if (P_Trees_kindOf (κ 0) (κ 1) (κ 11) ((up φ 9 (P_Looks_forget (κ 7) (φ 9) x1)) 2) x1) = 17 then (11, (up φ 9 (P_Looks_forget (κ 7) (φ 9) x1)), ψ) else (if (P_Trees_kindOf (κ 0) (κ 1) (κ 11) ((up φ 9 (P_Looks_forget (κ 7) (φ 9) x1)) 2) x1) = 18 then (11, (up φ 9 (P_Looks_forget (κ 7) (φ 9) x1)), ψ) else (if (P_Trees_kindOf (κ 0) (κ 1) (κ 11) ((up φ 9 (P_Looks_forget (κ 7) (φ 9) x1)) 2) x1) = 19 then (11, (up φ 9 (P_Looks_forget (κ 7) (φ 9) x1)), ψ) else (if (P_Trees_kindOf (κ 0) (κ 1) (κ 11) ((up φ 9 (P_Looks_forget (κ 7) (φ 9) x1)) 2) x1) = 20 then (if (P_Looker_isOperator κ (up φ 9 (P_Looks_forget (κ 7) (φ 9) x1)) ψ x1 1 3) = 0 then (11, (up φ 9 (P_Looks_forget (κ 7) (φ 9) x1)), ψ) else ((P_Operators_unary κ (up φ 9 (P_Looks_forget (κ 7) (φ 9) x1)) ψ x1 (P_Trees_valueOf (κ 0) (κ 1) (κ 11) ((up φ 9 (P_Looks_forget (κ 7) (φ 9) x1)) 2) x1) (x1 - 1)).1, ((P_Operators_unary κ (up φ 9 (P_Looks_forget (κ 7) (φ 9) x1)) ψ x1 (P_Trees_valueOf (κ 0) (κ 1) (κ 11) ((up φ 9 (P_Looks_forget (κ 7) (φ 9) x1)) 2) x1) (x1 - 1)).2.1), ((P_Operators_unary κ (up φ 9 (P_Looks_forget (κ 7) (φ 9) x1)) ψ x1 (P_Trees_valueOf (κ 0) (κ 1) (κ 11) ((up φ 9 (P_Looks_forget (κ 7) (φ 9) x1)) 2) x1) (x1 - 1)).2.2))) else (if (P_Trees_kindOf (κ 0) (κ 1) (κ 11) ((up φ 9 (P_Looks_forget (κ 7) (φ 9) x1)) 2) x1) = 21 then (if (P_Looker_isOperator κ (up φ 9 (P_Looks_forget (κ 7) (φ 9) x1)) ψ x1 2 20) = 0 then (11, (up φ 9 (P_Looks_forget (κ 7) (φ 9) x1)), ψ) else ((P_Operators_binary κ (up φ 9 (P_Looks_forget (κ 7) (φ 9) x1)) ψ x1 (P_Trees_valueOf (κ 0) (κ 1) (κ 11) ((up φ 9 (P_Looks_forget (κ 7) (φ 9) x1)) 2) x1) (P_Trees_leftOfTwo (κ 0) (κ 1) (κ 11) ((up φ 9 (P_Looks_forget (κ 7) (φ 9) x1)) 2) x1) (x1 - 1)).1, ((P_Operators_binary κ (up φ 9 (P_Looks_forget (κ 7) (φ 9) x1)) ψ x1 (P_Trees_valueOf (κ 0) (κ 1) (κ 11) ((up φ 9 (P_Looks_forget (κ 7) (φ 9) x1)) 2) x1) (P_Trees_leftOfTwo (κ 0) (κ 1) (κ 11) ((up φ 9 (P_Looks_forget (κ 7) (φ 9) x1)) 2) x1) (x1 - 1)).2.1), ((P_Operators_binary κ (up φ 9 (P_Looks_forget (κ 7) (φ 9) x1)) ψ x1 (P_Trees_valueOf (κ 0) (κ 1) (κ 11) ((up φ 9 (P_Looks_forget (κ 7) (φ 9) x1)) 2) x1) (P_Trees_leftOfTwo (κ 0) (κ 1) (κ 11) ((up φ 9 (P_Looks_forget (κ 7) (φ 9) x1)) 2) x1) (x1 - 1)).2.2))) else (if (P_Trees_kindOf (κ 0) (κ 1) (κ 11) ((up φ 9 (P_Looks_forget (κ 7) (φ 9) x1)) 2) x1) = 22 then ((P_Meanings_apply κ (up φ 9 (P_Looks_forget (κ 7) (φ 9) x1)) ψ x1).1, ((P_Meanings_apply κ (up φ 9 (P_Looks_forget (κ 7) (φ 9) x1)) ψ x1).2.1), ((P_Meanings_apply κ (up φ 9 (P_Looks_forget (κ 7) (φ 9) x1)) ψ x1).2.2)) else (if (P_Trees_kindOf (κ 0) (κ 1) (κ 11) ((up φ 9 (P_Looks_forget (κ 7) (φ 9) x1)) 2) x1) = 23 then ((P_Meanings_slice κ (up φ 9 (P_Looks_forget (κ 7) (φ 9) x1)) ψ x1).1, ((P_Meanings_slice κ (up φ 9 (P_Looks_forget (κ 7) (φ 9) x1)) ψ x1).2.1), ((P_Meanings_slice κ (up φ 9 (P_Looks_forget (κ 7) (φ 9) x1)) ψ x1).2.2)) else (if (P_Trees_kindOf (κ 0) (κ 1) (κ 11) ((up φ 9 (P_Looks_forget (κ 7) (φ 9) x1)) 2) x1) = 24 then ((P_Meanings_slice κ (up φ 9 (P_Looks_forget (κ 7) (φ 9) x1)) ψ x1).1, ((P_Meanings_slice κ (up φ 9 (P_Looks_forget (κ 7) (φ 9) x1)) ψ x1).2.1), ((P_Meanings_slice κ (up φ 9 (P_Looks_forget (κ 7) (φ 9) x1)) ψ x1).2.2)) else (if (P_Trees_kindOf (κ 0) (κ 1) (κ 11) ((up φ 9 (P_Looks_forget (κ 7) (φ 9) x1)) 2) x1) = 25 then ((P_Meanings_attribute κ (up φ 9 (P_Looks_forget (κ 7) (φ 9) x1)) ψ x1).1, ((P_Meanings_attribute κ (up φ 9 (P_Looks_forget (κ 7) (φ 9) x1)) ψ x1).2.1), ((P_Meanings_attribute κ (up φ 9 (P_Looks_forget (κ 7) (φ 9) x1)) ψ x1).2.2)) else (11, (up φ 9 (P_Looks_forget (κ 7) (φ 9) x1)), ψ))))))))))))))))))))))))))
set_option maxHeartbeats 4000000 in
set_option maxRecDepth 100000 in
theorem f_Looker_lookAt (l : Launch) (γ : gE) (A : Nat → Prop) (κ : Nat → Nat) (φ : gF) (ψ : gG) (x1 : Int32) : MU l yLooker_lookAt bLooker_lookAt 2 (some .int) 5 129 0 0 [.ref (γ.2.2.2 8), .int x1] γ A (INVF γ A κ φ ψ) (mQi (fun r H => r = (P_Looker_lookAt κ φ ψ x1).1 ∧ INVF γ A κ (P_Looker_lookAt κ φ ψ x1).2.1 (P_Looker_lookAt κ φ ψ x1).2.2 H) A) := by
  refine mu_openI (by decide) (Nat.le_of_ble_eq_true rfl) ?_
  intro p e s m args below meth c ls Q S hnm hC hA hG hE hl
  obtain ⟨hx, hb, hml, hown, hW⟩ := id S
  have hI := inv_of hG
  have hS : va_S A s.heap s.heap [] := va_S.rf
  have hl : lv_has ls 2 [(0, .ref (γ.2.2.2 8)), (1, .int x1)] := hl
  obtain ⟨OUT, hQ, hO⟩ : ∃ z, (z = P_Looker_lookAt κ φ ψ x1) ∧ Oq z (P_Looker_lookAt κ φ ψ x1) := ⟨_, rfl, rfl⟩
  rw [← hQ] at hE
  clear hQ
  refine lv_aload_n hx hb dLooker_lookAt_0 rfl (lv_at hl 0 rfl) ?_
  refine of_get S hC (of_8_3 hI) in_Looker rfl (by decide) qw_77aeadf252 dLooker_lookAt_1 ?_
  refine lv_iload_n hx hb dLooker_lookAt_4 rfl (lv_at hl 1 rfl) ?_
  refine mu_Vv (rest := []) S hC (fun q h => hA q (Nat.le_trans hS.1 h)) (fun q h => h) hS (f9_Looks_forget l γ A κ φ ψ x1) meLooks_forget qw_cd2627b7de ⟨Nat.le_of_ble_eq_true rfl, Nat.le_of_ble_eq_true rfl⟩ (rv_9 hC hI) hG rfl hl.1 rfl (Nat.le_of_ble_eq_true rfl) dLooker_lookAt_5 ⟨Nat.le_refl _, Nat.le_refl _⟩ (fun H locs hG hS _ _ => ?_)
  obtain ⟨φ69, eφ69⟩ : ∃ z : gF, z = up φ 9 (P_Looks_forget (κ 7) (φ 9) x1) := ⟨_, rfl⟩
  rw [← eφ69] at hG
  have hI := inv_of hG
  refine lv_aload_n hx hb dLooker_lookAt_8 rfl (lv_at hl 0 rfl) ?_
  refine of_get S hC (of_8_0 hI) in_Looker rfl (by decide) qw_22d2793f25 dLooker_lookAt_9 ?_
  refine lv_iload_n hx hb dLooker_lookAt_12 rfl (lv_at hl 1 rfl) ?_
  refine pu_Vi (rest := []) S hC (f1_Trees_kindOf l γ A κ φ69 ψ x1) meTrees_kindOf qw_f48a4a6aed ⟨Nat.le_of_ble_eq_true rfl, Nat.le_of_ble_eq_true rfl⟩ (rv_1 hC hI) hG rfl hl.1 rfl (Nat.le_of_ble_eq_true rfl) dLooker_lookAt_13 ⟨Nat.zero_le _, Nat.zero_le _⟩ (fun r70 hr70 => ?_)
  obtain ⟨hr70, er70⟩ := hr70
  by_cases k71 : r70 = 1
  · rw [k71]
    refine lv_tableIn (tgt := 132) hx hb dLooker_lookAt_16 (by decide) (by decide) rfl (by decide) ?_
    refine lv_aload_n hx hb dLooker_lookAt_132 rfl (lv_at hl 0 rfl) ?_
    refine of_get S hC (of_8_5 hI) in_Looker rfl (by decide) qw_3b1b00c0af dLooker_lookAt_133 ?_
    refine lv_iload_n hx hb dLooker_lookAt_136 rfl (lv_at hl 1 rfl) ?_
    refine mu_Vi (rest := []) S hC (fun q h => hA q (Nat.le_trans hS.1 h)) (fun q h => h) hS (f_Meanings_name l γ A κ φ69 ψ x1) meMeanings_name qw_841e106d86 ⟨Nat.le_of_ble_eq_true rfl, Nat.le_of_ble_eq_true rfl⟩ (rv_12 hC hI) hG rfl hl.1 rfl (Nat.le_of_ble_eq_true rfl) dLooker_lookAt_137 ⟨Nat.le_refl _, Nat.le_refl _⟩ (fun r72 H locs ⟨er72, hG⟩ hS _ _ => ?_)
    obtain ⟨φ73, eφ73⟩ : ∃ z : gF, z = (P_Meanings_name κ φ69 ψ x1).2.1 := ⟨_, rfl⟩
    rw [← eφ73] at hG
    obtain ⟨ψ74, eψ74⟩ : ∃ z : gG, z = (P_Meanings_name κ φ69 ψ x1).2.2 := ⟨_, rfl⟩
    rw [← eψ74] at hG
    have hI := inv_of hG
    exact hE _ _ _ _ _ hS (by have hO2 : Oq OUT (r72, φ73, ψ74) := (by subst eψ74 eφ73 er72 er70 eφ69; exact hO.tr (if_pos k71)); rw [hO2.eq]; exact ⟨rfl, hG⟩) dLooker_lookAt_140
  by_cases k75 : r70 = 2
  · rw [k75]
    refine lv_tableIn (tgt := 141) hx hb dLooker_lookAt_16 (by decide) (by decide) rfl (by decide) ?_
    refine lv_aload_n hx hb dLooker_lookAt_141 rfl (lv_at hl 0 rfl) ?_
    refine lv_iload_n hx hb dLooker_lookAt_142 rfl (lv_at hl 1 rfl) ?_
    refine lv_iconst (v := 2) hx hb dLooker_lookAt_143 (by decide) ?_
    refine lv_ldc (v := 2147483647) hx hb hown (hW _ qw_64cdf205e9) dLooker_lookAt_144 ?_
    refine mu_Vi (rest := []) S hC (fun q h => hA q (Nat.le_trans hS.1 h)) (fun q h => h) hS (f_Looker_leaf l γ A κ φ69 ψ x1 2 2147483647) meLooker_leaf qw_79469fc119 ⟨Nat.le_of_ble_eq_true rfl, Nat.le_of_ble_eq_true rfl⟩ (rv_8 hC hI) hG rfl hl.1 rfl (Nat.le_of_ble_eq_true rfl) dLooker_lookAt_146 ⟨Nat.le_refl _, Nat.le_refl _⟩ (fun r76 H locs ⟨er76, hG⟩ hS _ _ => ?_)
    obtain ⟨φ77, eφ77⟩ : ∃ z : gF, z = (P_Looker_leaf κ φ69 ψ x1 2 2147483647).2.1 := ⟨_, rfl⟩
    rw [← eφ77] at hG
    obtain ⟨ψ78, eψ78⟩ : ∃ z : gG, z = (P_Looker_leaf κ φ69 ψ x1 2 2147483647).2.2 := ⟨_, rfl⟩
    rw [← eψ78] at hG
    have hI := inv_of hG
    exact hE _ _ _ _ _ hS (by have hO2 : Oq OUT (r76, φ77, ψ78) := (by subst eψ78 eφ77 er76 er70 eφ69; exact hO.tr ((if_neg k71).trans (if_pos k75))); rw [hO2.eq]; exact ⟨rfl, hG⟩) dLooker_lookAt_149
  by_cases k79 : r70 = 3
  · rw [k79]
    refine lv_tableIn (tgt := 150) hx hb dLooker_lookAt_16 (by decide) (by decide) rfl (by decide) ?_
    refine lv_aload_n hx hb dLooker_lookAt_150 rfl (lv_at hl 0 rfl) ?_
    refine lv_iload_n hx hb dLooker_lookAt_151 rfl (lv_at hl 1 rfl) ?_
    refine lv_iconst (v := 0) hx hb dLooker_lookAt_152 (by decide) ?_
    refine lv_bipush (v := 8) hx hb dLooker_lookAt_153 (by decide) ?_
    refine mu_Vi (rest := []) S hC (fun q h => hA q (Nat.le_trans hS.1 h)) (fun q h => h) hS (f_Looker_leaf l γ A κ φ69 ψ x1 0 8) meLooker_leaf qw_79469fc119 ⟨Nat.le_of_ble_eq_true rfl, Nat.le_of_ble_eq_true rfl⟩ (rv_8 hC hI) hG rfl hl.1 rfl (Nat.le_of_ble_eq_true rfl) dLooker_lookAt_155 ⟨Nat.le_refl _, Nat.le_refl _⟩ (fun r80 H locs ⟨er80, hG⟩ hS _ _ => ?_)
    obtain ⟨φ81, eφ81⟩ : ∃ z : gF, z = (P_Looker_leaf κ φ69 ψ x1 0 8).2.1 := ⟨_, rfl⟩
    rw [← eφ81] at hG
    obtain ⟨ψ82, eψ82⟩ : ∃ z : gG, z = (P_Looker_leaf κ φ69 ψ x1 0 8).2.2 := ⟨_, rfl⟩
    rw [← eψ82] at hG
    have hI := inv_of hG
    exact hE _ _ _ _ _ hS (by have hO2 : Oq OUT (r80, φ81, ψ82) := (by subst eψ82 eφ81 er80 er70 eφ69; exact hO.tr ((if_neg k71).trans ((if_neg k75).trans (if_pos k79)))); rw [hO2.eq]; exact ⟨rfl, hG⟩) dLooker_lookAt_158
  by_cases k83 : r70 = 4
  · rw [k83]
    refine lv_tableIn (tgt := 159) hx hb dLooker_lookAt_16 (by decide) (by decide) rfl (by decide) ?_
    refine lv_aload_n hx hb dLooker_lookAt_159 rfl (lv_at hl 0 rfl) ?_
    refine lv_iload_n hx hb dLooker_lookAt_160 rfl (lv_at hl 1 rfl) ?_
    refine mu_Vi (rest := []) S hC (fun q h => hA q (Nat.le_trans hS.1 h)) (fun q h => h) hS (f_Looker_signs l γ A κ φ69 ψ x1) meLooker_signs qw_530ab62a99 ⟨Nat.le_of_ble_eq_true rfl, Nat.le_of_ble_eq_true rfl⟩ (rv_8 hC hI) hG rfl hl.1 rfl (Nat.le_of_ble_eq_true rfl) dLooker_lookAt_161 ⟨Nat.le_refl _, Nat.le_refl _⟩ (fun r84 H locs ⟨er84, hG⟩ hS _ _ => ?_)
    obtain ⟨φ85, eφ85⟩ : ∃ z : gF, z = (P_Looker_signs κ φ69 ψ x1).2.1 := ⟨_, rfl⟩
    rw [← eφ85] at hG
    obtain ⟨ψ86, eψ86⟩ : ∃ z : gG, z = (P_Looker_signs κ φ69 ψ x1).2.2 := ⟨_, rfl⟩
    rw [← eψ86] at hG
    have hI := inv_of hG
    exact hE _ _ _ _ _ hS (by have hO2 : Oq OUT (r84, φ85, ψ86) := (by subst eψ86 eφ85 er84 er70 eφ69; exact hO.tr ((if_neg k71).trans ((if_neg k75).trans ((if_neg k79).trans (if_pos k83))))); rw [hO2.eq]; exact ⟨rfl, hG⟩) dLooker_lookAt_164
  by_cases k87 : r70 = 5
  · rw [k87]
    refine lv_tableIn (tgt := 271) hx hb dLooker_lookAt_16 (by decide) (by decide) rfl (by decide) ?_
    refine lv_bipush (v := 11) hx hb dLooker_lookAt_271 (by decide) ?_
    exact hE _ _ _ _ _ hS (by have hO2 : Oq OUT (11, φ69, ψ) := (by subst er70 eφ69; exact hO.tr ((if_neg k71).trans ((if_neg k75).trans ((if_neg k79).trans ((if_neg k83).trans (if_pos k87)))))); rw [hO2.eq]; exact ⟨rfl, hG⟩) dLooker_lookAt_273
  by_cases k88 : r70 = 6
  · rw [k88]
    refine lv_tableIn (tgt := 271) hx hb dLooker_lookAt_16 (by decide) (by decide) rfl (by decide) ?_
    refine lv_bipush (v := 11) hx hb dLooker_lookAt_271 (by decide) ?_
    exact hE _ _ _ _ _ hS (by have hO2 : Oq OUT (11, φ69, ψ) := (by subst er70 eφ69; exact hO.tr ((if_neg k71).trans ((if_neg k75).trans ((if_neg k79).trans ((if_neg k83).trans ((if_neg k87).trans (if_pos k88))))))); rw [hO2.eq]; exact ⟨rfl, hG⟩) dLooker_lookAt_273
  by_cases k89 : r70 = 7
  · rw [k89]
    refine lv_tableIn (tgt := 271) hx hb dLooker_lookAt_16 (by decide) (by decide) rfl (by decide) ?_
    refine lv_bipush (v := 11) hx hb dLooker_lookAt_271 (by decide) ?_
    exact hE _ _ _ _ _ hS (by have hO2 : Oq OUT (11, φ69, ψ) := (by subst er70 eφ69; exact hO.tr ((if_neg k71).trans ((if_neg k75).trans ((if_neg k79).trans ((if_neg k83).trans ((if_neg k87).trans ((if_neg k88).trans (if_pos k89)))))))); rw [hO2.eq]; exact ⟨rfl, hG⟩) dLooker_lookAt_273
  by_cases k90 : r70 = 8
  · rw [k90]
    refine lv_tableIn (tgt := 271) hx hb dLooker_lookAt_16 (by decide) (by decide) rfl (by decide) ?_
    refine lv_bipush (v := 11) hx hb dLooker_lookAt_271 (by decide) ?_
    exact hE _ _ _ _ _ hS (by have hO2 : Oq OUT (11, φ69, ψ) := (by subst er70 eφ69; exact hO.tr ((if_neg k71).trans ((if_neg k75).trans ((if_neg k79).trans ((if_neg k83).trans ((if_neg k87).trans ((if_neg k88).trans ((if_neg k89).trans (if_pos k90))))))))); rw [hO2.eq]; exact ⟨rfl, hG⟩) dLooker_lookAt_273
  by_cases k91 : r70 = 9
  · rw [k91]
    refine lv_tableIn (tgt := 271) hx hb dLooker_lookAt_16 (by decide) (by decide) rfl (by decide) ?_
    refine lv_bipush (v := 11) hx hb dLooker_lookAt_271 (by decide) ?_
    exact hE _ _ _ _ _ hS (by have hO2 : Oq OUT (11, φ69, ψ) := (by subst er70 eφ69; exact hO.tr ((if_neg k71).trans ((if_neg k75).trans ((if_neg k79).trans ((if_neg k83).trans ((if_neg k87).trans ((if_neg k88).trans ((if_neg k89).trans ((if_neg k90).trans (if_pos k91)))))))))); rw [hO2.eq]; exact ⟨rfl, hG⟩) dLooker_lookAt_273
  by_cases k92 : r70 = 10
  · rw [k92]
    refine lv_tableIn (tgt := 271) hx hb dLooker_lookAt_16 (by decide) (by decide) rfl (by decide) ?_
    refine lv_bipush (v := 11) hx hb dLooker_lookAt_271 (by decide) ?_
    exact hE _ _ _ _ _ hS (by have hO2 : Oq OUT (11, φ69, ψ) := (by subst er70 eφ69; exact hO.tr ((if_neg k71).trans ((if_neg k75).trans ((if_neg k79).trans ((if_neg k83).trans ((if_neg k87).trans ((if_neg k88).trans ((if_neg k89).trans ((if_neg k90).trans ((if_neg k91).trans (if_pos k92))))))))))); rw [hO2.eq]; exact ⟨rfl, hG⟩) dLooker_lookAt_273
  by_cases k93 : r70 = 11
  · rw [k93]
    refine lv_tableIn (tgt := 271) hx hb dLooker_lookAt_16 (by decide) (by decide) rfl (by decide) ?_
    refine lv_bipush (v := 11) hx hb dLooker_lookAt_271 (by decide) ?_
    exact hE _ _ _ _ _ hS (by have hO2 : Oq OUT (11, φ69, ψ) := (by subst er70 eφ69; exact hO.tr ((if_neg k71).trans ((if_neg k75).trans ((if_neg k79).trans ((if_neg k83).trans ((if_neg k87).trans ((if_neg k88).trans ((if_neg k89).trans ((if_neg k90).trans ((if_neg k91).trans ((if_neg k92).trans (if_pos k93)))))))))))); rw [hO2.eq]; exact ⟨rfl, hG⟩) dLooker_lookAt_273
  by_cases k94 : r70 = 12
  · rw [k94]
    refine lv_tableIn (tgt := 271) hx hb dLooker_lookAt_16 (by decide) (by decide) rfl (by decide) ?_
    refine lv_bipush (v := 11) hx hb dLooker_lookAt_271 (by decide) ?_
    exact hE _ _ _ _ _ hS (by have hO2 : Oq OUT (11, φ69, ψ) := (by subst er70 eφ69; exact hO.tr ((if_neg k71).trans ((if_neg k75).trans ((if_neg k79).trans ((if_neg k83).trans ((if_neg k87).trans ((if_neg k88).trans ((if_neg k89).trans ((if_neg k90).trans ((if_neg k91).trans ((if_neg k92).trans ((if_neg k93).trans (if_pos k94))))))))))))); rw [hO2.eq]; exact ⟨rfl, hG⟩) dLooker_lookAt_273
  by_cases k95 : r70 = 13
  · rw [k95]
    refine lv_tableIn (tgt := 271) hx hb dLooker_lookAt_16 (by decide) (by decide) rfl (by decide) ?_
    refine lv_bipush (v := 11) hx hb dLooker_lookAt_271 (by decide) ?_
    exact hE _ _ _ _ _ hS (by have hO2 : Oq OUT (11, φ69, ψ) := (by subst er70 eφ69; exact hO.tr ((if_neg k71).trans ((if_neg k75).trans ((if_neg k79).trans ((if_neg k83).trans ((if_neg k87).trans ((if_neg k88).trans ((if_neg k89).trans ((if_neg k90).trans ((if_neg k91).trans ((if_neg k92).trans ((if_neg k93).trans ((if_neg k94).trans (if_pos k95)))))))))))))); rw [hO2.eq]; exact ⟨rfl, hG⟩) dLooker_lookAt_273
  by_cases k96 : r70 = 14
  · rw [k96]
    refine lv_tableIn (tgt := 271) hx hb dLooker_lookAt_16 (by decide) (by decide) rfl (by decide) ?_
    refine lv_bipush (v := 11) hx hb dLooker_lookAt_271 (by decide) ?_
    exact hE _ _ _ _ _ hS (by have hO2 : Oq OUT (11, φ69, ψ) := (by subst er70 eφ69; exact hO.tr ((if_neg k71).trans ((if_neg k75).trans ((if_neg k79).trans ((if_neg k83).trans ((if_neg k87).trans ((if_neg k88).trans ((if_neg k89).trans ((if_neg k90).trans ((if_neg k91).trans ((if_neg k92).trans ((if_neg k93).trans ((if_neg k94).trans ((if_neg k95).trans (if_pos k96))))))))))))))); rw [hO2.eq]; exact ⟨rfl, hG⟩) dLooker_lookAt_273
  by_cases k97 : r70 = 15
  · rw [k97]
    refine lv_tableIn (tgt := 271) hx hb dLooker_lookAt_16 (by decide) (by decide) rfl (by decide) ?_
    refine lv_bipush (v := 11) hx hb dLooker_lookAt_271 (by decide) ?_
    exact hE _ _ _ _ _ hS (by have hO2 : Oq OUT (11, φ69, ψ) := (by subst er70 eφ69; exact hO.tr ((if_neg k71).trans ((if_neg k75).trans ((if_neg k79).trans ((if_neg k83).trans ((if_neg k87).trans ((if_neg k88).trans ((if_neg k89).trans ((if_neg k90).trans ((if_neg k91).trans ((if_neg k92).trans ((if_neg k93).trans ((if_neg k94).trans ((if_neg k95).trans ((if_neg k96).trans (if_pos k97)))))))))))))))); rw [hO2.eq]; exact ⟨rfl, hG⟩) dLooker_lookAt_273
  by_cases k98 : r70 = 16
  · rw [k98]
    refine lv_tableIn (tgt := 271) hx hb dLooker_lookAt_16 (by decide) (by decide) rfl (by decide) ?_
    refine lv_bipush (v := 11) hx hb dLooker_lookAt_271 (by decide) ?_
    exact hE _ _ _ _ _ hS (by have hO2 : Oq OUT (11, φ69, ψ) := (by subst er70 eφ69; exact hO.tr ((if_neg k71).trans ((if_neg k75).trans ((if_neg k79).trans ((if_neg k83).trans ((if_neg k87).trans ((if_neg k88).trans ((if_neg k89).trans ((if_neg k90).trans ((if_neg k91).trans ((if_neg k92).trans ((if_neg k93).trans ((if_neg k94).trans ((if_neg k95).trans ((if_neg k96).trans ((if_neg k97).trans (if_pos k98))))))))))))))))); rw [hO2.eq]; exact ⟨rfl, hG⟩) dLooker_lookAt_273
  by_cases k99 : r70 = 17
  · rw [k99]
    refine lv_tableIn (tgt := 271) hx hb dLooker_lookAt_16 (by decide) (by decide) rfl (by decide) ?_
    refine lv_bipush (v := 11) hx hb dLooker_lookAt_271 (by decide) ?_
    exact hE _ _ _ _ _ hS (by have hO2 : Oq OUT (11, φ69, ψ) := (by subst er70 eφ69; exact hO.tr ((if_neg k71).trans ((if_neg k75).trans ((if_neg k79).trans ((if_neg k83).trans ((if_neg k87).trans ((if_neg k88).trans ((if_neg k89).trans ((if_neg k90).trans ((if_neg k91).trans ((if_neg k92).trans ((if_neg k93).trans ((if_neg k94).trans ((if_neg k95).trans ((if_neg k96).trans ((if_neg k97).trans ((if_neg k98).trans (if_pos k99)))))))))))))))))); rw [hO2.eq]; exact ⟨rfl, hG⟩) dLooker_lookAt_273
  by_cases k100 : r70 = 18
  · rw [k100]
    refine lv_tableIn (tgt := 271) hx hb dLooker_lookAt_16 (by decide) (by decide) rfl (by decide) ?_
    refine lv_bipush (v := 11) hx hb dLooker_lookAt_271 (by decide) ?_
    exact hE _ _ _ _ _ hS (by have hO2 : Oq OUT (11, φ69, ψ) := (by subst er70 eφ69; exact hO.tr ((if_neg k71).trans ((if_neg k75).trans ((if_neg k79).trans ((if_neg k83).trans ((if_neg k87).trans ((if_neg k88).trans ((if_neg k89).trans ((if_neg k90).trans ((if_neg k91).trans ((if_neg k92).trans ((if_neg k93).trans ((if_neg k94).trans ((if_neg k95).trans ((if_neg k96).trans ((if_neg k97).trans ((if_neg k98).trans ((if_neg k99).trans (if_pos k100))))))))))))))))))); rw [hO2.eq]; exact ⟨rfl, hG⟩) dLooker_lookAt_273
  by_cases k101 : r70 = 19
  · rw [k101]
    refine lv_tableIn (tgt := 271) hx hb dLooker_lookAt_16 (by decide) (by decide) rfl (by decide) ?_
    refine lv_bipush (v := 11) hx hb dLooker_lookAt_271 (by decide) ?_
    exact hE _ _ _ _ _ hS (by have hO2 : Oq OUT (11, φ69, ψ) := (by subst er70 eφ69; exact hO.tr ((if_neg k71).trans ((if_neg k75).trans ((if_neg k79).trans ((if_neg k83).trans ((if_neg k87).trans ((if_neg k88).trans ((if_neg k89).trans ((if_neg k90).trans ((if_neg k91).trans ((if_neg k92).trans ((if_neg k93).trans ((if_neg k94).trans ((if_neg k95).trans ((if_neg k96).trans ((if_neg k97).trans ((if_neg k98).trans ((if_neg k99).trans ((if_neg k100).trans (if_pos k101)))))))))))))))))))); rw [hO2.eq]; exact ⟨rfl, hG⟩) dLooker_lookAt_273
  by_cases k102 : r70 = 20
  · rw [k102]
    refine lv_tableIn (tgt := 165) hx hb dLooker_lookAt_16 (by decide) (by decide) rfl (by decide) ?_
    refine lv_aload_n hx hb dLooker_lookAt_165 rfl (lv_at hl 0 rfl) ?_
    refine lv_iload_n hx hb dLooker_lookAt_166 rfl (lv_at hl 1 rfl) ?_
    refine lv_iconst (v := 1) hx hb dLooker_lookAt_167 (by decide) ?_
    refine lv_iconst (v := 3) hx hb dLooker_lookAt_168 (by decide) ?_
    refine pu_Vi (rest := []) S hC (f_Looker_isOperator l γ A κ φ69 ψ x1 1 3) meLooker_isOperator qw_818b7cddc8 ⟨Nat.le_of_ble_eq_true rfl, Nat.le_of_ble_eq_true rfl⟩ (rv_8 hC hI) hG rfl hl.1 rfl (Nat.le_of_ble_eq_true rfl) dLooker_lookAt_169 ⟨Nat.zero_le _, Nat.zero_le _⟩ (fun r103 hr103 => ?_)
    obtain ⟨hr103, er103⟩ := hr103
    refine lv_if_eq (tgt := 197) hx hb dLooker_lookAt_172 (by decide) (fun c104 => ?_) (fun c104 => ?_)
    · refine lv_bipush (v := 11) hx hb dLooker_lookAt_197 (by decide) ?_
      exact hE _ _ _ _ _ hS (by have hO2 : Oq OUT (11, φ69, ψ) := (by subst er103 er70 eφ69; exact hO.tr ((if_neg k71).trans ((if_neg k75).trans ((if_neg k79).trans ((if_neg k83).trans ((if_neg k87).trans ((if_neg k88).trans ((if_neg k89).trans ((if_neg k90).trans ((if_neg k91).trans ((if_neg k92).trans ((if_neg k93).trans ((if_neg k94).trans ((if_neg k95).trans ((if_neg k96).trans ((if_neg k97).trans ((if_neg k98).trans ((if_neg k99).trans ((if_neg k100).trans ((if_neg k101).trans ((if_pos k102).trans (if_pos c104)))))))))))))))))))))); rw [hO2.eq]; exact ⟨rfl, hG⟩) dLooker_lookAt_199
    · refine lv_aload_n hx hb dLooker_lookAt_175 rfl (lv_at hl 0 rfl) ?_
      refine of_get S hC (of_8_4 hI) in_Looker rfl (by decide) qw_859ddf9a22 dLooker_lookAt_176 ?_
      refine lv_iload_n hx hb dLooker_lookAt_179 rfl (lv_at hl 1 rfl) ?_
      refine lv_aload_n hx hb dLooker_lookAt_180 rfl (lv_at hl 0 rfl) ?_
      refine of_get S hC (of_8_0 hI) in_Looker rfl (by decide) qw_22d2793f25 dLooker_lookAt_181 ?_
      refine lv_iload_n hx hb dLooker_lookAt_184 rfl (lv_at hl 1 rfl) ?_
      refine pu_Vi (rest := [.int x1, .ref (γ.2.2.2 11)]) S hC (f1_Trees_valueOf l γ A κ φ69 ψ x1) meTrees_valueOf qw_ea9162cf9a ⟨Nat.le_of_ble_eq_true rfl, Nat.le_of_ble_eq_true rfl⟩ (rv_1 hC hI) hG rfl hl.1 rfl (Nat.le_of_ble_eq_true rfl) dLooker_lookAt_185 ⟨Nat.zero_le _, Nat.zero_le _⟩ (fun r105 hr105 => ?_)
      obtain ⟨hr105, er105⟩ := hr105
      refine lv_iload_n hx hb dLooker_lookAt_188 rfl (lv_at hl 1 rfl) ?_
      refine lv_iconst (v := 1) hx hb dLooker_lookAt_189 (by decide) ?_
      refine lv_isub hx hb dLooker_lookAt_190 ?_
      refine lv_topi (fun v106 ev106 => ?_)
      refine mu_Vi (rest := []) S hC (fun q h => hA q (Nat.le_trans hS.1 h)) (fun q h => h) hS (f_Operators_unary l γ A κ φ69 ψ x1 r105 v106) meOperators_unary qw_4f84b70a81 ⟨Nat.le_of_ble_eq_true rfl, Nat.le_of_ble_eq_true rfl⟩ (rv_11 hC hI) hG rfl hl.1 rfl (Nat.le_of_ble_eq_true rfl) dLooker_lookAt_191 ⟨Nat.le_refl _, Nat.le_refl _⟩ (fun r107 H locs ⟨er107, hG⟩ hS _ _ => ?_)
      obtain ⟨φ108, eφ108⟩ : ∃ z : gF, z = (P_Operators_unary κ φ69 ψ x1 r105 v106).2.1 := ⟨_, rfl⟩
      rw [← eφ108] at hG
      obtain ⟨ψ109, eψ109⟩ : ∃ z : gG, z = (P_Operators_unary κ φ69 ψ x1 r105 v106).2.2 := ⟨_, rfl⟩
      rw [← eψ109] at hG
      have hI := inv_of hG
      refine lv_goto (tgt := 199) hx hb dLooker_lookAt_194 (by decide) ?_
      exact hE _ _ _ _ _ hS (by have hO2 : Oq OUT (r107, φ108, ψ109) := (by subst eψ109 eφ108 er107 ev106 er105 er103 er70 eφ69; exact hO.tr ((if_neg k71).trans ((if_neg k75).trans ((if_neg k79).trans ((if_neg k83).trans ((if_neg k87).trans ((if_neg k88).trans ((if_neg k89).trans ((if_neg k90).trans ((if_neg k91).trans ((if_neg k92).trans ((if_neg k93).trans ((if_neg k94).trans ((if_neg k95).trans ((if_neg k96).trans ((if_neg k97).trans ((if_neg k98).trans ((if_neg k99).trans ((if_neg k100).trans ((if_neg k101).trans ((if_pos k102).trans (if_neg c104)))))))))))))))))))))); rw [hO2.eq]; exact ⟨rfl, hG⟩) dLooker_lookAt_199
  by_cases k110 : r70 = 21
  · rw [k110]
    refine lv_tableIn (tgt := 200) hx hb dLooker_lookAt_16 (by decide) (by decide) rfl (by decide) ?_
    refine lv_aload_n hx hb dLooker_lookAt_200 rfl (lv_at hl 0 rfl) ?_
    refine lv_iload_n hx hb dLooker_lookAt_201 rfl (lv_at hl 1 rfl) ?_
    refine lv_iconst (v := 2) hx hb dLooker_lookAt_202 (by decide) ?_
    refine lv_bipush (v := 20) hx hb dLooker_lookAt_203 (by decide) ?_
    refine pu_Vi (rest := []) S hC (f_Looker_isOperator l γ A κ φ69 ψ x1 2 20) meLooker_isOperator qw_818b7cddc8 ⟨Nat.le_of_ble_eq_true rfl, Nat.le_of_ble_eq_true rfl⟩ (rv_8 hC hI) hG rfl hl.1 rfl (Nat.le_of_ble_eq_true rfl) dLooker_lookAt_205 ⟨Nat.zero_le _, Nat.zero_le _⟩ (fun r111 hr111 => ?_)
    obtain ⟨hr111, er111⟩ := hr111
    refine lv_if_eq (tgt := 241) hx hb dLooker_lookAt_208 (by decide) (fun c112 => ?_) (fun c112 => ?_)
    · refine lv_bipush (v := 11) hx hb dLooker_lookAt_241 (by decide) ?_
      exact hE _ _ _ _ _ hS (by have hO2 : Oq OUT (11, φ69, ψ) := (by subst er111 er70 eφ69; exact hO.tr ((if_neg k71).trans ((if_neg k75).trans ((if_neg k79).trans ((if_neg k83).trans ((if_neg k87).trans ((if_neg k88).trans ((if_neg k89).trans ((if_neg k90).trans ((if_neg k91).trans ((if_neg k92).trans ((if_neg k93).trans ((if_neg k94).trans ((if_neg k95).trans ((if_neg k96).trans ((if_neg k97).trans ((if_neg k98).trans ((if_neg k99).trans ((if_neg k100).trans ((if_neg k101).trans ((if_neg k102).trans ((if_pos k110).trans (if_pos c112))))))))))))))))))))))); rw [hO2.eq]; exact ⟨rfl, hG⟩) dLooker_lookAt_243
    · refine lv_aload_n hx hb dLooker_lookAt_211 rfl (lv_at hl 0 rfl) ?_
      refine of_get S hC (of_8_4 hI) in_Looker rfl (by decide) qw_859ddf9a22 dLooker_lookAt_212 ?_
      refine lv_iload_n hx hb dLooker_lookAt_215 rfl (lv_at hl 1 rfl) ?_
      refine lv_aload_n hx hb dLooker_lookAt_216 rfl (lv_at hl 0 rfl) ?_
      refine of_get S hC (of_8_0 hI) in_Looker rfl (by decide) qw_22d2793f25 dLooker_lookAt_217 ?_
      refine lv_iload_n hx hb dLooker_lookAt_220 rfl (lv_at hl 1 rfl) ?_
      refine pu_Vi (rest := [.int x1, .ref (γ.2.2.2 11)]) S hC (f1_Trees_valueOf l γ A κ φ69 ψ x1) meTrees_valueOf qw_ea9162cf9a ⟨Nat.le_of_ble_eq_true rfl, Nat.le_of_ble_eq_true rfl⟩ (rv_1 hC hI) hG rfl hl.1 rfl (Nat.le_of_ble_eq_true rfl) dLooker_lookAt_221 ⟨Nat.zero_le _, Nat.zero_le _⟩ (fun r113 hr113 => ?_)
      obtain ⟨hr113, er113⟩ := hr113
      refine lv_aload_n hx hb dLooker_lookAt_224 rfl (lv_at hl 0 rfl) ?_
      refine of_get S hC (of_8_0 hI) in_Looker rfl (by decide) qw_22d2793f25 dLooker_lookAt_225 ?_
      refine lv_iload_n hx hb dLooker_lookAt_228 rfl (lv_at hl 1 rfl) ?_
      refine pu_Vi (rest := [.int r113, .int x1, .ref (γ.2.2.2 11)]) S hC (f1_Trees_leftOfTwo l γ A κ φ69 ψ x1) meTrees_leftOfTwo qw_844ff72d87 ⟨Nat.le_of_ble_eq_true rfl, Nat.le_of_ble_eq_true rfl⟩ (rv_1 hC hI) hG rfl hl.1 rfl (Nat.le_of_ble_eq_true rfl) dLooker_lookAt_229 ⟨Nat.zero_le _, Nat.zero_le _⟩ (fun r114 hr114 => ?_)
      obtain ⟨hr114, er114⟩ := hr114
      refine lv_iload_n hx hb dLooker_lookAt_232 rfl (lv_at hl 1 rfl) ?_
      refine lv_iconst (v := 1) hx hb dLooker_lookAt_233 (by decide) ?_
      refine lv_isub hx hb dLooker_lookAt_234 ?_
      refine lv_topi (fun v115 ev115 => ?_)
      refine mu_Vi (rest := []) S hC (fun q h => hA q (Nat.le_trans hS.1 h)) (fun q h => h) hS (f_Operators_binary l γ A κ φ69 ψ x1 r113 r114 v115) meOperators_binary qw_b6429af45c ⟨Nat.le_of_ble_eq_true rfl, Nat.le_of_ble_eq_true rfl⟩ (rv_11 hC hI) hG rfl hl.1 rfl (Nat.le_of_ble_eq_true rfl) dLooker_lookAt_235 ⟨Nat.le_refl _, Nat.le_refl _⟩ (fun r116 H locs ⟨er116, hG⟩ hS _ _ => ?_)
      obtain ⟨φ117, eφ117⟩ : ∃ z : gF, z = (P_Operators_binary κ φ69 ψ x1 r113 r114 v115).2.1 := ⟨_, rfl⟩
      rw [← eφ117] at hG
      obtain ⟨ψ118, eψ118⟩ : ∃ z : gG, z = (P_Operators_binary κ φ69 ψ x1 r113 r114 v115).2.2 := ⟨_, rfl⟩
      rw [← eψ118] at hG
      have hI := inv_of hG
      refine lv_goto (tgt := 243) hx hb dLooker_lookAt_238 (by decide) ?_
      exact hE _ _ _ _ _ hS (by have hO2 : Oq OUT (r116, φ117, ψ118) := (by subst eψ118 eφ117 er116 ev115 er114 er113 er111 er70 eφ69; exact hO.tr ((if_neg k71).trans ((if_neg k75).trans ((if_neg k79).trans ((if_neg k83).trans ((if_neg k87).trans ((if_neg k88).trans ((if_neg k89).trans ((if_neg k90).trans ((if_neg k91).trans ((if_neg k92).trans ((if_neg k93).trans ((if_neg k94).trans ((if_neg k95).trans ((if_neg k96).trans ((if_neg k97).trans ((if_neg k98).trans ((if_neg k99).trans ((if_neg k100).trans ((if_neg k101).trans ((if_neg k102).trans ((if_pos k110).trans (if_neg c112))))))))))))))))))))))); rw [hO2.eq]; exact ⟨rfl, hG⟩) dLooker_lookAt_243
  by_cases k119 : r70 = 22
  · rw [k119]
    refine lv_tableIn (tgt := 244) hx hb dLooker_lookAt_16 (by decide) (by decide) rfl (by decide) ?_
    refine lv_aload_n hx hb dLooker_lookAt_244 rfl (lv_at hl 0 rfl) ?_
    refine of_get S hC (of_8_5 hI) in_Looker rfl (by decide) qw_3b1b00c0af dLooker_lookAt_245 ?_
    refine lv_iload_n hx hb dLooker_lookAt_248 rfl (lv_at hl 1 rfl) ?_
    refine mu_Vi (rest := []) S hC (fun q h => hA q (Nat.le_trans hS.1 h)) (fun q h => h) hS (f_Meanings_apply l γ A κ φ69 ψ x1) meMeanings_apply qw_ad354f94c6 ⟨Nat.le_of_ble_eq_true rfl, Nat.le_of_ble_eq_true rfl⟩ (rv_12 hC hI) hG rfl hl.1 rfl (Nat.le_of_ble_eq_true rfl) dLooker_lookAt_249 ⟨Nat.le_refl _, Nat.le_refl _⟩ (fun r120 H locs ⟨er120, hG⟩ hS _ _ => ?_)
    obtain ⟨φ121, eφ121⟩ : ∃ z : gF, z = (P_Meanings_apply κ φ69 ψ x1).2.1 := ⟨_, rfl⟩
    rw [← eφ121] at hG
    obtain ⟨ψ122, eψ122⟩ : ∃ z : gG, z = (P_Meanings_apply κ φ69 ψ x1).2.2 := ⟨_, rfl⟩
    rw [← eψ122] at hG
    have hI := inv_of hG
    exact hE _ _ _ _ _ hS (by have hO2 : Oq OUT (r120, φ121, ψ122) := (by subst eψ122 eφ121 er120 er70 eφ69; exact hO.tr ((if_neg k71).trans ((if_neg k75).trans ((if_neg k79).trans ((if_neg k83).trans ((if_neg k87).trans ((if_neg k88).trans ((if_neg k89).trans ((if_neg k90).trans ((if_neg k91).trans ((if_neg k92).trans ((if_neg k93).trans ((if_neg k94).trans ((if_neg k95).trans ((if_neg k96).trans ((if_neg k97).trans ((if_neg k98).trans ((if_neg k99).trans ((if_neg k100).trans ((if_neg k101).trans ((if_neg k102).trans ((if_neg k110).trans (if_pos k119))))))))))))))))))))))); rw [hO2.eq]; exact ⟨rfl, hG⟩) dLooker_lookAt_252
  by_cases k123 : r70 = 23
  · rw [k123]
    refine lv_tableIn (tgt := 253) hx hb dLooker_lookAt_16 (by decide) (by decide) rfl (by decide) ?_
    refine lv_aload_n hx hb dLooker_lookAt_253 rfl (lv_at hl 0 rfl) ?_
    refine of_get S hC (of_8_5 hI) in_Looker rfl (by decide) qw_3b1b00c0af dLooker_lookAt_254 ?_
    refine lv_iload_n hx hb dLooker_lookAt_257 rfl (lv_at hl 1 rfl) ?_
    refine mu_Vi (rest := []) S hC (fun q h => hA q (Nat.le_trans hS.1 h)) (fun q h => h) hS (f_Meanings_slice l γ A κ φ69 ψ x1) meMeanings_slice qw_ee93ba46af ⟨Nat.le_of_ble_eq_true rfl, Nat.le_of_ble_eq_true rfl⟩ (rv_12 hC hI) hG rfl hl.1 rfl (Nat.le_of_ble_eq_true rfl) dLooker_lookAt_258 ⟨Nat.le_refl _, Nat.le_refl _⟩ (fun r124 H locs ⟨er124, hG⟩ hS _ _ => ?_)
    obtain ⟨φ125, eφ125⟩ : ∃ z : gF, z = (P_Meanings_slice κ φ69 ψ x1).2.1 := ⟨_, rfl⟩
    rw [← eφ125] at hG
    obtain ⟨ψ126, eψ126⟩ : ∃ z : gG, z = (P_Meanings_slice κ φ69 ψ x1).2.2 := ⟨_, rfl⟩
    rw [← eψ126] at hG
    have hI := inv_of hG
    exact hE _ _ _ _ _ hS (by have hO2 : Oq OUT (r124, φ125, ψ126) := (by subst eψ126 eφ125 er124 er70 eφ69; exact hO.tr ((if_neg k71).trans ((if_neg k75).trans ((if_neg k79).trans ((if_neg k83).trans ((if_neg k87).trans ((if_neg k88).trans ((if_neg k89).trans ((if_neg k90).trans ((if_neg k91).trans ((if_neg k92).trans ((if_neg k93).trans ((if_neg k94).trans ((if_neg k95).trans ((if_neg k96).trans ((if_neg k97).trans ((if_neg k98).trans ((if_neg k99).trans ((if_neg k100).trans ((if_neg k101).trans ((if_neg k102).trans ((if_neg k110).trans ((if_neg k119).trans (if_pos k123)))))))))))))))))))))))); rw [hO2.eq]; exact ⟨rfl, hG⟩) dLooker_lookAt_261
  by_cases k127 : r70 = 24
  · rw [k127]
    refine lv_tableIn (tgt := 253) hx hb dLooker_lookAt_16 (by decide) (by decide) rfl (by decide) ?_
    refine lv_aload_n hx hb dLooker_lookAt_253 rfl (lv_at hl 0 rfl) ?_
    refine of_get S hC (of_8_5 hI) in_Looker rfl (by decide) qw_3b1b00c0af dLooker_lookAt_254 ?_
    refine lv_iload_n hx hb dLooker_lookAt_257 rfl (lv_at hl 1 rfl) ?_
    refine mu_Vi (rest := []) S hC (fun q h => hA q (Nat.le_trans hS.1 h)) (fun q h => h) hS (f_Meanings_slice l γ A κ φ69 ψ x1) meMeanings_slice qw_ee93ba46af ⟨Nat.le_of_ble_eq_true rfl, Nat.le_of_ble_eq_true rfl⟩ (rv_12 hC hI) hG rfl hl.1 rfl (Nat.le_of_ble_eq_true rfl) dLooker_lookAt_258 ⟨Nat.le_refl _, Nat.le_refl _⟩ (fun r128 H locs ⟨er128, hG⟩ hS _ _ => ?_)
    obtain ⟨φ129, eφ129⟩ : ∃ z : gF, z = (P_Meanings_slice κ φ69 ψ x1).2.1 := ⟨_, rfl⟩
    rw [← eφ129] at hG
    obtain ⟨ψ130, eψ130⟩ : ∃ z : gG, z = (P_Meanings_slice κ φ69 ψ x1).2.2 := ⟨_, rfl⟩
    rw [← eψ130] at hG
    have hI := inv_of hG
    exact hE _ _ _ _ _ hS (by have hO2 : Oq OUT (r128, φ129, ψ130) := (by subst eψ130 eφ129 er128 er70 eφ69; exact hO.tr ((if_neg k71).trans ((if_neg k75).trans ((if_neg k79).trans ((if_neg k83).trans ((if_neg k87).trans ((if_neg k88).trans ((if_neg k89).trans ((if_neg k90).trans ((if_neg k91).trans ((if_neg k92).trans ((if_neg k93).trans ((if_neg k94).trans ((if_neg k95).trans ((if_neg k96).trans ((if_neg k97).trans ((if_neg k98).trans ((if_neg k99).trans ((if_neg k100).trans ((if_neg k101).trans ((if_neg k102).trans ((if_neg k110).trans ((if_neg k119).trans ((if_neg k123).trans (if_pos k127))))))))))))))))))))))))); rw [hO2.eq]; exact ⟨rfl, hG⟩) dLooker_lookAt_261
  by_cases k131 : r70 = 25
  · rw [k131]
    refine lv_tableIn (tgt := 262) hx hb dLooker_lookAt_16 (by decide) (by decide) rfl (by decide) ?_
    refine lv_aload_n hx hb dLooker_lookAt_262 rfl (lv_at hl 0 rfl) ?_
    refine of_get S hC (of_8_5 hI) in_Looker rfl (by decide) qw_3b1b00c0af dLooker_lookAt_263 ?_
    refine lv_iload_n hx hb dLooker_lookAt_266 rfl (lv_at hl 1 rfl) ?_
    refine mu_Vi (rest := []) S hC (fun q h => hA q (Nat.le_trans hS.1 h)) (fun q h => h) hS (f_Meanings_attribute l γ A κ φ69 ψ x1) meMeanings_attribute qw_19aeb78c12 ⟨Nat.le_of_ble_eq_true rfl, Nat.le_of_ble_eq_true rfl⟩ (rv_12 hC hI) hG rfl hl.1 rfl (Nat.le_of_ble_eq_true rfl) dLooker_lookAt_267 ⟨Nat.le_refl _, Nat.le_refl _⟩ (fun r132 H locs ⟨er132, hG⟩ hS _ _ => ?_)
    obtain ⟨φ133, eφ133⟩ : ∃ z : gF, z = (P_Meanings_attribute κ φ69 ψ x1).2.1 := ⟨_, rfl⟩
    rw [← eφ133] at hG
    obtain ⟨ψ134, eψ134⟩ : ∃ z : gG, z = (P_Meanings_attribute κ φ69 ψ x1).2.2 := ⟨_, rfl⟩
    rw [← eψ134] at hG
    have hI := inv_of hG
    exact hE _ _ _ _ _ hS (by have hO2 : Oq OUT (r132, φ133, ψ134) := (by subst eψ134 eφ133 er132 er70 eφ69; exact hO.tr ((if_neg k71).trans ((if_neg k75).trans ((if_neg k79).trans ((if_neg k83).trans ((if_neg k87).trans ((if_neg k88).trans ((if_neg k89).trans ((if_neg k90).trans ((if_neg k91).trans ((if_neg k92).trans ((if_neg k93).trans ((if_neg k94).trans ((if_neg k95).trans ((if_neg k96).trans ((if_neg k97).trans ((if_neg k98).trans ((if_neg k99).trans ((if_neg k100).trans ((if_neg k101).trans ((if_neg k102).trans ((if_neg k110).trans ((if_neg k119).trans ((if_neg k123).trans ((if_neg k127).trans (if_pos k131)))))))))))))))))))))))))); rw [hO2.eq]; exact ⟨rfl, hG⟩) dLooker_lookAt_270
  refine lv_tableOut (tgt := 271) hx hb dLooker_lookAt_16 (by have qk71 := lv_neT (a := 1) k71 (by decide); have qk75 := lv_neT (a := 2) k75 (by decide); have qk79 := lv_neT (a := 3) k79 (by decide); have qk83 := lv_neT (a := 4) k83 (by decide); have qk87 := lv_neT (a := 5) k87 (by decide); have qk88 := lv_neT (a := 6) k88 (by decide); have qk89 := lv_neT (a := 7) k89 (by decide); have qk90 := lv_neT (a := 8) k90 (by decide); have qk91 := lv_neT (a := 9) k91 (by decide); have qk92 := lv_neT (a := 10) k92 (by decide); have qk93 := lv_neT (a := 11) k93 (by decide); have qk94 := lv_neT (a := 12) k94 (by decide); have qk95 := lv_neT (a := 13) k95 (by decide); have qk96 := lv_neT (a := 14) k96 (by decide); have qk97 := lv_neT (a := 15) k97 (by decide); have qk98 := lv_neT (a := 16) k98 (by decide); have qk99 := lv_neT (a := 17) k99 (by decide); have qk100 := lv_neT (a := 18) k100 (by decide); have qk101 := lv_neT (a := 19) k101 (by decide); have qk102 := lv_neT (a := 20) k102 (by decide); have qk110 := lv_neT (a := 21) k110 (by decide); have qk119 := lv_neT (a := 22) k119 (by decide); have qk123 := lv_neT (a := 23) k123 (by decide); have qk127 := lv_neT (a := 24) k127 (by decide); have qk131 := lv_neT (a := 25) k131 (by decide); omega) (by decide) ?_
  refine lv_bipush (v := 11) hx hb dLooker_lookAt_271 (by decide) ?_
  exact hE _ _ _ _ _ hS (by have hO2 : Oq OUT (11, φ69, ψ) := (by subst er70 eφ69; exact hO.tr ((if_neg k71).trans ((if_neg k75).trans ((if_neg k79).trans ((if_neg k83).trans ((if_neg k87).trans ((if_neg k88).trans ((if_neg k89).trans ((if_neg k90).trans ((if_neg k91).trans ((if_neg k92).trans ((if_neg k93).trans ((if_neg k94).trans ((if_neg k95).trans ((if_neg k96).trans ((if_neg k97).trans ((if_neg k98).trans ((if_neg k99).trans ((if_neg k100).trans ((if_neg k101).trans ((if_neg k102).trans ((if_neg k110).trans ((if_neg k119).trans ((if_neg k123).trans ((if_neg k127).trans (if_neg k131)))))))))))))))))))))))))); rw [hO2.eq]; exact ⟨rfl, hG⟩) dLooker_lookAt_273

def P_Looks_copy (κ : Nat → Nat) (φ : gF) (ψ : gG) (x2 : Int32) : gF × gG := ((up (up (up φ 7 (P_Looks_note (κ 6) (φ 7) x2 (P_Looks_classOf (κ 7) (φ 9) x2) (P_Looks_extentOf (κ 7) (φ 9) x2) (P_Looks_isFixed (κ 7) (φ 9) x2))) 7 (P_Looks_setMeaning (κ 6) ((up φ 7 (P_Looks_note (κ 6) (φ 7) x2 (P_Looks_classOf (κ 7) (φ 9) x2) (P_Looks_extentOf (κ 7) (φ 9) x2) (P_Looks_isFixed (κ 7) (φ 9) x2))) 7) x2 (P_Looks_meaningOf (κ 7) ((up φ 7 (P_Looks_note (κ 6) (φ 7) x2 (P_Looks_classOf (κ 7) (φ 9) x2) (P_Looks_extentOf (κ 7) (φ 9) x2) (P_Looks_isFixed (κ 7) (φ 9) x2))) 9) x2))) 7 (P_Looks_setNumber (κ 6) ((up (up φ 7 (P_Looks_note (κ 6) (φ 7) x2 (P_Looks_classOf (κ 7) (φ 9) x2) (P_Looks_extentOf (κ 7) (φ 9) x2) (P_Looks_isFixed (κ 7) (φ 9) x2))) 7 (P_Looks_setMeaning (κ 6) ((up φ 7 (P_Looks_note (κ 6) (φ 7) x2 (P_Looks_classOf (κ 7) (φ 9) x2) (P_Looks_extentOf (κ 7) (φ 9) x2) (P_Looks_isFixed (κ 7) (φ 9) x2))) 7) x2 (P_Looks_meaningOf (κ 7) ((up φ 7 (P_Looks_note (κ 6) (φ 7) x2 (P_Looks_classOf (κ 7) (φ 9) x2) (P_Looks_extentOf (κ 7) (φ 9) x2) (P_Looks_isFixed (κ 7) (φ 9) x2))) 9) x2))) 7) x2 (P_Looks_numberOf (κ 7) ((up (up φ 7 (P_Looks_note (κ 6) (φ 7) x2 (P_Looks_classOf (κ 7) (φ 9) x2) (P_Looks_extentOf (κ 7) (φ 9) x2) (P_Looks_isFixed (κ 7) (φ 9) x2))) 7 (P_Looks_setMeaning (κ 6) ((up φ 7 (P_Looks_note (κ 6) (φ 7) x2 (P_Looks_classOf (κ 7) (φ 9) x2) (P_Looks_extentOf (κ 7) (φ 9) x2) (P_Looks_isFixed (κ 7) (φ 9) x2))) 7) x2 (P_Looks_meaningOf (κ 7) ((up φ 7 (P_Looks_note (κ 6) (φ 7) x2 (P_Looks_classOf (κ 7) (φ 9) x2) (P_Looks_extentOf (κ 7) (φ 9) x2) (P_Looks_isFixed (κ 7) (φ 9) x2))) 9) x2))) 9) x2))), (up ψ 8 (P_Rows_copy (κ 9) (κ 10) (ψ 8) (ψ 10) x2 x2)))
set_option maxHeartbeats 4000000 in
set_option maxRecDepth 100000 in
theorem f_Looks_copy (l : Launch) (γ : gE) (A : Nat → Prop) (κ : Nat → Nat) (φ : gF) (ψ : gG) (x2 : Int32) : MU l yLooks_copy bLooks_copy 3 (none) 2 83 0 0 [.ref (γ.2.2.2 6), .ref (γ.2.2.2 9), .int x2] γ A (INVF γ A κ φ ψ) (mQv (fun H => INVF γ A κ (P_Looks_copy κ φ ψ x2).1 (P_Looks_copy κ φ ψ x2).2 H) A) := by
  refine mu_openV (by decide) (Nat.le_of_ble_eq_true rfl) ?_
  intro p e s m args below meth c ls Q S hnm hC hA hG hE hl
  obtain ⟨hx, hb, hml, hown, hW⟩ := id S
  have hI := inv_of hG
  have hS : va_S A s.heap s.heap [] := va_S.rf
  have hl : lv_has ls 3 [(0, .ref (γ.2.2.2 6)), (1, .ref (γ.2.2.2 9)), (2, .int x2)] := hl
  obtain ⟨OUT, hQ, hO⟩ : ∃ z, (z = P_Looks_copy κ φ ψ x2) ∧ Oq z (P_Looks_copy κ φ ψ x2) := ⟨_, rfl, rfl⟩
  rw [← hQ] at hE
  clear hQ
  refine lv_aload_n hx hb dLooks_copy_0 rfl (lv_at hl 0 rfl) ?_
  refine lv_iload_n hx hb dLooks_copy_1 rfl (lv_at hl 2 rfl) ?_
  refine lv_aload_n hx hb dLooks_copy_2 rfl (lv_at hl 1 rfl) ?_
  refine lv_iload_n hx hb dLooks_copy_3 rfl (lv_at hl 2 rfl) ?_
  refine pu_Vi (rest := [.int x2, .ref (γ.2.2.2 6)]) S hC (f9_Looks_classOf l γ A κ φ ψ x2) meLooks_classOf qw_afa922b076 ⟨Nat.le_of_ble_eq_true rfl, Nat.le_of_ble_eq_true rfl⟩ (rv_9 hC hI) hG rfl hl.1 rfl (Nat.le_of_ble_eq_true rfl) dLooks_copy_4 ⟨Nat.zero_le _, Nat.zero_le _⟩ (fun r14 hr14 => ?_)
  obtain ⟨hr14, er14⟩ := hr14
  refine lv_aload_n hx hb dLooks_copy_7 rfl (lv_at hl 1 rfl) ?_
  refine lv_iload_n hx hb dLooks_copy_8 rfl (lv_at hl 2 rfl) ?_
  refine pu_Vi (rest := [.int r14, .int x2, .ref (γ.2.2.2 6)]) S hC (f9_Looks_extentOf l γ A κ φ ψ x2) meLooks_extentOf qw_76af360b84 ⟨Nat.le_of_ble_eq_true rfl, Nat.le_of_ble_eq_true rfl⟩ (rv_9 hC hI) hG rfl hl.1 rfl (Nat.le_of_ble_eq_true rfl) dLooks_copy_9 ⟨Nat.zero_le _, Nat.zero_le _⟩ (fun r15 hr15 => ?_)
  obtain ⟨hr15, er15⟩ := hr15
  refine lv_aload_n hx hb dLooks_copy_12 rfl (lv_at hl 1 rfl) ?_
  refine lv_iload_n hx hb dLooks_copy_13 rfl (lv_at hl 2 rfl) ?_
  refine pu_Vi (rest := [.int r15, .int r14, .int x2, .ref (γ.2.2.2 6)]) S hC (f9_Looks_isFixed l γ A κ φ ψ x2) meLooks_isFixed qw_baacda067f ⟨Nat.le_of_ble_eq_true rfl, Nat.le_of_ble_eq_true rfl⟩ (rv_9 hC hI) hG rfl hl.1 rfl (Nat.le_of_ble_eq_true rfl) dLooks_copy_14 ⟨Nat.zero_le _, Nat.zero_le _⟩ (fun r16 hr16 => ?_)
  obtain ⟨hr16, er16⟩ := hr16
  refine mu_Vv (rest := []) S hC (fun q h => hA q (Nat.le_trans hS.1 h)) (fun q h => h) hS (f6_Looks_note l γ A κ φ ψ x2 r14 r15 r16) meLooks_note qw_a636540c8a ⟨Nat.le_of_ble_eq_true rfl, Nat.le_of_ble_eq_true rfl⟩ (rv_6 hC hI) hG rfl hl.1 rfl (Nat.le_of_ble_eq_true rfl) dLooks_copy_17 ⟨Nat.le_refl _, Nat.le_refl _⟩ (fun H locs hG hS _ _ => ?_)
  obtain ⟨φ18, eφ18⟩ : ∃ z : gF, z = up φ 7 (P_Looks_note (κ 6) (φ 7) x2 r14 r15 r16) := ⟨_, rfl⟩
  rw [← eφ18] at hG
  have hI := inv_of hG
  refine lv_aload_n hx hb dLooks_copy_20 rfl (lv_at hl 0 rfl) ?_
  refine lv_iload_n hx hb dLooks_copy_21 rfl (lv_at hl 2 rfl) ?_
  refine lv_aload_n hx hb dLooks_copy_22 rfl (lv_at hl 1 rfl) ?_
  refine lv_iload_n hx hb dLooks_copy_23 rfl (lv_at hl 2 rfl) ?_
  refine pu_Vi (rest := [.int x2, .ref (γ.2.2.2 6)]) S hC (f9_Looks_meaningOf l γ A κ φ18 ψ x2) meLooks_meaningOf qw_95efa8fed5 ⟨Nat.le_of_ble_eq_true rfl, Nat.le_of_ble_eq_true rfl⟩ (rv_9 hC hI) hG rfl hl.1 rfl (Nat.le_of_ble_eq_true rfl) dLooks_copy_24 ⟨Nat.zero_le _, Nat.zero_le _⟩ (fun r19 hr19 => ?_)
  obtain ⟨hr19, er19⟩ := hr19
  refine mu_Vv (rest := []) S hC (fun q h => hA q (Nat.le_trans hS.1 h)) (fun q h => h) hS (f6_Looks_setMeaning l γ A κ φ18 ψ x2 r19) meLooks_setMeaning qw_fccdde971d ⟨Nat.le_of_ble_eq_true rfl, Nat.le_of_ble_eq_true rfl⟩ (rv_6 hC hI) hG rfl hl.1 rfl (Nat.le_of_ble_eq_true rfl) dLooks_copy_27 ⟨Nat.le_refl _, Nat.le_refl _⟩ (fun H locs hG hS _ _ => ?_)
  obtain ⟨φ21, eφ21⟩ : ∃ z : gF, z = up φ18 7 (P_Looks_setMeaning (κ 6) (φ18 7) x2 r19) := ⟨_, rfl⟩
  rw [← eφ21] at hG
  have hI := inv_of hG
  refine lv_aload_n hx hb dLooks_copy_30 rfl (lv_at hl 0 rfl) ?_
  refine lv_iload_n hx hb dLooks_copy_31 rfl (lv_at hl 2 rfl) ?_
  refine lv_aload_n hx hb dLooks_copy_32 rfl (lv_at hl 1 rfl) ?_
  refine lv_iload_n hx hb dLooks_copy_33 rfl (lv_at hl 2 rfl) ?_
  refine pu_Vi (rest := [.int x2, .ref (γ.2.2.2 6)]) S hC (f9_Looks_numberOf l γ A κ φ21 ψ x2) meLooks_numberOf qw_dce361ad2f ⟨Nat.le_of_ble_eq_true rfl, Nat.le_of_ble_eq_true rfl⟩ (rv_9 hC hI) hG rfl hl.1 rfl (Nat.le_of_ble_eq_true rfl) dLooks_copy_34 ⟨Nat.zero_le _, Nat.zero_le _⟩ (fun r22 hr22 => ?_)
  obtain ⟨hr22, er22⟩ := hr22
  refine mu_Vv (rest := []) S hC (fun q h => hA q (Nat.le_trans hS.1 h)) (fun q h => h) hS (f6_Looks_setNumber l γ A κ φ21 ψ x2 r22) meLooks_setNumber qw_58cf4eec0a ⟨Nat.le_of_ble_eq_true rfl, Nat.le_of_ble_eq_true rfl⟩ (rv_6 hC hI) hG rfl hl.1 rfl (Nat.le_of_ble_eq_true rfl) dLooks_copy_37 ⟨Nat.le_refl _, Nat.le_refl _⟩ (fun H locs hG hS _ _ => ?_)
  obtain ⟨φ24, eφ24⟩ : ∃ z : gF, z = up φ21 7 (P_Looks_setNumber (κ 6) (φ21 7) x2 r22) := ⟨_, rfl⟩
  rw [← eφ24] at hG
  have hI := inv_of hG
  refine lv_aload_n hx hb dLooks_copy_40 rfl (lv_at hl 0 rfl) ?_
  refine of_get S hC (of_6_5 hI) in_Looks rfl (by decide) qw_50f3c1330a dLooks_copy_41 ?_
  refine lv_iload_n hx hb dLooks_copy_44 rfl (lv_at hl 2 rfl) ?_
  refine lv_aload_n hx hb dLooks_copy_45 rfl (lv_at hl 1 rfl) ?_
  refine of_get S hC (of_9_5 hI) in_Looks rfl (by decide) qw_50f3c1330a dLooks_copy_46 ?_
  refine lv_iload_n hx hb dLooks_copy_49 rfl (lv_at hl 2 rfl) ?_
  refine mu_Vv (rest := []) S hC (fun q h => hA q (Nat.le_trans hS.1 h)) (fun q h => h) hS (f7_Rows_copy l γ A κ φ24 ψ x2 x2) meRows_copy qw_4050b11111 ⟨Nat.le_of_ble_eq_true rfl, Nat.le_of_ble_eq_true rfl⟩ (rv_7 hC hI) hG rfl hl.1 rfl (Nat.le_of_ble_eq_true rfl) dLooks_copy_50 ⟨Nat.le_refl _, Nat.le_refl _⟩ (fun H locs hG hS _ _ => ?_)
  obtain ⟨ψ26, eψ26⟩ : ∃ z : gG, z = up ψ 8 (P_Rows_copy (κ 9) (κ 10) (ψ 8) (ψ 10) x2 x2) := ⟨_, rfl⟩
  rw [← eψ26] at hG
  have hI := inv_of hG
  exact hE _ _ _ _ hS (by have hO2 : Oq OUT (φ24, ψ26) := (by subst eψ26 eφ24 er22 eφ21 er19 eφ18 er16 er15 er14; exact hO.tr rfl); rw [hO2.eq]; exact hG) dLooks_copy_53
