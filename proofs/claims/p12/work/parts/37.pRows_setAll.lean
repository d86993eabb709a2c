theorem qw_0778b52d37 : (Cond.methodLink R_Rows 31 yRows_has) ∈ bs_W0 := bs_in (in_tables_1_3 (List.mem_of_getElem? (i := 149) rfl)) rfl
theorem qw_c9d4ab67c5 : (Cond.methodLink R_Rows 35 ⟨"java/lang/System", "arraycopy", "(Ljava/lang/Object;ILjava/lang/Object;II)V"⟩) ∈ bs_W0 := bs_in (in_tables_1_3 (List.mem_of_getElem? (i := 153) rfl)) rfl
theorem qw_d8fd3cc6ff : (Cond.native ⟨"java/lang/System", "arraycopy", "(Ljava/lang/Object;ILjava/lang/Object;II)V"⟩) ∈ bs_W0 := bs_in (in_tables_1_1 (List.mem_of_getElem? (i := 98) rfl)) rfl
theorem qw_fe691cbd75 : (Cond.static ⟨"java/lang/System", "arraycopy", "(Ljava/lang/Object;ILjava/lang/Object;II)V"⟩) ∈ bs_W0 := bs_in (in_tables_1_1 (List.mem_of_getElem? (i := 97) rfl)) rfl
theorem qw_3f8a6f3ebd : (Cond.initialized "java/lang/System") ∈ bs_W0 := bs_in (in_tables_1_1 (List.mem_of_getElem? (i := 6) rfl)) rfl
theorem qw_b87aa9f9e0 : (Cond.methodLink R_Operators 43 yLogic_not) ∈ bs_W0 := bs_in (in_tables_1_3 (List.mem_of_getElem? (i := 211) rfl)) rfl
theorem qw_6899d83413 : (Cond.methodLink R_Operators 39 yLooks_setNumber) ∈ bs_W0 := bs_in (in_tables_1_3 (List.mem_of_getElem? (i := 210) rfl)) rfl
theorem qw_f99ad17fe5 : (Cond.methodLink R_Operators 61 Lib.Math.abs.name) ∈ bs_W0 := bs_in (in_tables_1_3 (List.mem_of_getElem? (i := 225) rfl)) rfl
theorem qw_33d0c54276 : (Cond.methodLink R_Operators 58 yRows_set) ∈ bs_W0 := bs_in (in_tables_1_3 (List.mem_of_getElem? (i := 224) rfl)) rfl
theorem qw_c191710e5d : (Cond.methodLink R_Operators 24 yLooks_isFixed) ∈ bs_W0 := bs_in (in_tables_1_3 (List.mem_of_getElem? (i := 197) rfl)) rfl
theorem qw_97c82781ec : (Cond.methodLink R_Operators 28 yLooks_note) ∈ bs_W0 := bs_in (in_tables_1_3 (List.mem_of_getElem? (i := 201) rfl)) rfl
theorem qw_99a6d7a0dd : (Cond.methodLink R_Operators 32 yOperators_computeUnary) ∈ bs_W0 := bs_in (in_tables_1_3 (List.mem_of_getElem? (i := 202) rfl)) rfl
theorem qw_a4407ee8b0 : (Cond.methodLink R_Operators 108 yLogic_ofSigns) ∈ bs_W0 := bs_in (in_tables_1_4 (List.mem_of_getElem? (i := 29) rfl)) rfl
theorem qw_e9b8c9b1e9 : (Cond.methodLink R_Operators 104 yLogic_ofTruths) ∈ bs_W0 := bs_in (in_tables_1_4 (List.mem_of_getElem? (i := 26) rfl)) rfl
set_option maxHeartbeats 4000000 in
set_option maxRecDepth 100000 in
theorem c_Rows_setAll (l : Launch) (γ : gE) (Z : Nat → Prop) (a M : Nat) (x1 : Int32) (x2 : Int32) (x3 : Int32)  : MU l yRows_setAll bRows_setAll 5 (none) 1 25 0 0 [.ref a, .int x1, .int x2, .int x3] γ Z (cmp γ (fRows γ a M) Z) (mQv (fun H => cmp γ (fRows γ a M) Z H) Z) := by
  refine mu_openV (by decide) (Nat.le_of_ble_eq_true rfl) ?_
  intro p e s m args below meth c ls Q S hnm hC hA hI hE hl
  obtain ⟨hx, hb, hml, hown, hW⟩ := id S
  have hS : va_S Z s.heap s.heap [] := va_S.rf
  have hl : lv_has ls 5 [(0, .ref a), (1, .int x1), (2, .int x2), (3, .int x3)] := hl
  have J3 : ∀ (N3 : Nat) (ls : Array Slot) (H : Heap) (locs : List Loc) (i1 : Int32) (i2 : Int32) (i3 : Int32) (i4 : Int32), cmp γ (fRows γ a M) Z H → va_S Z s.heap H locs → (2147483647 - i4.toInt).toNat = N3 → lv_has ls 5 [(0, .ref a), (1, .int i1), (2, .int i2), (3, .int i3), (4, .int i4)] → W p l e (bs_rm 1 0 0 25) s m args below meth c H locs 0 0 Q (F0 m 3 ls []) := by
    intro N3
    induction N3 using Nat.strongRecOn with
    | ind N3 ih3 =>
      intro ls H locs i1 i2 i3 i4 hI hS hm3 hl
      refine lv_iload hx hb dRows_setAll_3 (lv_at hl 4 rfl) ?_
      refine lv_iload_n hx hb dRows_setAll_5 rfl (lv_at hl 2 rfl) ?_
      refine lv_icmp_ge (tgt := 30) hx hb dRows_setAll_6 (by decide) (fun c4 => ?_) (fun c4 => ?_)
      · exact hE _ _ 30 ls hS hI dRows_setAll_30
      · refine lv_iload hx hb dRows_setAll_9 (lv_at hl 4 rfl) ?_
        refine lv_bipush (v := 64) hx hb dRows_setAll_11 (by decide) ?_
        refine lv_icmp_ge (tgt := 30) hx hb dRows_setAll_13 (by decide) (fun c5 => ?_) (fun c5 => ?_)
        · exact hE _ _ 30 ls hS hI dRows_setAll_30
        · refine lv_aload_n hx hb dRows_setAll_16 rfl (lv_at hl 0 rfl) ?_
          refine lv_iload_n hx hb dRows_setAll_17 rfl (lv_at hl 1 rfl) ?_
          refine lv_iload hx hb dRows_setAll_18 (lv_at hl 4 rfl) ?_
          refine lv_iload_n hx hb dRows_setAll_20 rfl (lv_at hl 3 rfl) ?_
          obtain ⟨ws_2, ⟨b0_2, g0_2, rfl, h1_2, h2_2⟩, hP, hD⟩ := id hI
          have hP : va_P γ.1 vwCl [(a, .inr (5, [.ref b0_2])), (b0_2, .inl (γ.2.2.1, 4 * M, .inr (.inl g0_2)))] _ := hP
          have hD : va_D Z [(a, .inr (5, [.ref b0_2])), (b0_2, .inl (γ.2.2.1, 4 * M, .inr (.inl g0_2)))] := hD
          refine mu_Vv (rest := []) S hC (fun q h => hA q (Nat.le_trans hS.1 h)) (fun q h => h) hS (c_Rows_set l γ Z a M i1 i4 i3) meRows_set qw_b8cf967c79 ⟨Nat.le_of_ble_eq_true rfl, Nat.le_of_ble_eq_true rfl⟩ (va_recv hC.1 hP (ci := 5) (q0 := 0) rfl rfl) hI rfl hl.1 rfl (Nat.le_of_ble_eq_true rfl) dRows_setAll_21 ⟨Nat.le_refl _, Nat.le_refl _⟩ (fun H locs hI hS _ _ => ?_)
          obtain ⟨v6, ev6⟩ : ∃ y : Int32, y = i4 + 1 := ⟨_, rfl⟩
          refine lv_iinc (v := v6) (lv' := [(4, .int v6), (0, .ref a), (1, .int i1), (2, .int i2), (3, .int i3)]) hx hb dRows_setAll_24 hl (k := 4) rfl (by rw [ev6]; rfl) (by decide) rfl (fun ls hl => ?_)
          refine lv_goto (tgt := 3) hx hb dRows_setAll_27 (by decide) ?_
          exact ih3 _ (by have q1 : i4.toInt < 2147483647 := (by first | exact (mu_up (k := i4) (by assumption)).2 | assumption); have q2 := mu_lt q1; rw [← ev6] at q2; omega) ls _ _ i1 i2 i3 v6 hI hS rfl (lv_sub hl [1, 2, 3, 4, 0] rfl)
  refine lv_iconst (v := 0) hx hb dRows_setAll_0 (by decide) ?_
  refine lv_istore (lv' := [(4, .int 0), (0, .ref a), (1, .int x1), (2, .int x2), (3, .int x3)]) hx hb dRows_setAll_1 hl (by decide) rfl (fun ls hl => ?_)
  exact J3 _ ls _ _ x1 x2 x3 0 hI hS rfl (lv_sub hl [1, 2, 3, 4, 0] rfl)
theorem k5_Rows_setAll (l : Launch) (γ : gE) (A : Nat → Prop) (κ : Nat → Nat) (x1 : Int32) (x2 : Int32) (x3 : Int32)  : MU l yRows_setAll bRows_setAll 5 (none) 1 25 0 0 [.ref (γ.2.2.2 5), .int x1, .int x2, .int x3] γ A (INV γ A κ) (mQv (fun H => INV γ A κ H) A) :=
  mu_upv (κ := κ) (κ' := κ) 6 (by decide) (by decide) (fun _ _ _ _ => rfl) (fun Z => c_Rows_setAll l γ Z (γ.2.2.2 5) (κ 8) x1 x2 x3)
theorem k7_Rows_setAll (l : Launch) (γ : gE) (A : Nat → Prop) (κ : Nat → Nat) (x1 : Int32) (x2 : Int32) (x3 : Int32)  : MU l yRows_setAll bRows_setAll 5 (none) 1 25 0 0 [.ref (γ.2.2.2 7), .int x1, .int x2, .int x3] γ A (INV γ A κ) (mQv (fun H => INV γ A κ H) A) :=
  mu_upv (κ := κ) (κ' := κ) 8 (by decide) (by decide) (fun _ _ _ _ => rfl) (fun Z => c_Rows_setAll l γ Z (γ.2.2.2 7) (κ 9) x1 x2 x3)
theorem k10_Rows_setAll (l : Launch) (γ : gE) (A : Nat → Prop) (κ : Nat → Nat) (x1 : Int32) (x2 : Int32) (x3 : Int32)  : MU l yRows_setAll bRows_setAll 5 (none) 1 25 0 0 [.ref (γ.2.2.2 10), .int x1, .int x2, .int x3] γ A (INV γ A κ) (mQv (fun H => INV γ A κ H) A) :=
  mu_upv (κ := κ) (κ' := κ) 10 (by decide) (by decide) (fun _ _ _ _ => rfl) (fun Z => c_Rows_setAll l γ Z (γ.2.2.2 10) (κ 10) x1 x2 x3)

set_option maxHeartbeats 4000000 in
set_option maxRecDepth 100000 in
theorem k5_Rows_copy (l : Launch) (γ : gE) (A : Nat → Prop) (κ : Nat → Nat) (x1 : Int32) (x3 : Int32) : MU l yRows_copy bRows_copy 4 (none) 1 60 0 0 [.ref (γ.2.2.2 5), .int x1, .ref (γ.2.2.2 7), .int x3] γ A (INV γ A κ) (mQv (fun H => INV γ A κ H) A) := by
  refine mu_openV (by decide) (Nat.le_of_ble_eq_true rfl) ?_
  intro p e s m args below meth c ls Q S hnm hC hA hI hE hl
  obtain ⟨hx, hb, hml, hown, hW⟩ := id S
  have hS : va_S A s.heap s.heap [] := va_S.rf
  have hl : lv_has ls 4 [(0, .ref (γ.2.2.2 5)), (1, .int x1), (2, .ref (γ.2.2.2 7)), (3, .int x3)] := hl
  refine lv_aload_n hx hb dRows_copy_0 rfl (lv_at hl 0 rfl) ?_
  refine lv_iload_n hx hb dRows_copy_1 rfl (lv_at hl 1 rfl) ?_
  refine pu_Vi (rest := []) S hC (k5_Rows_has l γ A κ x1) meRows_has qw_0778b52d37 ⟨Nat.le_of_ble_eq_true rfl, Nat.le_of_ble_eq_true rfl⟩ (rv_5 hC hI) hI rfl hl.1 rfl (Nat.le_of_ble_eq_true rfl) dRows_copy_2 ⟨Nat.zero_le _, Nat.zero_le _⟩ (fun r1 hr1 => ?_)
  refine lv_if_eq (tgt := 34) hx hb dRows_copy_5 (by decide) (fun c1 => ?_) (fun c1 => ?_)
  · exact hE _ _ _ _ hS hI dRows_copy_34
  refine lv_aload_n hx hb dRows_copy_8 rfl (lv_at hl 2 rfl) ?_
  refine lv_iload_n hx hb dRows_copy_9 rfl (lv_at hl 3 rfl) ?_
  refine pu_Vi (rest := []) S hC (k7_Rows_has l γ A κ x3) meRows_has qw_0778b52d37 ⟨Nat.le_of_ble_eq_true rfl, Nat.le_of_ble_eq_true rfl⟩ (rv_7 hC hI) hI rfl hl.1 rfl (Nat.le_of_ble_eq_true rfl) dRows_copy_10 ⟨Nat.zero_le _, Nat.zero_le _⟩ (fun r2 hr2 => ?_)
  refine lv_if_eq (tgt := 34) hx hb dRows_copy_13 (by decide) (fun c2 => ?_) (fun c2 => ?_)
  · exact hE _ _ _ _ hS hI dRows_copy_34
  obtain ⟨Z0, ws0, ⟨b0, g0, rfl, h01, h02⟩, hP0, hD0⟩ := inv_c hI 8 (by decide) (by decide)
  obtain ⟨Z, ⟨ws1, ⟨b1, g1, rfl, h11, h12⟩, hP1, hD1⟩, hZn, hZA, hback⟩ := inv_lift hI hA 6 (by decide) (by decide)
  have hP0 : va_P γ.1 vwCl [(γ.2.2.2 7, .inr (5, [.ref b0])), (b0, .inl (γ.2.2.1, 4 * (κ 9), .inr (.inl g0)))] s.heap := hP0
  have hP1 : va_P γ.1 vwCl [(γ.2.2.2 5, .inr (5, [.ref b1])), (b1, .inl (γ.2.2.1, 4 * (κ 8), .inr (.inl g1)))] s.heap := hP1
  have hD1 : va_D Z [(γ.2.2.2 5, .inr (5, [.ref b1])), (b1, .inl (γ.2.2.1, 4 * (κ 8), .inr (.inl g1)))] := hD1
  have q1 := row4 hr1 c1 h11
  have q2 := row4 hr2 c2 h01
  refine lv_aload_n hx hb dRows_copy_16 rfl (lv_at hl 2 rfl) ?_
  refine va_get (D := γ.1) (ci := 5) (v := .ref b0) (C := R_Rows) (T := T_Rows) (N := 1) (Ts := bs_W0) hx hb hW in_Rows hown hC.1 hP0 0 rfl rfl 0 (by decide) (hW _ qw_05e9c8a29d) (fun _ h9 => h9) rfl dRows_copy_17 ?_
  refine lv_iload_n hx hb dRows_copy_20 rfl (lv_at hl 3 rfl) ?_
  refine lv_iconst (v := 4) hx hb dRows_copy_21 (by decide) ?_
  refine lv_imul hx hb dRows_copy_22 ?_
  refine lv_aload_n hx hb dRows_copy_23 rfl (lv_at hl 0 rfl) ?_
  refine va_get (D := γ.1) (ci := 5) (v := .ref b1) (C := R_Rows) (T := T_Rows) (N := 1) (Ts := bs_W0) hx hb hW in_Rows hown hC.1 hP1 0 rfl rfl 0 (by decide) (hW _ qw_05e9c8a29d) (fun _ h9 => h9) rfl dRows_copy_24 ?_
  refine lv_iload_n hx hb dRows_copy_27 rfl (lv_at hl 1 rfl) ?_
  refine lv_iconst (v := 4) hx hb dRows_copy_28 (by decide) ?_
  refine lv_imul hx hb dRows_copy_29 ?_
  refine lv_iconst (v := 4) hx hb dRows_copy_30 (by decide) ?_
  refine st_copyl hx hb (hml.trans hl.1.symm) hown (hW _ qw_c9d4ab67c5) (hW _ qw_d8fd3cc6ff) (hW _ qw_fe691cbd75) (hW _ qw_3f8a6f3ebd) hC.1 hP1 hD1 hZA hS 1 1 1 (hP0 1 _ rfl) rfl rfl rfl q2.1 q1.1 (by decide) q2.2 q1.2 (Nat.le_of_ble_eq_true rfl) (Nat.le_of_ble_eq_true rfl) dRows_copy_31 (fun H locs hP hD hS hz ho => ?_)
  exact hE _ _ _ _ hS (hback κ H (fun _ _ _ _ => rfl) ⟨_, ⟨b1, _, rfl, h11, h12⟩, hP, hD⟩ (Nat.le_of_eq hz.symm) (fun q _ hq => ho q (fun e9 => hq (by rw [e9]; exact hD1.2 1 _ rfl)))) dRows_copy_34

set_option maxHeartbeats 4000000 in
set_option maxRecDepth 100000 in
theorem k7_Rows_copy (l : Launch) (γ : gE) (A : Nat → Prop) (κ : Nat → Nat) (x1 : Int32) (x3 : Int32) : MU l yRows_copy bRows_copy 4 (none) 1 60 0 0 [.ref (γ.2.2.2 7), .int x1, .ref (γ.2.2.2 10), .int x3] γ A (INV γ A κ) (mQv (fun H => INV γ A κ H) A) := by
  refine mu_openV (by decide) (Nat.le_of_ble_eq_true rfl) ?_
  intro p e s m args below meth c ls Q S hnm hC hA hI hE hl
  obtain ⟨hx, hb, hml, hown, hW⟩ := id S
  have hS : va_S A s.heap s.heap [] := va_S.rf
  have hl : lv_has ls 4 [(0, .ref (γ.2.2.2 7)), (1, .int x1), (2, .ref (γ.2.2.2 10)), (3, .int x3)] := hl
  refine lv_aload_n hx hb dRows_copy_0 rfl (lv_at hl 0 rfl) ?_
  refine lv_iload_n hx hb dRows_copy_1 rfl (lv_at hl 1 rfl) ?_
  refine pu_Vi (rest := []) S hC (k7_Rows_has l γ A κ x1) meRows_has qw_0778b52d37 ⟨Nat.le_of_ble_eq_true rfl, Nat.le_of_ble_eq_true rfl⟩ (rv_7 hC hI) hI rfl hl.1 rfl (Nat.le_of_ble_eq_true rfl) dRows_copy_2 ⟨Nat.zero_le _, Nat.zero_le _⟩ (fun r1 hr1 => ?_)
  refine lv_if_eq (tgt := 34) hx hb dRows_copy_5 (by decide) (fun c1 => ?_) (fun c1 => ?_)
  · exact hE _ _ _ _ hS hI dRows_copy_34
  refine lv_aload_n hx hb dRows_copy_8 rfl (lv_at hl 2 rfl) ?_
  refine lv_iload_n hx hb dRows_copy_9 rfl (lv_at hl 3 rfl) ?_
  refine pu_Vi (rest := []) S hC (k10_Rows_has l γ A κ x3) meRows_has qw_0778b52d37 ⟨Nat.le_of_ble_eq_true rfl, Nat.le_of_ble_eq_true rfl⟩ (rv_10 hC hI) hI rfl hl.1 rfl (Nat.le_of_ble_eq_true rfl) dRows_copy_10 ⟨Nat.zero_le _, Nat.zero_le _⟩ (fun r2 hr2 => ?_)
  refine lv_if_eq (tgt := 34) hx hb dRows_copy_13 (by decide) (fun c2 => ?_) (fun c2 => ?_)
  · exact hE _ _ _ _ hS hI dRows_copy_34
  obtain ⟨Z0, ws0, ⟨b0, g0, rfl, h01, h02⟩, hP0, hD0⟩ := inv_c hI 10 (by decide) (by decide)
  obtain ⟨Z, ⟨ws1, ⟨b1, g1, rfl, h11, h12⟩, hP1, hD1⟩, hZn, hZA, hback⟩ := inv_lift hI hA 8 (by decide) (by decide)
  have hP0 : va_P γ.1 vwCl [(γ.2.2.2 10, .inr (5, [.ref b0])), (b0, .inl (γ.2.2.1, 4 * (κ 10), .inr (.inl g0)))] s.heap := hP0
  have hP1 : va_P γ.1 vwCl [(γ.2.2.2 7, .inr (5, [.ref b1])), (b1, .inl (γ.2.2.1, 4 * (κ 9), .inr (.inl g1)))] s.heap := hP1
  have hD1 : va_D Z [(γ.2.2.2 7, .inr (5, [.ref b1])), (b1, .inl (γ.2.2.1, 4 * (κ 9), .inr (.inl g1)))] := hD1
  have q1 := row4 hr1 c1 h11
  have q2 := row4 hr2 c2 h01
  refine lv_aload_n hx hb dRows_copy_16 rfl (lv_at hl 2 rfl) ?_
  refine va_get (D := γ.1) (ci := 5) (v := .ref b0) (C := R_Rows) (T := T_Rows) (N := 1) (Ts := bs_W0) hx hb hW in_Rows hown hC.1 hP0 0 rfl rfl 0 (by decide) (hW _ qw_05e9c8a29d) (fun _ h9 => h9) rfl dRows_copy_17 ?_
  refine lv_iload_n hx hb dRows_copy_20 rfl (lv_at hl 3 rfl) ?_
  refine lv_iconst (v := 4) hx hb dRows_copy_21 (by decide) ?_
  refine lv_imul hx hb dRows_copy_22 ?_
  refine lv_aload_n hx hb dRows_copy_23 rfl (lv_at hl 0 rfl) ?_
  refine va_get (D := γ.1) (ci := 5) (v := .ref b1) (C := R_Rows) (T := T_Rows) (N := 1) (Ts := bs_W0) hx hb hW in_Rows hown hC.1 hP1 0 rfl rfl 0 (by decide) (hW _ qw_05e9c8a29d) (fun _ h9 => h9) rfl dRows_copy_24 ?_
  refine lv_iload_n hx hb dRows_copy_27 rfl (lv_at hl 1 rfl) ?_
  refine lv_iconst (v := 4) hx hb dRows_copy_28 (by decide) ?_
  refine lv_imul hx hb dRows_copy_29 ?_
  refine lv_iconst (v := 4) hx hb dRows_copy_30 (by decide) ?_
  refine st_copyl hx hb (hml.trans hl.1.symm) hown (hW _ qw_c9d4ab67c5) (hW _ qw_d8fd3cc6ff) (hW _ qw_fe691cbd75) (hW _ qw_3f8a6f3ebd) hC.1 hP1 hD1 hZA hS 1 1 1 (hP0 1 _ rfl) rfl rfl rfl q2.1 q1.1 (by decide) q2.2 q1.2 (Nat.le_of_ble_eq_true rfl) (Nat.le_of_ble_eq_true rfl) dRows_copy_31 (fun H locs hP hD hS hz ho => ?_)
  exact hE _ _ _ _ hS (hback κ H (fun _ _ _ _ => rfl) ⟨_, ⟨b1, _, rfl, h11, h12⟩, hP, hD⟩ (Nat.le_of_eq hz.symm) (fun q _ hq => ho q (fun e9 => hq (by rw [e9]; exact hD1.2 1 _ rfl)))) dRows_copy_34

set_option maxHeartbeats 4000000 in
set_option maxRecDepth 100000 in
theorem k10_Rows_copy (l : Launch) (γ : gE) (A : Nat → Prop) (κ : Nat → Nat) (x1 : Int32) (x3 : Int32) : MU l yRows_copy bRows_copy 4 (none) 1 60 0 0 [.ref (γ.2.2.2 10), .int x1, .ref (γ.2.2.2 5), .int x3] γ A (INV γ A κ) (mQv (fun H => INV γ A κ H) A) := by
  refine mu_openV (by decide) (Nat.le_of_ble_eq_true rfl) ?_
  intro p e s m args below meth c ls Q S hnm hC hA hI hE hl
  obtain ⟨hx, hb, hml, hown, hW⟩ := id S
  have hS : va_S A s.heap s.heap [] := va_S.rf
  have hl : lv_has ls 4 [(0, .ref (γ.2.2.2 10)), (1, .int x1), (2, .ref (γ.2.2.2 5)), (3, .int x3)] := hl
  refine lv_aload_n hx hb dRows_copy_0 rfl (lv_at hl 0 rfl) ?_
  refine lv_iload_n hx hb dRows_copy_1 rfl (lv_at hl 1 rfl) ?_
  refine pu_Vi (rest := []) S hC (k10_Rows_has l γ A κ x1) meRows_has qw_0778b52d37 ⟨Nat.le_of_ble_eq_true rfl, Nat.le_of_ble_eq_true rfl⟩ (rv_10 hC hI) hI rfl hl.1 rfl (Nat.le_of_ble_eq_true rfl) dRows_copy_2 ⟨Nat.zero_le _, Nat.zero_le _⟩ (fun r1 hr1 => ?_)
  refine lv_if_eq (tgt := 34) hx hb dRows_copy_5 (by decide) (fun c1 => ?_) (fun c1 => ?_)
  · exact hE _ _ _ _ hS hI dRows_copy_34
  refine lv_aload_n hx hb dRows_copy_8 rfl (lv_at hl 2 rfl) ?_
  refine lv_iload_n hx hb dRows_copy_9 rfl (lv_at hl 3 rfl) ?_
  refine pu_Vi (rest := []) S hC (k5_Rows_has l γ A κ x3) meRows_has qw_0778b52d37 ⟨Nat.le_of_ble_eq_true rfl, Nat.le_of_ble_eq_true rfl⟩ (rv_5 hC hI) hI rfl hl.1 rfl (Nat.le_of_ble_eq_true rfl) dRows_copy_10 ⟨Nat.zero_le _, Nat.zero_le _⟩ (fun r2 hr2 => ?_)
  refine lv_if_eq (tgt := 34) hx hb dRows_copy_13 (by decide) (fun c2 => ?_) (fun c2 => ?_)
  · exact hE _ _ _ _ hS hI dRows_copy_34
  obtain ⟨Z0, ws0, ⟨b0, g0, rfl, h01, h02⟩, hP0, hD0⟩ := inv_c hI 6 (by decide) (by decide)
  obtain ⟨Z, ⟨ws1, ⟨b1, g1, rfl, h11, h12⟩, hP1, hD1⟩, hZn, hZA, hback⟩ := inv_lift hI hA 10 (by decide) (by decide)
  have hP0 : va_P γ.1 vwCl [(γ.2.2.2 5, .inr (5, [.ref b0])), (b0, .inl (γ.2.2.1, 4 * (κ 8), .inr (.inl g0)))] s.heap := hP0
  have hP1 : va_P γ.1 vwCl [(γ.2.2.2 10, .inr (5, [.ref b1])), (b1, .inl (γ.2.2.1, 4 * (κ 10), .inr (.inl g1)))] s.heap := hP1
  have hD1 : va_D Z [(γ.2.2.2 10, .inr (5, [.ref b1])), (b1, .inl (γ.2.2.1, 4 * (κ 10), .inr (.inl g1)))] := hD1
  have q1 := row4 hr1 c1 h11
  have q2 := row4 hr2 c2 h01
  refine lv_aload_n hx hb dRows_copy_16 rfl (lv_at hl 2 rfl) ?_
  refine va_get (D := γ.1) (ci := 5) (v := .ref b0) (C := R_Rows) (T := T_Rows) (N := 1) (Ts := bs_W0) hx hb hW in_Rows hown hC.1 hP0 0 rfl rfl 0 (by decide) (hW _ qw_05e9c8a29d) (fun _ h9 => h9) rfl dRows_copy_17 ?_
  refine lv_iload_n hx hb dRows_copy_20 rfl (lv_at hl 3 rfl) ?_
  refine lv_iconst (v := 4) hx hb dRows_copy_21 (by decide) ?_
  refine lv_imul hx hb dRows_copy_22 ?_
  refine lv_aload_n hx hb dRows_copy_23 rfl (lv_at hl 0 rfl) ?_
  refine va_get (D := γ.1) (ci := 5) (v := .ref b1) (C := R_Rows) (T := T_Rows) (N := 1) (Ts := bs_W0) hx hb hW in_Rows hown hC.1 hP1 0 rfl rfl 0 (by decide) (hW _ qw_05e9c8a29d) (fun _ h9 => h9) rfl dRows_copy_24 ?_
  refine lv_iload_n hx hb dRows_copy_27 rfl (lv_at hl 1 rfl) ?_
  refine lv_iconst (v := 4) hx hb dRows_copy_28 (by decide) ?_
  refine lv_imul hx hb dRows_copy_29 ?_
  refine lv_iconst (v := 4) hx hb dRows_copy_30 (by decide) ?_
  refine st_copyl hx hb (hml.trans hl.1.symm) hown (hW _ qw_c9d4ab67c5) (hW _ qw_d8fd3cc6ff) (hW _ qw_fe691cbd75) (hW _ qw_3f8a6f3ebd) hC.1 hP1 hD1 hZA hS 1 1 1 (hP0 1 _ rfl) rfl rfl rfl q2.1 q1.1 (by decide) q2.2 q1.2 (Nat.le_of_ble_eq_true rfl) (Nat.le_of_ble_eq_true rfl) dRows_copy_31 (fun H locs hP hD hS hz ho => ?_)
  exact hE _ _ _ _ hS (hback κ H (fun _ _ _ _ => rfl) ⟨_, ⟨b1, _, rfl, h11, h12⟩, hP, hD⟩ (Nat.le_of_eq hz.symm) (fun q _ hq => ho q (fun e9 => hq (by rw [e9]; exact hD1.2 1 _ rfl)))) dRows_copy_34

set_option maxHeartbeats 4000000 in
set_option maxRecDepth 100000 in
theorem k_TypeBook_refused (l : Launch) (γ : gE) (A : Nat → Prop) (κ : Nat → Nat) (x1 : Int32) (x2 : Int32) : MU l yTypeBook_refused bTypeBook_refused 3 (some .int) 0 0 0 0 [.ref (γ.2.2.2 0), .int x1, .int x2] γ A (INV γ A κ) (mQi (fun r H => True ∧ INV γ A κ H) A) := by
  refine mu_openI (by decide) (Nat.le_of_ble_eq_true rfl) ?_
  intro p e s m args below meth c ls Q S hnm hC hA hI hE hl
  obtain ⟨hx, hb, hml, hown, hW⟩ := id S
  have hS : va_S A s.heap s.heap [] := va_S.rf
  have hl : lv_has ls 3 [(0, .ref (γ.2.2.2 0)), (1, .int x1), (2, .int x2)] := hl
  refine lv_aload_n hx hb dTypeBook_refused_0 rfl (lv_at hl 0 rfl) ?_
  refine lv_iload_n hx hb dTypeBook_refused_1 rfl (lv_at hl 2 rfl) ?_
  refine iv_fault S hC hI (fun q h => hA q (Nat.le_trans hS.1 h)) hS qw_464f80981e dTypeBook_refused_2 (fun H locs hI hS => ?_)
  refine lv_iload_n hx hb dTypeBook_refused_5 rfl (lv_at hl 1 rfl) ?_
  refine lv_ineg hx hb dTypeBook_refused_6 ?_
  refine lv_topi (fun v2 ev2 => ?_)
  exact hE _ _ _ _ _ hS ⟨trivial, hI⟩ dTypeBook_refused_7

set_option maxHeartbeats 4000000 in
set_option maxRecDepth 100000 in
theorem k_Operators_computeUnary (l : Launch) (γ : gE) (A : Nat → Prop) (κ : Nat → Nat) (x1 : Int32) (x2 : Int32) (x3 : Int32) : MU l yOperators_computeUnary bOperators_computeUnary 6 (none) 2 43 0 0 [.ref (γ.2.2.2 11), .int x1, .int x2, .int x3] γ A (INV γ A κ) (mQv (fun H => INV γ A κ H) A) := by
  refine mu_openV (by decide) (Nat.le_of_ble_eq_true rfl) ?_
  intro p e s m args below meth c ls Q S hnm hC hA hI hE hl
  obtain ⟨hx, hb, hml, hown, hW⟩ := id S
  have hS : va_S A s.heap s.heap [] := va_S.rf
  have hl : lv_has ls 6 [(0, .ref (γ.2.2.2 11)), (1, .int x1), (2, .int x2), (3, .int x3)] := hl
  have J164 : ∀ (ls : Array Slot) (H : Heap) (locs : List Loc) (i1 : Int32) (i2 : Int32) (i3 : Int32) (i4 : Int32) (t0 : Int32) (t1 : Int32), INV γ A κ H → va_S A s.heap H locs → lv_has ls 6 [(0, .ref (γ.2.2.2 11)), (1, .int i1), (2, .int i2), (3, .int i3), (4, .int i4)] → W p l e (bs_rm 2 0 0 43) s m args below meth c H locs 0 0 Q (F0 m 164 ls [.int t0, .int t1, .ref (γ.2.2.2 9)]) := by
    intro ls H locs i1 i2 i3 i4 t0 t1 hI hS hl
    refine mu_Vv (rest := []) S hC (fun q h => hA q (Nat.le_trans hS.1 h)) (fun q h => h) hS (k9_Looks_setNumber l γ A κ t1 t0) meLooks_setNumber qw_6899d83413 ⟨Nat.le_of_ble_eq_true rfl, Nat.le_of_ble_eq_true rfl⟩ (rv_9 hC hI) hI rfl hl.1 rfl (Nat.le_of_ble_eq_true rfl) dOperators_computeUnary_164 ⟨Nat.le_refl _, Nat.le_refl _⟩ (fun H locs hI hS _ _ => ?_)
    exact hE _ _ _ _ hS hI dOperators_computeUnary_167
  have J82 : ∀ (N82 : Nat) (ls : Array Slot) (H : Heap) (locs : List Loc) (i1 : Int32) (i2 : Int32) (i3 : Int32) (i4 : Int32) (i5 : Int32), INV γ A κ H → va_S A s.heap H locs → (2147483647 - i5.toInt).toNat = N82 → lv_has ls 6 [(0, .ref (γ.2.2.2 11)), (1, .int i1), (2, .int i2), (3, .int i3), (4, .int i4), (5, .int i5)] → W p l e (bs_rm 2 0 0 43) s m args below meth c H locs 0 0 Q (F0 m 82 ls []) := by
    intro N82
    induction N82 using Nat.strongRecOn with
    | ind N82 ih82 =>
      intro ls H locs i1 i2 i3 i4 i5 hI hS hm82 hl
      refine lv_iload hx hb dOperators_computeUnary_82 (lv_at hl 5 rfl) ?_
      refine lv_aload_n hx hb dOperators_computeUnary_84 rfl (lv_at hl 0 rfl) ?_
      refine of_get S hC (of_11_0 hI) in_Operators rfl (by decide) qw_46160f6e07 dOperators_computeUnary_85 ?_
      refine lv_iload_n hx hb dOperators_computeUnary_88 rfl (lv_at hl 3 rfl) ?_
      refine pu_Vi (rest := [.int i5]) S hC (k9_Looks_extentOf l γ A κ i3) meLooks_extentOf qw_b0051a6c7a ⟨Nat.le_of_ble_eq_true rfl, Nat.le_of_ble_eq_true rfl⟩ (rv_9 hC hI) hI rfl hl.1 rfl (Nat.le_of_ble_eq_true rfl) dOperators_computeUnary_89 ⟨Nat.zero_le _, Nat.zero_le _⟩ (fun r27 hr27 => ?_)
      refine lv_icmp_ge (tgt := 130) hx hb dOperators_computeUnary_92 (by decide) (fun c28 => ?_) (fun c28 => ?_)
      · refine lv_goto (tgt := 167) hx hb dOperators_computeUnary_130 (by decide) ?_
        exact hE _ _ _ _ hS hI dOperators_computeUnary_167
      · refine lv_aload_n hx hb dOperators_computeUnary_95 rfl (lv_at hl 0 rfl) ?_
        refine of_get S hC (of_11_0 hI) in_Operators rfl (by decide) qw_46160f6e07 dOperators_computeUnary_96 ?_
        refine of_getN S hC (of_9_5 hI) in_Looks rfl (by decide) qn_de7362ca2e dOperators_computeUnary_99 ?_
        refine lv_iload_n hx hb dOperators_computeUnary_102 rfl (lv_at hl 1 rfl) ?_
        refine lv_iload hx hb dOperators_computeUnary_103 (lv_at hl 5 rfl) ?_
        refine lv_aload_n hx hb dOperators_computeUnary_105 rfl (lv_at hl 0 rfl) ?_
        refine of_get S hC (of_11_0 hI) in_Operators rfl (by decide) qw_46160f6e07 dOperators_computeUnary_106 ?_
        refine of_getN S hC (of_9_5 hI) in_Looks rfl (by decide) qn_de7362ca2e dOperators_computeUnary_109 ?_
        refine lv_iload_n hx hb dOperators_computeUnary_112 rfl (lv_at hl 3 rfl) ?_
        refine lv_iload hx hb dOperators_computeUnary_113 (lv_at hl 5 rfl) ?_
        refine pu_Vi (rest := [.int i5, .int i1, .ref (γ.2.2.2 10)]) S hC (k10_Rows_get l γ A κ i3 i5) meRows_get qw_2b8ebea4b9 ⟨Nat.le_of_ble_eq_true rfl, Nat.le_of_ble_eq_true rfl⟩ (rv_10 hC hI) hI rfl hl.1 rfl (Nat.le_of_ble_eq_true rfl) dOperators_computeUnary_115 ⟨Nat.zero_le _, Nat.zero_le _⟩ (fun r29 hr29 => ?_)
        refine pu_Si (rest := [.int i5, .int i1, .ref (γ.2.2.2 10)]) S hC (s_Logic_not l γ (INV γ A κ) r29) meLogic_not qw_b87aa9f9e0 ⟨Nat.le_of_ble_eq_true rfl, Nat.le_of_ble_eq_true rfl⟩ hI rfl hl.1 rfl (Nat.le_of_ble_eq_true rfl) dOperators_computeUnary_118 ⟨Nat.zero_le _, Nat.zero_le _⟩ (fun r30 hr30 => ?_)
        refine mu_Vv (rest := []) S hC (fun q h => hA q (Nat.le_trans hS.1 h)) (fun q h => h) hS (k10_Rows_set l γ A κ i1 i5 r30) meRows_set qw_33d0c54276 ⟨Nat.le_of_ble_eq_true rfl, Nat.le_of_ble_eq_true rfl⟩ (rv_10 hC hI) hI rfl hl.1 rfl (Nat.le_of_ble_eq_true rfl) dOperators_computeUnary_121 ⟨Nat.le_refl _, Nat.le_refl _⟩ (fun H locs hI hS _ _ => ?_)
        obtain ⟨v32, ev32⟩ : ∃ y : Int32, y = i5 + 1 := ⟨_, rfl⟩
        refine lv_iinc (v := v32) (lv' := [(5, .int v32), (0, .ref (γ.2.2.2 11)), (1, .int i1), (2, .int i2), (3, .int i3), (4, .int i4)]) hx hb dOperators_computeUnary_124 hl (k := 5) rfl (by rw [ev32]; rfl) (by decide) rfl (fun ls hl => ?_)
        refine lv_goto (tgt := 82) hx hb dOperators_computeUnary_127 (by decide) ?_
        exact ih82 _ (by have q1 : i5.toInt < 2147483647 := (by first | exact (mu_up (k := i5) (by assumption)).2 | assumption); have q2 := mu_lt q1; rw [← ev32] at q2; omega) ls _ _ i1 i2 i3 i4 v32 hI hS rfl (lv_sub hl [1, 2, 3, 4, 5, 0] rfl)
  refine lv_aload_n hx hb dOperators_computeUnary_0 rfl (lv_at hl 0 rfl) ?_
  refine of_get S hC (of_11_0 hI) in_Operators rfl (by decide) qw_46160f6e07 dOperators_computeUnary_1 ?_
  refine lv_iload_n hx hb dOperators_computeUnary_4 rfl (lv_at hl 3 rfl) ?_
  refine pu_Vi (rest := []) S hC (k9_Looks_numberOf l γ A κ x3) meLooks_numberOf qw_567f1aae5f ⟨Nat.le_of_ble_eq_true rfl, Nat.le_of_ble_eq_true rfl⟩ (rv_9 hC hI) hI rfl hl.1 rfl (Nat.le_of_ble_eq_true rfl) dOperators_computeUnary_5 ⟨Nat.zero_le _, Nat.zero_le _⟩ (fun r33 hr33 => ?_)
  refine lv_istore (lv' := [(4, .int r33), (0, .ref (γ.2.2.2 11)), (1, .int x1), (2, .int x2), (3, .int x3)]) hx hb dOperators_computeUnary_8 hl (by decide) rfl (fun ls hl => ?_)
  refine lv_aload_n hx hb dOperators_computeUnary_10 rfl (lv_at hl 1 rfl) ?_
  refine of_get S hC (of_11_0 hI) in_Operators rfl (by decide) qw_46160f6e07 dOperators_computeUnary_11 ?_
  refine lv_iload_n hx hb dOperators_computeUnary_14 rfl (lv_at hl 4 rfl) ?_
  refine pu_Vi (rest := []) S hC (k9_Looks_classOf l γ A κ x3) meLooks_classOf qw_2e1b0e0eff ⟨Nat.le_of_ble_eq_true rfl, Nat.le_of_ble_eq_true rfl⟩ (rv_9 hC hI) hI rfl hl.1 rfl (Nat.le_of_ble_eq_true rfl) dOperators_computeUnary_15 ⟨Nat.zero_le _, Nat.zero_le _⟩ (fun r34 hr34 => ?_)
  by_cases k35 : r34 = 0
  · subst k35
    refine lv_tableIn (tgt := 63) hx hb dOperators_computeUnary_18 (by decide) (by decide) rfl (by decide) ?_
    refine lv_aload_n hx hb dOperators_computeUnary_63 rfl (lv_at hl 1 rfl) ?_
    refine of_get S hC (of_11_0 hI) in_Operators rfl (by decide) qw_46160f6e07 dOperators_computeUnary_64 ?_
    refine lv_iload_n hx hb dOperators_computeUnary_67 rfl (lv_at hl 2 rfl) ?_
    refine lv_iload hx hb dOperators_computeUnary_68 (lv_at hl 0 rfl) ?_
    refine pu_Si (rest := [.int x1, .ref (γ.2.2.2 9)]) S hC (s_Logic_not l γ (INV γ A κ) r33) meLogic_not qw_b87aa9f9e0 ⟨Nat.le_of_ble_eq_true rfl, Nat.le_of_ble_eq_true rfl⟩ hI rfl hl.1 rfl (Nat.le_of_ble_eq_true rfl) dOperators_computeUnary_70 ⟨Nat.zero_le _, Nat.zero_le _⟩ (fun r36 hr36 => ?_)
    refine mu_Vv (rest := []) S hC (fun q h => hA q (Nat.le_trans hS.1 h)) (fun q h => h) hS (k9_Looks_setNumber l γ A κ x1 r36) meLooks_setNumber qw_6899d83413 ⟨Nat.le_of_ble_eq_true rfl, Nat.le_of_ble_eq_true rfl⟩ (rv_9 hC hI) hI rfl hl.1 rfl (Nat.le_of_ble_eq_true rfl) dOperators_computeUnary_73 ⟨Nat.le_refl _, Nat.le_refl _⟩ (fun H locs hI hS _ _ => ?_)
    refine lv_goto (tgt := 167) hx hb dOperators_computeUnary_76 (by decide) ?_
    exact hE _ _ _ _ hS hI dOperators_computeUnary_167
  by_cases k38 : r34 = 1
  · subst k38
    refine lv_tableIn (tgt := 48) hx hb dOperators_computeUnary_18 (by decide) (by decide) rfl (by decide) ?_
    refine lv_aload_n hx hb dOperators_computeUnary_48 rfl (lv_at hl 1 rfl) ?_
    refine of_get S hC (of_11_0 hI) in_Operators rfl (by decide) qw_46160f6e07 dOperators_computeUnary_49 ?_
    refine lv_iload_n hx hb dOperators_computeUnary_52 rfl (lv_at hl 2 rfl) ?_
    refine lv_iconst (v := 1) hx hb dOperators_computeUnary_53 (by decide) ?_
    refine lv_iload hx hb dOperators_computeUnary_54 (lv_at hl 0 rfl) ?_
    refine lv_isub hx hb dOperators_computeUnary_56 ?_
    refine lv_topi (fun v39 ev39 => ?_)
    refine mu_Vv (rest := []) S hC (fun q h => hA q (Nat.le_trans hS.1 h)) (fun q h => h) hS (k9_Looks_setNumber l γ A κ x1 v39) meLooks_setNumber qw_6899d83413 ⟨Nat.le_of_ble_eq_true rfl, Nat.le_of_ble_eq_true rfl⟩ (rv_9 hC hI) hI rfl hl.1 rfl (Nat.le_of_ble_eq_true rfl) dOperators_computeUnary_57 ⟨Nat.le_refl _, Nat.le_refl _⟩ (fun H locs hI hS _ _ => ?_)
    refine lv_goto (tgt := 167) hx hb dOperators_computeUnary_60 (by decide) ?_
    exact hE _ _ _ _ hS hI dOperators_computeUnary_167
  by_cases k41 : r34 = 2
  · subst k41
    refine lv_tableIn (tgt := 133) hx hb dOperators_computeUnary_18 (by decide) (by decide) rfl (by decide) ?_
    refine lv_aload_n hx hb dOperators_computeUnary_133 rfl (lv_at hl 1 rfl) ?_
    refine of_get S hC (of_11_0 hI) in_Operators rfl (by decide) qw_46160f6e07 dOperators_computeUnary_134 ?_
    refine lv_iload_n hx hb dOperators_computeUnary_137 rfl (lv_at hl 2 rfl) ?_
    refine lv_iload_n hx hb dOperators_computeUnary_138 rfl (lv_at hl 3 rfl) ?_
    refine lv_iconst (v := 1) hx hb dOperators_computeUnary_139 (by decide) ?_
    refine lv_icmp_ne (tgt := 149) hx hb dOperators_computeUnary_140 (by decide) (fun c42 => ?_) (fun c42 => ?_)
    · refine lv_iload_n hx hb dOperators_computeUnary_149 rfl (lv_at hl 3 rfl) ?_
      refine lv_iconst (v := 3) hx hb dOperators_computeUnary_150 (by decide) ?_
      refine lv_icmp_ne (tgt := 162) hx hb dOperators_computeUnary_151 (by decide) (fun c43 => ?_) (fun c43 => ?_)
      · refine lv_iload hx hb dOperators_computeUnary_162 (lv_at hl 0 rfl) ?_
        exact J164 ls _ _ x1 x2 x3 r33 r33 x1 hI hS (lv_sub hl [1, 2, 3, 4, 0] rfl)
      · refine lv_iload hx hb dOperators_computeUnary_154 (lv_at hl 0 rfl) ?_
        refine va_mabs (rest := [.int x1, .ref (γ.2.2.2 9)]) hx hb (hml.trans hl.1.symm) hown (hW _ qw_f99ad17fe5) (hW _ qw_788fc9f3dd) (hW _ qw_0001fcaade) (hW _ qw_970e918a43) (Nat.le_of_ble_eq_true rfl) (Nat.le_of_ble_eq_true rfl) (Nat.zero_le _) (Nat.zero_le _) dOperators_computeUnary_156 ?_
        refine lv_topi (fun v44 ev44 => ?_)
        refine lv_goto (tgt := 164) hx hb dOperators_computeUnary_159 (by decide) ?_
        exact J164 ls _ _ x1 x2 x3 r33 v44 x1 hI hS (lv_sub hl [1, 2, 3, 4, 0] rfl)
    · refine lv_iload hx hb dOperators_computeUnary_143 (lv_at hl 0 rfl) ?_
      refine lv_ineg hx hb dOperators_computeUnary_145 ?_
      refine lv_topi (fun v45 ev45 => ?_)
      refine lv_goto (tgt := 164) hx hb dOperators_computeUnary_146 (by decide) ?_
      exact J164 ls _ _ x1 x2 x3 r33 v45 x1 hI hS (lv_sub hl [1, 2, 3, 4, 0] rfl)
  by_cases k46 : r34 = 3
  · subst k46
    refine lv_tableIn (tgt := 79) hx hb dOperators_computeUnary_18 (by decide) (by decide) rfl (by decide) ?_
    refine lv_iconst (v := 0) hx hb dOperators_computeUnary_79 (by decide) ?_
    refine lv_istore (lv' := [(5, .int 0), (4, .int r33), (0, .ref (γ.2.2.2 11)), (1, .int x1), (2, .int x2), (3, .int x3)]) hx hb dOperators_computeUnary_80 hl (by decide) rfl (fun ls hl => ?_)
    exact J82 _ ls _ _ x1 x2 x3 r33 0 hI hS rfl (lv_sub hl [2, 3, 4, 5, 1, 0] rfl)
  refine lv_tableOut (tgt := 133) hx hb dOperators_computeUnary_18 (by have qk35 := lv_neT (a := 0) k35 (by decide); have qk38 := lv_neT (a := 1) k38 (by decide); have qk41 := lv_neT (a := 2) k41 (by decide); have qk46 := lv_neT (a := 3) k46 (by decide); omega) (by decide) ?_
  refine lv_aload_n hx hb dOperators_computeUnary_133 rfl (lv_at hl 1 rfl) ?_
  refine of_get S hC (of_11_0 hI) in_Operators rfl (by decide) qw_46160f6e07 dOperators_computeUnary_134 ?_
  refine lv_iload_n hx hb dOperators_computeUnary_137 rfl (lv_at hl 2 rfl) ?_
  refine lv_iload_n hx hb dOperators_computeUnary_138 rfl (lv_at hl 3 rfl) ?_
  refine lv_iconst (v := 1) hx hb dOperators_computeUnary_139 (by decide) ?_
  refine lv_icmp_ne (tgt := 149) hx hb dOperators_computeUnary_140 (by decide) (fun c47 => ?_) (fun c47 => ?_)
  · refine lv_iload_n hx hb dOperators_computeUnary_149 rfl (lv_at hl 3 rfl) ?_
    refine lv_iconst (v := 3) hx hb dOperators_computeUnary_150 (by decide) ?_
    refine lv_icmp_ne (tgt := 162) hx hb dOperators_computeUnary_151 (by decide) (fun c48 => ?_) (fun c48 => ?_)
    · refine lv_iload hx hb dOperators_computeUnary_162 (lv_at hl 0 rfl) ?_
      exact J164 ls _ _ x1 x2 x3 r33 r33 x1 hI hS (lv_sub hl [1, 2, 3, 4, 0] rfl)
    · refine lv_iload hx hb dOperators_computeUnary_154 (lv_at hl 0 rfl) ?_
      refine va_mabs (rest := [.int x1, .ref (γ.2.2.2 9)]) hx hb (hml.trans hl.1.symm) hown (hW _ qw_f99ad17fe5) (hW _ qw_788fc9f3dd) (hW _ qw_0001fcaade) (hW _ qw_970e918a43) (Nat.le_of_ble_eq_true rfl) (Nat.le_of_ble_eq_true rfl) (Nat.zero_le _) (Nat.zero_le _) dOperators_computeUnary_156 ?_
      refine lv_topi (fun v49 ev49 => ?_)
      refine lv_goto (tgt := 164) hx hb dOperators_computeUnary_159 (by decide) ?_
      exact J164 ls _ _ x1 x2 x3 r33 v49 x1 hI hS (lv_sub hl [1, 2, 3, 4, 0] rfl)
  · refine lv_iload hx hb dOperators_computeUnary_143 (lv_at hl 0 rfl) ?_
    refine lv_ineg hx hb dOperators_computeUnary_145 ?_
    refine lv_topi (fun v50 ev50 => ?_)
    refine lv_goto (tgt := 164) hx hb dOperators_computeUnary_146 (by decide) ?_
    exact J164 ls _ _ x1 x2 x3 r33 v50 x1 hI hS (lv_sub hl [1, 2, 3, 4, 0] rfl)

set_option maxHeartbeats 4000000 in
set_option maxRecDepth 100000 in
theorem k_Operators_unary (l : Launch) (γ : gE) (A : Nat → Prop) (κ : Nat → Nat) (x1 : Int32) (x2 : Int32) (x3 : Int32) : MU l yOperators_unary bOperators_unary 6 (some .int) 3 68 0 0 [.ref (γ.2.2.2 11), .int x1, .int x2, .int x3] γ A (INV γ A κ) (mQi (fun r H => True ∧ INV γ A κ H) A) := by
  refine mu_openI (by decide) (Nat.le_of_ble_eq_true rfl) ?_
  intro p e s m args below meth c ls Q S hnm hC hA hI hE hl
  obtain ⟨hx, hb, hml, hown, hW⟩ := id S
  have hS : va_S A s.heap s.heap [] := va_S.rf
  have hl : lv_has ls 6 [(0, .ref (γ.2.2.2 11)), (1, .int x1), (2, .int x2), (3, .int x3)] := hl
  have J50 : ∀ (ls : Array Slot) (H : Heap) (locs : List Loc) (i1 : Int32) (i2 : Int32) (i3 : Int32) (i4 : Int32) (t0 : Int32), INV γ A κ H → va_S A s.heap H locs → lv_has ls 6 [(0, .ref (γ.2.2.2 11)), (1, .int i1), (2, .int i2), (3, .int i3), (4, .int i4)] → W p l e (bs_rm 3 0 0 68) s m args below meth c H locs 0 0 Q (F0 m 50 ls [.int t0]) := by
    intro ls H locs i1 i2 i3 i4 t0 hI hS hl
    refine lv_istore (lv' := [(5, .int t0), (0, .ref (γ.2.2.2 11)), (1, .int i1), (2, .int i2), (3, .int i3), (4, .int i4)]) hx hb dOperators_unary_50 hl (by decide) rfl (fun ls hl => ?_)
    refine lv_iload hx hb dOperators_unary_52 (lv_at hl 0 rfl) ?_
    refine lv_if_ne (tgt := 59) hx hb dOperators_unary_54 (by decide) (fun c14 => ?_) (fun c14 => ?_)
    · refine lv_aload_n hx hb dOperators_unary_59 rfl (lv_at hl 1 rfl) ?_
      refine of_get S hC (of_11_0 hI) in_Operators rfl (by decide) qw_46160f6e07 dOperators_unary_60 ?_
      refine lv_iload_n hx hb dOperators_unary_63 rfl (lv_at hl 2 rfl) ?_
      refine lv_iload hx hb dOperators_unary_64 (lv_at hl 5 rfl) ?_
      refine lv_aload_n hx hb dOperators_unary_66 rfl (lv_at hl 1 rfl) ?_
      refine of_get S hC (of_11_0 hI) in_Operators rfl (by decide) qw_46160f6e07 dOperators_unary_67 ?_
      refine lv_iload_n hx hb dOperators_unary_70 rfl (lv_at hl 4 rfl) ?_
      refine pu_Vi (rest := [.int i4, .int i1, .ref (γ.2.2.2 9)]) S hC (k9_Looks_extentOf l γ A κ i3) meLooks_extentOf qw_b0051a6c7a ⟨Nat.le_of_ble_eq_true rfl, Nat.le_of_ble_eq_true rfl⟩ (rv_9 hC hI) hI rfl hl.1 rfl (Nat.le_of_ble_eq_true rfl) dOperators_unary_71 ⟨Nat.zero_le _, Nat.zero_le _⟩ (fun r15 hr15 => ?_)
      refine lv_aload_n hx hb dOperators_unary_74 rfl (lv_at hl 1 rfl) ?_
      refine of_get S hC (of_11_0 hI) in_Operators rfl (by decide) qw_46160f6e07 dOperators_unary_75 ?_
      refine lv_iload_n hx hb dOperators_unary_78 rfl (lv_at hl 4 rfl) ?_
      refine pu_Vi (rest := [.int r15, .int i4, .int i1, .ref (γ.2.2.2 9)]) S hC (k9_Looks_isFixed l γ A κ i3) meLooks_isFixed qw_c191710e5d ⟨Nat.le_of_ble_eq_true rfl, Nat.le_of_ble_eq_true rfl⟩ (rv_9 hC hI) hI rfl hl.1 rfl (Nat.le_of_ble_eq_true rfl) dOperators_unary_79 ⟨Nat.zero_le _, Nat.zero_le _⟩ (fun r16 hr16 => ?_)
      refine mu_Vv (rest := []) S hC (fun q h => hA q (Nat.le_trans hS.1 h)) (fun q h => h) hS (k9_Looks_note l γ A κ i1 i4 r15 r16) meLooks_note qw_97c82781ec ⟨Nat.le_of_ble_eq_true rfl, Nat.le_of_ble_eq_true rfl⟩ (rv_9 hC hI) hI rfl hl.1 rfl (Nat.le_of_ble_eq_true rfl) dOperators_unary_82 ⟨Nat.le_refl _, Nat.le_refl _⟩ (fun H locs hI hS _ _ => ?_)
      refine lv_aload_n hx hb dOperators_unary_85 rfl (lv_at hl 1 rfl) ?_
      refine of_get S hC (of_11_0 hI) in_Operators rfl (by decide) qw_46160f6e07 dOperators_unary_86 ?_
      refine lv_iload_n hx hb dOperators_unary_89 rfl (lv_at hl 4 rfl) ?_
      refine pu_Vi (rest := []) S hC (k9_Looks_isFixed l γ A κ i3) meLooks_isFixed qw_c191710e5d ⟨Nat.le_of_ble_eq_true rfl, Nat.le_of_ble_eq_true rfl⟩ (rv_9 hC hI) hI rfl hl.1 rfl (Nat.le_of_ble_eq_true rfl) dOperators_unary_90 ⟨Nat.zero_le _, Nat.zero_le _⟩ (fun r18 hr18 => ?_)
      refine lv_if_eq (tgt := 103) hx hb dOperators_unary_93 (by decide) (fun c19 => ?_) (fun c19 => ?_)
      · refine lv_iconst (v := 0) hx hb dOperators_unary_103 (by decide) ?_
        exact hE _ _ _ _ _ hS ⟨trivial, hI⟩ dOperators_unary_104
      · refine lv_aload_n hx hb dOperators_unary_96 rfl (lv_at hl 1 rfl) ?_
        refine lv_iload_n hx hb dOperators_unary_97 rfl (lv_at hl 2 rfl) ?_
        refine lv_iload_n hx hb dOperators_unary_98 rfl (lv_at hl 3 rfl) ?_
        refine lv_iload_n hx hb dOperators_unary_99 rfl (lv_at hl 4 rfl) ?_
        refine mu_Vv (rest := []) S hC (fun q h => hA q (Nat.le_trans hS.1 h)) (fun q h => h) hS (k_Operators_computeUnary l γ A κ i1 i2 i3) meOperators_computeUnary qw_99a6d7a0dd ⟨Nat.le_of_ble_eq_true rfl, Nat.le_of_ble_eq_true rfl⟩ (rv_11 hC hI) hI rfl hl.1 rfl (Nat.le_of_ble_eq_true rfl) dOperators_unary_100 ⟨Nat.le_refl _, Nat.le_refl _⟩ (fun H locs hI hS _ _ => ?_)
        refine lv_iconst (v := 0) hx hb dOperators_unary_103 (by decide) ?_
        exact hE _ _ _ _ _ hS ⟨trivial, hI⟩ dOperators_unary_104
    · refine lv_iconst (v := 3) hx hb dOperators_unary_57 (by decide) ?_
      exact hE _ _ _ _ _ hS ⟨trivial, hI⟩ dOperators_unary_58
  have J31 : ∀ (ls : Array Slot) (H : Heap) (locs : List Loc) (i1 : Int32) (i2 : Int32) (i3 : Int32) (i4 : Int32), INV γ A κ H → va_S A s.heap H locs → lv_has ls 6 [(0, .ref (γ.2.2.2 11)), (1, .int i1), (2, .int i2), (3, .int i3), (4, .int i4)] → W p l e (bs_rm 3 0 0 68) s m args below meth c H locs 0 0 Q (F0 m 31 ls []) := by
    intro ls H locs i1 i2 i3 i4 hI hS hl
    refine lv_iconst (v := 1) hx hb dOperators_unary_31 (by decide) ?_
    refine lv_goto (tgt := 50) hx hb dOperators_unary_32 (by decide) ?_
    exact J50 ls _ _ i1 i2 i3 i4 1 hI hS (lv_sub hl [0, 1, 2, 3, 4] rfl)
  refine lv_aload_n hx hb dOperators_unary_0 rfl (lv_at hl 0 rfl) ?_
  refine of_get S hC (of_11_0 hI) in_Operators rfl (by decide) qw_46160f6e07 dOperators_unary_1 ?_
  refine lv_iload_n hx hb dOperators_unary_4 rfl (lv_at hl 3 rfl) ?_
  refine pu_Vi (rest := []) S hC (k9_Looks_classOf l γ A κ x3) meLooks_classOf qw_2e1b0e0eff ⟨Nat.le_of_ble_eq_true rfl, Nat.le_of_ble_eq_true rfl⟩ (rv_9 hC hI) hI rfl hl.1 rfl (Nat.le_of_ble_eq_true rfl) dOperators_unary_5 ⟨Nat.zero_le _, Nat.zero_le _⟩ (fun r21 hr21 => ?_)
  refine lv_istore (lv' := [(4, .int r21), (0, .ref (γ.2.2.2 11)), (1, .int x1), (2, .int x2), (3, .int x3)]) hx hb dOperators_unary_8 hl (by decide) rfl (fun ls hl => ?_)
  refine lv_iload_n hx hb dOperators_unary_10 rfl (lv_at hl 3 rfl) ?_
  refine lv_if_ne (tgt := 39) hx hb dOperators_unary_11 (by decide) (fun c22 => ?_) (fun c22 => ?_)
  · refine lv_iload hx hb dOperators_unary_39 (lv_at hl 0 rfl) ?_
    refine lv_iconst (v := 2) hx hb dOperators_unary_41 (by decide) ?_
    refine lv_icmp_ne (tgt := 49) hx hb dOperators_unary_42 (by decide) (fun c23 => ?_) (fun c23 => ?_)
    · refine lv_iconst (v := 0) hx hb dOperators_unary_49 (by decide) ?_
      exact J50 ls _ _ x1 x2 x3 r21 0 hI hS (lv_sub hl [1, 2, 3, 4, 0] rfl)
    · refine lv_iconst (v := 1) hx hb dOperators_unary_45 (by decide) ?_
      refine lv_goto (tgt := 50) hx hb dOperators_unary_46 (by decide) ?_
      exact J50 ls _ _ x1 x2 x3 r21 1 hI hS (lv_sub hl [1, 2, 3, 4, 0] rfl)
  · refine lv_iload hx hb dOperators_unary_14 (lv_at hl 0 rfl) ?_
    refine lv_iconst (v := 1) hx hb dOperators_unary_16 (by decide) ?_
    refine lv_icmp_eq (tgt := 31) hx hb dOperators_unary_17 (by decide) (fun c24 => ?_) (fun c24 => ?_)
    · exact J31 ls _ _ x1 x2 x3 r21 hI hS (lv_sub hl [1, 2, 3, 4, 0] rfl)
    · refine lv_iload hx hb dOperators_unary_20 (lv_at hl 0 rfl) ?_
      refine lv_if_eq (tgt := 31) hx hb dOperators_unary_22 (by decide) (fun c25 => ?_) (fun c25 => ?_)
      · exact J31 ls _ _ x1 x2 x3 r21 hI hS (lv_sub hl [1, 2, 3, 4, 0] rfl)
      · refine lv_iload hx hb dOperators_unary_25 (lv_at hl 0 rfl) ?_
        refine lv_iconst (v := 3) hx hb dOperators_unary_27 (by decide) ?_
        refine lv_icmp_ne (tgt := 35) hx hb dOperators_unary_28 (by decide) (fun c26 => ?_) (fun c26 => ?_)
        · refine lv_iconst (v := 0) hx hb dOperators_unary_35 (by decide) ?_
          refine lv_goto (tgt := 50) hx hb dOperators_unary_36 (by decide) ?_
          exact J50 ls _ _ x1 x2 x3 r21 0 hI hS (lv_sub hl [1, 2, 3, 4, 0] rfl)
        · exact J31 ls _ _ x1 x2 x3 r21 hI hS (lv_sub hl [1, 2, 3, 4, 0] rfl)

set_option maxHeartbeats 4000000 in
set_option maxRecDepth 100000 in
theorem k_Operators_combine (l : Launch) (γ : gE) (A : Nat → Prop) (κ : Nat → Nat) (x1 : Int32) (x2 : Int32) (x3 : Int32) (x4 : Int32) : MU l yOperators_combine bOperators_combine 6 (none) 3 63 0 0 [.ref (γ.2.2.2 11), .int x1, .int x2, .int x3, .int x4] γ A (INV γ A κ) (mQv (fun H => INV γ A κ H) A) := by
  refine mu_openV (by decide) (Nat.le_of_ble_eq_true rfl) ?_
  intro p e s m args below meth c ls Q S hnm hC hA hI hE hl
  obtain ⟨hx, hb, hml, hown, hW⟩ := id S
  have hS : va_S A s.heap s.heap [] := va_S.rf
  have hl : lv_has ls 6 [(0, .ref (γ.2.2.2 11)), (1, .int x1), (2, .int x2), (3, .int x3), (4, .int x4)] := hl
  have J129 : ∀ (N129 : Nat) (ls : Array Slot) (H : Heap) (locs : List Loc) (i1 : Int32) (i2 : Int32) (i3 : Int32) (i4 : Int32) (i5 : Int32), INV γ A κ H → va_S A s.heap H locs → (2147483647 - i5.toInt).toNat = N129 → lv_has ls 6 [(0, .ref (γ.2.2.2 11)), (1, .int i1), (2, .int i2), (3, .int i3), (4, .int i4), (5, .int i5)] → W p l e (bs_rm 3 0 0 63) s m args below meth c H locs 0 0 Q (F0 m 129 ls []) := by
    intro N129
    induction N129 using Nat.strongRecOn with
    | ind N129 ih129 =>
      intro ls H locs i1 i2 i3 i4 i5 hI hS hm129 hl
      refine lv_iload hx hb dOperators_combine_129 (lv_at hl 5 rfl) ?_
      refine lv_aload_n hx hb dOperators_combine_131 rfl (lv_at hl 0 rfl) ?_
      refine of_get S hC (of_11_0 hI) in_Operators rfl (by decide) qw_46160f6e07 dOperators_combine_132 ?_
      refine lv_iload_n hx hb dOperators_combine_135 rfl (lv_at hl 1 rfl) ?_
      refine pu_Vi (rest := [.int i5]) S hC (k9_Looks_extentOf l γ A κ i1) meLooks_extentOf qw_b0051a6c7a ⟨Nat.le_of_ble_eq_true rfl, Nat.le_of_ble_eq_true rfl⟩ (rv_9 hC hI) hI rfl hl.1 rfl (Nat.le_of_ble_eq_true rfl) dOperators_combine_136 ⟨Nat.zero_le _, Nat.zero_le _⟩ (fun r22 hr22 => ?_)
      refine lv_icmp_ge (tgt := 192) hx hb dOperators_combine_139 (by decide) (fun c23 => ?_) (fun c23 => ?_)
      · exact hE _ _ _ _ hS hI dOperators_combine_192
      · refine lv_aload_n hx hb dOperators_combine_142 rfl (lv_at hl 0 rfl) ?_
        refine of_get S hC (of_11_0 hI) in_Operators rfl (by decide) qw_46160f6e07 dOperators_combine_143 ?_
        refine of_getN S hC (of_9_5 hI) in_Looks rfl (by decide) qn_de7362ca2e dOperators_combine_146 ?_
        refine lv_iload_n hx hb dOperators_combine_149 rfl (lv_at hl 1 rfl) ?_
        refine lv_iload hx hb dOperators_combine_150 (lv_at hl 5 rfl) ?_
        refine lv_iload_n hx hb dOperators_combine_152 rfl (lv_at hl 2 rfl) ?_
        refine lv_aload_n hx hb dOperators_combine_153 rfl (lv_at hl 0 rfl) ?_
        refine of_get S hC (of_11_0 hI) in_Operators rfl (by decide) qw_46160f6e07 dOperators_combine_154 ?_
        refine of_getN S hC (of_9_5 hI) in_Looks rfl (by decide) qn_de7362ca2e dOperators_combine_157 ?_
        refine lv_iload_n hx hb dOperators_combine_160 rfl (lv_at hl 3 rfl) ?_
        refine lv_iload hx hb dOperators_combine_161 (lv_at hl 5 rfl) ?_
        refine pu_Vi (rest := [.int i2, .int i5, .int i1, .ref (γ.2.2.2 10)]) S hC (k10_Rows_get l γ A κ i3 i5) meRows_get qw_2b8ebea4b9 ⟨Nat.le_of_ble_eq_true rfl, Nat.le_of_ble_eq_true rfl⟩ (rv_10 hC hI) hI rfl hl.1 rfl (Nat.le_of_ble_eq_true rfl) dOperators_combine_163 ⟨Nat.zero_le _, Nat.zero_le _⟩ (fun r24 hr24 => ?_)
        refine lv_aload_n hx hb dOperators_combine_166 rfl (lv_at hl 0 rfl) ?_
        refine of_get S hC (of_11_0 hI) in_Operators rfl (by decide) qw_46160f6e07 dOperators_combine_167 ?_
        refine of_getN S hC (of_9_5 hI) in_Looks rfl (by decide) qn_de7362ca2e dOperators_combine_170 ?_
        refine lv_iload hx hb dOperators_combine_173 (lv_at hl 4 rfl) ?_
        refine lv_iload hx hb dOperators_combine_175 (lv_at hl 5 rfl) ?_
        refine pu_Vi (rest := [.int r24, .int i2, .int i5, .int i1, .ref (γ.2.2.2 10)]) S hC (k10_Rows_get l γ A κ i4 i5) meRows_get qw_2b8ebea4b9 ⟨Nat.le_of_ble_eq_true rfl, Nat.le_of_ble_eq_true rfl⟩ (rv_10 hC hI) hI rfl hl.1 rfl (Nat.le_of_ble_eq_true rfl) dOperators_combine_177 ⟨Nat.zero_le _, Nat.zero_le _⟩ (fun r25 hr25 => ?_)
        refine pu_Si (rest := [.int i5, .int i1, .ref (γ.2.2.2 10)]) S hC (s_Logic_ofSigns l γ (INV γ A κ) i2 r24 r25) meLogic_ofSigns qw_a4407ee8b0 ⟨Nat.le_of_ble_eq_true rfl, Nat.le_of_ble_eq_true rfl⟩ hI rfl hl.1 rfl (Nat.le_of_ble_eq_true rfl) dOperators_combine_180 ⟨Nat.zero_le _, Nat.zero_le _⟩ (fun r26 hr26 => ?_)
        refine mu_Vv (rest := []) S hC (fun q h => hA q (Nat.le_trans hS.1 h)) (fun q h => h) hS (k10_Rows_set l γ A κ i1 i5 r26) meRows_set qw_33d0c54276 ⟨Nat.le_of_ble_eq_true rfl, Nat.le_of_ble_eq_true rfl⟩ (rv_10 hC hI) hI rfl hl.1 rfl (Nat.le_of_ble_eq_true rfl) dOperators_combine_183 ⟨Nat.le_refl _, Nat.le_refl _⟩ (fun H locs hI hS _ _ => ?_)
        obtain ⟨v28, ev28⟩ : ∃ y : Int32, y = i5 + 1 := ⟨_, rfl⟩
        refine lv_iinc (v := v28) (lv' := [(5, .int v28), (0, .ref (γ.2.2.2 11)), (1, .int i1), (2, .int i2), (3, .int i3), (4, .int i4)]) hx hb dOperators_combine_186 hl (k := 5) rfl (by rw [ev28]; rfl) (by decide) rfl (fun ls hl => ?_)
        refine lv_goto (tgt := 129) hx hb dOperators_combine_189 (by decide) ?_
        exact ih129 _ (by have q1 : i5.toInt < 2147483647 := (by first | exact (mu_up (k := i5) (by assumption)).2 | assumption); have q2 := mu_lt q1; rw [← ev28] at q2; omega) ls _ _ i1 i2 i3 i4 v28 hI hS rfl (lv_sub hl [1, 2, 3, 4, 5, 0] rfl)
  have J88 : ∀ (ls : Array Slot) (H : Heap) (locs : List Loc) (i1 : Int32) (i2 : Int32) (i3 : Int32) (i4 : Int32) (t0 : Int32) (t1 : Int32), INV γ A κ H → va_S A s.heap H locs → lv_has ls 6 [(0, .ref (γ.2.2.2 11)), (1, .int i1), (2, .int i2), (3, .int i3), (4, .int i4)] → W p l e (bs_rm 3 0 0 63) s m args below meth c H locs 0 0 Q (F0 m 88 ls [.int t0, .int t1, .ref (γ.2.2.2 9)]) := by
    intro ls H locs i1 i2 i3 i4 t0 t1 hI hS hl
    refine mu_Vv (rest := []) S hC (fun q h => hA q (Nat.le_trans hS.1 h)) (fun q h => h) hS (k9_Looks_setNumber l γ A κ t1 t0) meLooks_setNumber qw_6899d83413 ⟨Nat.le_of_ble_eq_true rfl, Nat.le_of_ble_eq_true rfl⟩ (rv_9 hC hI) hI rfl hl.1 rfl (Nat.le_of_ble_eq_true rfl) dOperators_combine_88 ⟨Nat.le_refl _, Nat.le_refl _⟩ (fun H locs hI hS _ _ => ?_)
    refine lv_goto (tgt := 192) hx hb dOperators_combine_91 (by decide) ?_
    exact hE _ _ _ _ hS hI dOperators_combine_192
  have J77 : ∀ (ls : Array Slot) (H : Heap) (locs : List Loc) (i1 : Int32) (i2 : Int32) (i3 : Int32) (i4 : Int32) (t0 : Int32) (t1 : Int32) (t2 : Int32) (t3 : Int32), INV γ A κ H → va_S A s.heap H locs → lv_has ls 6 [(0, .ref (γ.2.2.2 11)), (1, .int i1), (2, .int i2), (3, .int i3), (4, .int i4)] → W p l e (bs_rm 3 0 0 63) s m args below meth c H locs 0 0 Q (F0 m 77 ls [.int t0, .int t1, .int t2, .int t3, .ref (γ.2.2.2 9)]) := by
    intro ls H locs i1 i2 i3 i4 t0 t1 t2 t3 hI hS hl
    refine pu_Si (rest := [.int t3, .ref (γ.2.2.2 9)]) S hC (s_Logic_ofTruths l γ (INV γ A κ) t2 t1 t0) meLogic_ofTruths qw_e9b8c9b1e9 ⟨Nat.le_of_ble_eq_true rfl, Nat.le_of_ble_eq_true rfl⟩ hI rfl hl.1 rfl (Nat.le_of_ble_eq_true rfl) dOperators_combine_77 ⟨Nat.zero_le _, Nat.zero_le _⟩ (fun r30 hr30 => ?_)
    refine lv_if_eq (tgt := 87) hx hb dOperators_combine_80 (by decide) (fun c31 => ?_) (fun c31 => ?_)
    · refine lv_iconst (v := 0) hx hb dOperators_combine_87 (by decide) ?_
      exact J88 ls _ _ i1 i2 i3 i4 0 t3 hI hS (lv_sub hl [0, 1, 2, 3, 4] rfl)
    · refine lv_iconst (v := 1) hx hb dOperators_combine_83 (by decide) ?_
      refine lv_goto (tgt := 88) hx hb dOperators_combine_84 (by decide) ?_
      exact J88 ls _ _ i1 i2 i3 i4 1 t3 hI hS (lv_sub hl [0, 1, 2, 3, 4] rfl)
  have J59 : ∀ (ls : Array Slot) (H : Heap) (locs : List Loc) (i1 : Int32) (i2 : Int32) (i3 : Int32) (i4 : Int32) (t0 : Int32) (t1 : Int32) (t2 : Int32), INV γ A κ H → va_S A s.heap H locs → lv_has ls 6 [(0, .ref (γ.2.2.2 11)), (1, .int i1), (2, .int i2), (3, .int i3), (4, .int i4)] → W p l e (bs_rm 3 0 0 63) s m args below meth c H locs 0 0 Q (F0 m 59 ls [.int t0, .int t1, .int t2, .ref (γ.2.2.2 9)]) := by
    intro ls H locs i1 i2 i3 i4 t0 t1 t2 hI hS hl
    refine lv_aload_n hx hb dOperators_combine_59 rfl (lv_at hl 0 rfl) ?_
    refine of_get S hC (of_11_0 hI) in_Operators rfl (by decide) qw_46160f6e07 dOperators_combine_60 ?_
    refine lv_iload hx hb dOperators_combine_63 (lv_at hl 4 rfl) ?_
    refine pu_Vi (rest := [.int t0, .int t1, .int t2, .ref (γ.2.2.2 9)]) S hC (k9_Looks_numberOf l γ A κ i4) meLooks_numberOf qw_567f1aae5f ⟨Nat.le_of_ble_eq_true rfl, Nat.le_of_ble_eq_true rfl⟩ (rv_9 hC hI) hI rfl hl.1 rfl (Nat.le_of_ble_eq_true rfl) dOperators_combine_65 ⟨Nat.zero_le _, Nat.zero_le _⟩ (fun r32 hr32 => ?_)
    refine lv_iconst (v := 1) hx hb dOperators_combine_68 (by decide) ?_
    refine lv_icmp_ne (tgt := 76) hx hb dOperators_combine_69 (by decide) (fun c33 => ?_) (fun c33 => ?_)
    · refine lv_iconst (v := 0) hx hb dOperators_combine_76 (by decide) ?_
      exact J77 ls _ _ i1 i2 i3 i4 0 t0 t1 t2 hI hS (lv_sub hl [0, 1, 2, 3, 4] rfl)
    · refine lv_iconst (v := 1) hx hb dOperators_combine_72 (by decide) ?_
      refine lv_goto (tgt := 77) hx hb dOperators_combine_73 (by decide) ?_
      exact J77 ls _ _ i1 i2 i3 i4 1 t0 t1 t2 hI hS (lv_sub hl [0, 1, 2, 3, 4] rfl)
  refine lv_aload_n hx hb dOperators_combine_0 rfl (lv_at hl 0 rfl) ?_
  refine of_get S hC (of_11_0 hI) in_Operators rfl (by decide) qw_46160f6e07 dOperators_combine_1 ?_
  refine lv_iload_n hx hb dOperators_combine_4 rfl (lv_at hl 1 rfl) ?_
  refine pu_Vi (rest := []) S hC (k9_Looks_classOf l γ A κ x1) meLooks_classOf qw_2e1b0e0eff ⟨Nat.le_of_ble_eq_true rfl, Nat.le_of_ble_eq_true rfl⟩ (rv_9 hC hI) hI rfl hl.1 rfl (Nat.le_of_ble_eq_true rfl) dOperators_combine_5 ⟨Nat.zero_le _, Nat.zero_le _⟩ (fun r34 hr34 => ?_)
  by_cases k35 : r34 = 0
  · subst k35
    refine lv_lookup (tgt := 94) hx hb dOperators_combine_8 (by decide) rfl (by decide) ?_
    refine lv_aload_n hx hb dOperators_combine_94 rfl (lv_at hl 0 rfl) ?_
    refine of_get S hC (of_11_0 hI) in_Operators rfl (by decide) qw_46160f6e07 dOperators_combine_95 ?_
    refine lv_iload_n hx hb dOperators_combine_98 rfl (lv_at hl 1 rfl) ?_
    refine lv_iload_n hx hb dOperators_combine_99 rfl (lv_at hl 2 rfl) ?_
    refine lv_aload_n hx hb dOperators_combine_100 rfl (lv_at hl 0 rfl) ?_
    refine of_get S hC (of_11_0 hI) in_Operators rfl (by decide) qw_46160f6e07 dOperators_combine_101 ?_
    refine lv_iload_n hx hb dOperators_combine_104 rfl (lv_at hl 3 rfl) ?_
    refine pu_Vi (rest := [.int x2, .int x1, .ref (γ.2.2.2 9)]) S hC (k9_Looks_numberOf l γ A κ x3) meLooks_numberOf qw_567f1aae5f ⟨Nat.le_of_ble_eq_true rfl, Nat.le_of_ble_eq_true rfl⟩ (rv_9 hC hI) hI rfl hl.1 rfl (Nat.le_of_ble_eq_true rfl) dOperators_combine_105 ⟨Nat.zero_le _, Nat.zero_le _⟩ (fun r36 hr36 => ?_)
    refine lv_aload_n hx hb dOperators_combine_108 rfl (lv_at hl 0 rfl) ?_
    refine of_get S hC (of_11_0 hI) in_Operators rfl (by decide) qw_46160f6e07 dOperators_combine_109 ?_
    refine lv_iload hx hb dOperators_combine_112 (lv_at hl 4 rfl) ?_
    refine pu_Vi (rest := [.int r36, .int x2, .int x1, .ref (γ.2.2.2 9)]) S hC (k9_Looks_numberOf l γ A κ x4) meLooks_numberOf qw_567f1aae5f ⟨Nat.le_of_ble_eq_true rfl, Nat.le_of_ble_eq_true rfl⟩ (rv_9 hC hI) hI rfl hl.1 rfl (Nat.le_of_ble_eq_true rfl) dOperators_combine_114 ⟨Nat.zero_le _, Nat.zero_le _⟩ (fun r37 hr37 => ?_)
    refine pu_Si (rest := [.int x1, .ref (γ.2.2.2 9)]) S hC (s_Logic_ofSigns l γ (INV γ A κ) x2 r36 r37) meLogic_ofSigns qw_a4407ee8b0 ⟨Nat.le_of_ble_eq_true rfl, Nat.le_of_ble_eq_true rfl⟩ hI rfl hl.1 rfl (Nat.le_of_ble_eq_true rfl) dOperators_combine_117 ⟨Nat.zero_le _, Nat.zero_le _⟩ (fun r38 hr38 => ?_)
    refine mu_Vv (rest := []) S hC (fun q h => hA q (Nat.le_trans hS.1 h)) (fun q h => h) hS (k9_Looks_setNumber l γ A κ x1 r38) meLooks_setNumber qw_6899d83413 ⟨Nat.le_of_ble_eq_true rfl, Nat.le_of_ble_eq_true rfl⟩ (rv_9 hC hI) hI rfl hl.1 rfl (Nat.le_of_ble_eq_true rfl) dOperators_combine_120 ⟨Nat.le_refl _, Nat.le_refl _⟩ (fun H locs hI hS _ _ => ?_)
    refine lv_goto (tgt := 192) hx hb dOperators_combine_123 (by decide) ?_
    exact hE _ _ _ _ hS hI dOperators_combine_192
  by_cases k40 : r34 = 1
  · subst k40
    refine lv_lookup (tgt := 36) hx hb dOperators_combine_8 (by decide) rfl (by decide) ?_
    refine lv_aload_n hx hb dOperators_combine_36 rfl (lv_at hl 0 rfl) ?_
    refine of_get S hC (of_11_0 hI) in_Operators rfl (by decide) qw_46160f6e07 dOperators_combine_37 ?_
    refine lv_iload_n hx hb dOperators_combine_40 rfl (lv_at hl 1 rfl) ?_
    refine lv_iload_n hx hb dOperators_combine_41 rfl (lv_at hl 2 rfl) ?_
    refine lv_aload_n hx hb dOperators_combine_42 rfl (lv_at hl 0 rfl) ?_
    refine of_get S hC (of_11_0 hI) in_Operators rfl (by decide) qw_46160f6e07 dOperators_combine_43 ?_
    refine lv_iload_n hx hb dOperators_combine_46 rfl (lv_at hl 3 rfl) ?_
    refine pu_Vi (rest := [.int x2, .int x1, .ref (γ.2.2.2 9)]) S hC (k9_Looks_numberOf l γ A κ x3) meLooks_numberOf qw_567f1aae5f ⟨Nat.le_of_ble_eq_true rfl, Nat.le_of_ble_eq_true rfl⟩ (rv_9 hC hI) hI rfl hl.1 rfl (Nat.le_of_ble_eq_true rfl) dOperators_combine_47 ⟨Nat.zero_le _, Nat.zero_le _⟩ (fun r41 hr41 => ?_)
    refine lv_iconst (v := 1) hx hb dOperators_combine_50 (by decide) ?_
    refine lv_icmp_ne (tgt := 58) hx hb dOperators_combine_51 (by decide) (fun c42 => ?_) (fun c42 => ?_)
    · refine lv_iconst (v := 0) hx hb dOperators_combine_58 (by decide) ?_
      exact J59 ls _ _ x1 x2 x3 x4 0 x2 x1 hI hS (lv_sub hl [0, 1, 2, 3, 4] rfl)
    · refine lv_iconst (v := 1) hx hb dOperators_combine_54 (by decide) ?_
      refine lv_goto (tgt := 59) hx hb dOperators_combine_55 (by decide) ?_
      exact J59 ls _ _ x1 x2 x3 x4 1 x2 x1 hI hS (lv_sub hl [0, 1, 2, 3, 4] rfl)
  refine lv_lookup (off := 118) (tgt := 126) hx hb dOperators_combine_8 (by decide) ((lv_osw k35 (by decide)).trans ((lv_osw k40 (by decide)).trans rfl)) (by decide) ?_
  refine lv_iconst (v := 0) hx hb dOperators_combine_126 (by decide) ?_
  refine lv_istore (lv' := [(5, .int 0), (0, .ref (γ.2.2.2 11)), (1, .int x1), (2, .int x2), (3, .int x3), (4, .int x4)]) hx hb dOperators_combine_127 hl (by decide) rfl (fun ls hl => ?_)
  exact J129 _ ls _ _ x1 x2 x3 x4 0 hI hS rfl (lv_sub hl [1, 2, 3, 4, 5, 0] rfl)
theorem qw_df3d8c3fd5 : (Cond.methodLink R_Operators 151 yRows_setBits) ∈ bs_W0 := bs_in (in_tables_1_4 (List.mem_of_getElem? (i := 88) rfl)) rfl
theorem qw_a4afa0eb1b : (Cond.methodLink R_Operators 148 yRows_setAll) ∈ bs_W0 := bs_in (in_tables_1_4 (List.mem_of_getElem? (i := 83) rfl)) rfl
theorem qw_e268513ce3 : (Cond.methodLink R_Operators 155 yOperators_elementOf) ∈ bs_W0 := bs_in (in_tables_1_4 (List.mem_of_getElem? (i := 96) rfl)) rfl
theorem qw_9930071977 : (Cond.methodLink R_Operators 136 yOperators_divided) ∈ bs_W0 := bs_in (in_tables_1_4 (List.mem_of_getElem? (i := 14) rfl)) rfl
theorem qw_c4acc06d08 : (Cond.constantLong R_Operators 140 2147483647) ∈ bs_W0 := bs_in (in_tables_1_4 (List.mem_of_getElem? (i := 20) rfl)) rfl
theorem qw_f2665edad9 : (Cond.constantLong R_Operators 142 (-2147483647)) ∈ bs_W0 := bs_in (in_tables_1_4 (List.mem_of_getElem? (i := 21) rfl)) rfl
theorem qw_fcae91e82f : (Cond.methodLink R_Operators 66 yOperators_resultClass) ∈ bs_W0 := bs_in (in_tables_1_3 (List.mem_of_getElem? (i := 234) rfl)) rfl
theorem qw_38a5a3e266 : (Cond.methodLink R_Operators 70 yOperators_resultLength) ∈ bs_W0 := bs_in (in_tables_1_4 (List.mem_of_getElem? (i := 2) rfl)) rfl
theorem qw_cfad81ad60 : (Cond.methodLink R_Operators 92 yOperators_join) ∈ bs_W0 := bs_in (in_tables_1_4 (List.mem_of_getElem? (i := 92) rfl)) rfl
theorem qw_7021c7185b : (Cond.methodLink R_Operators 89 yOperators_sumRows) ∈ bs_W0 := bs_in (in_tables_1_4 (List.mem_of_getElem? (i := 79) rfl)) rfl
theorem qw_6712b2d4fd : (Cond.methodLink R_Operators 85 yOperators_isOrdered) ∈ bs_W0 := bs_in (in_tables_1_4 (List.mem_of_getElem? (i := 49) rfl)) rfl
theorem qw_dd9a5adbb1 : (Cond.methodLink R_Operators 81 yOperators_areAlike) ∈ bs_W0 := bs_in (in_tables_1_4 (List.mem_of_getElem? (i := 45) rfl)) rfl
theorem qw_1b3bfb6306 : (Cond.methodLink R_Operators 77 yOperators_combine) ∈ bs_W0 := bs_in (in_tables_1_4 (List.mem_of_getElem? (i := 22) rfl)) rfl
theorem qw_055df11e33 : (Cond.methodLink R_Operators 73 yOperators_calculate) ∈ bs_W0 := bs_in (in_tables_1_4 (List.mem_of_getElem? (i := 10) rfl)) rfl
theorem qw_446a3f39f2 : (Cond.methodLink R_Operators 95 yOperators_shift) ∈ bs_W0 := bs_in (in_tables_1_4 (List.mem_of_getElem? (i := 100) rfl)) rfl
set_option maxHeartbeats 4000000 in
set_option maxRecDepth 100000 in
theorem k_Operators_sumRows (l : Launch) (γ : gE) (A : Nat → Prop) (κ : Nat → Nat) (x1 : Int32) (x2 : Int32) (x3 : Int32) (x4 : Int32) : MU l yOperators_sumRows bOperators_sumRows 8 (none) 3 68 0 0 [.ref (γ.2.2.2 11), .int x1, .int x2, .int x3, .int x4] γ A (INV γ A κ) (mQv (fun H => INV γ A κ H) A) := by
  refine mu_openV (by decide) (Nat.le_of_ble_eq_true rfl) ?_
  intro p e s m args below meth c ls Q S hnm hC hA hI hE hl
  obtain ⟨hx, hb, hml, hown, hW⟩ := id S
  have hS : va_S A s.heap s.heap [] := va_S.rf
  have hl : lv_has ls 8 [(0, .ref (γ.2.2.2 11)), (1, .int x1), (2, .int x2), (3, .int x3), (4, .int x4)] := hl
  have J75 : ∀ (ls : Array Slot) (H : Heap) (locs : List Loc) (i1 : Int32) (i2 : Int32) (i3 : Int32) (i4 : Int32) (i5 : Int32) (t0 : Int64), INV γ A κ H → va_S A s.heap H locs → lv_has ls 8 [(0, .ref (γ.2.2.2 11)), (1, .int i1), (2, .int i2), (3, .int i3), (4, .int i4), (5, .int i5)] → W p l e (bs_rm 3 0 0 68) s m args below meth c H locs 0 0 Q (F0 m 75 ls [.long t0]) := by
    intro ls H locs i1 i2 i3 i4 i5 t0 hI hS hl
    refine lv_lstore (lv' := [(6, .long t0), (0, .ref (γ.2.2.2 11)), (1, .int i1), (2, .int i2), (3, .int i3), (4, .int i4), (5, .int i5)]) hx hb dOperators_sumRows_75 hl (by decide) rfl (fun ls hl => ?_)
    refine lv_aload_n hx hb dOperators_sumRows_77 rfl (lv_at hl 1 rfl) ?_
    refine of_get S hC (of_11_0 hI) in_Operators rfl (by decide) qw_46160f6e07 dOperators_sumRows_78 ?_
    refine of_getN S hC (of_9_5 hI) in_Looks rfl (by decide) qn_de7362ca2e dOperators_sumRows_81 ?_
    refine lv_iload_n hx hb dOperators_sumRows_84 rfl (lv_at hl 2 rfl) ?_
    refine lv_iload hx hb dOperators_sumRows_85 (lv_at hl 6 rfl) ?_
    refine lv_lload hx hb dOperators_sumRows_87 (lv_at hl 0 rfl) ?_
    refine mu_Vv (rest := []) S hC (fun q h => hA q (Nat.le_trans hS.1 h)) (fun q h => h) hS (k10_Rows_setBits l γ A κ i1 i5 t0) meRows_setBits qw_df3d8c3fd5 ⟨Nat.le_of_ble_eq_true rfl, Nat.le_of_ble_eq_true rfl⟩ (rv_10 hC hI) hI rfl hl.1 rfl (Nat.le_of_ble_eq_true rfl) dOperators_sumRows_89 ⟨Nat.le_refl _, Nat.le_refl _⟩ (fun H locs hI hS _ _ => ?_)
    exact hE _ _ _ _ hS hI dOperators_sumRows_92
  have J27 : ∀ (ls : Array Slot) (H : Heap) (locs : List Loc) (i1 : Int32) (i2 : Int32) (i3 : Int32) (i4 : Int32) (i5 : Int32), INV γ A κ H → va_S A s.heap H locs → lv_has ls 8 [(0, .ref (γ.2.2.2 11)), (1, .int i1), (2, .int i2), (3, .int i3), (4, .int i4), (5, .int i5)] → W p l e (bs_rm 3 0 0 68) s m args below meth c H locs 0 0 Q (F0 m 27 ls []) := by
    intro ls H locs i1 i2 i3 i4 i5 hI hS hl
    refine lv_aload_n hx hb dOperators_sumRows_27 rfl (lv_at hl 0 rfl) ?_
    refine of_get S hC (of_11_0 hI) in_Operators rfl (by decide) qw_46160f6e07 dOperators_sumRows_28 ?_
    refine of_getN S hC (of_9_5 hI) in_Looks rfl (by decide) qn_de7362ca2e dOperators_sumRows_31 ?_
    refine lv_iload_n hx hb dOperators_sumRows_34 rfl (lv_at hl 1 rfl) ?_
    refine lv_iload hx hb dOperators_sumRows_35 (lv_at hl 5 rfl) ?_
    refine lv_iconst (v := 1) hx hb dOperators_sumRows_37 (by decide) ?_
    refine mu_Vv (rest := []) S hC (fun q h => hA q (Nat.le_trans hS.1 h)) (fun q h => h) hS (k10_Rows_setAll l γ A κ i1 i5 1) meRows_setAll qw_a4afa0eb1b ⟨Nat.le_of_ble_eq_true rfl, Nat.le_of_ble_eq_true rfl⟩ (rv_10 hC hI) hI rfl hl.1 rfl (Nat.le_of_ble_eq_true rfl) dOperators_sumRows_38 ⟨Nat.le_refl _, Nat.le_refl _⟩ (fun H locs hI hS _ _ => ?_)
    exact hE _ _ _ _ hS hI dOperators_sumRows_41
  refine lv_aload_n hx hb dOperators_sumRows_0 rfl (lv_at hl 0 rfl) ?_
  refine of_get S hC (of_11_0 hI) in_Operators rfl (by decide) qw_46160f6e07 dOperators_sumRows_1 ?_
  refine lv_iload_n hx hb dOperators_sumRows_4 rfl (lv_at hl 1 rfl) ?_
  refine pu_Vi (rest := []) S hC (k9_Looks_extentOf l γ A κ x1) meLooks_extentOf qw_b0051a6c7a ⟨Nat.le_of_ble_eq_true rfl, Nat.le_of_ble_eq_true rfl⟩ (rv_9 hC hI) hI rfl hl.1 rfl (Nat.le_of_ble_eq_true rfl) dOperators_sumRows_5 ⟨Nat.zero_le _, Nat.zero_le _⟩ (fun r17 hr17 => ?_)
  refine lv_istore (lv' := [(5, .int r17), (0, .ref (γ.2.2.2 11)), (1, .int x1), (2, .int x2), (3, .int x3), (4, .int x4)]) hx hb dOperators_sumRows_8 hl (by decide) rfl (fun ls hl => ?_)
  refine lv_aload_n hx hb dOperators_sumRows_10 rfl (lv_at hl 1 rfl) ?_
  refine lv_iload_n hx hb dOperators_sumRows_11 rfl (lv_at hl 4 rfl) ?_
  refine pu_Vi (rest := []) S hC (k_Operators_isClear l γ A κ x3) meOperators_isClear qw_9422e74c3c ⟨Nat.le_of_ble_eq_true rfl, Nat.le_of_ble_eq_true rfl⟩ (rv_11 hC hI) hI rfl hl.1 rfl (Nat.le_of_ble_eq_true rfl) dOperators_sumRows_12 ⟨Nat.zero_le _, Nat.zero_le _⟩ (fun r18 hr18 => ?_)
  refine lv_if_eq (tgt := 27) hx hb dOperators_sumRows_15 (by decide) (fun c19 => ?_) (fun c19 => ?_)
  · exact J27 ls _ _ x1 x2 x3 x4 r17 hI hS (lv_sub hl [1, 2, 3, 4, 5, 0] rfl)
  · refine lv_aload_n hx hb dOperators_sumRows_18 rfl (lv_at hl 1 rfl) ?_
    refine lv_iload hx hb dOperators_sumRows_19 (lv_at hl 5 rfl) ?_
    refine pu_Vi (rest := []) S hC (k_Operators_isClear l γ A κ x4) meOperators_isClear qw_9422e74c3c ⟨Nat.le_of_ble_eq_true rfl, Nat.le_of_ble_eq_true rfl⟩ (rv_11 hC hI) hI rfl hl.1 rfl (Nat.le_of_ble_eq_true rfl) dOperators_sumRows_21 ⟨Nat.zero_le _, Nat.zero_le _⟩ (fun r20 hr20 => ?_)
    refine lv_if_ne (tgt := 42) hx hb dOperators_sumRows_24 (by decide) (fun c21 => ?_) (fun c21 => ?_)
    · refine lv_iload_n hx hb dOperators_sumRows_42 rfl (lv_at hl 3 rfl) ?_
      refine lv_bipush (v := 12) hx hb dOperators_sumRows_43 (by decide) ?_
      refine lv_icmp_ne (tgt := 63) hx hb dOperators_sumRows_45 (by decide) (fun c22 => ?_) (fun c22 => ?_)
      · refine lv_aload_n hx hb dOperators_sumRows_63 rfl (lv_at hl 1 rfl) ?_
        refine lv_iload_n hx hb dOperators_sumRows_64 rfl (lv_at hl 4 rfl) ?_
        refine pu_Vl (rest := []) S hC (k_Operators_countsAs l γ A κ x3) meOperators_countsAs qw_1ec68b5307 ⟨Nat.le_of_ble_eq_true rfl, Nat.le_of_ble_eq_true rfl⟩ (rv_11 hC hI) hI rfl hl.1 rfl (Nat.le_of_ble_eq_true rfl) dOperators_sumRows_65 ⟨Nat.zero_le _, Nat.zero_le _⟩ (fun r23 hr23 => ?_)
        refine lv_aload_n hx hb dOperators_sumRows_68 rfl (lv_at hl 1 rfl) ?_
        refine lv_iload hx hb dOperators_sumRows_69 (lv_at hl 5 rfl) ?_
        refine pu_Vl (rest := [.long r23]) S hC (k_Operators_countsAs l γ A κ x4) meOperators_countsAs qw_1ec68b5307 ⟨Nat.le_of_ble_eq_true rfl, Nat.le_of_ble_eq_true rfl⟩ (rv_11 hC hI) hI rfl hl.1 rfl (Nat.le_of_ble_eq_true rfl) dOperators_sumRows_71 ⟨Nat.zero_le _, Nat.zero_le _⟩ (fun r24 hr24 => ?_)
        refine lv_lsub hx hb dOperators_sumRows_74 ?_
        refine lv_topl (fun v25 ev25 => ?_)
        exact J75 ls _ _ x1 x2 x3 x4 r17 v25 hI hS (lv_sub hl [1, 2, 3, 4, 5, 0] rfl)
      · refine lv_aload_n hx hb dOperators_sumRows_48 rfl (lv_at hl 1 rfl) ?_
        refine lv_iload_n hx hb dOperators_sumRows_49 rfl (lv_at hl 4 rfl) ?_
        refine pu_Vl (rest := []) S hC (k_Operators_countsAs l γ A κ x3) meOperators_countsAs qw_1ec68b5307 ⟨Nat.le_of_ble_eq_true rfl, Nat.le_of_ble_eq_true rfl⟩ (rv_11 hC hI) hI rfl hl.1 rfl (Nat.le_of_ble_eq_true rfl) dOperators_sumRows_50 ⟨Nat.zero_le _, Nat.zero_le _⟩ (fun r26 hr26 => ?_)
        refine lv_aload_n hx hb dOperators_sumRows_53 rfl (lv_at hl 1 rfl) ?_
        refine lv_iload hx hb dOperators_sumRows_54 (lv_at hl 5 rfl) ?_
        refine pu_Vl (rest := [.long r26]) S hC (k_Operators_countsAs l γ A κ x4) meOperators_countsAs qw_1ec68b5307 ⟨Nat.le_of_ble_eq_true rfl, Nat.le_of_ble_eq_true rfl⟩ (rv_11 hC hI) hI rfl hl.1 rfl (Nat.le_of_ble_eq_true rfl) dOperators_sumRows_56 ⟨Nat.zero_le _, Nat.zero_le _⟩ (fun r27 hr27 => ?_)
        refine lv_ladd hx hb dOperators_sumRows_59 ?_
        refine lv_topl (fun v28 ev28 => ?_)
        refine lv_goto (tgt := 75) hx hb dOperators_sumRows_60 (by decide) ?_
        exact J75 ls _ _ x1 x2 x3 x4 r17 v28 hI hS (lv_sub hl [1, 2, 3, 4, 5, 0] rfl)
    · exact J27 ls _ _ x1 x2 x3 x4 r17 hI hS (lv_sub hl [1, 2, 3, 4, 5, 0] rfl)

set_option maxHeartbeats 4000000 in
set_option maxRecDepth 100000 in
theorem k_Operators_join (l : Launch) (γ : gE) (A : Nat → Prop) (κ : Nat → Nat) (x1 : Int32) (x2 : Int32) (x3 : Int32) : MU l yOperators_join bOperators_join 6 (none) 3 64 0 0 [.ref (γ.2.2.2 11), .int x1, .int x2, .int x3] γ A (INV γ A κ) (mQv (fun H => INV γ A κ H) A) := by
  refine mu_openV (by decide) (Nat.le_of_ble_eq_true rfl) ?_
  intro p e s m args below meth c ls Q S hnm hC hA hI hE hl
  obtain ⟨hx, hb, hml, hown, hW⟩ := id S
  have hS : va_S A s.heap s.heap [] := va_S.rf
  have hl : lv_has ls 6 [(0, .ref (γ.2.2.2 11)), (1, .int x1), (2, .int x2), (3, .int x3)] := hl
  have J10 : ∀ (N10 : Nat) (ls : Array Slot) (H : Heap) (locs : List Loc) (i1 : Int32) (i2 : Int32) (i3 : Int32) (i4 : Int32) (i5 : Int32), INV γ A κ H → va_S A s.heap H locs → (2147483647 - i5.toInt).toNat = N10 → lv_has ls 6 [(0, .ref (γ.2.2.2 11)), (1, .int i1), (2, .int i2), (3, .int i3), (4, .int i4), (5, .int i5)] → W p l e (bs_rm 3 0 0 64) s m args below meth c H locs 0 0 Q (F0 m 10 ls []) := by
    intro N10
    induction N10 using Nat.strongRecOn with
    | ind N10 ih10 =>
      intro ls H locs i1 i2 i3 i4 i5 hI hS hm10 hl
      have J60 : ∀ (ls : Array Slot) (H : Heap) (locs : List Loc) (i1 : Int32) (i2 : Int32) (i3 : Int32) (i4 : Int32) (i5 : Int32) (t0 : Int32) (t1 : Int32) (t2 : Int32), INV γ A κ H → va_S A s.heap H locs → (i5.toInt < 2147483647 ∧ (2147483647 - i5.toInt).toNat = N10) → lv_has ls 6 [(0, .ref (γ.2.2.2 11)), (1, .int i1), (2, .int i2), (3, .int i3), (4, .int i4), (5, .int i5)] → W p l e (bs_rm 3 0 0 64) s m args below meth c H locs 0 0 Q (F0 m 60 ls [.int t0, .int t1, .int t2, .ref (γ.2.2.2 10)]) := by
        intro ls H locs i1 i2 i3 i4 i5 t0 t1 t2 hI hS ⟨hf10a, hf10b⟩ hl
        refine mu_Vv (rest := []) S hC (fun q h => hA q (Nat.le_trans hS.1 h)) (fun q h => h) hS (k10_Rows_set l γ A κ t2 t1 t0) meRows_set qw_33d0c54276 ⟨Nat.le_of_ble_eq_true rfl, Nat.le_of_ble_eq_true rfl⟩ (rv_10 hC hI) hI rfl hl.1 rfl (Nat.le_of_ble_eq_true rfl) dOperators_join_60 ⟨Nat.le_refl _, Nat.le_refl _⟩ (fun H locs hI hS _ _ => ?_)
        obtain ⟨v11, ev11⟩ : ∃ y : Int32, y = i5 + 1 := ⟨_, rfl⟩
        refine lv_iinc (v := v11) (lv' := [(5, .int v11), (0, .ref (γ.2.2.2 11)), (1, .int i1), (2, .int i2), (3, .int i3), (4, .int i4)]) hx hb dOperators_join_63 hl (k := 5) rfl (by rw [ev11]; rfl) (by decide) rfl (fun ls hl => ?_)
        refine lv_goto (tgt := 10) hx hb dOperators_join_66 (by decide) ?_
        exact ih10 _ (by have q1 : i5.toInt < 2147483647 := (by first | exact (mu_up (k := i5) (by assumption)).2 | assumption); have q2 := mu_lt q1; rw [← ev11] at q2; omega) ls _ _ i1 i2 i3 i4 v11 hI hS rfl (lv_sub hl [1, 2, 3, 4, 5, 0] rfl)
      refine lv_iload hx hb dOperators_join_10 (lv_at hl 5 rfl) ?_
      refine lv_aload_n hx hb dOperators_join_12 rfl (lv_at hl 0 rfl) ?_
      refine of_get S hC (of_11_0 hI) in_Operators rfl (by decide) qw_46160f6e07 dOperators_join_13 ?_
      refine lv_iload_n hx hb dOperators_join_16 rfl (lv_at hl 1 rfl) ?_
      refine pu_Vi (rest := [.int i5]) S hC (k9_Looks_extentOf l γ A κ i1) meLooks_extentOf qw_b0051a6c7a ⟨Nat.le_of_ble_eq_true rfl, Nat.le_of_ble_eq_true rfl⟩ (rv_9 hC hI) hI rfl hl.1 rfl (Nat.le_of_ble_eq_true rfl) dOperators_join_17 ⟨Nat.zero_le _, Nat.zero_le _⟩ (fun r12 hr12 => ?_)
      refine lv_icmp_ge (tgt := 69) hx hb dOperators_join_20 (by decide) (fun c13 => ?_) (fun c13 => ?_)
      · exact hE _ _ _ _ hS hI dOperators_join_69
      · refine lv_aload_n hx hb dOperators_join_23 rfl (lv_at hl 0 rfl) ?_
        refine of_get S hC (of_11_0 hI) in_Operators rfl (by decide) qw_46160f6e07 dOperators_join_24 ?_
        refine of_getN S hC (of_9_5 hI) in_Looks rfl (by decide) qn_de7362ca2e dOperators_join_27 ?_
        refine lv_iload_n hx hb dOperators_join_30 rfl (lv_at hl 1 rfl) ?_
        refine lv_iload hx hb dOperators_join_31 (lv_at hl 5 rfl) ?_
        refine lv_iload hx hb dOperators_join_33 (lv_at hl 5 rfl) ?_
        refine lv_iload hx hb dOperators_join_35 (lv_at hl 4 rfl) ?_
        refine lv_icmp_ge (tgt := 50) hx hb dOperators_join_37 (by decide) (fun c14 => ?_) (fun c14 => ?_)
        · refine lv_aload_n hx hb dOperators_join_50 rfl (lv_at hl 0 rfl) ?_
          refine lv_iload_n hx hb dOperators_join_51 rfl (lv_at hl 2 rfl) ?_
          refine lv_iload hx hb dOperators_join_52 (lv_at hl 5 rfl) ?_
          refine lv_iload hx hb dOperators_join_54 (lv_at hl 4 rfl) ?_
          refine lv_isub hx hb dOperators_join_56 ?_
          refine lv_topi (fun v15 ev15 => ?_)
          refine pu_Vi (rest := [.int i5, .int i1, .ref (γ.2.2.2 10)]) S hC (k_Operators_elementOf l γ A κ i2 v15) meOperators_elementOf qw_e268513ce3 ⟨Nat.le_of_ble_eq_true rfl, Nat.le_of_ble_eq_true rfl⟩ (rv_11 hC hI) hI rfl hl.1 rfl (Nat.le_of_ble_eq_true rfl) dOperators_join_57 ⟨Nat.zero_le _, Nat.zero_le _⟩ (fun r16 hr16 => ?_)
          exact J60 ls _ _ i1 i2 i3 i4 i5 r16 i5 i1 hI hS (by first | exact ⟨(mu_up (k := i5) (by assumption)).2, by assumption⟩ | exact ⟨by assumption, by assumption⟩) (lv_sub hl [0, 1, 2, 3, 4, 5] rfl)
        · refine lv_aload_n hx hb dOperators_join_40 rfl (lv_at hl 0 rfl) ?_
          refine lv_iload_n hx hb dOperators_join_41 rfl (lv_at hl 3 rfl) ?_
          refine lv_iload hx hb dOperators_join_42 (lv_at hl 5 rfl) ?_
          refine pu_Vi (rest := [.int i5, .int i1, .ref (γ.2.2.2 10)]) S hC (k_Operators_elementOf l γ A κ i3 i5) meOperators_elementOf qw_e268513ce3 ⟨Nat.le_of_ble_eq_true rfl, Nat.le_of_ble_eq_true rfl⟩ (rv_11 hC hI) hI rfl hl.1 rfl (Nat.le_of_ble_eq_true rfl) dOperators_join_44 ⟨Nat.zero_le _, Nat.zero_le _⟩ (fun r17 hr17 => ?_)
          refine lv_goto (tgt := 60) hx hb dOperators_join_47 (by decide) ?_
          exact J60 ls _ _ i1 i2 i3 i4 i5 r17 i5 i1 hI hS (by first | exact ⟨(mu_up (k := i5) (by assumption)).2, by assumption⟩ | exact ⟨by assumption, by assumption⟩) (lv_sub hl [0, 1, 2, 3, 4, 5] rfl)
  refine lv_aload_n hx hb dOperators_join_0 rfl (lv_at hl 0 rfl) ?_
  refine lv_iload_n hx hb dOperators_join_1 rfl (lv_at hl 3 rfl) ?_
  refine pu_Vi (rest := []) S hC (k_Operators_widthOf l γ A κ x3) meOperators_widthOf qw_c3b3c98375 ⟨Nat.le_of_ble_eq_true rfl, Nat.le_of_ble_eq_true rfl⟩ (rv_11 hC hI) hI rfl hl.1 rfl (Nat.le_of_ble_eq_true rfl) dOperators_join_2 ⟨Nat.zero_le _, Nat.zero_le _⟩ (fun r18 hr18 => ?_)
  refine lv_istore (lv' := [(4, .int r18), (0, .ref (γ.2.2.2 11)), (1, .int x1), (2, .int x2), (3, .int x3)]) hx hb dOperators_join_5 hl (by decide) rfl (fun ls hl => ?_)
  refine lv_iconst (v := 0) hx hb dOperators_join_7 (by decide) ?_
  refine lv_istore (lv' := [(5, .int 0), (4, .int r18), (0, .ref (γ.2.2.2 11)), (1, .int x1), (2, .int x2), (3, .int x3)]) hx hb dOperators_join_8 hl (by decide) rfl (fun ls hl => ?_)
  exact J10 _ ls _ _ x1 x2 x3 r18 0 hI hS rfl (lv_sub hl [2, 3, 4, 5, 1, 0] rfl)

set_option maxHeartbeats 4000000 in
set_option maxRecDepth 100000 in
theorem k_Operators_shift (l : Launch) (γ : gE) (A : Nat → Prop) (κ : Nat → Nat) (x1 : Int32) (x2 : Int32) (x3 : Int32) : MU l yOperators_shift bOperators_shift 8 (none) 2 42 0 0 [.ref (γ.2.2.2 11), .int x1, .int x2, .int x3] γ A (INV γ A κ) (mQv (fun H => INV γ A κ H) A) := by
  refine mu_openV (by decide) (Nat.le_of_ble_eq_true rfl) ?_
  intro p e s m args below meth c ls Q S hnm hC hA hI hE hl
  obtain ⟨hx, hb, hml, hown, hW⟩ := id S
  have hS : va_S A s.heap s.heap [] := va_S.rf
  have hl : lv_has ls 8 [(0, .ref (γ.2.2.2 11)), (1, .int x1), (2, .int x2), (3, .int x3)] := hl
  have J13 : ∀ (N13 : Nat) (ls : Array Slot) (H : Heap) (locs : List Loc) (i1 : Int32) (i2 : Int32) (i3 : Int32) (i4 : Int32) (i5 : Int32), INV γ A κ H → va_S A s.heap H locs → (2147483647 - i5.toInt).toNat = N13 → lv_has ls 8 [(0, .ref (γ.2.2.2 11)), (1, .int i1), (2, .int i2), (3, .int i3), (4, .int i4), (5, .int i5)] → W p l e (bs_rm 2 0 0 42) s m args below meth c H locs 0 0 Q (F0 m 13 ls []) := by
    intro N13
    induction N13 using Nat.strongRecOn with
    | ind N13 ih13 =>
      intro ls H locs i1 i2 i3 i4 i5 hI hS hm13 hl
      have J72 : ∀ (ls : Array Slot) (H : Heap) (locs : List Loc) (i1 : Int32) (i2 : Int32) (i3 : Int32) (i4 : Int32) (i5 : Int32) (j6 : Int64) (t0 : Int32) (t1 : Int32) (t2 : Int32), INV γ A κ H → va_S A s.heap H locs → (i5.toInt < 2147483647 ∧ (2147483647 - i5.toInt).toNat = N13) → lv_has ls 8 [(0, .ref (γ.2.2.2 11)), (1, .int i1), (2, .int i2), (3, .int i3), (4, .int i4), (5, .int i5), (6, .long j6)] → W p l e (bs_rm 2 0 0 42) s m args below meth c H locs 0 0 Q (F0 m 72 ls [.int t0, .int t1, .int t2, .ref (γ.2.2.2 10)]) := by
        intro ls H locs i1 i2 i3 i4 i5 j6 t0 t1 t2 hI hS ⟨hf13a, hf13b⟩ hl
        refine mu_Vv (rest := []) S hC (fun q h => hA q (Nat.le_trans hS.1 h)) (fun q h => h) hS (k10_Rows_set l γ A κ t2 t1 t0) meRows_set qw_33d0c54276 ⟨Nat.le_of_ble_eq_true rfl, Nat.le_of_ble_eq_true rfl⟩ (rv_10 hC hI) hI rfl hl.1 rfl (Nat.le_of_ble_eq_true rfl) dOperators_shift_72 ⟨Nat.le_refl _, Nat.le_refl _⟩ (fun H locs hI hS _ _ => ?_)
        obtain ⟨v16, ev16⟩ : ∃ y : Int32, y = i5 + 1 := ⟨_, rfl⟩
        refine lv_iinc (v := v16) (lv' := [(5, .int v16), (0, .ref (γ.2.2.2 11)), (1, .int i1), (2, .int i2), (3, .int i3), (4, .int i4), (6, .long j6)]) hx hb dOperators_shift_75 hl (k := 5) rfl (by rw [ev16]; rfl) (by decide) rfl (fun ls hl => ?_)
        refine lv_goto (tgt := 13) hx hb dOperators_shift_78 (by decide) ?_
        exact ih13 _ (by have q1 : i5.toInt < 2147483647 := (by first | exact (mu_up (k := i5) (by assumption)).2 | assumption); have q2 := mu_lt q1; rw [← ev16] at q2; omega) ls _ _ i1 i2 i3 i4 v16 hI hS rfl (lv_sub hl [1, 2, 3, 4, 5, 0] rfl)
      have J71 : ∀ (ls : Array Slot) (H : Heap) (locs : List Loc) (i1 : Int32) (i2 : Int32) (i3 : Int32) (i4 : Int32) (i5 : Int32) (j6 : Int64) (t0 : Int32) (t1 : Int32), INV γ A κ H → va_S A s.heap H locs → (i5.toInt < 2147483647 ∧ (2147483647 - i5.toInt).toNat = N13) → lv_has ls 8 [(0, .ref (γ.2.2.2 11)), (1, .int i1), (2, .int i2), (3, .int i3), (4, .int i4), (5, .int i5), (6, .long j6)] → W p l e (bs_rm 2 0 0 42) s m args below meth c H locs 0 0 Q (F0 m 71 ls [.int t0, .int t1, .ref (γ.2.2.2 10)]) := by
        intro ls H locs i1 i2 i3 i4 i5 j6 t0 t1 hI hS ⟨hf13a, hf13b⟩ hl
        refine lv_iconst (v := 2) hx hb dOperators_shift_71 (by decide) ?_
        exact J72 ls _ _ i1 i2 i3 i4 i5 j6 2 t0 t1 hI hS (by first | exact ⟨(mu_up (k := i5) (by assumption)).2, by assumption⟩ | exact ⟨by assumption, by assumption⟩) (lv_sub hl [0, 1, 2, 3, 4, 5, 6] rfl)
      refine lv_iload hx hb dOperators_shift_13 (lv_at hl 5 rfl) ?_
      refine lv_iload hx hb dOperators_shift_15 (lv_at hl 4 rfl) ?_
      refine lv_icmp_ge (tgt := 81) hx hb dOperators_shift_17 (by decide) (fun c17 => ?_) (fun c17 => ?_)
      · exact hE _ _ _ _ hS hI dOperators_shift_81
      · refine lv_iload hx hb dOperators_shift_20 (lv_at hl 5 rfl) ?_
        refine lv_i2l hx hb dOperators_shift_22 rfl ?_
        refine lv_topl (fun v18 ev18 => ?_)
        refine lv_iload_n hx hb dOperators_shift_23 rfl (lv_at hl 3 rfl) ?_
        refine lv_i2l hx hb dOperators_shift_24 rfl ?_
        refine lv_topl (fun v19 ev19 => ?_)
        refine lv_lsub hx hb dOperators_shift_25 ?_
        refine lv_topl (fun v20 ev20 => ?_)
        refine lv_lstore (lv' := [(6, .long v20), (0, .ref (γ.2.2.2 11)), (1, .int i1), (2, .int i2), (3, .int i3), (4, .int i4), (5, .int i5)]) hx hb dOperators_shift_26 hl (by decide) rfl (fun ls hl => ?_)
        refine lv_aload_n hx hb dOperators_shift_28 rfl (lv_at hl 1 rfl) ?_
        refine of_get S hC (of_11_0 hI) in_Operators rfl (by decide) qw_46160f6e07 dOperators_shift_29 ?_
        refine of_getN S hC (of_9_5 hI) in_Looks rfl (by decide) qn_de7362ca2e dOperators_shift_32 ?_
        refine lv_iload_n hx hb dOperators_shift_35 rfl (lv_at hl 2 rfl) ?_
        refine lv_iload hx hb dOperators_shift_36 (lv_at hl 6 rfl) ?_
        refine lv_lload hx hb dOperators_shift_38 (lv_at hl 0 rfl) ?_
        refine lv_lconst (v := 0) hx hb dOperators_shift_40 (by decide) ?_
        refine W.lcmp hx hb dOperators_shift_41 ?_
        refine lv_topi (fun v21 ev21 => ?_)
        refine lv_if_lt (tgt := 71) hx hb dOperators_shift_42 (by decide) (fun c22 => ?_) (fun c22 => ?_)
        · exact J71 ls _ _ i1 i2 i3 i4 i5 v20 i5 i1 hI hS (by first | exact ⟨(mu_up (k := i5) (by assumption)).2, by assumption⟩ | exact ⟨by assumption, by assumption⟩) (lv_sub hl [1, 2, 3, 4, 5, 6, 0] rfl)
        · refine lv_lload hx hb dOperators_shift_45 (lv_at hl 0 rfl) ?_
          refine lv_iload hx hb dOperators_shift_47 (lv_at hl 5 rfl) ?_
          refine lv_i2l hx hb dOperators_shift_49 rfl ?_
          refine lv_topl (fun v23 ev23 => ?_)
          refine W.lcmp hx hb dOperators_shift_50 ?_
          refine lv_topi (fun v24 ev24 => ?_)
          refine lv_if_ge (tgt := 71) hx hb dOperators_shift_51 (by decide) (fun c25 => ?_) (fun c25 => ?_)
          · exact J71 ls _ _ i1 i2 i3 i4 i5 v20 i5 i1 hI hS (by first | exact ⟨(mu_up (k := i5) (by assumption)).2, by assumption⟩ | exact ⟨by assumption, by assumption⟩) (lv_sub hl [1, 2, 3, 4, 5, 6, 0] rfl)
          · refine lv_aload_n hx hb dOperators_shift_54 rfl (lv_at hl 1 rfl) ?_
            refine of_get S hC (of_11_0 hI) in_Operators rfl (by decide) qw_46160f6e07 dOperators_shift_55 ?_
            refine of_getN S hC (of_9_5 hI) in_Looks rfl (by decide) qn_de7362ca2e dOperators_shift_58 ?_
            refine lv_iload_n hx hb dOperators_shift_61 rfl (lv_at hl 3 rfl) ?_
            refine lv_lload hx hb dOperators_shift_62 (lv_at hl 0 rfl) ?_
            refine lv_l2i hx hb dOperators_shift_64 rfl ?_
            refine lv_topi (fun v26 ev26 => ?_)
            refine pu_Vi (rest := [.int i5, .int i1, .ref (γ.2.2.2 10)]) S hC (k10_Rows_get l γ A κ i2 v26) meRows_get qw_2b8ebea4b9 ⟨Nat.le_of_ble_eq_true rfl, Nat.le_of_ble_eq_true rfl⟩ (rv_10 hC hI) hI rfl hl.1 rfl (Nat.le_of_ble_eq_true rfl) dOperators_shift_65 ⟨Nat.zero_le _, Nat.zero_le _⟩ (fun r27 hr27 => ?_)
            refine lv_goto (tgt := 72) hx hb dOperators_shift_68 (by decide) ?_
            exact J72 ls _ _ i1 i2 i3 i4 i5 v20 r27 i5 i1 hI hS (by first | exact ⟨(mu_up (k := i5) (by assumption)).2, by assumption⟩ | exact ⟨by assumption, by assumption⟩) (lv_sub hl [1, 2, 3, 4, 5, 6, 0] rfl)
  refine lv_aload_n hx hb dOperators_shift_0 rfl (lv_at hl 0 rfl) ?_
  refine of_get S hC (of_11_0 hI) in_Operators rfl (by decide) qw_46160f6e07 dOperators_shift_1 ?_
  refine lv_iload_n hx hb dOperators_shift_4 rfl (lv_at hl 2 rfl) ?_
  refine pu_Vi (rest := []) S hC (k9_Looks_extentOf l γ A κ x2) meLooks_extentOf qw_b0051a6c7a ⟨Nat.le_of_ble_eq_true rfl, Nat.le_of_ble_eq_true rfl⟩ (rv_9 hC hI) hI rfl hl.1 rfl (Nat.le_of_ble_eq_true rfl) dOperators_shift_5 ⟨Nat.zero_le _, Nat.zero_le _⟩ (fun r28 hr28 => ?_)
  refine lv_istore (lv' := [(4, .int r28), (0, .ref (γ.2.2.2 11)), (1, .int x1), (2, .int x2), (3, .int x3)]) hx hb dOperators_shift_8 hl (by decide) rfl (fun ls hl => ?_)
  refine lv_iconst (v := 0) hx hb dOperators_shift_10 (by decide) ?_
  refine lv_istore (lv' := [(5, .int 0), (4, .int r28), (0, .ref (γ.2.2.2 11)), (1, .int x1), (2, .int x2), (3, .int x3)]) hx hb dOperators_shift_11 hl (by decide) rfl (fun ls hl => ?_)
  exact J13 _ ls _ _ x1 x2 x3 r28 0 hI hS rfl (lv_sub hl [2, 3, 4, 5, 1, 0] rfl)

set_option maxHeartbeats 4000000 in
set_option maxRecDepth 100000 in
theorem k_Operators_calculate (l : Launch) (γ : gE) (A : Nat → Prop) (κ : Nat → Nat) (x1 : Int32) (x2 : Int32) (x3 : Int64) (x5 : Int64) : MU l yOperators_calculate bOperators_calculate 10 (some .int) 2 49 0 0 [.ref (γ.2.2.2 11), .int x1, .int x2, .long x3, .long x5] γ A (INV γ A κ) (mQi (fun r H => True ∧ INV γ A κ H) A) := by
  refine mu_openI (by decide) (Nat.le_of_ble_eq_true rfl) ?_
  intro p e s m args below meth c ls Q S hnm hC hA hI hE hl
  obtain ⟨hx, hb, hml, hown, hW⟩ := id S
  have hS : va_S A s.heap s.heap [] := va_S.rf
  have hl : lv_has ls 10 [(0, .ref (γ.2.2.2 11)), (1, .int x1), (2, .int x2), (3, .long x3), (5, .long x5)] := hl
  have J79 : ∀ (ls : Array Slot) (H : Heap) (locs : List Loc) (i1 : Int32) (i2 : Int32) (j3 : Int64) (j5 : Int64) (i7 : Int32) (t0 : Int64), INV γ A κ H → va_S A s.heap H locs → lv_has ls 10 [(0, .ref (γ.2.2.2 11)), (1, .int i1), (2, .int i2), (3, .long j3), (5, .long j5), (7, .int i7)] → W p l e (bs_rm 2 0 0 49) s m args below meth c H locs 0 0 Q (F0 m 79 ls [.long t0]) := by
    intro ls H locs i1 i2 j3 j5 i7 t0 hI hS hl
    refine lv_lstore (lv' := [(8, .long t0), (0, .ref (γ.2.2.2 11)), (1, .int i1), (2, .int i2), (3, .long j3), (5, .long j5), (7, .int i7)]) hx hb dOperators_calculate_79 hl (by decide) rfl (fun ls hl => ?_)
    refine lv_lload hx hb dOperators_calculate_81 (lv_at hl 0 rfl) ?_
    refine lv_ldc2 (v := 2147483647) hx hb hown (hW _ qw_c4acc06d08) dOperators_calculate_83 ?_
    refine W.lcmp hx hb dOperators_calculate_86 ?_
    refine lv_topi (fun v19 ev19 => ?_)
    refine lv_if_gt (tgt := 99) hx hb dOperators_calculate_87 (by decide) (fun c20 => ?_) (fun c20 => ?_)
    · refine lv_bipush (v := 9) hx hb dOperators_calculate_99 (by decide) ?_
      exact hE _ _ _ _ _ hS ⟨trivial, hI⟩ dOperators_calculate_101
    · refine lv_lload hx hb dOperators_calculate_90 (lv_at hl 0 rfl) ?_
      refine lv_ldc2 (v := (-2147483647)) hx hb hown (hW _ qw_f2665edad9) dOperators_calculate_92 ?_
      refine W.lcmp hx hb dOperators_calculate_95 ?_
      refine lv_topi (fun v21 ev21 => ?_)
      refine lv_if_ge (tgt := 102) hx hb dOperators_calculate_96 (by decide) (fun c22 => ?_) (fun c22 => ?_)
      · refine lv_aload_n hx hb dOperators_calculate_102 rfl (lv_at hl 1 rfl) ?_
        refine of_get S hC (of_11_0 hI) in_Operators rfl (by decide) qw_46160f6e07 dOperators_calculate_103 ?_
        refine lv_iload_n hx hb dOperators_calculate_106 rfl (lv_at hl 2 rfl) ?_
        refine lv_lload hx hb dOperators_calculate_107 (lv_at hl 0 rfl) ?_
        refine lv_l2i hx hb dOperators_calculate_109 rfl ?_
        refine lv_topi (fun v23 ev23 => ?_)
        refine mu_Vv (rest := []) S hC (fun q h => hA q (Nat.le_trans hS.1 h)) (fun q h => h) hS (k9_Looks_setNumber l γ A κ i1 v23) meLooks_setNumber qw_6899d83413 ⟨Nat.le_of_ble_eq_true rfl, Nat.le_of_ble_eq_true rfl⟩ (rv_9 hC hI) hI rfl hl.1 rfl (Nat.le_of_ble_eq_true rfl) dOperators_calculate_110 ⟨Nat.le_refl _, Nat.le_refl _⟩ (fun H locs hI hS _ _ => ?_)
        refine lv_iconst (v := 0) hx hb dOperators_calculate_113 (by decide) ?_
        exact hE _ _ _ _ _ hS ⟨trivial, hI⟩ dOperators_calculate_114
      · refine lv_bipush (v := 9) hx hb dOperators_calculate_99 (by decide) ?_
        exact hE _ _ _ _ _ hS ⟨trivial, hI⟩ dOperators_calculate_101
  have J34 : ∀ (ls : Array Slot) (H : Heap) (locs : List Loc) (i1 : Int32) (i2 : Int32) (j3 : Int64) (j5 : Int64) (i7 : Int32), INV γ A κ H → va_S A s.heap H locs → lv_has ls 10 [(0, .ref (γ.2.2.2 11)), (1, .int i1), (2, .int i2), (3, .long j3), (5, .long j5), (7, .int i7)] → W p l e (bs_rm 2 0 0 49) s m args below meth c H locs 0 0 Q (F0 m 34 ls []) := by
    intro ls H locs i1 i2 j3 j5 i7 hI hS hl
    refine lv_iload hx hb dOperators_calculate_34 (lv_at hl 5 rfl) ?_
    refine lv_if_eq (tgt := 49) hx hb dOperators_calculate_36 (by decide) (fun c25 => ?_) (fun c25 => ?_)
    · refine lv_iload_n hx hb dOperators_calculate_49 rfl (lv_at hl 2 rfl) ?_
      refine lv_bipush (v := 12) hx hb dOperators_calculate_50 (by decide) ?_
      refine lv_icmp_ne (tgt := 62) hx hb dOperators_calculate_52 (by decide) (fun c26 => ?_) (fun c26 => ?_)
      · refine lv_iload_n hx hb dOperators_calculate_62 rfl (lv_at hl 2 rfl) ?_
        refine lv_bipush (v := 13) hx hb dOperators_calculate_63 (by decide) ?_
        refine lv_icmp_ne (tgt := 75) hx hb dOperators_calculate_65 (by decide) (fun c27 => ?_) (fun c27 => ?_)
        · refine lv_lload_n hx hb dOperators_calculate_75 rfl (lv_at hl 3 rfl) ?_
          refine lv_lload hx hb dOperators_calculate_76 (lv_at hl 4 rfl) ?_
          refine lv_lmul hx hb dOperators_calculate_78 ?_
          refine lv_topl (fun v28 ev28 => ?_)
          exact J79 ls _ _ i1 i2 j3 j5 i7 v28 hI hS (lv_sub hl [0, 1, 2, 3, 4, 5] rfl)
        · refine lv_lload_n hx hb dOperators_calculate_68 rfl (lv_at hl 3 rfl) ?_
          refine lv_lload hx hb dOperators_calculate_69 (lv_at hl 4 rfl) ?_
          refine lv_lsub hx hb dOperators_calculate_71 ?_
          refine lv_topl (fun v29 ev29 => ?_)
          refine lv_goto (tgt := 79) hx hb dOperators_calculate_72 (by decide) ?_
          exact J79 ls _ _ i1 i2 j3 j5 i7 v29 hI hS (lv_sub hl [0, 1, 2, 3, 4, 5] rfl)
      · refine lv_lload_n hx hb dOperators_calculate_55 rfl (lv_at hl 3 rfl) ?_
        refine lv_lload hx hb dOperators_calculate_56 (lv_at hl 4 rfl) ?_
        refine lv_ladd hx hb dOperators_calculate_58 ?_
        refine lv_topl (fun v30 ev30 => ?_)
        refine lv_goto (tgt := 79) hx hb dOperators_calculate_59 (by decide) ?_
        exact J79 ls _ _ i1 i2 j3 j5 i7 v30 hI hS (lv_sub hl [0, 1, 2, 3, 4, 5] rfl)
    · refine lv_iload_n hx hb dOperators_calculate_39 rfl (lv_at hl 2 rfl) ?_
      refine lv_lload_n hx hb dOperators_calculate_40 rfl (lv_at hl 3 rfl) ?_
      refine lv_lload hx hb dOperators_calculate_41 (lv_at hl 4 rfl) ?_
      refine pu_Sl (rest := []) S hC (s_Operators_divided l γ (INV γ A κ) i2 j3 j5) meOperators_divided qw_9930071977 ⟨Nat.le_of_ble_eq_true rfl, Nat.le_of_ble_eq_true rfl⟩ hI rfl hl.1 rfl (Nat.le_of_ble_eq_true rfl) dOperators_calculate_43 ⟨Nat.zero_le _, Nat.zero_le _⟩ (fun r31 hr31 => ?_)
      refine lv_goto (tgt := 79) hx hb dOperators_calculate_46 (by decide) ?_
      exact J79 ls _ _ i1 i2 j3 j5 i7 r31 hI hS (lv_sub hl [0, 1, 2, 3, 4, 5] rfl)
  have J17 : ∀ (ls : Array Slot) (H : Heap) (locs : List Loc) (i1 : Int32) (i2 : Int32) (j3 : Int64) (j5 : Int64) (t0 : Int32), INV γ A κ H → va_S A s.heap H locs → lv_has ls 10 [(0, .ref (γ.2.2.2 11)), (1, .int i1), (2, .int i2), (3, .long j3), (5, .long j5)] → W p l e (bs_rm 2 0 0 49) s m args below meth c H locs 0 0 Q (F0 m 17 ls [.int t0]) := by
    intro ls H locs i1 i2 j3 j5 t0 hI hS hl
    refine lv_istore (lv' := [(7, .int t0), (0, .ref (γ.2.2.2 11)), (1, .int i1), (2, .int i2), (3, .long j3), (5, .long j5)]) hx hb dOperators_calculate_17 hl (by decide) rfl (fun ls hl => ?_)
    refine lv_iload hx hb dOperators_calculate_19 (lv_at hl 0 rfl) ?_
    refine lv_if_eq (tgt := 34) hx hb dOperators_calculate_21 (by decide) (fun c32 => ?_) (fun c32 => ?_)
    · exact J34 ls _ _ i1 i2 j3 j5 t0 hI hS (lv_sub hl [1, 2, 3, 4, 5, 0] rfl)
    · refine lv_lload hx hb dOperators_calculate_24 (lv_at hl 5 rfl) ?_
      refine lv_lconst (v := 0) hx hb dOperators_calculate_26 (by decide) ?_
      refine W.lcmp hx hb dOperators_calculate_27 ?_
      refine lv_topi (fun v33 ev33 => ?_)
      refine lv_if_ne (tgt := 34) hx hb dOperators_calculate_28 (by decide) (fun c34 => ?_) (fun c34 => ?_)
      · exact J34 ls _ _ i1 i2 j3 j5 t0 hI hS (lv_sub hl [1, 2, 3, 4, 5, 0] rfl)
      · refine lv_bipush (v := 10) hx hb dOperators_calculate_31 (by decide) ?_
        exact hE _ _ _ _ _ hS ⟨trivial, hI⟩ dOperators_calculate_33
  have J16 : ∀ (ls : Array Slot) (H : Heap) (locs : List Loc) (i1 : Int32) (i2 : Int32) (j3 : Int64) (j5 : Int64), INV γ A κ H → va_S A s.heap H locs → lv_has ls 10 [(0, .ref (γ.2.2.2 11)), (1, .int i1), (2, .int i2), (3, .long j3), (5, .long j5)] → W p l e (bs_rm 2 0 0 49) s m args below meth c H locs 0 0 Q (F0 m 16 ls []) := by
    intro ls H locs i1 i2 j3 j5 hI hS hl
    refine lv_iconst (v := 0) hx hb dOperators_calculate_16 (by decide) ?_
    exact J17 ls _ _ i1 i2 j3 j5 0 hI hS (lv_sub hl [0, 1, 2, 3, 4] rfl)
  refine lv_iload_n hx hb dOperators_calculate_0 rfl (lv_at hl 2 rfl) ?_
  refine lv_bipush (v := 16) hx hb dOperators_calculate_1 (by decide) ?_
  refine lv_icmp_lt (tgt := 16) hx hb dOperators_calculate_3 (by decide) (fun c35 => ?_) (fun c35 => ?_)
  · exact J16 ls _ _ x1 x2 x3 x5 hI hS (lv_sub hl [0, 1, 2, 3, 4] rfl)
  · refine lv_iload_n hx hb dOperators_calculate_6 rfl (lv_at hl 2 rfl) ?_
    refine lv_bipush (v := 18) hx hb dOperators_calculate_7 (by decide) ?_
    refine lv_icmp_gt (tgt := 16) hx hb dOperators_calculate_9 (by decide) (fun c36 => ?_) (fun c36 => ?_)
    · exact J16 ls _ _ x1 x2 x3 x5 hI hS (lv_sub hl [0, 1, 2, 3, 4] rfl)
    · refine lv_iconst (v := 1) hx hb dOperators_calculate_12 (by decide) ?_
      refine lv_goto (tgt := 17) hx hb dOperators_calculate_13 (by decide) ?_
      exact J17 ls _ _ x1 x2 x3 x5 1 hI hS (lv_sub hl [0, 1, 2, 3, 4] rfl)

set_option maxHeartbeats 4000000 in
set_option maxRecDepth 100000 in
theorem k_Operators_binary (l : Launch) (γ : gE) (A : Nat → Prop) (κ : Nat → Nat) (x1 : Int32) (x2 : Int32) (x3 : Int32) (x4 : Int32) : MU l yOperators_binary bOperators_binary 8 (some .int) 4 95 0 0 [.ref (γ.2.2.2 11), .int x1, .int x2, .int x3, .int x4] γ A (INV γ A κ) (mQi (fun r H => True ∧ INV γ A κ H) A) := by
  refine mu_openI (by decide) (Nat.le_of_ble_eq_true rfl) ?_
  intro p e s m args below meth c ls Q S hnm hC hA hI hE hl
  obtain ⟨hx, hb, hml, hown, hW⟩ := id S
  have hS : va_S A s.heap s.heap [] := va_S.rf
  have hl : lv_has ls 8 [(0, .ref (γ.2.2.2 11)), (1, .int x1), (2, .int x2), (3, .int x3), (4, .int x4)] := hl
  have J354 : ∀ (ls : Array Slot) (H : Heap) (locs : List Loc) (i1 : Int32) (i2 : Int32) (i3 : Int32) (i4 : Int32) (i5 : Int32) (i6 : Int32) (i7 : Int32) (t0 : Int32) (t1 : Int32) (t2 : Int32), INV γ A κ H → va_S A s.heap H locs → lv_has ls 8 [(0, .ref (γ.2.2.2 11)), (1, .int i1), (2, .int i2), (3, .int i3), (4, .int i4), (5, .int i5), (6, .int i6), (7, .int i7)] → W p l e (bs_rm 4 0 0 95) s m args below meth c H locs 0 0 Q (F0 m 354 ls [.int t0, .int t1, .int t2, .ref (γ.2.2.2 11)]) := by
    intro ls H locs i1 i2 i3 i4 i5 i6 i7 t0 t1 t2 hI hS hl
    refine mu_Vv (rest := []) S hC (fun q h => hA q (Nat.le_trans hS.1 h)) (fun q h => h) hS (k_Operators_shift l γ A κ t2 t1 t0) meOperators_shift qw_446a3f39f2 ⟨Nat.le_of_ble_eq_true rfl, Nat.le_of_ble_eq_true rfl⟩ (rv_11 hC hI) hI rfl hl.1 rfl (Nat.le_of_ble_eq_true rfl) dOperators_binary_354 ⟨Nat.le_refl _, Nat.le_refl _⟩ (fun H locs hI hS _ _ => ?_)
    refine lv_iconst (v := 0) hx hb dOperators_binary_357 (by decide) ?_
    exact hE _ _ _ _ _ hS ⟨trivial, hI⟩ dOperators_binary_358
  have J282 : ∀ (ls : Array Slot) (H : Heap) (locs : List Loc) (i1 : Int32) (i2 : Int32) (i3 : Int32) (i4 : Int32) (i5 : Int32) (i6 : Int32) (i7 : Int32) (t0 : Int32) (t1 : Int32), INV γ A κ H → va_S A s.heap H locs → lv_has ls 8 [(0, .ref (γ.2.2.2 11)), (1, .int i1), (2, .int i2), (3, .int i3), (4, .int i4), (5, .int i5), (6, .int i6), (7, .int i7)] → W p l e (bs_rm 4 0 0 95) s m args below meth c H locs 0 0 Q (F0 m 282 ls [.int t0, .int t1, .ref (γ.2.2.2 9)]) := by
    intro ls H locs i1 i2 i3 i4 i5 i6 i7 t0 t1 hI hS hl
    refine mu_Vv (rest := []) S hC (fun q h => hA q (Nat.le_trans hS.1 h)) (fun q h => h) hS (k9_Looks_setNumber l γ A κ t1 t0) meLooks_setNumber qw_6899d83413 ⟨Nat.le_of_ble_eq_true rfl, Nat.le_of_ble_eq_true rfl⟩ (rv_9 hC hI) hI rfl hl.1 rfl (Nat.le_of_ble_eq_true rfl) dOperators_binary_282 ⟨Nat.le_refl _, Nat.le_refl _⟩ (fun H locs hI hS _ _ => ?_)
    refine lv_goto (tgt := 357) hx hb dOperators_binary_285 (by decide) ?_
    refine lv_iconst (v := 0) hx hb dOperators_binary_357 (by decide) ?_
    exact hE _ _ _ _ _ hS ⟨trivial, hI⟩ dOperators_binary_358
  have J249 : ∀ (ls : Array Slot) (H : Heap) (locs : List Loc) (i1 : Int32) (i2 : Int32) (i3 : Int32) (i4 : Int32) (i5 : Int32) (i6 : Int32) (i7 : Int32) (t0 : Int32) (t1 : Int32), INV γ A κ H → va_S A s.heap H locs → lv_has ls 8 [(0, .ref (γ.2.2.2 11)), (1, .int i1), (2, .int i2), (3, .int i3), (4, .int i4), (5, .int i5), (6, .int i6), (7, .int i7)] → W p l e (bs_rm 4 0 0 95) s m args below meth c H locs 0 0 Q (F0 m 249 ls [.int t0, .int t1, .ref (γ.2.2.2 9)]) := by
    intro ls H locs i1 i2 i3 i4 i5 i6 i7 t0 t1 hI hS hl
    refine mu_Vv (rest := []) S hC (fun q h => hA q (Nat.le_trans hS.1 h)) (fun q h => h) hS (k9_Looks_setNumber l γ A κ t1 t0) meLooks_setNumber qw_6899d83413 ⟨Nat.le_of_ble_eq_true rfl, Nat.le_of_ble_eq_true rfl⟩ (rv_9 hC hI) hI rfl hl.1 rfl (Nat.le_of_ble_eq_true rfl) dOperators_binary_249 ⟨Nat.le_refl _, Nat.le_refl _⟩ (fun H locs hI hS _ _ => ?_)
    refine lv_goto (tgt := 357) hx hb dOperators_binary_252 (by decide) ?_
    refine lv_iconst (v := 0) hx hb dOperators_binary_357 (by decide) ?_
    exact hE _ _ _ _ _ hS ⟨trivial, hI⟩ dOperators_binary_358
  have J241 : ∀ (ls : Array Slot) (H : Heap) (locs : List Loc) (i1 : Int32) (i2 : Int32) (i3 : Int32) (i4 : Int32) (i5 : Int32) (i6 : Int32) (i7 : Int32) (t0 : Int32) (t1 : Int32) (t2 : Int32), INV γ A κ H → va_S A s.heap H locs → lv_has ls 8 [(0, .ref (γ.2.2.2 11)), (1, .int i1), (2, .int i2), (3, .int i3), (4, .int i4), (5, .int i5), (6, .int i6), (7, .int i7)] → W p l e (bs_rm 4 0 0 95) s m args below meth c H locs 0 0 Q (F0 m 241 ls [.int t0, .int t1, .int t2, .ref (γ.2.2.2 9)]) := by
    intro ls H locs i1 i2 i3 i4 i5 i6 i7 t0 t1 t2 hI hS hl
    refine lv_icmp_ne (tgt := 248) hx hb dOperators_binary_241 (by decide) (fun c51 => ?_) (fun c51 => ?_)
    · refine lv_iconst (v := 0) hx hb dOperators_binary_248 (by decide) ?_
      exact J249 ls _ _ i1 i2 i3 i4 i5 i6 i7 0 t2 hI hS (lv_sub hl [0, 1, 2, 3, 4, 5, 6, 7] rfl)
    · refine lv_iconst (v := 1) hx hb dOperators_binary_244 (by decide) ?_
      refine lv_goto (tgt := 249) hx hb dOperators_binary_245 (by decide) ?_
      exact J249 ls _ _ i1 i2 i3 i4 i5 i6 i7 1 t2 hI hS (lv_sub hl [0, 1, 2, 3, 4, 5, 6, 7] rfl)
  have J150 : ∀ (ls : Array Slot) (H : Heap) (locs : List Loc) (i1 : Int32) (i2 : Int32) (i3 : Int32) (i4 : Int32) (i5 : Int32) (i6 : Int32) (i7 : Int32), INV γ A κ H → va_S A s.heap H locs → lv_has ls 8 [(0, .ref (γ.2.2.2 11)), (1, .int i1), (2, .int i2), (3, .int i3), (4, .int i4), (5, .int i5), (6, .int i6), (7, .int i7)] → W p l e (bs_rm 4 0 0 95) s m args below meth c H locs 0 0 Q (F0 m 150 ls []) := by
    intro ls H locs i1 i2 i3 i4 i5 i6 i7 hI hS hl
    refine lv_aload_n hx hb dOperators_binary_150 rfl (lv_at hl 0 rfl) ?_
    refine of_get S hC (of_11_0 hI) in_Operators rfl (by decide) qw_46160f6e07 dOperators_binary_151 ?_
    refine lv_iload_n hx hb dOperators_binary_154 rfl (lv_at hl 1 rfl) ?_
    refine pu_Vi (rest := []) S hC (k9_Looks_isFixed l γ A κ i1) meLooks_isFixed qw_c191710e5d ⟨Nat.le_of_ble_eq_true rfl, Nat.le_of_ble_eq_true rfl⟩ (rv_9 hC hI) hI rfl hl.1 rfl (Nat.le_of_ble_eq_true rfl) dOperators_binary_155 ⟨Nat.zero_le _, Nat.zero_le _⟩ (fun r52 hr52 => ?_)
    refine lv_if_ne (tgt := 163) hx hb dOperators_binary_158 (by decide) (fun c53 => ?_) (fun c53 => ?_)
    · refine lv_iload hx hb dOperators_binary_163 (lv_at hl 5 rfl) ?_
      refine lv_iconst (v := 2) hx hb dOperators_binary_165 (by decide) ?_
      refine lv_icmp_ne (tgt := 195) hx hb dOperators_binary_166 (by decide) (fun c54 => ?_) (fun c54 => ?_)
      · refine lv_iload_n hx hb dOperators_binary_195 rfl (lv_at hl 2 rfl) ?_
        refine lv_iconst (v := 5) hx hb dOperators_binary_196 (by decide) ?_
        refine lv_icmp_gt (tgt := 212) hx hb dOperators_binary_197 (by decide) (fun c55 => ?_) (fun c55 => ?_)
        · refine lv_iload_n hx hb dOperators_binary_212 rfl (lv_at hl 2 rfl) ?_
          refine lv_bipush (v := 7) hx hb dOperators_binary_213 (by decide) ?_
          refine lv_icmp_gt (tgt := 255) hx hb dOperators_binary_215 (by decide) (fun c56 => ?_) (fun c56 => ?_)
          · refine lv_iload_n hx hb dOperators_binary_255 rfl (lv_at hl 2 rfl) ?_
            refine lv_bipush (v := 11) hx hb dOperators_binary_256 (by decide) ?_
            refine lv_icmp_gt (tgt := 288) hx hb dOperators_binary_258 (by decide) (fun c57 => ?_) (fun c57 => ?_)
            · refine lv_iload_n hx hb dOperators_binary_288 rfl (lv_at hl 2 rfl) ?_
              refine lv_bipush (v := 13) hx hb dOperators_binary_289 (by decide) ?_
              refine lv_icmp_gt (tgt := 306) hx hb dOperators_binary_291 (by decide) (fun c58 => ?_) (fun c58 => ?_)
              · refine lv_iload_n hx hb dOperators_binary_306 rfl (lv_at hl 2 rfl) ?_
                refine lv_bipush (v := 14) hx hb dOperators_binary_307 (by decide) ?_
                refine lv_icmp_ne (tgt := 323) hx hb dOperators_binary_309 (by decide) (fun c59 => ?_) (fun c59 => ?_)
                · refine lv_aload_n hx hb dOperators_binary_323 rfl (lv_at hl 0 rfl) ?_
                  refine lv_iload_n hx hb dOperators_binary_324 rfl (lv_at hl 1 rfl) ?_
                  refine lv_iload_n hx hb dOperators_binary_325 rfl (lv_at hl 3 rfl) ?_
                  refine lv_iload_n hx hb dOperators_binary_326 rfl (lv_at hl 2 rfl) ?_
                  refine lv_bipush (v := 19) hx hb dOperators_binary_327 (by decide) ?_
                  refine lv_icmp_ne (tgt := 344) hx hb dOperators_binary_329 (by decide) (fun c60 => ?_) (fun c60 => ?_)
                  · refine lv_aload_n hx hb dOperators_binary_344 rfl (lv_at hl 0 rfl) ?_
                    refine of_get S hC (of_11_0 hI) in_Operators rfl (by decide) qw_46160f6e07 dOperators_binary_345 ?_
                    refine lv_iload hx hb dOperators_binary_348 (lv_at hl 4 rfl) ?_
                    refine pu_Vi (rest := [.int i3, .int i1, .ref (γ.2.2.2 11)]) S hC (k9_Looks_numberOf l γ A κ i4) meLooks_numberOf qw_567f1aae5f ⟨Nat.le_of_ble_eq_true rfl, Nat.le_of_ble_eq_true rfl⟩ (rv_9 hC hI) hI rfl hl.1 rfl (Nat.le_of_ble_eq_true rfl) dOperators_binary_350 ⟨Nat.zero_le _, Nat.zero_le _⟩ (fun r61 hr61 => ?_)
                    refine lv_ineg hx hb dOperators_binary_353 ?_
                    refine lv_topi (fun v62 ev62 => ?_)
                    exact J354 ls _ _ i1 i2 i3 i4 i5 i6 i7 v62 i3 i1 hI hS (lv_sub hl [0, 1, 2, 3, 4, 5, 6, 7] rfl)
                  · refine lv_aload_n hx hb dOperators_binary_332 rfl (lv_at hl 0 rfl) ?_
                    refine of_get S hC (of_11_0 hI) in_Operators rfl (by decide) qw_46160f6e07 dOperators_binary_333 ?_
                    refine lv_iload hx hb dOperators_binary_336 (lv_at hl 4 rfl) ?_
                    refine pu_Vi (rest := [.int i3, .int i1, .ref (γ.2.2.2 11)]) S hC (k9_Looks_numberOf l γ A κ i4) meLooks_numberOf qw_567f1aae5f ⟨Nat.le_of_ble_eq_true rfl, Nat.le_of_ble_eq_true rfl⟩ (rv_9 hC hI) hI rfl hl.1 rfl (Nat.le_of_ble_eq_true rfl) dOperators_binary_338 ⟨Nat.zero_le _, Nat.zero_le _⟩ (fun r63 hr63 => ?_)
                    refine lv_goto (tgt := 354) hx hb dOperators_binary_341 (by decide) ?_
                    exact J354 ls _ _ i1 i2 i3 i4 i5 i6 i7 r63 i3 i1 hI hS (lv_sub hl [0, 1, 2, 3, 4, 5, 6, 7] rfl)
                · refine lv_aload_n hx hb dOperators_binary_312 rfl (lv_at hl 0 rfl) ?_
                  refine lv_iload_n hx hb dOperators_binary_313 rfl (lv_at hl 1 rfl) ?_
                  refine lv_iload_n hx hb dOperators_binary_314 rfl (lv_at hl 3 rfl) ?_
                  refine lv_iload hx hb dOperators_binary_315 (lv_at hl 4 rfl) ?_
                  refine mu_Vv (rest := []) S hC (fun q h => hA q (Nat.le_trans hS.1 h)) (fun q h => h) hS (k_Operators_join l γ A κ i1 i3 i4) meOperators_join qw_cfad81ad60 ⟨Nat.le_of_ble_eq_true rfl, Nat.le_of_ble_eq_true rfl⟩ (rv_11 hC hI) hI rfl hl.1 rfl (Nat.le_of_ble_eq_true rfl) dOperators_binary_317 ⟨Nat.le_refl _, Nat.le_refl _⟩ (fun H locs hI hS _ _ => ?_)
                  refine lv_goto (tgt := 357) hx hb dOperators_binary_320 (by decide) ?_
                  refine lv_iconst (v := 0) hx hb dOperators_binary_357 (by decide) ?_
                  exact hE _ _ _ _ _ hS ⟨trivial, hI⟩ dOperators_binary_358
              · refine lv_aload_n hx hb dOperators_binary_294 rfl (lv_at hl 0 rfl) ?_
                refine lv_iload_n hx hb dOperators_binary_295 rfl (lv_at hl 1 rfl) ?_
                refine lv_iload_n hx hb dOperators_binary_296 rfl (lv_at hl 2 rfl) ?_
                refine lv_iload_n hx hb dOperators_binary_297 rfl (lv_at hl 3 rfl) ?_
                refine lv_iload hx hb dOperators_binary_298 (lv_at hl 4 rfl) ?_
                refine mu_Vv (rest := []) S hC (fun q h => hA q (Nat.le_trans hS.1 h)) (fun q h => h) hS (k_Operators_sumRows l γ A κ i1 i2 i3 i4) meOperators_sumRows qw_7021c7185b ⟨Nat.le_of_ble_eq_true rfl, Nat.le_of_ble_eq_true rfl⟩ (rv_11 hC hI) hI rfl hl.1 rfl (Nat.le_of_ble_eq_true rfl) dOperators_binary_300 ⟨Nat.le_refl _, Nat.le_refl _⟩ (fun H locs hI hS _ _ => ?_)
                refine lv_goto (tgt := 357) hx hb dOperators_binary_303 (by decide) ?_
                refine lv_iconst (v := 0) hx hb dOperators_binary_357 (by decide) ?_
                exact hE _ _ _ _ _ hS ⟨trivial, hI⟩ dOperators_binary_358
            · refine lv_aload_n hx hb dOperators_binary_261 rfl (lv_at hl 0 rfl) ?_
              refine of_get S hC (of_11_0 hI) in_Operators rfl (by decide) qw_46160f6e07 dOperators_binary_262 ?_
              refine lv_iload_n hx hb dOperators_binary_265 rfl (lv_at hl 1 rfl) ?_
              refine lv_aload_n hx hb dOperators_binary_266 rfl (lv_at hl 0 rfl) ?_
              refine lv_iload_n hx hb dOperators_binary_267 rfl (lv_at hl 2 rfl) ?_
              refine lv_iload_n hx hb dOperators_binary_268 rfl (lv_at hl 3 rfl) ?_
              refine lv_iload hx hb dOperators_binary_269 (lv_at hl 4 rfl) ?_
              refine pu_Vi (rest := [.int i1, .ref (γ.2.2.2 9)]) S hC (k_Operators_isOrdered l γ A κ i2 i3 i4) meOperators_isOrdered qw_6712b2d4fd ⟨Nat.le_of_ble_eq_true rfl, Nat.le_of_ble_eq_true rfl⟩ (rv_11 hC hI) hI rfl hl.1 rfl (Nat.le_of_ble_eq_true rfl) dOperators_binary_271 ⟨Nat.zero_le _, Nat.zero_le _⟩ (fun r66 hr66 => ?_)
              refine lv_if_eq (tgt := 281) hx hb dOperators_binary_274 (by decide) (fun c67 => ?_) (fun c67 => ?_)
              · refine lv_iconst (v := 0) hx hb dOperators_binary_281 (by decide) ?_
                exact J282 ls _ _ i1 i2 i3 i4 i5 i6 i7 0 i1 hI hS (lv_sub hl [0, 1, 2, 3, 4, 5, 6, 7] rfl)
              · refine lv_iconst (v := 1) hx hb dOperators_binary_277 (by decide) ?_
                refine lv_goto (tgt := 282) hx hb dOperators_binary_278 (by decide) ?_
                exact J282 ls _ _ i1 i2 i3 i4 i5 i6 i7 1 i1 hI hS (lv_sub hl [0, 1, 2, 3, 4, 5, 6, 7] rfl)
          · refine lv_aload_n hx hb dOperators_binary_218 rfl (lv_at hl 0 rfl) ?_
            refine of_get S hC (of_11_0 hI) in_Operators rfl (by decide) qw_46160f6e07 dOperators_binary_219 ?_
            refine lv_iload_n hx hb dOperators_binary_222 rfl (lv_at hl 1 rfl) ?_
            refine lv_aload_n hx hb dOperators_binary_223 rfl (lv_at hl 0 rfl) ?_
            refine lv_iload_n hx hb dOperators_binary_224 rfl (lv_at hl 3 rfl) ?_
            refine lv_iload hx hb dOperators_binary_225 (lv_at hl 4 rfl) ?_
            refine pu_Vi (rest := [.int i1, .ref (γ.2.2.2 9)]) S hC (k_Operators_areAlike l γ A κ i3 i4) meOperators_areAlike qw_dd9a5adbb1 ⟨Nat.le_of_ble_eq_true rfl, Nat.le_of_ble_eq_true rfl⟩ (rv_11 hC hI) hI rfl hl.1 rfl (Nat.le_of_ble_eq_true rfl) dOperators_binary_227 ⟨Nat.zero_le _, Nat.zero_le _⟩ (fun r68 hr68 => ?_)
            refine lv_iload_n hx hb dOperators_binary_230 rfl (lv_at hl 2 rfl) ?_
            refine lv_bipush (v := 6) hx hb dOperators_binary_231 (by decide) ?_
            refine lv_icmp_ne (tgt := 240) hx hb dOperators_binary_233 (by decide) (fun c69 => ?_) (fun c69 => ?_)
            · refine lv_iconst (v := 0) hx hb dOperators_binary_240 (by decide) ?_
              exact J241 ls _ _ i1 i2 i3 i4 i5 i6 i7 0 r68 i1 hI hS (lv_sub hl [0, 1, 2, 3, 4, 5, 6, 7] rfl)
            · refine lv_iconst (v := 1) hx hb dOperators_binary_236 (by decide) ?_
              refine lv_goto (tgt := 241) hx hb dOperators_binary_237 (by decide) ?_
              exact J241 ls _ _ i1 i2 i3 i4 i5 i6 i7 1 r68 i1 hI hS (lv_sub hl [0, 1, 2, 3, 4, 5, 6, 7] rfl)
        · refine lv_aload_n hx hb dOperators_binary_200 rfl (lv_at hl 0 rfl) ?_
          refine lv_iload_n hx hb dOperators_binary_201 rfl (lv_at hl 1 rfl) ?_
          refine lv_iload_n hx hb dOperators_binary_202 rfl (lv_at hl 2 rfl) ?_
          refine lv_iload_n hx hb dOperators_binary_203 rfl (lv_at hl 3 rfl) ?_
          refine lv_iload hx hb dOperators_binary_204 (lv_at hl 4 rfl) ?_
          refine mu_Vv (rest := []) S hC (fun q h => hA q (Nat.le_trans hS.1 h)) (fun q h => h) hS (k_Operators_combine l γ A κ i1 i2 i3 i4) meOperators_combine qw_1b3bfb6306 ⟨Nat.le_of_ble_eq_true rfl, Nat.le_of_ble_eq_true rfl⟩ (rv_11 hC hI) hI rfl hl.1 rfl (Nat.le_of_ble_eq_true rfl) dOperators_binary_206 ⟨Nat.le_refl _, Nat.le_refl _⟩ (fun H locs hI hS _ _ => ?_)
          refine lv_goto (tgt := 357) hx hb dOperators_binary_209 (by decide) ?_
          refine lv_iconst (v := 0) hx hb dOperators_binary_357 (by decide) ?_
          exact hE _ _ _ _ _ hS ⟨trivial, hI⟩ dOperators_binary_358
      · refine lv_aload_n hx hb dOperators_binary_169 rfl (lv_at hl 0 rfl) ?_
        refine lv_iload_n hx hb dOperators_binary_170 rfl (lv_at hl 1 rfl) ?_
        refine lv_iload_n hx hb dOperators_binary_171 rfl (lv_at hl 2 rfl) ?_
        refine lv_aload_n hx hb dOperators_binary_172 rfl (lv_at hl 0 rfl) ?_
        refine of_get S hC (of_11_0 hI) in_Operators rfl (by decide) qw_46160f6e07 dOperators_binary_173 ?_
        refine lv_iload_n hx hb dOperators_binary_176 rfl (lv_at hl 3 rfl) ?_
        refine pu_Vi (rest := [.int i2, .int i1, .ref (γ.2.2.2 11)]) S hC (k9_Looks_numberOf l γ A κ i3) meLooks_numberOf qw_567f1aae5f ⟨Nat.le_of_ble_eq_true rfl, Nat.le_of_ble_eq_true rfl⟩ (rv_9 hC hI) hI rfl hl.1 rfl (Nat.le_of_ble_eq_true rfl) dOperators_binary_177 ⟨Nat.zero_le _, Nat.zero_le _⟩ (fun r71 hr71 => ?_)
        refine lv_i2l hx hb dOperators_binary_180 rfl ?_
        refine lv_topl (fun v72 ev72 => ?_)
        refine lv_aload_n hx hb dOperators_binary_181 rfl (lv_at hl 0 rfl) ?_
        refine of_get S hC (of_11_0 hI) in_Operators rfl (by decide) qw_46160f6e07 dOperators_binary_182 ?_
        refine lv_iload hx hb dOperators_binary_185 (lv_at hl 4 rfl) ?_
        refine pu_Vi (rest := [.long v72, .int i2, .int i1, .ref (γ.2.2.2 11)]) S hC (k9_Looks_numberOf l γ A κ i4) meLooks_numberOf qw_567f1aae5f ⟨Nat.le_of_ble_eq_true rfl, Nat.le_of_ble_eq_true rfl⟩ (rv_9 hC hI) hI rfl hl.1 rfl (Nat.le_of_ble_eq_true rfl) dOperators_binary_187 ⟨Nat.zero_le _, Nat.zero_le _⟩ (fun r73 hr73 => ?_)
        refine lv_i2l hx hb dOperators_binary_190 rfl ?_
        refine lv_topl (fun v74 ev74 => ?_)
        refine mu_Vi (rest := []) S hC (fun q h => hA q (Nat.le_trans hS.1 h)) (fun q h => h) hS (k_Operators_calculate l γ A κ i1 i2 v72 v74) meOperators_calculate qw_055df11e33 ⟨Nat.le_of_ble_eq_true rfl, Nat.le_of_ble_eq_true rfl⟩ (rv_11 hC hI) hI rfl hl.1 rfl (Nat.le_of_ble_eq_true rfl) dOperators_binary_191 ⟨Nat.le_refl _, Nat.le_refl _⟩ (fun r75 H locs ⟨hr75, hI⟩ hS _ _ => ?_)
        exact hE _ _ _ _ _ hS ⟨trivial, hI⟩ dOperators_binary_194
    · refine lv_iconst (v := 0) hx hb dOperators_binary_161 (by decide) ?_
      exact hE _ _ _ _ _ hS ⟨trivial, hI⟩ dOperators_binary_162
  have J108 : ∀ (ls : Array Slot) (H : Heap) (locs : List Loc) (i1 : Int32) (i2 : Int32) (i3 : Int32) (i4 : Int32) (i5 : Int32) (i6 : Int32) (t0 : Int32), INV γ A κ H → va_S A s.heap H locs → lv_has ls 8 [(0, .ref (γ.2.2.2 11)), (1, .int i1), (2, .int i2), (3, .int i3), (4, .int i4), (5, .int i5), (6, .int i6)] → W p l e (bs_rm 4 0 0 95) s m args below meth c H locs 0 0 Q (F0 m 108 ls [.int t0]) := by
    intro ls H locs i1 i2 i3 i4 i5 i6 t0 hI hS hl
    refine lv_istore (lv' := [(7, .int t0), (0, .ref (γ.2.2.2 11)), (1, .int i1), (2, .int i2), (3, .int i3), (4, .int i4), (5, .int i5), (6, .int i6)]) hx hb dOperators_binary_108 hl (by decide) rfl (fun ls hl => ?_)
    refine lv_iload hx hb dOperators_binary_110 (lv_at hl 7 rfl) ?_
    refine lv_bipush (v := 64) hx hb dOperators_binary_112 (by decide) ?_
    refine lv_icmp_gt (tgt := 148) hx hb dOperators_binary_114 (by decide) (fun c76 => ?_) (fun c76 => ?_)
    · refine lv_iconst (v := 4) hx hb dOperators_binary_148 (by decide) ?_
      exact hE _ _ _ _ _ hS ⟨trivial, hI⟩ dOperators_binary_149
    · refine lv_iload hx hb dOperators_binary_117 (lv_at hl 0 rfl) ?_
      refine lv_if_eq (tgt := 150) hx hb dOperators_binary_119 (by decide) (fun c77 => ?_) (fun c77 => ?_)
      · exact J150 ls _ _ i1 i2 i3 i4 i5 i6 t0 hI hS (lv_sub hl [1, 2, 3, 4, 5, 6, 7, 0] rfl)
      · refine lv_iload_n hx hb dOperators_binary_122 rfl (lv_at hl 3 rfl) ?_
        refine lv_bipush (v := 14) hx hb dOperators_binary_123 (by decide) ?_
        refine lv_icmp_eq (tgt := 150) hx hb dOperators_binary_125 (by decide) (fun c78 => ?_) (fun c78 => ?_)
        · exact J150 ls _ _ i1 i2 i3 i4 i5 i6 t0 hI hS (lv_sub hl [1, 2, 3, 4, 5, 6, 7, 0] rfl)
        · refine lv_aload_n hx hb dOperators_binary_128 rfl (lv_at hl 1 rfl) ?_
          refine of_get S hC (of_11_0 hI) in_Operators rfl (by decide) qw_46160f6e07 dOperators_binary_129 ?_
          refine lv_iload_n hx hb dOperators_binary_132 rfl (lv_at hl 4 rfl) ?_
          refine pu_Vi (rest := []) S hC (k9_Looks_extentOf l γ A κ i3) meLooks_extentOf qw_b0051a6c7a ⟨Nat.le_of_ble_eq_true rfl, Nat.le_of_ble_eq_true rfl⟩ (rv_9 hC hI) hI rfl hl.1 rfl (Nat.le_of_ble_eq_true rfl) dOperators_binary_133 ⟨Nat.zero_le _, Nat.zero_le _⟩ (fun r79 hr79 => ?_)
          refine lv_aload_n hx hb dOperators_binary_136 rfl (lv_at hl 1 rfl) ?_
          refine of_get S hC (of_11_0 hI) in_Operators rfl (by decide) qw_46160f6e07 dOperators_binary_137 ?_
          refine lv_iload hx hb dOperators_binary_140 (lv_at hl 5 rfl) ?_
          refine pu_Vi (rest := [.int r79]) S hC (k9_Looks_extentOf l γ A κ i4) meLooks_extentOf qw_b0051a6c7a ⟨Nat.le_of_ble_eq_true rfl, Nat.le_of_ble_eq_true rfl⟩ (rv_9 hC hI) hI rfl hl.1 rfl (Nat.le_of_ble_eq_true rfl) dOperators_binary_142 ⟨Nat.zero_le _, Nat.zero_le _⟩ (fun r80 hr80 => ?_)
          refine lv_icmp_eq (tgt := 150) hx hb dOperators_binary_145 (by decide) (fun c81 => ?_) (fun c81 => ?_)
          · exact J150 ls _ _ i1 i2 i3 i4 i5 i6 t0 hI hS (lv_sub hl [1, 2, 3, 4, 5, 6, 7, 0] rfl)
          · refine lv_iconst (v := 4) hx hb dOperators_binary_148 (by decide) ?_
            exact hE _ _ _ _ _ hS ⟨trivial, hI⟩ dOperators_binary_149
  have J107 : ∀ (ls : Array Slot) (H : Heap) (locs : List Loc) (i1 : Int32) (i2 : Int32) (i3 : Int32) (i4 : Int32) (i5 : Int32) (i6 : Int32), INV γ A κ H → va_S A s.heap H locs → lv_has ls 8 [(0, .ref (γ.2.2.2 11)), (1, .int i1), (2, .int i2), (3, .int i3), (4, .int i4), (5, .int i5), (6, .int i6)] → W p l e (bs_rm 4 0 0 95) s m args below meth c H locs 0 0 Q (F0 m 107 ls []) := by
    intro ls H locs i1 i2 i3 i4 i5 i6 hI hS hl
    refine lv_iconst (v := 0) hx hb dOperators_binary_107 (by decide) ?_
    exact J108 ls _ _ i1 i2 i3 i4 i5 i6 0 hI hS (lv_sub hl [0, 1, 2, 3, 4, 5, 6] rfl)
  have J75 : ∀ (ls : Array Slot) (H : Heap) (locs : List Loc) (i1 : Int32) (i2 : Int32) (i3 : Int32) (i4 : Int32) (i5 : Int32) (i6 : Int32) (t0 : Int32) (t1 : Int32) (t2 : Int32) (t3 : Int32), INV γ A κ H → va_S A s.heap H locs → lv_has ls 8 [(0, .ref (γ.2.2.2 11)), (1, .int i1), (2, .int i2), (3, .int i3), (4, .int i4), (5, .int i5), (6, .int i6)] → W p l e (bs_rm 4 0 0 95) s m args below meth c H locs 0 0 Q (F0 m 75 ls [.int t0, .int t1, .int t2, .int t3, .ref (γ.2.2.2 9)]) := by
    intro ls H locs i1 i2 i3 i4 i5 i6 t0 t1 t2 t3 hI hS hl
    refine mu_Vv (rest := []) S hC (fun q h => hA q (Nat.le_trans hS.1 h)) (fun q h => h) hS (k9_Looks_note l γ A κ t3 t2 t1 t0) meLooks_note qw_97c82781ec ⟨Nat.le_of_ble_eq_true rfl, Nat.le_of_ble_eq_true rfl⟩ (rv_9 hC hI) hI rfl hl.1 rfl (Nat.le_of_ble_eq_true rfl) dOperators_binary_75 ⟨Nat.le_refl _, Nat.le_refl _⟩ (fun H locs hI hS _ _ => ?_)
    refine lv_aload_n hx hb dOperators_binary_78 rfl (lv_at hl 0 rfl) ?_
    refine of_get S hC (of_11_0 hI) in_Operators rfl (by decide) qw_46160f6e07 dOperators_binary_79 ?_
    refine lv_iload_n hx hb dOperators_binary_82 rfl (lv_at hl 3 rfl) ?_
    refine pu_Vi (rest := []) S hC (k9_Looks_classOf l γ A κ i3) meLooks_classOf qw_2e1b0e0eff ⟨Nat.le_of_ble_eq_true rfl, Nat.le_of_ble_eq_true rfl⟩ (rv_9 hC hI) hI rfl hl.1 rfl (Nat.le_of_ble_eq_true rfl) dOperators_binary_83 ⟨Nat.zero_le _, Nat.zero_le _⟩ (fun r83 hr83 => ?_)
    refine lv_iconst (v := 3) hx hb dOperators_binary_86 (by decide) ?_
    refine lv_icmp_ne (tgt := 107) hx hb dOperators_binary_87 (by decide) (fun c84 => ?_) (fun c84 => ?_)
    · exact J107 ls _ _ i1 i2 i3 i4 i5 i6 hI hS (lv_sub hl [0, 1, 2, 3, 4, 5, 6] rfl)
    · refine lv_aload_n hx hb dOperators_binary_90 rfl (lv_at hl 0 rfl) ?_
      refine of_get S hC (of_11_0 hI) in_Operators rfl (by decide) qw_46160f6e07 dOperators_binary_91 ?_
      refine lv_iload hx hb dOperators_binary_94 (lv_at hl 4 rfl) ?_
      refine pu_Vi (rest := []) S hC (k9_Looks_classOf l γ A κ i4) meLooks_classOf qw_2e1b0e0eff ⟨Nat.le_of_ble_eq_true rfl, Nat.le_of_ble_eq_true rfl⟩ (rv_9 hC hI) hI rfl hl.1 rfl (Nat.le_of_ble_eq_true rfl) dOperators_binary_96 ⟨Nat.zero_le _, Nat.zero_le _⟩ (fun r85 hr85 => ?_)
      refine lv_iconst (v := 3) hx hb dOperators_binary_99 (by decide) ?_
      refine lv_icmp_ne (tgt := 107) hx hb dOperators_binary_100 (by decide) (fun c86 => ?_) (fun c86 => ?_)
      · exact J107 ls _ _ i1 i2 i3 i4 i5 i6 hI hS (lv_sub hl [0, 1, 2, 3, 4, 5, 6] rfl)
      · refine lv_iconst (v := 1) hx hb dOperators_binary_103 (by decide) ?_
        refine lv_goto (tgt := 108) hx hb dOperators_binary_104 (by decide) ?_
        exact J108 ls _ _ i1 i2 i3 i4 i5 i6 1 hI hS (lv_sub hl [0, 1, 2, 3, 4, 5, 6] rfl)
  have J74 : ∀ (ls : Array Slot) (H : Heap) (locs : List Loc) (i1 : Int32) (i2 : Int32) (i3 : Int32) (i4 : Int32) (i5 : Int32) (i6 : Int32) (t0 : Int32) (t1 : Int32) (t2 : Int32), INV γ A κ H → va_S A s.heap H locs → lv_has ls 8 [(0, .ref (γ.2.2.2 11)), (1, .int i1), (2, .int i2), (3, .int i3), (4, .int i4), (5, .int i5), (6, .int i6)] → W p l e (bs_rm 4 0 0 95) s m args below meth c H locs 0 0 Q (F0 m 74 ls [.int t0, .int t1, .int t2, .ref (γ.2.2.2 9)]) := by
    intro ls H locs i1 i2 i3 i4 i5 i6 t0 t1 t2 hI hS hl
    refine lv_iconst (v := 0) hx hb dOperators_binary_74 (by decide) ?_
    exact J75 ls _ _ i1 i2 i3 i4 i5 i6 0 t0 t1 t2 hI hS (lv_sub hl [0, 1, 2, 3, 4, 5, 6] rfl)
  have J36 : ∀ (ls : Array Slot) (H : Heap) (locs : List Loc) (i1 : Int32) (i2 : Int32) (i3 : Int32) (i4 : Int32) (i5 : Int32) (t0 : Int32), INV γ A κ H → va_S A s.heap H locs → lv_has ls 8 [(0, .ref (γ.2.2.2 11)), (1, .int i1), (2, .int i2), (3, .int i3), (4, .int i4), (5, .int i5)] → W p l e (bs_rm 4 0 0 95) s m args below meth c H locs 0 0 Q (F0 m 36 ls [.int t0]) := by
    intro ls H locs i1 i2 i3 i4 i5 t0 hI hS hl
    refine lv_istore (lv' := [(6, .int t0), (0, .ref (γ.2.2.2 11)), (1, .int i1), (2, .int i2), (3, .int i3), (4, .int i4), (5, .int i5)]) hx hb dOperators_binary_36 hl (by decide) rfl (fun ls hl => ?_)
    refine lv_aload_n hx hb dOperators_binary_38 rfl (lv_at hl 1 rfl) ?_
    refine of_get S hC (of_11_0 hI) in_Operators rfl (by decide) qw_46160f6e07 dOperators_binary_39 ?_
    refine lv_iload_n hx hb dOperators_binary_42 rfl (lv_at hl 2 rfl) ?_
    refine lv_iload hx hb dOperators_binary_43 (lv_at hl 6 rfl) ?_
    refine lv_iload hx hb dOperators_binary_45 (lv_at hl 0 rfl) ?_
    refine lv_aload_n hx hb dOperators_binary_47 rfl (lv_at hl 1 rfl) ?_
    refine of_get S hC (of_11_0 hI) in_Operators rfl (by decide) qw_46160f6e07 dOperators_binary_48 ?_
    refine lv_iload_n hx hb dOperators_binary_51 rfl (lv_at hl 4 rfl) ?_
    refine pu_Vi (rest := [.int t0, .int i5, .int i1, .ref (γ.2.2.2 9)]) S hC (k9_Looks_isFixed l γ A κ i3) meLooks_isFixed qw_c191710e5d ⟨Nat.le_of_ble_eq_true rfl, Nat.le_of_ble_eq_true rfl⟩ (rv_9 hC hI) hI rfl hl.1 rfl (Nat.le_of_ble_eq_true rfl) dOperators_binary_52 ⟨Nat.zero_le _, Nat.zero_le _⟩ (fun r87 hr87 => ?_)
    refine lv_if_eq (tgt := 74) hx hb dOperators_binary_55 (by decide) (fun c88 => ?_) (fun c88 => ?_)
    · exact J74 ls _ _ i1 i2 i3 i4 i5 t0 t0 i5 i1 hI hS (lv_sub hl [1, 2, 3, 4, 5, 6, 0] rfl)
    · refine lv_aload_n hx hb dOperators_binary_58 rfl (lv_at hl 1 rfl) ?_
      refine of_get S hC (of_11_0 hI) in_Operators rfl (by decide) qw_46160f6e07 dOperators_binary_59 ?_
      refine lv_iload hx hb dOperators_binary_62 (lv_at hl 5 rfl) ?_
      refine pu_Vi (rest := [.int t0, .int i5, .int i1, .ref (γ.2.2.2 9)]) S hC (k9_Looks_isFixed l γ A κ i4) meLooks_isFixed qw_c191710e5d ⟨Nat.le_of_ble_eq_true rfl, Nat.le_of_ble_eq_true rfl⟩ (rv_9 hC hI) hI rfl hl.1 rfl (Nat.le_of_ble_eq_true rfl) dOperators_binary_64 ⟨Nat.zero_le _, Nat.zero_le _⟩ (fun r89 hr89 => ?_)
      refine lv_if_eq (tgt := 74) hx hb dOperators_binary_67 (by decide) (fun c90 => ?_) (fun c90 => ?_)
      · exact J74 ls _ _ i1 i2 i3 i4 i5 t0 t0 i5 i1 hI hS (lv_sub hl [1, 2, 3, 4, 5, 6, 0] rfl)
      · refine lv_iconst (v := 1) hx hb dOperators_binary_70 (by decide) ?_
        refine lv_goto (tgt := 75) hx hb dOperators_binary_71 (by decide) ?_
        exact J75 ls _ _ i1 i2 i3 i4 i5 t0 1 t0 i5 i1 hI hS (lv_sub hl [1, 2, 3, 4, 5, 6, 0] rfl)
  refine lv_aload_n hx hb dOperators_binary_0 rfl (lv_at hl 0 rfl) ?_
  refine lv_iload_n hx hb dOperators_binary_1 rfl (lv_at hl 2 rfl) ?_
  refine lv_iload_n hx hb dOperators_binary_2 rfl (lv_at hl 3 rfl) ?_
  refine lv_iload hx hb dOperators_binary_3 (lv_at hl 4 rfl) ?_
  refine pu_Vi (rest := []) S hC (k_Operators_resultClass l γ A κ x2 x3 x4) meOperators_resultClass qw_fcae91e82f ⟨Nat.le_of_ble_eq_true rfl, Nat.le_of_ble_eq_true rfl⟩ (rv_11 hC hI) hI rfl hl.1 rfl (Nat.le_of_ble_eq_true rfl) dOperators_binary_5 ⟨Nat.zero_le _, Nat.zero_le _⟩ (fun r91 hr91 => ?_)
  refine lv_istore (lv' := [(5, .int r91), (0, .ref (γ.2.2.2 11)), (1, .int x1), (2, .int x2), (3, .int x3), (4, .int x4)]) hx hb dOperators_binary_8 hl (by decide) rfl (fun ls hl => ?_)
  refine lv_iload hx hb dOperators_binary_10 (lv_at hl 0 rfl) ?_
  refine lv_iconst (v := (-1)) hx hb dOperators_binary_12 (by decide) ?_
  refine lv_icmp_ne (tgt := 18) hx hb dOperators_binary_13 (by decide) (fun c92 => ?_) (fun c92 => ?_)
  · refine lv_iload hx hb dOperators_binary_18 (lv_at hl 0 rfl) ?_
    refine lv_iconst (v := 3) hx hb dOperators_binary_20 (by decide) ?_
    refine lv_icmp_ne (tgt := 35) hx hb dOperators_binary_21 (by decide) (fun c93 => ?_) (fun c93 => ?_)
    · refine lv_iconst (v := 0) hx hb dOperators_binary_35 (by decide) ?_
      exact J36 ls _ _ x1 x2 x3 x4 r91 0 hI hS (lv_sub hl [1, 2, 3, 4, 5, 0] rfl)
    · refine lv_aload_n hx hb dOperators_binary_24 rfl (lv_at hl 1 rfl) ?_
      refine lv_iload_n hx hb dOperators_binary_25 rfl (lv_at hl 3 rfl) ?_
      refine lv_iload_n hx hb dOperators_binary_26 rfl (lv_at hl 4 rfl) ?_
      refine lv_iload hx hb dOperators_binary_27 (lv_at hl 5 rfl) ?_
      refine pu_Vi (rest := []) S hC (k_Operators_resultLength l γ A κ x2 x3 x4) meOperators_resultLength qw_38a5a3e266 ⟨Nat.le_of_ble_eq_true rfl, Nat.le_of_ble_eq_true rfl⟩ (rv_11 hC hI) hI rfl hl.1 rfl (Nat.le_of_ble_eq_true rfl) dOperators_binary_29 ⟨Nat.zero_le _, Nat.zero_le _⟩ (fun r94 hr94 => ?_)
      refine lv_goto (tgt := 36) hx hb dOperators_binary_32 (by decide) ?_
      exact J36 ls _ _ x1 x2 x3 x4 r91 r94 hI hS (lv_sub hl [1, 2, 3, 4, 5, 0] rfl)
  · refine lv_iconst (v := 3) hx hb dOperators_binary_16 (by decide) ?_
    exact hE _ _ _ _ _ hS ⟨trivial, hI⟩ dOperators_binary_17
