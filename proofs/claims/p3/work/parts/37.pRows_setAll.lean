theorem qw_0778b52d37 : (Cond.methodLink R_Rows 31 yRows_has) ∈ bs_W0 := bs_in (in_tables_1_3 (List.mem_of_getElem? (i := 149) rfl)) rfl
theorem qw_c9d4ab67c5 : (Cond.methodLink R_Rows 35 ⟨"java/lang/System", "arraycopy", "(Ljava/lang/Object;ILjava/lang/Object;II)V"⟩) ∈ bs_W0 := bs_in (in_tables_1_3 (List.mem_of_getElem? (i := 153) rfl)) rfl
theorem qw_d8fd3cc6ff : (Cond.native ⟨"java/lang/System", "arraycopy", "(Ljava/lang/Object;ILjava/lang/Object;II)V"⟩) ∈ bs_W0 := bs_in (in_tables_1_1 (List.mem_of_getElem? (i := 98) rfl)) rfl
theorem qw_fe691cbd75 : (Cond.static ⟨"java/lang/System", "arraycopy", "(Ljava/lang/Object;ILjava/lang/Object;II)V"⟩) ∈ bs_W0 := bs_in (in_tables_1_1 (List.mem_of_getElem? (i := 97) rfl)) rfl
theorem qw_3f8a6f3ebd : (Cond.initialized "java/lang/System") ∈ bs_W0 := bs_in (in_tables_1_1 (List.mem_of_getElem? (i := 6) rfl)) rfl
theorem qw_b87aa9f9e0 : (Cond.methodLink R_Operators 43 yLogic_not) ∈ bs_W0 := bs_in (in_tables_1_3 (List.mem_of_getElem? (i := 211) rfl)) rfl
theorem qw_6899d83413 : (Cond.methodLink R_Operators 39 yLooks_setNumber) ∈ bs_W0 := bs_in (in_tables_1_3 (List.mem_of_getElem? (i := 210) rfl)) rfl
theorem qw_f99ad17fe5 : (Cond.methodLink R_Operators 61 Lib.Math.abs.name) ∈ bs_W0 := bs_in (in_tables_1_3 (List.mem_of_getElem? (i := 225) rfl)) rfl
theorem qw_33d0c54276 : (Cond.methodLink R_Operators 58 yRows_set) ∈ bs_W0 := bs_in (in_tables_1_3 (List.mem_of_getElem? (i := 224) rfl)) rfl
theorem qw_c191710e5d : (Cond.methodLink R_Operators 24 yLooks_isFixed) ∈ bs_W0 := bs_in (in_tables_1_3 (List.mem_of_getElem? (i := 197) rfl)) rfl
theorem qw_97c82781ec : (Cond.methodLink R_Operators 28 yLooks_note) ∈ bs_W0 := bs_in (in_tables_1_3 (List.mem_of_getElem? (i := 201) rfl)) rfl
theorem qw_99a6d7a0dd : (Cond.methodLink R_Operators 32 yOperators_computeUnary) ∈ bs_W0 := bs_in (in_tables_1_3 (List.mem_of_getElem? (i := 202) rfl)) rfl
theorem qw_a4407ee8b0 : (Cond.methodLink R_Operators 108 yLogic_ofSigns) ∈ bs_W0 := bs_in (in_tables_1_4 (List.mem_of_getElem? (i := 29) rfl)) rfl
theorem qw_e9b8c9b1e9 : (Cond.methodLink R_Operators 104 yLogic_ofTruths) ∈ bs_W0 := bs_in (in_tables_1_4 (List.mem_of_getElem? (i := 26) rfl)) rfl
set_option maxHeartbeats 4000000 in
set_option maxRecDepth 100000 in
theorem c_Rows_setAll (l : Launch) (γ : gE) (Z : Nat → Prop) (a M : Nat) (x1 : Int32) (x2 : Int32) (x3 : Int32)  : MU l yRows_setAll bRows_setAll 5 (none) 1 25 0 0 [.ref a, .int x1, .int x2, .int x3] γ Z (cmp γ (fRows γ a M) Z) (mQv (fun H => cmp γ (fRows γ a M) Z H) Z) := by
  refine mu_openV (by decide) (Nat.le_of_ble_eq_true rfl) ?_
  intro p e s m args below meth c ls Q S hnm hC hA hI hE hl
  obtain ⟨hx, hb, hml, hown, hW⟩ := id S
  have hS : va_S Z s.heap s.heap [] := va_S.rf
  have hl : lv_has ls 5 [(0, .ref a), (1, .int x1), (2, .int x2), (3, .int x3)] := hl
  have J3 : ∀ (N3 : Nat) (ls : Array Slot) (H : Heap) (locs : List Loc) (i1 : Int32) (i2 : Int32) (i3 : Int32) (i4 : Int32), cmp γ (fRows γ a M) Z H → va_S Z s.heap H locs → (2147483647 - i4.toInt).toNat = N3 → lv_has ls 5 [(0, .ref a), (1, .int i1), (2, .int i2), (3, .int i3), (4, .int i4)] → W p l e (bs_rm 1 0 0 25) s m args below meth c H locs 0 0 Q (F0 m 3 ls []) := by
    intro N3
    induction N3 using Nat.strongRecOn with
    | ind N3 ih3 =>
      intro ls H locs i1 i2 i3 i4 hI hS hm3 hl
      refine lv_iload hx hb dRows_setAll_3 (lv_at hl 4 rfl) ?_
      refine lv_iload_n hx hb dRows_setAll_5 rfl (lv_at hl 2 rfl) ?_
      refine lv_icmp_ge (tgt := 30) hx hb dRows_setAll_6 (by decide) (fun c4 => ?_) (fun c4 => ?_)
      · exact hE _ _ 30 ls hS hI dRows_setAll_30
      · refine lv_iload hx hb dRows_setAll_9 (lv_at hl 4 rfl) ?_
        refine lv_bipush (v := 64) hx hb dRows_setAll_11 (by decide) ?_
        refine lv_icmp_ge (tgt := 30) hx hb dRows_setAll_13 (by decide) (fun c5 => ?_) (fun c5 => ?_)
        · exact hE _ _ 30 ls hS hI dRows_setAll_30
        · refine lv_aload_n hx hb dRows_setAll_16 rfl (lv_at hl 0 rfl) ?_
          refine lv_iload_n hx hb dRows_setAll_17 rfl (lv_at hl 1 rfl) ?_
          refine lv_iload hx hb dRows_setAll_18 (lv_at hl 4 rfl) ?_
          refine lv_iload_n hx hb dRows_setAll_20 rfl (lv_at hl 3 rfl) ?_
          obtain ⟨ws_2, ⟨b0_2, g0_2, rfl, h1_2, h2_2⟩, hP, hD⟩ := id hI
          have hP : va_P γ.1 vwCl [(a, .inr (5, [.ref b0_2])), (b0_2, .inl (γ.2.2.1, 4 * M, .inr (.inl g0_2)))] _ := hP
          have hD : va_D Z [(a, .inr (5, [.ref b0_2])), (b0_2, .inl (γ.2.2.1, 4 * M, .inr (.inl g0_2)))] := hD
          refine mu_Vv (rest := []) S hC (fun q h => hA q (Nat.le_trans hS.1 h)) (fun q h => h) hS (c_Rows_set l γ Z a M i1 i4 i3) meRows_set qw_b8cf967c79 ⟨Nat.le_of_ble_eq_true rfl, Nat.le_of_ble_eq_true rfl⟩ (va_recv hC.1 hP (ci := 5) (q0 := 0) rfl rfl) hI rfl hl.1 rfl (Nat.le_of_ble_eq_true rfl) dRows_setAll_21 ⟨Nat.le_refl _, Nat.le_refl _⟩ (fun H locs hI hS _ _ => ?_)
          obtain ⟨v6, ev6⟩ : ∃ y : Int32, y = i4 + 1 := ⟨_, rfl⟩
          refine lv_iinc (v := v6) (lv' := [(4, .int v6), (0, .ref a), (1, .int i1), (2, .int i2), (3, .int i3)]) hx hb dRows_setAll_24 hl (k := 4) rfl (by rw [ev6]; rfl) (by decide) rfl (fun ls hl => ?_)
          refine lv_goto (tgt := 3) hx hb dRows_setAll_27 (by decide) ?_
          exact ih3 _ (by have q1 : i4.toInt < 2147483647 := (by first | exact (mu_up (k := i4) (by assumption)).2 | assumption); have q2 := mu_lt q1; rw [← ev6] at q2; omega) ls _ _ i1 i2 i3 v6 hI hS rfl (lv_sub hl [1, 2, 3, 4, 0] rfl)
  refine lv_iconst (v := 0) hx hb dRows_setAll_0 (by decide) ?_
  refine lv_istore (lv' := [(4, .int 0), (0, .ref a), (1, .int x1), (2, .int x2), (3, .int x3)]) hx hb dRows_setAll_1 hl (by decide) rfl (fun ls hl => ?_)
  exact J3 _ ls _ _ x1 x2 x3 0 hI hS rfl (lv_sub hl [1, 2, 3, 4, 0] rfl)
theorem k5_Rows_setAll (l : Launch) (γ : gE) (A : Nat → Prop) (κ : Nat → Nat) (x1 : Int32) (x2 : Int32) (x3 : Int32)  : MU l yRows_setAll bRows_setAll 5 (none) 1 25 0 0 [.ref (γ.2.2.2 5), .int x1, .int x2, .int x3] γ A (INV γ A κ) (mQv (fun H => INV γ A κ H) A) :=
  mu_upv (κ := κ) (κ' := κ) 6 (by decide) (by decide) (fun _ _ _ _ => rfl) (fun Z => c_Rows_setAll l γ Z (γ.2.2.2 5) (κ 8) x1 x2 x3)
theorem k7_Rows_setAll (l : Launch) (γ : gE) (A : Nat → Prop) (κ : Nat → Nat) (x1 : Int32) (x2 : Int32) (x3 : Int32)  : MU l yRows_setAll bRows_setAll 5 (none) 1 25 0 0 [.ref (γ.2.2.2 7), .int x1, .int x2, .int x3] γ A (INV γ A κ) (mQv (fun H => INV γ A κ H) A) :=
  mu_upv (κ := κ) (κ' := κ) 8 (by decide) (by decide) (fun _ _ _ _ => rfl) (fun Z => c_Rows_setAll l γ Z (γ.2.2.2 7) (κ 9) x1 x2 x3)
theorem k10_Rows_setAll (l : Launch) (γ : gE) (A : Nat → Prop) (κ : Nat → Nat) (x1 : Int32) (x2 : Int32) (x3 : Int32)  : MU l yRows_setAll bRows_setAll 5 (none) 1 25 0 0 [.ref (γ.2.2.2 10), .int x1, .int x2, .int x3] γ A (INV γ A κ) (mQv (fun H => INV γ A κ H) A) :=
  mu_upv (κ := κ) (κ' := κ) 10 (by decide) (by decide) (fun _ _ _ _ => rfl) (fun Z => c_Rows_setAll l γ Z (γ.2.2.2 10) (κ 10) x1 x2 x3)

set_option maxHeartbeats 4000000 in
set_option maxRecDepth 100000 in
theorem k5_Rows_copy (l : Launch) (γ : gE) (A : Nat → Prop) (κ : Nat → Nat) (x1 : Int32) (x3 : Int32) : MU l yRows_copy bRows_copy 4 (none) 1 60 0 0 [.ref (γ.2.2.2 5), .int x1, .ref (γ.2.2.2 7), .int x3] γ A (INV γ A κ) (mQv (fun H => INV γ A κ H) A) := by
  refine mu_openV (by decide) (Nat.le_of_ble_eq_true rfl) ?_
  intro p e s m args below meth c ls Q S hnm hC hA hI hE hl
  obtain ⟨hx, hb, hml, hown, hW⟩ := id S
  have hS : va_S A s.heap s.heap [] := va_S.rf
  have hl : lv_has ls 4 [(0, .ref (γ.2.2.2 5)), (1, .int x1), (2, .ref (γ.2.2.2 7)), (3, .int x3)] := hl
  refine lv_aload_n hx hb dRows_copy_0 rfl (lv_at hl 0 rfl) ?_
  refine lv_iload_n hx hb dRows_copy_1 rfl (lv_at hl 1 rfl) ?_
  refine pu_Vi (rest := []) S hC (k5_Rows_has l γ A κ x1) meRows_has qw_0778b52d37 ⟨Nat.le_of_ble_eq_true rfl, Nat.le_of_ble_eq_true rfl⟩ (rv_5 hC hI) hI rfl hl.1 rfl (Nat.le_of_ble_eq_true rfl) dRows_copy_2 ⟨Nat.zero_le _, Nat.zero_le _⟩ (fun r1 hr1 => ?_)
  refine lv_if_eq (tgt := 34) hx hb dRows_copy_5 (by decide) (fun c1 => ?_) (fun c1 => ?_)
  · exact hE _ _ _ _ hS hI dRows_copy_34
  refine lv_aload_n hx hb dRows_copy_8 rfl (lv_at hl 2 rfl) ?_
  refine lv_iload_n hx hb dRows_copy_9 rfl (lv_at hl 3 rfl) ?_
  refine pu_Vi (rest := []) S hC (k7_Rows_has l γ A κ x3) meRows_has qw_0778b52d37 ⟨Nat.le_of_ble_eq_true rfl, Nat.le_of_ble_eq_true rfl⟩ (rv_7 hC hI) hI rfl hl.1 rfl (Nat.le_of_ble_eq_true rfl) dRows_copy_10 ⟨Nat.zero_le _, Nat.zero_le _⟩ (fun r2 hr2 => ?_)
  refine lv_if_eq (tgt := 34) hx hb dRows_copy_13 (by decide) (fun c2 => ?_) (fun c2 => ?_)
  · exact hE _ _ _ _ hS hI dRows_copy_34
  obtain ⟨Z0, ws0, ⟨b0, g0, rfl, h01, h02⟩, hP0, hD0⟩ := inv_c hI 8 (by decide) (by decide)
  obtain ⟨Z, ⟨ws1, ⟨b1, g1, rfl, h11, h12⟩, hP1, hD1⟩, hZn, hZA, hback⟩ := inv_lift hI hA 6 (by decide) (by decide)
  have hP0 : va_P γ.1 vwCl [(γ.2.2.2 7, .inr (5, [.ref b0])), (b0, .inl (γ.2.2.1, 4 * (κ 9), .inr (.inl g0)))] s.heap := hP0
  have hP1 : va_P γ.1 vwCl [(γ.2.2.2 5, .inr (5, [.ref b1])), (b1, .inl (γ.2.2.1, 4 * (κ 8), .inr (.inl g1)))] s.heap := hP1
  have hD1 : va_D Z [(γ.2.2.2 5, .inr (5, [.ref b1])), (b1, .inl (γ.2.2.1, 4 * (κ 8), .inr (.inl g1)))] := hD1
  have q1 := row4 hr1 c1 h11
  have q2 := row4 hr2 c2 h01
  refine lv_aload_n hx hb dRows_copy_16 rfl (lv_at hl 2 rfl) ?_
  refine va_get (D := γ.1) (ci := 5) (v := .ref b0) (C := R_Rows) (T := T_Rows) (N := 1) (Ts := bs_W0) hx hb hW in_Rows hown hC.1 hP0 0 rfl rfl 0 (by decide) (hW _ qw_05e9c8a29d) (fun _ h9 => h9) rfl dRows_copy_17 ?_
  refine lv_iload_n hx hb dRows_copy_20 rfl (lv_at hl 3 rfl) ?_
  refine lv_iconst (v := 4) hx hb dRows_copy_21 (by decide) ?_
  refine lv_imul hx hb dRows_copy_22 ?_
  refine lv_aload_n hx hb dRows_copy_23 rfl (lv_at hl 0 rfl) ?_
  refine va_get (D := γ.1) (ci := 5) (v := .ref b1) (C := R_Rows) (T := T_Rows) (N := 1) (Ts := bs_W0) hx hb hW in_Rows hown hC.1 hP1 0 rfl rfl 0 (by decide) (hW _ qw_05e9c8a29d) (fun _ h9 => h9) rfl dRows_copy_24 ?_
  refine lv_iload_n hx hb dRows_copy_27 rfl (lv_at hl 1 rfl) ?_
  refine lv_iconst (v := 4) hx hb dRows_copy_28 (by decide) ?_
  refine lv_imul hx hb dRows_copy_29 ?_
  refine lv_iconst (v := 4) hx hb dRows_copy_30 (by decide) ?_
  refine st_copyl hx hb (hml.trans hl.1.symm) hown (hW _ qw_c9d4ab67c5) (hW _ qw_d8fd3cc6ff) (hW _ qw_fe691cbd75) (hW _ qw_3f8a6f3ebd) hC.1 hP1 hD1 hZA hS 1 1 1 (hP0 1 _ rfl) rfl rfl rfl q2.1 q1.1 (by decide) q2.2 q1.2 (Nat.le_of_ble_eq_true rfl) (Nat.le_of_ble_eq_true rfl) dRows_copy_31 (fun H locs hP hD hS hz ho => ?_)
  exact hE _ _ _ _ hS (hback κ H (fun _ _ _ _ => rfl) ⟨_, ⟨b1, _, rfl, h11, h12⟩, hP, hD⟩ (Nat.le_of_eq hz.symm) (fun q _ hq => ho q (fun e9 => hq (by rw [e9]; exact hD1.2 1 _ rfl)))) dRows_copy_34

set_option maxHeartbeats 4000000 in
set_option maxRecDepth 100000 in
theorem k7_Rows_copy (l : Launch) (γ : gE) (A : Nat → Prop) (κ : Nat → Nat) (x1 : Int32) (x3 : Int32) : MU l yRows_copy bRows_copy 4 (none) 1 60 0 0 [.ref (γ.2.2.2 7), .int x1, .ref (γ.2.2.2 10), .int x3] γ A (INV γ A κ) (mQv (fun H => INV γ A κ H) A) := by
  refine mu_openV (by decide) (Nat.le_of_ble_eq_true rfl) ?_
  intro p e s m args below meth c ls Q S hnm hC hA hI hE hl
  obtain ⟨hx, hb, hml, hown, hW⟩ := id S
  have hS : va_S A s.heap s.heap [] := va_S.rf
  have hl : lv_has ls 4 [(0, .ref (γ.2.2.2 7)), (1, .int x1), (2, .ref (γ.2.2.2 10)), (3, .int x3)] := hl
  refine lv_aload_n hx hb dRows_copy_0 rfl (lv_at hl 0 rfl) ?_
  refine lv_iload_n hx hb dRows_copy_1 rfl (lv_at hl 1 rfl) ?_
  refine pu_Vi (rest := []) S hC (k7_Rows_has l γ A κ x1) meRows_has qw_0778b52d37 ⟨Nat.le_of_ble_eq_true rfl, Nat.le_of_ble_eq_true rfl⟩ (rv_7 hC hI) hI rfl hl.1 rfl (Nat.le_of_ble_eq_true rfl) dRows_copy_2 ⟨Nat.zero_le _, Nat.zero_le _⟩ (fun r1 hr1 => ?_)
  refine lv_if_eq (tgt := 34) hx hb dRows_copy_5 (by decide) (fun c1 => ?_) (fun c1 => ?_)
  · exact hE _ _ _ _ hS hI dRows_copy_34
  refine lv_aload_n hx hb dRows_copy_8 rfl (lv_at hl 2 rfl) ?_
  refine lv_iload_n hx hb dRows_copy_9 rfl (lv_at hl 3 rfl) ?_
  refine pu_Vi (rest := []) S hC (k10_Rows_has l γ A κ x3) meRows_has qw_0778b52d37 ⟨Nat.le_of_ble_eq_true rfl, Nat.le_of_ble_eq_true rfl⟩ (rv_10 hC hI) hI rfl hl.1 rfl (Nat.le_of_ble_eq_true rfl) dRows_copy_10 ⟨Nat.zero_le _, Nat.zero_le _⟩ (fun r2 hr2 => ?_)
  refine lv_if_eq (tgt := 34) hx hb dRows_copy_13 (by decide) (fun c2 => ?_) (fun c2 => ?_)
  · exact hE _ _ _ _ hS hI dRows_copy_34
  obtain ⟨Z0, ws0, ⟨b0, g0, rfl, h01, h02⟩, hP0, hD0⟩ := inv_c hI 10 (by decide) (by decide)
  obtain ⟨Z, ⟨ws1, ⟨b1, g1, rfl, h11, h12⟩, hP1, hD1⟩, hZn, hZA, hback⟩ := inv_lift hI hA 8 (by decide) (by decide)
  have hP0 : va_P γ.1 vwCl [(γ.2.2.2 10, .inr (5, [.ref b0])), (b0, .inl (γ.2.2.1, 4 * (κ 10), .inr (.inl g0)))] s.heap := hP0
  have hP1 : va_P γ.1 vwCl [(γ.2.2.2 7, .inr (5, [.ref b1])), (b1, .inl (γ.2.2.1, 4 * (κ 9), .inr (.inl g1)))] s.heap := hP1
  have hD1 : va_D Z [(γ.2.2.2 7, .inr (5, [.ref b1])), (b1, .inl (γ.2.2.1, 4 * (κ 9), .inr (.inl g1)))] := hD1
  have q1 := row4 hr1 c1 h11
  have q2 := row4 hr2 c2 h01
  refine lv_aload_n hx hb dRows_copy_16 rfl (lv_at hl 2 rfl) ?_
  refine va_get (D := γ.1) (ci := 5) (v := .ref b0) (C := R_Rows) (T := T_Rows) (N := 1) (Ts := bs_W0) hx hb hW in_Rows hown hC.1 hP0 0 rfl rfl 0 (by decide) (hW _ qw_05e9c8a29d) (fun _ h9 => h9) rfl dRows_copy_17 ?_
  refine lv_iload_n hx hb dRows_copy_20 rfl (lv_at hl 3 rfl) ?_
  refine lv_iconst (v := 4) hx hb dRows_copy_21 (by decide) ?_
  refine lv_imul hx hb dRows_copy_22 ?_
  refine lv_aload_n hx hb dRows_copy_23 rfl (lv_at hl 0 rfl) ?_
  refine va_get (D := γ.1) (ci := 5) (v := .ref b1) (C := R_Rows) (T := T_Rows) (N := 1) (Ts := bs_W0) hx hb hW in_Rows hown hC.1 hP1 0 rfl rfl 0 (by decide) (hW _ qw_05e9c8a29d) (fun _ h9 => h9) rfl dRows_copy_24 ?_
  refine lv_iload_n hx hb dRows_copy_27 rfl (lv_at hl 1 rfl) ?_
  refine lv_iconst (v := 4) hx hb dRows_copy_28 (by decide) ?_
  refine lv_imul hx hb dRows_copy_29 ?_
  refine lv_iconst (v := 4) hx hb dRows_copy_30 (by decide) ?_
  refine st_copyl hx hb (hml.trans hl.1.symm) hown (hW _ qw_c9d4ab67c5) (hW _ qw_d8fd3cc6ff) (hW _ qw_fe691cbd75) (hW _ qw_3f8a6f3ebd) hC.1 hP1 hD1 hZA hS 1 1 1 (hP0 1 _ rfl) rfl rfl rfl q2.1 q1.1 (by decide) q2.2 q1.2 (Nat.le_of_ble_eq_true rfl) (Nat.le_of_ble_eq_true rfl) dRows_copy_31 (fun H locs hP hD hS hz ho => ?_)
  exact hE _ _ _ _ hS (hback κ H (fun _ _ _ _ => rfl) ⟨_, ⟨b1, _, rfl, h11, h12⟩, hP, hD⟩ (Nat.le_of_eq hz.symm) (fun q _ hq => ho q (fun e9 => hq (by rw [e9]; exact hD1.2 1 _ rfl)))) dRows_copy_34

set_option maxHeartbeats 4000000 in
set_option maxRecDepth 100000 in
theorem k10_Rows_copy (l : Launch) (γ : gE) (A : Nat → Prop) (κ : Nat → Nat) (x1 : Int32) (x3 : Int32) : MU l yRows_copy bRows_copy 4 (none) 1 60 0 0 [.ref (γ.2.2.2 10), .int x1, .ref (γ.2.2.2 5), .int x3] γ A (INV γ A κ) (mQv (fun H => INV γ A κ H) A) := by
  refine mu_openV (by decide) (Nat.le_of_ble_eq_true rfl) ?_
  intro p e s m args below meth c ls Q S hnm hC hA hI hE hl
  obtain ⟨hx, hb, hml, hown, hW⟩ := id S
  have hS : va_S A s.heap s.heap [] := va_S.rf
  have hl : lv_has ls 4 [(0, .ref (γ.2.2.2 10)), (1, .int x1), (2, .ref (γ.2.2.2 5)), (3, .int x3)] := hl
  refine lv_aload_n hx hb dRows_copy_0 rfl (lv_at hl 0 rfl) ?_
  refine lv_iload_n hx hb dRows_copy_1 rfl (lv_at hl 1 rfl) ?_
  refine pu_Vi (rest := []) S hC (k10_Rows_has l γ A κ x1) meRows_has qw_0778b52d37 ⟨Nat.le_of_ble_eq_true rfl, Nat.le_of_ble_eq_true rfl⟩ (rv_10 hC hI) hI rfl hl.1 rfl (Nat.le_of_ble_eq_true rfl) dRows_copy_2 ⟨Nat.zero_le _, Nat.zero_le _⟩ (fun r1 hr1 => ?_)
  refine lv_if_eq (tgt := 34) hx hb dRows_copy_5 (by decide) (fun c1 => ?_) (fun c1 => ?_)
  · exact hE _ _ _ _ hS hI dRows_copy_34
  refine lv_aload_n hx hb dRows_copy_8 rfl (lv_at hl 2 rfl) ?_
  refine lv_iload_n hx hb dRows_copy_9 rfl (lv_at hl 3 rfl) ?_
  refine pu_Vi (rest := []) S hC (k5_Rows_has l γ A κ x3) meRows_has qw_0778b52d37 ⟨Nat.le_of_ble_eq_true rfl, Nat.le_of_ble_eq_true rfl⟩ (rv_5 hC hI) hI rfl hl.1 rfl (Nat.le_of_ble_eq_true rfl) dRows_copy_10 ⟨Nat.zero_le _, Nat.zero_le _⟩ (fun r2 hr2 => ?_)
  refine lv_if_eq (tgt := 34) hx hb dRows_copy_13 (by decide) (fun c2 => ?_) (fun c2 => ?_)
  · exact hE _ _ _ _ hS hI dRows_copy_34
  obtain ⟨Z0, ws0, ⟨b0, g0, rfl, h01, h02⟩, hP0, hD0⟩ := inv_c hI 6 (by decide) (by decide)
  obtain ⟨Z, ⟨ws1, ⟨b1, g1, rfl, h11, h12⟩, hP1, hD1⟩, hZn, hZA, hback⟩ := inv_lift hI hA 10 (by decide) (by decide)
  have hP0 : va_P γ.1 vwCl [(γ.2.2.2 5, .inr (5, [.ref b0])), (b0, .inl (γ.2.2.1, 4 * (κ 8), .inr (.inl g0)))] s.heap := hP0
  have hP1 : va_P γ.1 vwCl [(γ.2.2.2 10, .inr (5, [.ref b1])), (b1, .inl (γ.2.2.1, 4 * (κ 10), .inr (.inl g1)))] s.heap := hP1
  have hD1 : va_D Z [(γ.2.2.2 10, .inr (5, [.ref b1])), (b1, .inl (γ.2.2.1, 4 * (κ 10), .inr (.inl g1)))] := hD1
  have q1 := row4 hr1 c1 h11
  have q2 := row4 hr2 c2 h01
  refine lv_aload_n hx hb dRows_copy_16 rfl (lv_at hl 2 rfl) ?_
  refine va_get (D := γ.1) (ci := 5) (v := .ref b0) (C := R_Rows) (T := T_Rows) (N := 1) (Ts := bs_W0) hx hb hW in_Rows hown hC.1 hP0 0 rfl rfl 0 (by decide) (hW _ qw_05e9c8a29d) (fun _ h9 => h9) rfl dRows_copy_17 ?_
  refine lv_iload_n hx hb dRows_copy_20 rfl (lv_at hl 3 rfl) ?_
  refine lv_iconst (v := 4) hx hb dRows_copy_21 (by decide) ?_
  refine lv_imul hx hb dRows_copy_22 ?_
  refine lv_aload_n hx hb dRows_copy_23 rfl (lv_at hl 0 rfl) ?_
  refine va_get (D := γ.1) (ci := 5) (v := .ref b1) (C := R_Rows) (T := T_Rows) (N := 1) (Ts := bs_W0) hx hb hW in_Rows hown hC.1 hP1 0 rfl rfl 0 (by decide) (hW _ qw_05e9c8a29d) (fun _ h9 => h9) rfl dRows_copy_24 ?_
  refine lv_iload_n hx hb dRows_copy_27 rfl (lv_at hl 1 rfl) ?_
  refine lv_iconst (v := 4) hx hb dRows_copy_28 (by decide) ?_
  refine lv_imul hx hb dRows_copy_29 ?_
  refine lv_iconst (v := 4) hx hb dRows_copy_30 (by decide) ?_
  refine st_copyl hx hb (hml.trans hl.1.symm) hown (hW _ qw_c9d4ab67c5) (hW _ qw_d8fd3cc6ff) (hW _ qw_fe691cbd75) (hW _ qw_3f8a6f3ebd) hC.1 hP1 hD1 hZA hS 1 1 1 (hP0 1 _ rfl) rfl rfl rfl q2.1 q1.1 (by decide) q2.2 q1.2 (Nat.le_of_ble_eq_true rfl) (Nat.le_of_ble_eq_true rfl) dRows_copy_31 (fun H locs hP hD hS hz ho => ?_)
  exact hE _ _ _ _ hS (hback κ H (fun _ _ _ _ => rfl) ⟨_, ⟨b1, _, rfl, h11, h12⟩, hP, hD⟩ (Nat.le_of_eq hz.symm) (fun q _ hq => ho q (fun e9 => hq (by rw [e9]; exact hD1.2 1 _ rfl)))) dRows_copy_34

set_option maxHeartbeats 4000000 in
set_option maxRecDepth 100000 in
theorem k_TypeBook_refused (l : Launch) (γ : gE) (A : Nat → Prop) (κ : Nat → Nat) (x1 : Int32) (x2 : Int32) : MU l yTypeBook_refused bTypeBook_refused 3 (some .int) 0 0 0 0 [.ref (γ.2.2.2 0), .int x1, .int x2] γ A (INV γ A κ) (mQi (fun r H => True ∧ INV γ A κ H) A) := by
  refine mu_openI (by decide) (Nat.le_of_ble_eq_true rfl) ?_
  intro p e s m args below meth c ls Q S hnm hC hA hI hE hl
  obtain ⟨hx, hb, hml, hown, hW⟩ := id S
  have hS : va_S A s.heap s.heap [] := va_S.rf
  have hl : lv_has ls 3 [(0, .ref (γ.2.2.2 0)), (1, .int x1), (2, .int x2)] := hl
  refine lv_aload_n hx hb dTypeBook_refused_0 rfl (lv_at hl 0 rfl) ?_
  refine lv_iload_n hx hb dTypeBook_refused_1 rfl (lv_at hl 2 rfl) ?_
  refine iv_fault S hC hI (fun q h => hA q (Nat.le_trans hS.1 h)) hS qw_464f80981e dTypeBook_refused_2 (fun H locs hI hS => ?_)
  refine lv_iload_n hx hb dTypeBook_refused_5 rfl (lv_at hl 1 rfl) ?_
  refine lv_ineg hx hb dTypeBook_refused_6 ?_
  refine lv_topi (fun v2 ev2 => ?_)
  exact hE _ _ _ _ _ hS ⟨trivial, hI⟩ dTypeBook_refused_7

set_option maxHeartbeats 4000000 in
set_option maxRecDepth 100000 in
theorem k_Operators_computeUnary (l : Launch) (γ : gE) (A : Nat → Prop) (κ : Nat → Nat) (x1 : Int32) (x2 : Int32) (x3 : Int32) : MU l yOperators_computeUnary bOperators_computeUnary 6 (none) 2 43 0 0 [.ref (γ.2.2.2 11), .int x1, .int x2, .int x3] γ A (INV γ A κ) (mQv (fun H => INV γ A κ H) A) := by
  refine mu_openV (by decide) (Nat.le_of_ble_eq_true rfl) ?_
  intro p e s m args below meth c ls Q S hnm hC hA hI hE hl
  obtain ⟨hx, hb, hml, hown, hW⟩ := id S
  have hS : va_S A s.heap s.heap [] := va_S.rf
  have hl : lv_has ls 6 [(0, .ref (γ.2.2.2 11)), (1, .int x1), (2, .int x2), (3, .int x3)] := hl
  have J164 : ∀ (ls : Array Slot) (H : Heap) (locs : List Loc) (i1 : Int32) (i2 : Int32) (i3 : Int32) (i4 : Int32) (t0 : Int32) (t1 : Int32), INV γ A κ H → va_S A s.heap H locs → lv_has ls 6 [(0, .ref (γ.2.2.2 11)), (1, .int i1), (2, .int i2), (3, .int i3), (4, .int i4)] → W p l e (bs_rm 2 0 0 43) s m args below meth c H locs 0 0 Q (F0 m 164 ls [.int t0, .int t1, .ref (γ.2.2.2 9)]) := by
    intro ls H locs i1 i2 i3 i4 t0 t1 hI hS hl
    refine mu_Vv (rest := []) S hC (fun q h => hA q (Nat.le_trans hS.1 h)) (fun q h => h) hS (k9_Looks_setNumber l γ A κ t1 t0) meLooks_setNumber qw_6899d83413 ⟨Nat.le_of_ble_eq_true rfl, Nat.le_of_ble_eq_true rfl⟩ (rv_9 hC hI) hI rfl hl.1 rfl (Nat.le_of_ble_eq_true rfl) dOperators_computeUnary_164 ⟨Nat.le_refl _, Nat.le_refl _⟩ (fun H locs hI hS _ _ => ?_)
    exact hE _ _ _ _ hS hI dOperators_computeUnary_167
  have J82 : ∀ (N82 : Nat) (ls : Array Slot) (H : Heap) (locs : List Loc) (i1 : Int32) (i2 : Int32) (i3 : Int32) (i4 : Int32) (i5 : Int32), INV γ A κ H → va_S A s.heap H locs → (2147483647 - i5.toInt).toNat = N82 → lv_has ls 6 [(0, .ref (γ.2.2.2 11)), (1, .int i1), (2, .int i2), (3, .int i3), (4, .int i4), (5, .int i5)] → W p l e (bs_rm 2 0 0 43) s m args below meth c H locs 0 0 Q (F0 m 82 ls []) := by
    intro N82
    induction N82 using Nat.strongRecOn with
    | ind N82 ih82 =>
      intro ls H locs i1 i2 i3 i4 i5 hI hS hm82 hl
      refine lv_iload hx hb dOperators_computeUnary_82 (lv_at hl 5 rfl) ?_
      refine lv_aload_n hx hb dOperators_computeUnary_84 rfl (lv_at hl 0 rfl) ?_
      refine of_get S hC (of_11_0 hI) in_Operators rfl (by decide) qw_46160f6e07 dOperators_computeUnary_85 ?_
      refine lv_iload_n hx hb dOperators_computeUnary_88 rfl (lv_at hl 3 rfl) ?_
      refine pu_Vi (rest := [.int i5]) S hC (k9_Looks_extentOf l γ A κ i3) meLooks_extentOf qw_b0051a6c7a ⟨Nat.le_of_ble_eq_true rfl, Nat.le_of_ble_eq_true rfl⟩ (rv_9 hC hI) hI rfl hl.1 rfl (Nat.le_of_ble_eq_true rfl) dOperators_computeUnary_89 ⟨Nat.zero_le _, Nat.zero_le _⟩ (fun r27 hr27 => ?_)
      refine lv_icmp_ge (tgt := 130) hx hb dOperators_computeUnary_92 (by decide) (fun c28 => ?_) (fun c28 => ?_)
      · refine lv_goto (tgt := 167) hx hb dOperators_computeUnary_130 (by decide) ?_
        exact hE _ _ _ _ hS hI dOperators_computeUnary_167
      · refine lv_aload_n hx hb dOperators_computeUnary_95 rfl (lv_at hl 0 rfl) ?_
        refine of_get S hC (of_11_0 hI) in_Operators rfl (by decide) qw_46160f6e07 dOperators_computeUnary_96 ?_
        refine of_getN S hC (of_9_5 hI) in_Looks rfl (by decide) qn_de7362ca2e dOperators_computeUnary_99 ?_
        refine lv_iload_n hx hb dOperators_computeUnary_102 rfl (lv_at hl 1 rfl) ?_
        refine lv_iload hx hb dOperators_computeUnary_103 (lv_at hl 5 rfl) ?_
        refine lv_aload_n hx hb dOperators_computeUnary_105 rfl (lv_at hl 0 rfl) ?_
        refine of_get S hC (of_11_0 hI) in_Operators rfl (by decide) qw_46160f6e07 dOperators_computeUnary_106 ?_
        refine of_getN S hC (of_9_5 hI) in_Looks rfl (by decide) qn_de7362ca2e dOperators_computeUnary_109 ?_
        refine lv_iload_n hx hb dOperators_computeUnary_112 rfl (lv_at hl 3 rfl) ?_
        refine lv_iload hx hb dOperators_computeUnary_113 (lv_at hl 5 rfl) ?_
        refine pu_Vi (rest := [.int i5, .int i1, .ref (γ.2.2.2 10)]) S hC (k10_Rows_get l γ A κ i3 i5) meRows_get qw_2b8ebea4b9 ⟨Nat.le_of_ble_eq_true rfl, Nat.le_of_ble_eq_true rfl⟩ (rv_10 hC hI) hI rfl hl.1 rfl (Nat.le_of_ble_eq_true rfl) dOperators_computeUnary_115 ⟨Nat.zero_le _, Nat.zero_le _⟩ (fun r29 hr29 => ?_)
        refine pu_Si (rest := [.int i5, .int i1, .ref (γ.2.2.2 10)]) S hC (s_Logic_not l γ (INV γ A κ) r29) meLogic_not qw_b87aa9f9e0 ⟨Nat.le_of_ble_eq_true rfl, Nat.le_of_ble_eq_true rfl⟩ hI rfl hl.1 rfl (Nat.le_of_ble_eq_true rfl) dOperators_computeUnary_118 ⟨Nat.zero_le _, Nat.zero_le _⟩ (fun r30 hr30 => ?_)
        refine mu_Vv (rest := []) S hC (fun q h => hA q (Nat.le_trans hS.1 h)) (fun q h => h) hS (k10_Rows_set l γ A κ i1 i5 r30) meRows_set qw_33d0c54276 ⟨Nat.le_of_ble_eq_true rfl, Nat.le_of_ble_eq_true rfl⟩ (rv_10 hC hI) hI rfl hl.1 rfl (Nat.le_of_ble_eq_true rfl) dOperators_computeUnary_121 ⟨Nat.le_refl _, Nat.le_refl _⟩ (fun H locs hI hS _ _ => ?_)
        obtain ⟨v32, ev32⟩ : ∃ y : Int32, y = i5 + 1 := ⟨_, rfl⟩
        refine lv_iinc (v := v32) (lv' := [(5, .int v32), (0, .ref (γ.2.2.2 11)), (1, .int i1), (2, .int i2), (3, .int i3), (4, .int i4)]) hx hb dOperators_computeUnary_124 hl (k := 5) rfl (by rw [ev32]; rfl) (by decide) rfl (fun ls hl => ?_)
        refine lv_goto (tgt := 82) hx hb dOperators_computeUnary_127 (by decide) ?_
        exact ih82 _ (by have q1 : i5.toInt < 2147483647 := (by first | exact (mu_up (k := i5) (by assumption)).2 | assumption); have q2 := mu_lt q1; rw [← ev32] at q2; omega) ls _ _ i1 i2 i3 i4 v32 hI hS rfl (lv_sub hl [1, 2, 3, 4, 5, 0] rfl)
  refine lv_aload_n hx hb dOperators_computeUnary_0 rfl (lv_at hl 0 rfl) ?_
  refine of_get S hC (of_11_0 hI) in_Operators rfl (by decide) qw_46160f6e07 dOperators_computeUnary_1 ?_
  refine lv_iload_n hx hb dOperators_computeUnary_4 rfl (lv_at hl 3 rfl) ?_
  refine pu_Vi (rest := []) S hC (k9_Looks_numberOf l γ A κ x3) meLooks_numberOf qw_567f1aae5f ⟨Nat.le_of_ble_eq_true rfl, Nat.le_of_ble_eq_true rfl⟩ (rv_9 hC hI) hI rfl hl.1 rfl (Nat.le_of_ble_eq_true rfl) dOperators_computeUnary_5 ⟨Nat.zero_le _, Nat.zero_le _⟩ (fun r33 hr33 => ?_)
  refine lv_istore (lv' := [(4, .int r33), (0, .ref (γ.2.2.2 11)), (1, .int x1), (2, .int x2), (3, .int x3)]) hx hb dOperators_computeUnary_8 hl (by decide) rfl (fun ls hl => ?_)
  refine lv_aload_n hx hb dOperators_computeUnary_10 rfl (lv_at hl 1 rfl) ?_
  refine of_get S hC (of_11_0 hI) in_Operators rfl (by decide) qw_46160f6e07 dOperators_computeUnary_11 ?_
  refine lv_iload_n hx hb dOperators_computeUnary_14 rfl (lv_at hl 4 rfl) ?_
  refine pu_Vi (rest := []) S hC (k9_Looks_classOf l γ A κ x3) meLooks_classOf qw_2e1b0e0eff ⟨Nat.le_of_ble_eq_true rfl, Nat.le_of_ble_eq_true rfl⟩ (rv_9 hC hI) hI rfl hl.1 rfl (Nat.le_of_ble_eq_true rfl) dOperators_computeUnary_15 ⟨Nat.zero_le _, Nat.zero_le _⟩ (fun r34 hr34 => ?_)
  by_cases k35 : r34 = 0
  · subst k35
    refine lv_tableIn (tgt := 63) hx hb dOperators_computeUnary_18 (by decide) (by decide) rfl (by decide) ?_
    refine lv_aload_n hx hb dOperators_computeUnary_63 rfl (lv_at hl 1 rfl) ?_
    refine of_get S hC (of_11_0 hI) in_Operators rfl (by decide) qw_46160f6e07 dOperators_computeUnary_64 ?_
    refine lv_iload_n hx hb dOperators_computeUnary_67 rfl (lv_at hl 2 rfl) ?_
    refine lv_iload hx hb dOperators_computeUnary_68 (lv_at hl 0 rfl) ?_
    refine pu_Si (rest := [.int x1, .ref (γ.2.2.2 9)]) S hC (s_Logic_not l γ (INV γ A κ) r33) meLogic_not qw_b87aa9f9e0 ⟨Nat.le_of_ble_eq_true rfl, Nat.le_of_ble_eq_true rfl⟩ hI rfl hl.1 rfl (Nat.le_of_ble_eq_true rfl) dOperators_computeUnary_70 ⟨Nat.zero_le _, Nat.zero_le _⟩ (fun r36 hr36 => ?_)
    refine mu_Vv (rest := []) S hC (fun q h => hA q (Nat.le_trans hS.1 h)) (fun q h => h) hS (k9_Looks_setNumber l γ A κ x1 r36) meLooks_setNumber qw_6899d83413 ⟨Nat.le_of_ble_eq_true rfl, Nat.le_of_ble_eq_true rfl⟩ (rv_9 hC hI) hI rfl hl.1 rfl (Nat.le_of_ble_eq_true rfl) dOperators_computeUnary_73 ⟨Nat.le_refl _, Nat.le_refl _⟩ (fun H locs hI hS _ _ => ?_)
    refine lv_goto (tgt := 167) hx hb dOperators_computeUnary_76 (by decide) ?_
    exact hE _ _ _ _ hS hI dOperators_computeUnary_167
  by_cases k38 : r34 = 1
  · subst k38
    refine lv_tableIn (tgt := 48) hx hb dOperators_computeUnary_18 (by decide) (by decide) rfl (by decide) ?_
    refine lv_aload_n hx hb dOperators_computeUnary_48 rfl (lv_at hl 1 rfl) ?_
    refine of_get S hC (of_11_0 hI) in_Operators rfl (by decide) qw_46160f6e07 dOperators_computeUnary_49 ?_
    refine lv_iload_n hx hb dOperators_computeUnary_52 rfl (lv_at hl 2 rfl) ?_
    refine lv_iconst (v := 1) hx hb dOperators_computeUnary_53 (by decide) ?_
    refine lv_iload hx hb dOperators_computeUnary_54 (lv_at hl 0 rfl) ?_
    refine lv_isub hx hb dOperators_computeUnary_56 ?_
    refine lv_topi (fun v39 ev39 => ?_)
    refine mu_Vv (rest := []) S hC (fun q h => hA q (Nat.le_trans hS.1 h)) (fun q h => h) hS (k9_Looks_setNumber l γ A κ x1 v39) meLooks_setNumber qw_6899d83413 ⟨Nat.le_of_ble_eq_true rfl, Nat.le_of_ble_eq_true rfl⟩ (rv_9 hC hI) hI rfl hl.1 rfl (Nat.le_of_ble_eq_true rfl) dOperators_computeUnary_57 ⟨Nat.le_refl _, Nat.le_refl _⟩ (fun H locs hI hS _ _ => ?_)
    refine lv_goto (tgt := 167) hx hb dOperators_computeUnary_60 (by decide) ?_
    exact hE _ _ _ _ hS hI dOperators_computeUnary_167
  by_cases k41 : r34 = 2
  · subst k41
    refine lv_tableIn (tgt := 133) hx hb dOperators_computeUnary_18 (by decide) (by decide) rfl (by decide) ?_
    refine lv_aload_n hx hb dOperators_computeUnary_133 rfl (lv_at hl 1 rfl) ?_
    refine of_get S hC (of_11_0 hI) in_Operators rfl (by decide) qw_46160f6e07 dOperators_computeUnary_134 ?_
    refine lv_iload_n hx hb dOperators_computeUnary_137 rfl (lv_at hl 2 rfl) ?_
    refine lv_iload_n hx hb dOperators_computeUnary_138 rfl (lv_at hl 3 rfl) ?_
    refine lv_iconst (v := 1) hx hb dOperators_computeUnary_139 (by decide) ?_
    refine lv_icmp_ne (tgt := 149) hx hb dOperators_computeUnary_140 (by decide) (fun c42 => ?_) (fun c42 => ?_)
    · refine lv_iload_n hx hb dOperators_computeUnary_149 rfl (lv_at hl 3 rfl) ?_
      refine lv_iconst (v := 3) hx hb dOperators_computeUnary_150 (by decide) ?_
      refine lv_icmp_ne (tgt := 162) hx hb dOperators_computeUnary_151 (by decide) (fun c43 => ?_) (fun c43 => ?_)
      · refine lv_iload hx hb dOperators_computeUnary_162 (lv_at hl 0 rfl) ?_
        exact J164 ls _ _ x1 x2 x3 r33 r33 x1 hI hS (lv_sub hl [1, 2, 3, 4, 0] rfl)
      · refine lv_iload hx hb dOperators_computeUnary_154 (lv_at hl 0 rfl) ?_
        refine va_mabs (rest := [.int x1, .ref (γ.2.2.2 9)]) hx hb (hml.trans hl.1.symm) hown (hW _ qw_f99ad17fe5) (hW _ qw_788fc9f3dd) (hW _ qw_0001fcaade) (hW _ qw_970e918a43) (Nat.le_of_ble_eq_true rfl) (Nat.le_of_ble_eq_true rfl) (Nat.zero_le _) (Nat.zero_le _) dOperators_computeUnary_156 ?_
        refine lv_topi (fun v44 ev44 => ?_)
        refine lv_goto (tgt := 164) hx hb dOperators_computeUnary_159 (by decide) ?_
        exact J164 ls _ _ x1 x2 x3 r33 v44 x1 hI hS (lv_sub hl [1, 2, 3, 4, 0] rfl)
    · refine lv_iload hx hb dOperators_computeUnary_143 (lv_at hl 0 rfl) ?_
      refine lv_ineg hx hb dOperators_computeUnary_145 ?_
      refine lv_topi (fun v45 ev45 => ?_)
      refine lv_goto (tgt := 164) hx hb dOperators_computeUnary_146 (by decide) ?_
      exact J164 ls _ _ x1 x2 x3 r33 v45 x1 hI hS (lv_sub hl [1, 2, 3, 4, 0] rfl)
  by_cases k46 : r34 = 3
  · subst k46
    refine lv_tableIn (tgt := 79) hx hb dOperators_computeUnary_18 (by decide) (by decide) rfl (by decide) ?_
    refine lv_iconst (v := 0) hx hb dOperators_computeUnary_79 (by decide) ?_
    refine lv_istore (lv' := [(5, .int 0), (4, .int r33), (0, .ref (γ.2.2.2 11)), (1, .int x1), (2, .int x2), (3, .int x3)]) hx hb dOperators_computeUnary_80 hl (by decide) rfl (fun ls hl => ?_)
    exact J82 _ ls _ _ x1 x2 x3 r33 0 hI hS rfl (lv_sub hl [2, 3, 4, 5, 1, 0] rfl)
  refine lv_tableOut (tgt := 133) hx hb dOperators_computeUnary_18 (by have qk35 := lv_neT (a := 0) k35 (by decide); have qk38 := lv_neT (a := 1) k38 (by decide); have qk41 := lv_neT (a := 2) k41 (by decide); have qk46 := lv_neT (a := 3) k46 (by decide); omega) (by decide) ?_
  refine lv_aload_n hx hb dOperators_computeUnary_133 rfl (lv_at hl 1 rfl) ?_
  refine of_get S hC (of_11_0 hI) in_Operators rfl (by decide) qw_46160f6e07 dOperators_computeUnary_134 ?_
  refine lv_iload_n hx hb dOperators_computeUnary_137 rfl (lv_at hl 2 rfl) ?_
  refine lv_iload_n hx hb dOperators_computeUnary_138 rfl (lv_at hl 3 rfl) ?_
  refine lv_iconst (v := 1) hx hb dOperators_computeUnary_139 (by decide) ?_
  refine lv_icmp_ne (tgt := 149) hx hb dOperators_computeUnary_140 (by decide) (fun c47 => ?_) (fun c47 => ?_)
  · refine lv_iload_n hx hb dOperators_computeUnary_149 rfl (lv_at hl 3 rfl) ?_
    refine lv_iconst (v := 3) hx hb dOperators_computeUnary_150 (by decide) ?_
    refine lv_icmp_ne (tgt := 162) hx hb dOperators_computeUnary_151 (by decide) (fun c48 => ?_) (fun c48 => ?_)
    · refine lv_iload hx hb dOperators_computeUnary_162 (lv_at hl 0 rfl) ?_
      exact J164 ls _ _ x1 x2 x3 r33 r33 x1 hI hS (lv_sub hl [1, 2, 3, 4, 0] rfl)
    · refine lv_iload hx hb dOperators_computeUnary_154 (lv_at hl 0 rfl) ?_
      refine va_mabs (rest := [.int x1, .ref (γ.2.2.2 9)]) hx hb (hml.trans hl.1.symm) hown (hW _ qw_f99ad17fe5) (hW _ qw_788fc9f3dd) (hW _ qw_0001fcaade) (hW _ qw_970e918a43) (Nat.le_of_ble_eq_true rfl) (Nat.le_of_ble_eq_true rfl) (Nat.zero_le _) (Nat.zero_le _) dOperators_computeUnary_156 ?_
      refine lv_topi (fun v49 ev49 => ?_)
      refine lv_goto (tgt := 164) hx hb dOperators_computeUnary_159 (by decide) ?_
      exact J164 ls _ _ x1 x2 x3 r33 v49 x1 hI hS (lv_sub hl [1, 2, 3, 4, 0] rfl)
  · refine lv_iload hx hb dOperators_computeUnary_143 (lv_at hl 0 rfl) ?_
    refine lv_ineg hx hb dOperators_computeUnary_145 ?_
    refine lv_topi (fun v50 ev50 => ?_)
    refine lv_goto (tgt := 164) hx hb dOperators_computeUnary_146 (by decide) ?_
    exact J164 ls _ _ x1 x2 x3 r33 v50 x1 hI hS (lv_sub hl [1, 2, 3, 4, 0] rfl)

set_option maxHeartbeats 4000000 in
set_option maxRecDepth 100000 in
theorem k_Operators_unary (l : Launch) (γ : gE) (A : Nat → Prop) (κ : Nat → Nat) (x1 : Int32) (x2 : Int32) (x3 : Int32) : MU l yOperators_unary bOperators_unary 6 (some .int) 3 68 0 0 [.ref (γ.2.2.2 11), .int x1, .int x2, .int x3] γ A (INV γ A κ) (mQi (fun r H => True ∧ INV γ A κ H) A) := by
  refine mu_openI (by decide) (Nat.le_of_ble_eq_true rfl) ?_
  intro p e s m args below meth c ls Q S hnm hC hA hI hE hl
  obtain ⟨hx, hb, hml, hown, hW⟩ := id S
  have hS : va_S A s.heap s.heap [] := va_S.rf
  have hl : lv_has ls 6 [(0, .ref (γ.2.2.2 11)), (1, .int x1), (2, .int x2), (3, .int x3)] := hl
  have J50 : ∀ (ls : Array Slot) (H : Heap) (locs : List Loc) (i1 : Int32) (i2 : Int32) (i3 : Int32) (i4 : Int32) (t0 : Int32), INV γ A κ H → va_S A s.heap H locs → lv_has ls 6 [(0, .ref (γ.2.2.2 11)), (1, .int i1), (2, .int i2), (3, .int i3), (4, .int i4)] → W p l e (bs_rm 3 0 0 68) s m args below meth c H locs 0 0 Q (F0 m 50 ls [.int t0]) := by
    intro ls H locs i1 i2 i3 i4 t0 hI hS hl
    refine lv_istore (lv' := [(5, .int t0), (0, .ref (γ.2.2.2 11)), (1, .int i1), (2, .int i2), (3, .int i3), (4, .int i4)]) hx hb dOperators_unary_50 hl (by decide) rfl (fun ls hl => ?_)
    refine lv_iload hx hb dOperators_unary_52 (lv_at hl 0 rfl) ?_
    refine lv_if_ne (tgt := 59) hx hb dOperators_unary_54 (by decide) (fun c14 => ?_) (fun c14 => ?_)
    · refine lv_aload_n hx hb dOperators_unary_59 rfl (lv_at hl 1 rfl) ?_
      refine of_get S hC (of_11_0 hI) in_Operators rfl (by decide) qw_46160f6e07 dOperators_unary_60 ?_
      refine lv_iload_n hx hb dOperators_unary_63 rfl (lv_at hl 2 rfl) ?_
      refine lv_iload hx hb dOperators_unary_64 (lv_at hl 5 rfl) ?_
      refine lv_aload_n hx hb dOperators_unary_66 rfl (lv_at hl 1 rfl) ?_
      refine of_get S hC (of_11_0 hI) in_Operators rfl (by decide) qw_46160f6e07 dOperators_unary_67 ?_
      refine lv_iload_n hx hb dOperators_unary_70 rfl (lv_at hl 4 rfl) ?_
      refine pu_Vi (rest := [.int i4, .int i1, .ref (γ.2.2.2 9)]) S hC (k9_Looks_extentOf l γ A κ i3) meLooks_extentOf qw_b0051a6c7a ⟨Nat.le_of_ble_eq_true rfl, Nat.le_of_ble_eq_true rfl⟩ (rv_9 hC hI) hI rfl hl.1 rfl (Nat.le_of_ble_eq_true rfl) dOperators_unary_71 ⟨Nat.zero_le _, Nat.zero_le _⟩ (fun r15 hr15 => ?_)
      refine lv_aload_n hx hb dOperators_unary_74 rfl (lv_at hl 1 rfl) ?_
      refine of_get S hC (of_11_0 hI) in_Operators rfl (by decide) qw_46160f6e07 dOperators_unary_75 ?_
      refine lv_iload_n hx hb dOperators_unary_78 rfl (lv_at hl 4 rfl) ?_
      refine pu_Vi (rest := [.int r15, .int i4, .int i1, .ref (γ.2.2.2 9)]) S hC (k9_Looks_isFixed l γ A κ i3) meLooks_isFixed qw_c191710e5d ⟨Nat.le_of_ble_eq_true rfl, Nat.le_of_ble_eq_true rfl⟩ (rv_9 hC hI) hI rfl hl.1 rfl (Nat.le_of_ble_eq_true rfl) dOperators_unary_79 ⟨Nat.zero_le _, Nat.zero_le _⟩ (fun r16 hr16 => ?_)
      refine mu_Vv (rest := []) S hC (fun q h => hA q (Nat.le_trans hS.1 h)) (fun q h => h) hS (k9_Looks_note l γ A κ i1 i4 r15 r16) meLooks_note qw_97c82781ec ⟨Nat.le_of_ble_eq_true rfl, Nat.le_of_ble_eq_true rfl⟩ (rv_9 hC hI) hI rfl hl.1 rfl (Nat.le_of_ble_eq_true rfl) dOperators_unary_82 ⟨Nat.le_refl _, Nat.le_refl _⟩ (fun H locs hI hS _ _ => ?_)
      refine lv_aload_n hx hb dOperators_unary_85 rfl (lv_at hl 1 rfl) ?_
      refine of_get S hC (of_11_0 hI) in_Operators rfl (by decide) qw_46160f6e07 dOperators_unary_86 ?_
      refine lv_iload_n hx hb dOperators_unary_89 rfl (lv_at hl 4 rfl) ?_
      refine pu_Vi (rest := []) S hC (k9_Looks_isFixed l γ A κ i3) meLooks_isFixed qw_c191710e5d ⟨Nat.le_of_ble_eq_true rfl, Nat.le_of_ble_eq_true rfl⟩ (rv_9 hC hI) hI rfl hl.1 rfl (Nat.le_of_ble_eq_true rfl) dOperators_unary_90 ⟨Nat.zero_le _, Nat.zero_le _⟩ (fun r18 hr18 => ?_)
      refine lv_if_eq (tgt := 103) hx hb dOperators_unary_93 (by decide) (fun c19 => ?_) (fun c19 => ?_)
      · refine lv_iconst (v := 0) hx hb dOperators_unary_103 (by decide) ?_
        exact hE _ _ _ _ _ hS ⟨trivial, hI⟩ dOperators_unary_104
      · refine lv_aload_n hx hb dOperators_unary_96 rfl (lv_at hl 1 rfl) ?_
        refine lv_iload_n hx hb dOperators_unary_97 rfl (lv_at hl 2 rfl) ?_
        refine lv_iload_n hx hb dOperators_unary_98 rfl (lv_at hl 3 rfl) ?_
        refine lv_iload_n hx hb dOperators_unary_99 rfl (lv_at hl 4 rfl) ?_
        refine mu_Vv (rest := []) S hC (fun q h => hA q (Nat.le_trans hS.1 h)) (fun q h => h) hS (k_Operators_computeUnary l γ A κ i1 i2 i3) meOperators_computeUnary qw_99a6d7a0dd ⟨Nat.le_of_ble_eq_true rfl, Nat.le_of_ble_eq_true rfl⟩ (rv_11 hC hI) hI rfl hl.1 rfl (Nat.le_of_ble_eq_true rfl) dOperators_unary_100 ⟨Nat.le_refl _, Nat.le_refl _⟩ (fun H locs hI hS _ _ => ?_)
        refine lv_iconst (v := 0) hx hb dOperators_unary_103 (by decide) ?_
        exact hE _ _ _ _ _ hS ⟨trivial, hI⟩ dOperators_unary_104
    · refine lv_iconst (v := 3) hx hb dOperators_unary_57 (by decide) ?_
      exact hE _ _ _ _ _ hS ⟨trivial, hI⟩ dOperators_unary_58
  have J31 : ∀ (ls : Array Slot) (H : Heap) (locs : List Loc) (i1 : Int32) (i2 : Int32) (i3 : Int32) (i4 : Int32), INV γ A κ H → va_S A s.heap H locs → lv_has ls 6 [(0, .ref (γ.2.2.2 11)), (1, .int i1), (2, .int i2), (3, .int i3), (4, .int i4)] → W p l e (bs_rm 3 0 0 68) s m args below meth c H locs 0 0 Q (F0 m 31 ls []) := by
    intro ls H locs i1 i2 i3 i4 hI hS hl
    refine lv_iconst (v := 1) hx hb dOperators_unary_31 (by decide) ?_
    refine lv_goto (tgt := 50) hx hb dOperators_unary_32 (by decide) ?_
    exact J50 ls _ _ i1 i2 i3 i4 1 hI hS (lv_sub hl [0, 1, 2, 3, 4] rfl)
  refine lv_aload_n hx hb dOperators_unary_0 rfl (lv_at hl 0 rfl) ?_
  refine of_get S hC (of_11_0 hI) in_Operators rfl (by decide) qw_46160f6e07 dOperators_unary_1 ?_
  refine lv_iload_n hx hb dOperators_unary_4 rfl (lv_at hl 3 rfl) ?_
  refine pu_Vi (rest := []) S hC (k9_Looks_classOf l γ A κ x3) meLooks_classOf qw_2e1b0e0eff ⟨Nat.le_of_ble_eq_true rfl, Nat.le_of_ble_eq_true rfl⟩ (rv_9 hC hI) hI rfl hl.1 rfl (Nat.le_of_ble_eq_true rfl) dOperators_unary_5 ⟨Nat.zero_le _, Nat.zero_le _⟩ (fun r21 hr21 => ?_)
  refine lv_istore (lv' := [(4, .int r21), (0, .ref (γ.2.2.2 11)), (1, .int x1), (2, .int x2), (3, .int x3)]) hx hb dOperators_unary_8 hl (by decide) rfl (fun ls hl => ?_)
  refine lv_iload_n hx hb dOperators_unary_10 rfl (lv_at hl 3 rfl) ?_
  refine lv_if_ne (tgt := 39) hx hb dOperators_unary_11 (by decide) (fun c22 => ?_) (fun c22 => ?_)
  · refine lv_iload hx hb dOperators_unary_39 (lv_at hl 0 rfl) ?_
    refine lv_iconst (v := 2) hx hb dOperators_unary_41 (by decide) ?_
    refine lv_icmp_ne (tgt := 49) hx hb dOperators_unary_42 (by decide) (fun c23 => ?_) (fun c23 => ?_)
    · refine lv_iconst (v := 0) hx hb dOperators_unary_49 (by decide) ?_
      exact J50 ls _ _ x1 x2 x3 r21 0 hI hS (lv_sub hl [1, 2, 3, 4, 0] rfl)
    · refine lv_iconst (v := 1) hx hb dOperators_unary_45 (by decide) ?_
      refine lv_goto (tgt := 50) hx hb dOperators_unary_46 (by decide) ?_
      exact J50 ls _ _ x1 x2 x3 r21 1 hI hS (lv_sub hl [1, 2, 3, 4, 0] rfl)
  · refine lv_iload hx hb dOperators_unary_14 (lv_at hl 0 rfl) ?_
    refine lv_iconst (v := 1) hx hb dOperators_unary_16 (by decide) ?_
    refine lv_icmp_eq (tgt := 31) hx hb dOperators_unary_17 (by decide) (fun c24 => ?_) (fun c24 => ?_)
    · exact J31 ls _ _ x1 x2 x3 r21 hI hS (lv_sub hl [1, 2, 3, 4, 0] rfl)
    · refine lv_iload hx hb dOperators_unary_20 (lv_at hl 0 rfl) ?_
      refine lv_if_eq (tgt := 31) hx hb dOperators_unary_22 (by decide) (fun c25 => ?_) (fun c25 => ?_)
      · exact J31 ls _ _ x1 x2 x3 r21 hI hS (lv_sub hl [1, 2, 3, 4, 0] rfl)
      · refine lv_iload hx hb dOperators_unary_25 (lv_at hl 0 rfl) ?_
        refine lv_iconst (v := 3) hx hb dOperators_unary_27 (by decide) ?_
        refine lv_icmp_ne (tgt := 35) hx hb dOperators_unary_28 (by decide) (fun c26 => ?_) (fun c26 => ?_)
        · refine lv_iconst (v := 0) hx hb dOperators_unary_35 (by decide) ?_
          refine lv_goto (tgt := 50) hx hb dOperators_unary_36 (by decide) ?_
          exact J50 ls _ _ x1 x2 x3 r21 0 hI hS (lv_sub hl [1, 2, 3, 4, 0] rfl)
        · exact J31 ls _ _ x1 x2 x3 r21 hI hS (lv_sub hl [1, 2, 3, 4, 0] rfl)

set_option maxHeartbeats 4000000 in
set_option maxRecDepth 100000 in
theorem k_Operators_combine (l : Launch) (γ : gE) (A : Nat → Prop) (κ : Nat → Nat) (x1 : Int32) (x2 : Int32) (x3 : Int32) (x4 : Int32) : MU l yOperators_combine bOperators_combine 6 (none) 3 63 0 0 [.ref (γ.2.2.2 11), .int x1, .int x2, .int x3, .int x4] γ A (INV γ A κ) (mQv (fun H => INV γ A κ H) A) := by
  refine mu_openV (by decide) (Nat.le_of_ble_eq_true rfl) ?_
  intro p e s m args below meth c ls Q S hnm hC hA hI hE hl
  obtain ⟨hx, hb, hml, hown, hW⟩ := id S
  have hS : va_S A s.heap s.heap [] := va_S.rf
  have hl : lv_has ls 6 [(0, .ref (γ.2.2.2 11)), (1, .int x1), (2, .int x2), (3, .int x3), (4, .int x4)] := hl
  have J129 : ∀ (N129 : Nat) (ls : Array Slot) (H : Heap) (locs : List Loc) (i1 : Int32) (i2 : Int32) (i3 : Int32) (i4 : Int32) (i5 : Int32), INV γ A κ H → va_S A s.heap H locs → (2147483647 - i5.toInt).toNat = N129 → lv_has ls 6 [(0, .ref (γ.2.2.2 11)), (1, .int i1), (2, .int i2), (3, .int i3), (4, .int i4), (5, .int i5)] → W p l e (bs_rm 3 0 0 63) s m args below meth c H locs 0 0 Q (F0 m 129 ls []) := by
    intro N129
    induction N129 using Nat.strongRecOn with
    | ind N129 ih129 =>
      intro ls H locs i1 i2 i3 i4 i5 hI hS hm129 hl
      refine lv_iload hx hb dOperators_combine_129 (lv_at hl 5 rfl) ?_
      refine lv_aload_n hx hb dOperators_combine_131 rfl (lv_at hl 0 rfl) ?_
      refine of_get S hC (of_11_0 hI) in_Operators rfl (by decide) qw_46160f6e07 dOperators_combine_132 ?_
      refine lv_iload_n hx hb dOperators_combine_135 rfl (lv_at hl 1 rfl) ?_
      refine pu_Vi (rest := [.int i5]) S hC (k9_Looks_extentOf l γ A κ i1) meLooks_extentOf qw_b0051a6c7a ⟨Nat.le_of_ble_eq_true rfl, Nat.le_of_ble_eq_true rfl⟩ (rv_9 hC hI) hI rfl hl.1 rfl (Nat.le_of_ble_eq_true rfl) dOperators_combine_136 ⟨Nat.zero_le _, Nat.zero_le _⟩ (fun r22 hr22 => ?_)
      refine lv_icmp_ge (tgt := 192) hx hb dOperators_combine_139 (by decide) (fun c23 => ?_) (fun c23 => ?_)
      · exact hE _ _ _ _ hS hI dOperators_combine_192
      · refine lv_aload_n hx hb dOperators_combine_142 rfl (lv_at hl 0 rfl) ?_
        refine of_get S hC (of_11_0 hI) in_Operators rfl (by decide) qw_46160f6e07 dOperators_combine_143 ?_
        refine of_getN S hC (of_9_5 hI) in_Looks rfl (by decide) qn_de7362ca2e dOperators_combine_146 ?_
        refine lv_iload_n hx hb dOperators_combine_149 rfl (lv_at hl 1 rfl) ?_
        refine lv_iload hx hb dOperators_combine_150 (lv_at hl 5 rfl) ?_
        refine lv_iload_n hx hb dOperators_combine_152 rfl (lv_at hl 2 rfl) ?_
        refine lv_aload_n hx hb dOperators_combine_153 rfl (lv_at hl 0 rfl) ?_
        refine of_get S hC (of_11_0 hI) in_Operators rfl (by decide) qw_46160f6e07 dOperators_combine_154 ?_
        refine of_getN S hC (of_9_5 hI) in_Looks rfl (by decide) qn_de7362ca2e dOperators_combine_157 ?_
        refine lv_iload_n hx hb dOperators_combine_160 rfl (lv_at hl 3 rfl) ?_
        refine lv_iload hx hb dOperators_combine_161 (lv_at hl 5 rfl) ?_
        refine pu_Vi (rest := [.int i2, .int i5, .int i1, .ref (γ.2.2.2 10)]) S hC (k10_Rows_get l γ A κ i3 i5) meRows_get qw_2b8ebea4b9 ⟨Nat.le_of_ble_eq_true rfl, Nat.le_of_ble_eq_true rfl⟩ (rv_10 hC hI) hI rfl hl.1 rfl (Nat.le_of_ble_eq_true rfl) dOperators_combine_163 ⟨Nat.zero_le _, Nat.zero_le _⟩ (fun r24 hr24 => ?_)
        refine lv_aload_n hx hb dOperators_combine_166 rfl (lv_at hl 0 rfl) ?_
        refine of_get S hC (of_11_0 hI) in_Operators rfl (by decide) qw_46160f6e07 dOperators_combine_167 ?_
        refine of_getN S hC (of_9_5 hI) in_Looks rfl (by decide) qn_de7362ca2e dOperators_combine_170 ?_
        refine lv_iload hx hb dOperators_combine_173 (lv_at hl 4 rfl) ?_
        refine lv_iload hx hb dOperators_combine_175 (lv_at hl 5 rfl) ?_
        refine pu_Vi (rest := [.int r24, .int i2, .int i5, .int i1, .ref (γ.2.2.2 10)]) S hC (k10_Rows_get l γ A κ i4 i5) meRows_get qw_2b8ebea4b9 ⟨Nat.le_of_ble_eq_true rfl, Nat.le_of_ble_eq_true rfl⟩ (rv_10 hC hI) hI rfl hl.1 rfl (Nat.le_of_ble_eq_true rfl) dOperators_combine_177 ⟨Nat.zero_le _, Nat.zero_le _⟩ (fun r25 hr25 => ?_)
        refine pu_Si (rest := [.int i5, .int i1, .ref (γ.2.2.2 10)]) S hC (s_Logic_ofSigns l γ (INV γ A κ) i2 r24 r25) meLogic_ofSigns qw_a4407ee8b0 ⟨Nat.le_of_ble_eq_true rfl, Nat.le_of_ble_eq_true rfl⟩ hI rfl hl.1 rfl (Nat.le_of_ble_eq_true rfl) dOperators_combine_180 ⟨Nat.zero_le _, Nat.zero_le _⟩ (fun r26 hr26 => ?_)
        refine mu_Vv (rest := []) S hC (fun q h => hA q (Nat.le_trans hS.1 h)) (fun q h => h) hS (k10_Rows_set l γ A κ i1 i5 r26) meRows_set qw_33d0c54276 ⟨Nat.le_of_ble_eq_true rfl, Nat.le_of_ble_eq_true rfl⟩ (rv_10 hC hI) hI rfl hl.1 rfl (Nat.le_of_ble_eq_true rfl) dOperators_combine_183 ⟨Nat.le_refl _, Nat.le_refl _⟩ (fun H locs hI hS _ _ => ?_)
        obtain ⟨v28, ev28⟩ : ∃ y : Int32, y = i5 + 1 := ⟨_, rfl⟩
        refine lv_iinc (v := v28) (lv' := [(5, .int v28), (0, .ref (γ.2.2.2 11)), (1, .int i1), (2, .int i2), (3, .int i3), (4, .int i4)]) hx hb dOperators_combine_186 hl (k := 5) rfl (by rw [ev28]; rfl) (by decide) rfl (fun ls hl => ?_)
        refine lv_goto (tgt := 129) hx hb dOperators_combine_189 (by decide) ?_
        exact ih129 _ (by have q1 : i5.toInt < 2147483647 := (by first | exact (mu_up (k := i5) (by assumption)).2 | assumption); have q2 := mu_lt q1; rw [← ev28] at q2; omega) ls _ _ i1 i2 i3 i4 v28 hI hS rfl (lv_sub hl [1, 2, 3, 4, 5, 0] rfl)
  have J88 : ∀ (ls : Array Slot) (H : Heap) (locs : List Loc) (i1 : Int32) (i2 : Int32) (i3 : Int32) (i4 : Int32) (t0 : Int32) (t1 : Int32), INV γ A κ H → va_S A s.heap H locs → lv_has ls 6 [(0, .ref (γ.2.2.2 11)), (1, .int i1), (2, .int i2), (3, .int i3), (4, .int i4)] → W p l e (bs_rm 3 0 0 63) s m args below meth c H locs 0 0 Q (F0 m 88 ls [.int t0, .int t1, .ref (γ.2.2.2 9)]) := by
    intro ls H locs i1 i2 i3 i4 t0 t1 hI hS hl
    refine mu_Vv (rest := []) S hC (fun q h => hA q (Nat.le_trans hS.1 h)) (fun q h => h) hS (k9_Looks_setNumber l γ A κ t1 t0) meLooks_setNumber qw_6899d83413 ⟨Nat.le_of_ble_eq_true rfl, Nat.le_of_ble_eq_true rfl⟩ (rv_9 hC hI) hI rfl hl.1 rfl (Nat.le_of_ble_eq_true rfl) dOperators_combine_88 ⟨Nat.le_refl _, Nat.le_refl _⟩ (fun H locs hI hS _ _ => ?_)
    refine lv_goto (tgt := 192) hx hb dOperators_combine_91 (by decide) ?_
    exact hE _ _ _ _ hS hI dOperators_combine_192
  have J77 : ∀ (ls : Array Slot) (H : Heap) (locs : List Loc) (i1 : Int32) (i2 : Int32) (i3 : Int32) (i4 : Int32) (t0 : Int32) (t1 : Int32) (t2 : Int32) (t3 : Int32), INV γ A κ H → va_S A s.heap H locs → lv_has ls 6 [(0, .ref (γ.2.2.2 11)), (1, .int i1), (2, .int i2), (3, .int i3), (4, .int i4)] → W p l e (bs_rm 3 0 0 63) s m args below meth c H locs 0 0 Q (F0 m 77 ls [.int t0, .int t1, .int t2, .int t3, .ref (γ.2.2.2 9)]) := by
    intro ls H locs i1 i2 i3 i4 t0 t1 t2 t3 hI hS hl
    refine pu_Si (rest := [.int t3, .ref (γ.2.2.2 9)]) S hC (s_Logic_ofTruths l γ (INV γ A κ) t2 t1 t0) meLogic_ofTruths qw_e9b8c9b1e9 ⟨Nat.le_of_ble_eq_true rfl, Nat.le_of_ble_eq_true rfl⟩ hI rfl hl.1 rfl (Nat.le_of_ble_eq_true rfl) dOperators_combine_77 ⟨Nat.zero_le _, Nat.zero_le _⟩ (fun r30 hr30 => ?_)
    refine lv_if_eq (tgt := 87) hx hb dOperators_combine_80 (by decide) (fun c31 => ?_) (fun c31 => ?_)
    · refine lv_iconst (v := 0) hx hb dOperators_combine_87 (by decide) ?_
      exact J88 ls _ _ i1 i2 i3 i4 0 t3 hI hS (lv_sub hl [0, 1, 2, 3, 4] rfl)
    · refine lv_iconst (v := 1) hx hb dOperators_combine_83 (by decide) ?_
      refine lv_goto (tgt := 88) hx hb dOperators_combine_84 (by decide) ?_
      exact J88 ls _ _ i1 i2 i3 i4 1 t3 hI hS (lv_sub hl [0, 1, 2, 3, 4] rfl)
  have J59 : ∀ (ls : Array Slot) (H : Heap) (locs : List Loc) (i1 : Int32) (i2 : Int32) (i3 : Int32) (i4 : Int32) (t0 : Int32) (t1 : Int32) (t2 : Int32), INV γ A κ H → va_S A s.heap H locs → lv_has ls 6 [(0, .ref (γ.2.2.2 11)), (1, .int i1), (2, .int i2), (3, .int i3), (4, .int i4)] → W p l e (bs_rm 3 0 0 63) s m args below meth c H locs 0 0 Q (F0 m 59 ls [.int t0, .int t1, .int t2, .ref (γ.2.2.2 9)]) := by
    intro ls H locs i1 i2 i3 i4 t0 t1 t2 hI hS hl
    refine lv_aload_n hx hb dOperators_combine_59 rfl (lv_at hl 0 rfl) ?_
    refine of_get S hC (of_11_0 hI) in_Operators rfl (by decide) qw_46160f6e07 dOperators_combine_60 ?_
    refine lv_iload hx hb dOperators_combine_63 (lv_at hl 4 rfl) ?_
    refine pu_Vi (rest := [.int t0, .int t1, .int t2, .ref (γ.2.2.2 9)]) S hC (k9_Looks_numberOf l γ A κ i4) meLooks_numberOf qw_567f1aae5f ⟨Nat.le_of_ble_eq_true rfl, Nat.le_of_ble_eq_true rfl⟩ (rv_9 hC hI) hI rfl hl.1 rfl (Nat.le_of_ble_eq_true rfl) dOperators_combine_65 ⟨Nat.zero_le _, Nat.zero_le _⟩ (fun r32 hr32 => ?_)
    refine lv_iconst (v := 1) hx hb dOperators_combine_68 (by decide) ?_
    refine lv_icmp_ne (tgt := 76) hx hb dOperators_combine_69 (by decide) (fun c33 => ?_) (fun c33 => ?_)
    · refine lv_iconst (v := 0) hx hb dOperators_combine_76 (by decide) ?_
      exact J77 ls _ _ i1 i2 i3 i4 0 t0 t1 t2 hI hS (lv_sub hl [0, 1, 2, 3, 4] rfl)
    · refine lv_iconst (v := 1) hx hb dOperators_combine_72 (by decide) ?_
      refine lv_goto (tgt := 77) hx hb dOperators_combine_73 (by decide) ?_
      exact J77 ls _ _ i1 i2 i3 i4 1 t0 t1 t2 hI hS (lv_sub hl [0, 1, 2, 3, 4] rfl)
  refine lv_aload_n hx hb dOperators_combine_0 rfl (lv_at hl 0 rfl) ?_
  refine of_get S hC (of_11_0 hI) in_Operators rfl (by decide) qw_46160f6e07 dOperators_combine_1 ?_
  refine lv_iload_n hx hb dOperators_combine_4 rfl (lv_at hl 1 rfl) ?_
  refine pu_Vi (rest := []) S hC (k9_Looks_classOf l γ A κ x1) meLooks_classOf qw_2e1b0e0eff ⟨Nat.le_of_ble_eq_true rfl, Nat.le_of_ble_eq_true rfl⟩ (rv_9 hC hI) hI rfl hl.1 rfl (Nat.le_of_ble_eq_true rfl) dOperators_combine_5 ⟨Nat.zero_le _, Nat.zero_le _⟩ (fun r34 hr34 => ?_)
  by_cases k35 : r34 = 0
  · subst k35
    refine lv_lookup (tgt := 94) hx hb dOperators_combine_8 (by decide) rfl (by decide) ?_
    refine lv_aload_n hx hb dOperators_combine_94 rfl (lv_at hl 0 rfl) ?_
    refine of_get S hC (of_11_0 hI) in_Operators rfl (by decide) qw_46160f6e07 dOperators_combine_95 ?_
    refine lv_iload_n hx hb dOperators_combine_98 rfl (lv_at hl 1 rfl) ?_
    refine lv_iload_n hx hb dOperators_combine_99 rfl (lv_at hl 2 rfl) ?_
    refine lv_aload_n hx hb dOperators_combine_100 rfl (lv_at hl 0 rfl) ?_
    refine of_get S hC (of_11_0 hI) in_Operators rfl (by decide) qw_46160f6e07 dOperators_combine_101 ?_
    refine lv_iload_n hx hb dOperators_combine_104 rfl (lv_at hl 3 rfl) ?_
    refine pu_Vi (rest := [.int x2, .int x1, .ref (γ.2.2.2 9)]) S hC (k9_Looks_numberOf l γ A κ x3) meLooks_numberOf qw_567f1aae5f ⟨Nat.le_of_ble_eq_true rfl, Nat.le_of_ble_eq_true rfl⟩ (rv_9 hC hI) hI rfl hl.1 rfl (Nat.le_of_ble_eq_true rfl) dOperators_combine_105 ⟨Nat.zero_le _, Nat.zero_le _⟩ (fun r36 hr36 => ?_)
    refine lv_aload_n hx hb dOperators_combine_108 rfl (lv_at hl 0 rfl) ?_
    refine of_get S hC (of_11_0 hI) in_Operators rfl (by decide) qw_46160f6e07 dOperators_combine_109 ?_
    refine lv_iload hx hb dOperators_combine_112 (lv_at hl 4 rfl) ?_
    refine pu_Vi (rest := [.int r36, .int x2, .int x1, .ref (γ.2.2.2 9)]) S hC (k9_Looks_numberOf l γ A κ x4) meLooks_numberOf qw_567f1aae5f ⟨Nat.le_of_ble_eq_true rfl, Nat.le_of_ble_eq_true rfl⟩ (rv_9 hC hI) hI rfl hl.1 rfl (Nat.le_of_ble_eq_true rfl) dOperators_combine_114 ⟨Nat.zero_le _, Nat.zero_le _⟩ (fun r37 hr37 => ?_)
    refine pu_Si (rest := [.int x1, .ref (γ.2.2.2 9)]) S hC (s_Logic_ofSigns l γ (INV γ A κ) x2 r36 r37) meLogic_ofSigns qw_a4407ee8b0 ⟨Nat.le_of_ble_eq_true rfl, Nat.le_of_ble_eq_true rfl⟩ hI rfl hl.1 rfl (Nat.le_of_ble_eq_true rfl) dOperators_combine_117 ⟨Nat.zero_le _, Nat.zero_le _⟩ (fun r38 hr38 => ?_)
    refine mu_Vv (rest := []) S hC (fun q h => hA q (Nat.le_trans hS.1 h)) (fun q h => h) hS (k9_Looks_setNumber l γ A κ x1 r38) meLooks_setNumber qw_6899d83413 ⟨Nat.le_of_ble_eq_true rfl, Nat.le_of_ble_eq_true rfl⟩ (rv_9 hC hI) hI rfl hl.1 rfl (Nat.le_of_ble_eq_true rfl) dOperators_combine_120 ⟨Nat.le_refl _, Nat.le_refl _⟩ (fun H locs hI hS _ _ => ?_)
    refine lv_goto (tgt := 192) hx hb dOperators_combine_123 (by decide) ?_
    exact hE _ _ _ _ hS hI dOperators_combine_192
  by_cases k40 : r34 = 1
  · subst k40
    refine lv_lookup (tgt := 36) hx hb dOperators_combine_8 (by decide) rfl (by decide) ?_
    refine lv_aload_n hx hb dOperators_combine_36 rfl (lv_at hl 0 rfl) ?_
    refine of_get S hC (of_11_0 hI) in_Operators rfl (by decide) qw_46160f6e07 dOperators_combine_37 ?_
    refine lv_iload_n hx hb dOperators_combine_40 rfl (lv_at hl 1 rfl) ?_
    refine lv_iload_n hx hb dOperators_combine_41 rfl (lv_at hl 2 rfl) ?_
    refine lv_aload_n hx hb dOperators_combine_42 rfl (lv_at hl 0 rfl) ?_
    refine of_get S hC (of_11_0 hI) in_Operators rfl (by decide) qw_46160f6e07 dOperators_combine_43 ?_
    refine lv_iload_n hx hb dOperators_combine_46 rfl (lv_at hl 3 rfl) ?_
    refine pu_Vi (rest := [.int x2, .int x1, .ref (γ.2.2.2 9)]) S hC (k9_Looks_numberOf l γ A κ x3) meLooks_numberOf qw_567f1aae5f ⟨Nat.le_of_ble_eq_true rfl, Nat.le_of_ble_eq_true rfl⟩ (rv_9 hC hI) hI rfl hl.1 rfl (Nat.le_of_ble_eq_true rfl) dOperators_combine_47 ⟨Nat.zero_le _, Nat.zero_le _⟩ (fun r41 hr41 => ?_)
    refine lv_iconst (v := 1) hx hb dOperators_combine_50 (by decide) ?_
    refine lv_icmp_ne (tgt := 58) hx hb dOperators_combine_51 (by decide) (fun c42 => ?_) (fun c42 => ?_)
    · refine lv_iconst (v := 0) hx hb dOperators_combine_58 (by decide) ?_
      exact J59 ls _ _ x1 x2 x3 x4 0 x2 x1 hI hS (lv_sub hl [0, 1, 2, 3, 4] rfl)
    · refine lv_iconst (v := 1) hx hb dOperators_combine_54 (by decide) ?_
      refine lv_goto (tgt := 59) hx hb dOperators_combine_55 (by decide) ?_
      exact J59 ls _ _ x1 x2 x3 x4 1 x2 x1 hI hS (lv_sub hl [0, 1, 2, 3, 4] rfl)
  refine lv_lookup (off := 118) (tgt := 126) hx hb dOperators_combine_8 (by decide) ((lv_osw k35 (by decide)).trans ((lv_osw k40 (by decide)).trans rfl)) (by decide) ?_
  refine lv_iconst (v := 0) hx hb dOperators_combine_126 (by decide) ?_
  refine lv_istore (lv' := [(5, .int 0), (0, .ref (γ.2.2.2 11)), (1, .int x1), (2, .int x2), (3, .int x3), (4, .int x4)]) hx hb dOperators_combine_127 hl (by decide) rfl (fun ls hl => ?_)
  exact J129 _ ls _ _ x1 x2 x3 x4 0 hI hS rfl (lv_sub hl [1, 2, 3, 4, 5, 0] rfl)
