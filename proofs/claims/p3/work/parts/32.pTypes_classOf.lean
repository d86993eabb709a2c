theorem qw_252588eab3 : (Cond.methodLink R_Types 34 yTypes_has) ∈ bs_W0 := bs_in (in_tables_1_3 (List.mem_of_getElem? (i := 105) rfl)) rfl
theorem qw_9652573c2f : (Cond.fieldLink R_Types 9 R_Types "classes" "[I") ∈ bs_W0 := bs_in (in_tables_1_1 (List.mem_of_getElem? (i := 141) rfl)) rfl
theorem qw_3e3b315a67 : (Cond.fieldLink R_Types 15 R_Types "lefts" "[I") ∈ bs_W0 := bs_in (in_tables_1_1 (List.mem_of_getElem? (i := 142) rfl)) rfl
theorem qw_dd571233a8 : (Cond.fieldLink R_Types 18 R_Types "rights" "[I") ∈ bs_W0 := bs_in (in_tables_1_1 (List.mem_of_getElem? (i := 143) rfl)) rfl
theorem qw_dded4610c2 : (Cond.fieldLink R_Types 21 R_Types "counts" "[I") ∈ bs_W0 := bs_in (in_tables_1_1 (List.mem_of_getElem? (i := 144) rfl)) rfl
theorem qw_3728bb290b : (Cond.methodLink R_Types 38 Lib.Math.abs.name) ∈ bs_W0 := bs_in (in_tables_1_3 (List.mem_of_getElem? (i := 118) rfl)) rfl
theorem qw_788fc9f3dd : (Cond.static Lib.Math.abs.name) ∈ bs_W0 := bs_in (in_tables_1_3 (List.mem_of_getElem? (i := 119) rfl)) rfl
theorem qw_0001fcaade : (Cond.initialized "java/lang/Math") ∈ bs_W0 := bs_in (in_tables_1_1 (List.mem_of_getElem? (i := 5) rfl)) rfl
theorem qw_970e918a43 : (Cond.code Lib.Math.abs.name Lib.Math.abs.code 1 (some .int)) ∈ bs_W0 := bs_in (in_tables_1_3 (List.mem_of_getElem? (i := 120) rfl)) rfl
theorem qw_2f2cb5cb5a : (Cond.methodLink R_Objects 34 yObjects_has) ∈ bs_W0 := bs_in (in_tables_1_3 (List.mem_of_getElem? (i := 97) rfl)) rfl
theorem qw_bb1fa418e1 : (Cond.fieldLink R_Objects 9 R_Objects "whats" "[I") ∈ bs_W0 := bs_in (in_tables_1_1 (List.mem_of_getElem? (i := 176) rfl)) rfl
theorem qw_541217fbcc : (Cond.fieldLink R_Objects 15 R_Objects "types" "[I") ∈ bs_W0 := bs_in (in_tables_1_1 (List.mem_of_getElem? (i := 177) rfl)) rfl
theorem qw_0ed5786ef0 : (Cond.fieldLink R_Objects 18 R_Objects "numbers" "[I") ∈ bs_W0 := bs_in (in_tables_1_1 (List.mem_of_getElem? (i := 178) rfl)) rfl
theorem qw_4e5fd4a1cd : (Cond.methodLink R_Looks 43 yLooks_has) ∈ bs_W0 := bs_in (in_tables_1_2 (List.mem_of_getElem? (i := 220) rfl)) rfl
theorem qw_7dd30c70bd : (Cond.fieldLink R_Looks 15 R_Looks "extents" "[I") ∈ bs_W0 := bs_in (in_tables_1_1 (List.mem_of_getElem? (i := 203) rfl)) rfl
theorem qw_427e012605 : (Cond.fieldLink R_Looks 18 R_Looks "meanings" "[I") ∈ bs_W0 := bs_in (in_tables_1_1 (List.mem_of_getElem? (i := 204) rfl)) rfl
theorem qw_5344cf30a3 : (Cond.fieldLink R_Looks 21 R_Looks "numbers" "[I") ∈ bs_W0 := bs_in (in_tables_1_1 (List.mem_of_getElem? (i := 205) rfl)) rfl
theorem qw_3682c3415f : (Cond.fieldLink R_Trees 21 R_Trees "firsts" "[I") ∈ bs_W0 := bs_in (in_tables_1_1 (List.mem_of_getElem? (i := 41) rfl)) rfl
theorem qw_887ccc8355 : (Cond.fieldLink R_Trees 18 R_Trees "counts" "[I") ∈ bs_W0 := bs_in (in_tables_1_1 (List.mem_of_getElem? (i := 40) rfl)) rfl
theorem qw_e019bcaac8 : (Cond.methodLink R_Trees 35 yTrees_firstOf) ∈ bs_W0 := bs_in (in_tables_1_2 (List.mem_of_getElem? (i := 191) rfl)) rfl
theorem qw_a799e12b89 : (Cond.methodLink R_Types 44 yTypes_classOf) ∈ bs_W0 := bs_in (in_tables_1_3 (List.mem_of_getElem? (i := 113) rfl)) rfl
theorem qw_f2b19d19af : (Cond.methodLink R_Types 47 yTypes_countOf) ∈ bs_W0 := bs_in (in_tables_1_3 (List.mem_of_getElem? (i := 114) rfl)) rfl
theorem qw_89684d58b5 : (Cond.methodLink R_Types 50 yTypes_goesDown) ∈ bs_W0 := bs_in (in_tables_1_4 (List.mem_of_getElem? (i := 154) rfl)) rfl
theorem qw_7f99fbf9f4 : (Cond.methodLink R_Types 53 yTypes_rightOf) ∈ bs_W0 := bs_in (in_tables_1_4 (List.mem_of_getElem? (i := 158) rfl)) rfl
set_option maxHeartbeats 4000000 in
set_option maxRecDepth 100000 in
theorem c_Types_classOf (l : Launch) (γ : gE) (Z : Nat → Prop) (a N L : Nat) (x1 : Int32)  : PU l yTypes_classOf bTypes_classOf 2 (some .int) 1 21 [.ref a, .int x1] γ (cmp γ (fTypes γ a N L) Z) (vp_Si (fun v : Int32 => True)) := by
  refine pu_openI (by decide) (Nat.le_of_ble_eq_true rfl) ?_
  intro p e s m args below meth c ls Q S hC hI hE hl
  obtain ⟨hx, hb, hml, hown, hW⟩ := id S
  obtain ⟨ws, ⟨b0, b1, b2, b3, f0, f1, f2, f3, rfl, h1, h2, h3⟩, hP, hD⟩ := id hI
  have hP : va_P γ.1 vwCl [(a, .inr (3, [.ref b0, .ref b1, .ref b2, .ref b3, .int (nI N)])), (b0, .inl (γ.2.1, L, .inl f0)), (b1, .inl (γ.2.1, L, .inl f1)), (b2, .inl (γ.2.1, L, .inl f2)), (b3, .inl (γ.2.1, L, .inl f3))] s.heap := hP
  have hl : lv_has ls 2 [(0, .ref a), (1, .int x1)] := hl
  refine lv_aload_n hx hb dTypes_classOf_0 rfl (lv_at hl 0 rfl) ?_
  refine lv_iload_n hx hb dTypes_classOf_1 rfl (lv_at hl 1 rfl) ?_
  refine pu_Vi (rest := []) S hC (c_Types_has l γ Z a N L x1) meTypes_has qw_252588eab3 ⟨Nat.le_of_ble_eq_true rfl, Nat.le_of_ble_eq_true rfl⟩ (va_recv hC.1 hP (ci := 3) (q0 := 0) rfl rfl) hI rfl hl.1 rfl (Nat.le_of_ble_eq_true rfl) dTypes_classOf_2 ⟨Nat.zero_le _, Nat.zero_le _⟩ (fun r4 hr4 => ?_)
  refine lv_if_eq (tgt := 17) hx hb dTypes_classOf_5 (by decide) (fun c5 => ?_) (fun c5 => ?_)
  · refine lv_iconst (v := (-1)) hx hb dTypes_classOf_17 (by decide) ?_
    exact hE _ _ _ trivial dTypes_classOf_18
  · refine lv_aload_n hx hb dTypes_classOf_8 rfl (lv_at hl 0 rfl) ?_
    refine va_get (D := γ.1) (ci := 3) (v := .ref b0) (C := R_Types) (T := T_Types) (N := 5) (Ts := bs_W0) hx hb hW in_Types hown hC.1 hP 0 rfl rfl 0 (by decide) (hW _ qw_9652573c2f) (fun _ h9 => h9) rfl dTypes_classOf_9 ?_
    refine lv_iload_n hx hb dTypes_classOf_12 rfl (lv_at hl 1 rfl) ?_
    refine va_iald hx hb hC.1 hP 1 0 rfl rfl (in_has (by assumption) (by assumption) (by omega) (by omega)) dTypes_classOf_13 ?_
    refine lv_topi (fun v6 ev6 => ?_)
    refine lv_goto (tgt := 18) hx hb dTypes_classOf_14 (by decide) ?_
    exact hE _ _ _ trivial dTypes_classOf_18
theorem k3_Types_classOf (l : Launch) (γ : gE) (A : Nat → Prop) (κ : Nat → Nat) (x1 : Int32)  : PU l yTypes_classOf bTypes_classOf 2 (some .int) 1 21 [.ref (γ.2.2.2 3), .int x1] γ (INV γ A κ) (vp_Si (fun v : Int32 => True)) :=
  pu_up 4 (by decide) (by decide) (fun Z => c_Types_classOf l γ Z (γ.2.2.2 3) (κ 4) (κ 13) x1)

set_option maxHeartbeats 4000000 in
set_option maxRecDepth 100000 in
theorem c_Types_leftOf (l : Launch) (γ : gE) (Z : Nat → Prop) (a N L : Nat) (x1 : Int32)  : PU l yTypes_leftOf bTypes_leftOf 2 (some .int) 1 21 [.ref a, .int x1] γ (cmp γ (fTypes γ a N L) Z) (vp_Si (fun v : Int32 => True)) := by
  refine pu_openI (by decide) (Nat.le_of_ble_eq_true rfl) ?_
  intro p e s m args below meth c ls Q S hC hI hE hl
  obtain ⟨hx, hb, hml, hown, hW⟩ := id S
  obtain ⟨ws, ⟨b0, b1, b2, b3, f0, f1, f2, f3, rfl, h1, h2, h3⟩, hP, hD⟩ := id hI
  have hP : va_P γ.1 vwCl [(a, .inr (3, [.ref b0, .ref b1, .ref b2, .ref b3, .int (nI N)])), (b0, .inl (γ.2.1, L, .inl f0)), (b1, .inl (γ.2.1, L, .inl f1)), (b2, .inl (γ.2.1, L, .inl f2)), (b3, .inl (γ.2.1, L, .inl f3))] s.heap := hP
  have hl : lv_has ls 2 [(0, .ref a), (1, .int x1)] := hl
  refine lv_aload_n hx hb dTypes_leftOf_0 rfl (lv_at hl 0 rfl) ?_
  refine lv_iload_n hx hb dTypes_leftOf_1 rfl (lv_at hl 1 rfl) ?_
  refine pu_Vi (rest := []) S hC (c_Types_has l γ Z a N L x1) meTypes_has qw_252588eab3 ⟨Nat.le_of_ble_eq_true rfl, Nat.le_of_ble_eq_true rfl⟩ (va_recv hC.1 hP (ci := 3) (q0 := 0) rfl rfl) hI rfl hl.1 rfl (Nat.le_of_ble_eq_true rfl) dTypes_leftOf_2 ⟨Nat.zero_le _, Nat.zero_le _⟩ (fun r4 hr4 => ?_)
  refine lv_if_eq (tgt := 17) hx hb dTypes_leftOf_5 (by decide) (fun c5 => ?_) (fun c5 => ?_)
  · refine lv_iconst (v := 0) hx hb dTypes_leftOf_17 (by decide) ?_
    exact hE _ _ _ trivial dTypes_leftOf_18
  · refine lv_aload_n hx hb dTypes_leftOf_8 rfl (lv_at hl 0 rfl) ?_
    refine va_get (D := γ.1) (ci := 3) (v := .ref b1) (C := R_Types) (T := T_Types) (N := 5) (Ts := bs_W0) hx hb hW in_Types hown hC.1 hP 0 rfl rfl 1 (by decide) (hW _ qw_3e3b315a67) (fun _ h9 => h9) rfl dTypes_leftOf_9 ?_
    refine lv_iload_n hx hb dTypes_leftOf_12 rfl (lv_at hl 1 rfl) ?_
    refine va_iald hx hb hC.1 hP 2 0 rfl rfl (in_has (by assumption) (by assumption) (by omega) (by omega)) dTypes_leftOf_13 ?_
    refine lv_topi (fun v6 ev6 => ?_)
    refine lv_goto (tgt := 18) hx hb dTypes_leftOf_14 (by decide) ?_
    exact hE _ _ _ trivial dTypes_leftOf_18
theorem k3_Types_leftOf (l : Launch) (γ : gE) (A : Nat → Prop) (κ : Nat → Nat) (x1 : Int32)  : PU l yTypes_leftOf bTypes_leftOf 2 (some .int) 1 21 [.ref (γ.2.2.2 3), .int x1] γ (INV γ A κ) (vp_Si (fun v : Int32 => True)) :=
  pu_up 4 (by decide) (by decide) (fun Z => c_Types_leftOf l γ Z (γ.2.2.2 3) (κ 4) (κ 13) x1)

set_option maxHeartbeats 4000000 in
set_option maxRecDepth 100000 in
theorem c_Types_rightOf (l : Launch) (γ : gE) (Z : Nat → Prop) (a N L : Nat) (x1 : Int32)  : PU l yTypes_rightOf bTypes_rightOf 2 (some .int) 1 21 [.ref a, .int x1] γ (cmp γ (fTypes γ a N L) Z) (vp_Si (fun v : Int32 => True)) := by
  refine pu_openI (by decide) (Nat.le_of_ble_eq_true rfl) ?_
  intro p e s m args below meth c ls Q S hC hI hE hl
  obtain ⟨hx, hb, hml, hown, hW⟩ := id S
  obtain ⟨ws, ⟨b0, b1, b2, b3, f0, f1, f2, f3, rfl, h1, h2, h3⟩, hP, hD⟩ := id hI
  have hP : va_P γ.1 vwCl [(a, .inr (3, [.ref b0, .ref b1, .ref b2, .ref b3, .int (nI N)])), (b0, .inl (γ.2.1, L, .inl f0)), (b1, .inl (γ.2.1, L, .inl f1)), (b2, .inl (γ.2.1, L, .inl f2)), (b3, .inl (γ.2.1, L, .inl f3))] s.heap := hP
  have hl : lv_has ls 2 [(0, .ref a), (1, .int x1)] := hl
  refine lv_aload_n hx hb dTypes_rightOf_0 rfl (lv_at hl 0 rfl) ?_
  refine lv_iload_n hx hb dTypes_rightOf_1 rfl (lv_at hl 1 rfl) ?_
  refine pu_Vi (rest := []) S hC (c_Types_has l γ Z a N L x1) meTypes_has qw_252588eab3 ⟨Nat.le_of_ble_eq_true rfl, Nat.le_of_ble_eq_true rfl⟩ (va_recv hC.1 hP (ci := 3) (q0 := 0) rfl rfl) hI rfl hl.1 rfl (Nat.le_of_ble_eq_true rfl) dTypes_rightOf_2 ⟨Nat.zero_le _, Nat.zero_le _⟩ (fun r4 hr4 => ?_)
  refine lv_if_eq (tgt := 17) hx hb dTypes_rightOf_5 (by decide) (fun c5 => ?_) (fun c5 => ?_)
  · refine lv_iconst (v := 0) hx hb dTypes_rightOf_17 (by decide) ?_
    exact hE _ _ _ trivial dTypes_rightOf_18
  · refine lv_aload_n hx hb dTypes_rightOf_8 rfl (lv_at hl 0 rfl) ?_
    refine va_get (D := γ.1) (ci := 3) (v := .ref b2) (C := R_Types) (T := T_Types) (N := 5) (Ts := bs_W0) hx hb hW in_Types hown hC.1 hP 0 rfl rfl 2 (by decide) (hW _ qw_dd571233a8) (fun _ h9 => h9) rfl dTypes_rightOf_9 ?_
    refine lv_iload_n hx hb dTypes_rightOf_12 rfl (lv_at hl 1 rfl) ?_
    refine va_iald hx hb hC.1 hP 3 0 rfl rfl (in_has (by assumption) (by assumption) (by omega) (by omega)) dTypes_rightOf_13 ?_
    refine lv_topi (fun v6 ev6 => ?_)
    refine lv_goto (tgt := 18) hx hb dTypes_rightOf_14 (by decide) ?_
    exact hE _ _ _ trivial dTypes_rightOf_18
theorem k3_Types_rightOf (l : Launch) (γ : gE) (A : Nat → Prop) (κ : Nat → Nat) (x1 : Int32)  : PU l yTypes_rightOf bTypes_rightOf 2 (some .int) 1 21 [.ref (γ.2.2.2 3), .int x1] γ (INV γ A κ) (vp_Si (fun v : Int32 => True)) :=
  pu_up 4 (by decide) (by decide) (fun Z => c_Types_rightOf l γ Z (γ.2.2.2 3) (κ 4) (κ 13) x1)

set_option maxHeartbeats 4000000 in
set_option maxRecDepth 100000 in
theorem c_Types_countOf (l : Launch) (γ : gE) (Z : Nat → Prop) (a N L : Nat) (x1 : Int32)  : PU l yTypes_countOf bTypes_countOf 2 (some .int) 1 21 [.ref a, .int x1] γ (cmp γ (fTypes γ a N L) Z) (vp_Si (fun v : Int32 => True)) := by
  refine pu_openI (by decide) (Nat.le_of_ble_eq_true rfl) ?_
  intro p e s m args below meth c ls Q S hC hI hE hl
  obtain ⟨hx, hb, hml, hown, hW⟩ := id S
  obtain ⟨ws, ⟨b0, b1, b2, b3, f0, f1, f2, f3, rfl, h1, h2, h3⟩, hP, hD⟩ := id hI
  have hP : va_P γ.1 vwCl [(a, .inr (3, [.ref b0, .ref b1, .ref b2, .ref b3, .int (nI N)])), (b0, .inl (γ.2.1, L, .inl f0)), (b1, .inl (γ.2.1, L, .inl f1)), (b2, .inl (γ.2.1, L, .inl f2)), (b3, .inl (γ.2.1, L, .inl f3))] s.heap := hP
  have hl : lv_has ls 2 [(0, .ref a), (1, .int x1)] := hl
  refine lv_aload_n hx hb dTypes_countOf_0 rfl (lv_at hl 0 rfl) ?_
  refine lv_iload_n hx hb dTypes_countOf_1 rfl (lv_at hl 1 rfl) ?_
  refine pu_Vi (rest := []) S hC (c_Types_has l γ Z a N L x1) meTypes_has qw_252588eab3 ⟨Nat.le_of_ble_eq_true rfl, Nat.le_of_ble_eq_true rfl⟩ (va_recv hC.1 hP (ci := 3) (q0 := 0) rfl rfl) hI rfl hl.1 rfl (Nat.le_of_ble_eq_true rfl) dTypes_countOf_2 ⟨Nat.zero_le _, Nat.zero_le _⟩ (fun r5 hr5 => ?_)
  refine lv_if_eq (tgt := 20) hx hb dTypes_countOf_5 (by decide) (fun c6 => ?_) (fun c6 => ?_)
  · refine lv_iconst (v := 0) hx hb dTypes_countOf_20 (by decide) ?_
    exact hE _ _ _ trivial dTypes_countOf_21
  · refine lv_aload_n hx hb dTypes_countOf_8 rfl (lv_at hl 0 rfl) ?_
    refine va_get (D := γ.1) (ci := 3) (v := .ref b3) (C := R_Types) (T := T_Types) (N := 5) (Ts := bs_W0) hx hb hW in_Types hown hC.1 hP 0 rfl rfl 3 (by decide) (hW _ qw_dded4610c2) (fun _ h9 => h9) rfl dTypes_countOf_9 ?_
    refine lv_iload_n hx hb dTypes_countOf_12 rfl (lv_at hl 1 rfl) ?_
    refine va_iald hx hb hC.1 hP 4 0 rfl rfl (in_has (by assumption) (by assumption) (by omega) (by omega)) dTypes_countOf_13 ?_
    refine lv_topi (fun v7 ev7 => ?_)
    refine va_mabs (rest := []) hx hb (hml.trans hl.1.symm) hown (hW _ qw_3728bb290b) (hW _ qw_788fc9f3dd) (hW _ qw_0001fcaade) (hW _ qw_970e918a43) (Nat.le_of_ble_eq_true rfl) (Nat.le_of_ble_eq_true rfl) (Nat.zero_le _) (Nat.zero_le _) dTypes_countOf_14 ?_
    refine lv_topi (fun v8 ev8 => ?_)
    refine lv_goto (tgt := 21) hx hb dTypes_countOf_17 (by decide) ?_
    exact hE _ _ _ trivial dTypes_countOf_21
theorem k3_Types_countOf (l : Launch) (γ : gE) (A : Nat → Prop) (κ : Nat → Nat) (x1 : Int32)  : PU l yTypes_countOf bTypes_countOf 2 (some .int) 1 21 [.ref (γ.2.2.2 3), .int x1] γ (INV γ A κ) (vp_Si (fun v : Int32 => True)) :=
  pu_up 4 (by decide) (by decide) (fun Z => c_Types_countOf l γ Z (γ.2.2.2 3) (κ 4) (κ 13) x1)

set_option maxHeartbeats 4000000 in
set_option maxRecDepth 100000 in
theorem c_Objects_whatOf (l : Launch) (γ : gE) (Z : Nat → Prop) (a rw N L : Nat) (x1 : Int32)  : PU l yObjects_whatOf bObjects_whatOf 2 (some .int) 1 21 [.ref a, .int x1] γ (cmp γ (fObjects γ a rw N L) Z) (vp_Si (fun v : Int32 => True)) := by
  refine pu_openI (by decide) (Nat.le_of_ble_eq_true rfl) ?_
  intro p e s m args below meth c ls Q S hC hI hE hl
  obtain ⟨hx, hb, hml, hown, hW⟩ := id S
  obtain ⟨ws, ⟨b0, b1, b2, f0, f1, f2, rfl, h1, h2, h3⟩, hP, hD⟩ := id hI
  have hP : va_P γ.1 vwCl [(a, .inr (4, [.ref b0, .ref b1, .ref b2, .ref rw, .int (nI N)])), (b0, .inl (γ.2.1, L, .inl f0)), (b1, .inl (γ.2.1, L, .inl f1)), (b2, .inl (γ.2.1, L, .inl f2))] s.heap := hP
  have hl : lv_has ls 2 [(0, .ref a), (1, .int x1)] := hl
  refine lv_aload_n hx hb dObjects_whatOf_0 rfl (lv_at hl 0 rfl) ?_
  refine lv_iload_n hx hb dObjects_whatOf_1 rfl (lv_at hl 1 rfl) ?_
  refine pu_Vi (rest := []) S hC (c_Objects_has l γ Z a rw N L x1) meObjects_has qw_2f2cb5cb5a ⟨Nat.le_of_ble_eq_true rfl, Nat.le_of_ble_eq_true rfl⟩ (va_recv hC.1 hP (ci := 4) (q0 := 0) rfl rfl) hI rfl hl.1 rfl (Nat.le_of_ble_eq_true rfl) dObjects_whatOf_2 ⟨Nat.zero_le _, Nat.zero_le _⟩ (fun r4 hr4 => ?_)
  refine lv_if_eq (tgt := 17) hx hb dObjects_whatOf_5 (by decide) (fun c5 => ?_) (fun c5 => ?_)
  · refine lv_iconst (v := (-1)) hx hb dObjects_whatOf_17 (by decide) ?_
    exact hE _ _ _ trivial dObjects_whatOf_18
  · refine lv_aload_n hx hb dObjects_whatOf_8 rfl (lv_at hl 0 rfl) ?_
    refine va_get (D := γ.1) (ci := 4) (v := .ref b0) (C := R_Objects) (T := T_Objects) (N := 5) (Ts := bs_W0) hx hb hW in_Objects hown hC.1 hP 0 rfl rfl 0 (by decide) (hW _ qw_bb1fa418e1) (fun _ h9 => h9) rfl dObjects_whatOf_9 ?_
    refine lv_iload_n hx hb dObjects_whatOf_12 rfl (lv_at hl 1 rfl) ?_
    refine va_iald hx hb hC.1 hP 1 0 rfl rfl (in_has (by assumption) (by assumption) (by omega) (by omega)) dObjects_whatOf_13 ?_
    refine lv_topi (fun v6 ev6 => ?_)
    refine lv_goto (tgt := 18) hx hb dObjects_whatOf_14 (by decide) ?_
    exact hE _ _ _ trivial dObjects_whatOf_18
theorem k4_Objects_whatOf (l : Launch) (γ : gE) (A : Nat → Prop) (κ : Nat → Nat) (x1 : Int32)  : PU l yObjects_whatOf bObjects_whatOf 2 (some .int) 1 21 [.ref (γ.2.2.2 4), .int x1] γ (INV γ A κ) (vp_Si (fun v : Int32 => True)) :=
  pu_up 5 (by decide) (by decide) (fun Z => c_Objects_whatOf l γ Z (γ.2.2.2 4) (γ.2.2.2 5) (κ 5) (κ 14) x1)

set_option maxHeartbeats 4000000 in
set_option maxRecDepth 100000 in
theorem c_Objects_typeOfObject (l : Launch) (γ : gE) (Z : Nat → Prop) (a rw N L : Nat) (x1 : Int32)  : PU l yObjects_typeOfObject bObjects_typeOfObject 2 (some .int) 1 21 [.ref a, .int x1] γ (cmp γ (fObjects γ a rw N L) Z) (vp_Si (fun v : Int32 => True)) := by
  refine pu_openI (by decide) (Nat.le_of_ble_eq_true rfl) ?_
  intro p e s m args below meth c ls Q S hC hI hE hl
  obtain ⟨hx, hb, hml, hown, hW⟩ := id S
  obtain ⟨ws, ⟨b0, b1, b2, f0, f1, f2, rfl, h1, h2, h3⟩, hP, hD⟩ := id hI
  have hP : va_P γ.1 vwCl [(a, .inr (4, [.ref b0, .ref b1, .ref b2, .ref rw, .int (nI N)])), (b0, .inl (γ.2.1, L, .inl f0)), (b1, .inl (γ.2.1, L, .inl f1)), (b2, .inl (γ.2.1, L, .inl f2))] s.heap := hP
  have hl : lv_has ls 2 [(0, .ref a), (1, .int x1)] := hl
  refine lv_aload_n hx hb dObjects_typeOfObject_0 rfl (lv_at hl 0 rfl) ?_
  refine lv_iload_n hx hb dObjects_typeOfObject_1 rfl (lv_at hl 1 rfl) ?_
  refine pu_Vi (rest := []) S hC (c_Objects_has l γ Z a rw N L x1) meObjects_has qw_2f2cb5cb5a ⟨Nat.le_of_ble_eq_true rfl, Nat.le_of_ble_eq_true rfl⟩ (va_recv hC.1 hP (ci := 4) (q0 := 0) rfl rfl) hI rfl hl.1 rfl (Nat.le_of_ble_eq_true rfl) dObjects_typeOfObject_2 ⟨Nat.zero_le _, Nat.zero_le _⟩ (fun r4 hr4 => ?_)
  refine lv_if_eq (tgt := 17) hx hb dObjects_typeOfObject_5 (by decide) (fun c5 => ?_) (fun c5 => ?_)
  · refine lv_iconst (v := (-1)) hx hb dObjects_typeOfObject_17 (by decide) ?_
    exact hE _ _ _ trivial dObjects_typeOfObject_18
  · refine lv_aload_n hx hb dObjects_typeOfObject_8 rfl (lv_at hl 0 rfl) ?_
    refine va_get (D := γ.1) (ci := 4) (v := .ref b1) (C := R_Objects) (T := T_Objects) (N := 5) (Ts := bs_W0) hx hb hW in_Objects hown hC.1 hP 0 rfl rfl 1 (by decide) (hW _ qw_541217fbcc) (fun _ h9 => h9) rfl dObjects_typeOfObject_9 ?_
    refine lv_iload_n hx hb dObjects_typeOfObject_12 rfl (lv_at hl 1 rfl) ?_
    refine va_iald hx hb hC.1 hP 2 0 rfl rfl (in_has (by assumption) (by assumption) (by omega) (by omega)) dObjects_typeOfObject_13 ?_
    refine lv_topi (fun v6 ev6 => ?_)
    refine lv_goto (tgt := 18) hx hb dObjects_typeOfObject_14 (by decide) ?_
    exact hE _ _ _ trivial dObjects_typeOfObject_18
theorem k4_Objects_typeOfObject (l : Launch) (γ : gE) (A : Nat → Prop) (κ : Nat → Nat) (x1 : Int32)  : PU l yObjects_typeOfObject bObjects_typeOfObject 2 (some .int) 1 21 [.ref (γ.2.2.2 4), .int x1] γ (INV γ A κ) (vp_Si (fun v : Int32 => True)) :=
  pu_up 5 (by decide) (by decide) (fun Z => c_Objects_typeOfObject l γ Z (γ.2.2.2 4) (γ.2.2.2 5) (κ 5) (κ 14) x1)

set_option maxHeartbeats 4000000 in
set_option maxRecDepth 100000 in
theorem c_Objects_numberOf (l : Launch) (γ : gE) (Z : Nat → Prop) (a rw N L : Nat) (x1 : Int32)  : PU l yObjects_numberOf bObjects_numberOf 2 (some .int) 1 21 [.ref a, .int x1] γ (cmp γ (fObjects γ a rw N L) Z) (vp_Si (fun v : Int32 => True)) := by
  refine pu_openI (by decide) (Nat.le_of_ble_eq_true rfl) ?_
  intro p e s m args below meth c ls Q S hC hI hE hl
  obtain ⟨hx, hb, hml, hown, hW⟩ := id S
  obtain ⟨ws, ⟨b0, b1, b2, f0, f1, f2, rfl, h1, h2, h3⟩, hP, hD⟩ := id hI
  have hP : va_P γ.1 vwCl [(a, .inr (4, [.ref b0, .ref b1, .ref b2, .ref rw, .int (nI N)])), (b0, .inl (γ.2.1, L, .inl f0)), (b1, .inl (γ.2.1, L, .inl f1)), (b2, .inl (γ.2.1, L, .inl f2))] s.heap := hP
  have hl : lv_has ls 2 [(0, .ref a), (1, .int x1)] := hl
  refine lv_aload_n hx hb dObjects_numberOf_0 rfl (lv_at hl 0 rfl) ?_
  refine lv_iload_n hx hb dObjects_numberOf_1 rfl (lv_at hl 1 rfl) ?_
  refine pu_Vi (rest := []) S hC (c_Objects_has l γ Z a rw N L x1) meObjects_has qw_2f2cb5cb5a ⟨Nat.le_of_ble_eq_true rfl, Nat.le_of_ble_eq_true rfl⟩ (va_recv hC.1 hP (ci := 4) (q0 := 0) rfl rfl) hI rfl hl.1 rfl (Nat.le_of_ble_eq_true rfl) dObjects_numberOf_2 ⟨Nat.zero_le _, Nat.zero_le _⟩ (fun r4 hr4 => ?_)
  refine lv_if_eq (tgt := 17) hx hb dObjects_numberOf_5 (by decide) (fun c5 => ?_) (fun c5 => ?_)
  · refine lv_iconst (v := 0) hx hb dObjects_numberOf_17 (by decide) ?_
    exact hE _ _ _ trivial dObjects_numberOf_18
  · refine lv_aload_n hx hb dObjects_numberOf_8 rfl (lv_at hl 0 rfl) ?_
    refine va_get (D := γ.1) (ci := 4) (v := .ref b2) (C := R_Objects) (T := T_Objects) (N := 5) (Ts := bs_W0) hx hb hW in_Objects hown hC.1 hP 0 rfl rfl 2 (by decide) (hW _ qw_0ed5786ef0) (fun _ h9 => h9) rfl dObjects_numberOf_9 ?_
    refine lv_iload_n hx hb dObjects_numberOf_12 rfl (lv_at hl 1 rfl) ?_
    refine va_iald hx hb hC.1 hP 3 0 rfl rfl (in_has (by assumption) (by assumption) (by omega) (by omega)) dObjects_numberOf_13 ?_
    refine lv_topi (fun v6 ev6 => ?_)
    refine lv_goto (tgt := 18) hx hb dObjects_numberOf_14 (by decide) ?_
    exact hE _ _ _ trivial dObjects_numberOf_18
theorem k4_Objects_numberOf (l : Launch) (γ : gE) (A : Nat → Prop) (κ : Nat → Nat) (x1 : Int32)  : PU l yObjects_numberOf bObjects_numberOf 2 (some .int) 1 21 [.ref (γ.2.2.2 4), .int x1] γ (INV γ A κ) (vp_Si (fun v : Int32 => True)) :=
  pu_up 5 (by decide) (by decide) (fun Z => c_Objects_numberOf l γ Z (γ.2.2.2 4) (γ.2.2.2 5) (κ 5) (κ 14) x1)

set_option maxHeartbeats 4000000 in
set_option maxRecDepth 100000 in
theorem c_Looks_classOf (l : Launch) (γ : gE) (Z : Nat → Prop) (a rw L : Nat) (x1 : Int32)  : PU l yLooks_classOf bLooks_classOf 2 (some .int) 1 21 [.ref a, .int x1] γ (cmp γ (fLooks γ a rw L) Z) (vp_Si (fun v : Int32 => True)) := by
  refine pu_openI (by decide) (Nat.le_of_ble_eq_true rfl) ?_
  intro p e s m args below meth c ls Q S hC hI hE hl
  obtain ⟨hx, hb, hml, hown, hW⟩ := id S
  obtain ⟨ws, ⟨b0, b1, b2, b3, b4, f0, f1, f2, f3, f4, rfl, h1, h2⟩, hP, hD⟩ := id hI
  have hP : va_P γ.1 vwCl [(a, .inr (6, [.ref b0, .ref b1, .ref b2, .ref b3, .ref b4, .ref rw])), (b0, .inl (γ.2.1, L, .inl f0)), (b1, .inl (γ.2.1, L, .inl f1)), (b2, .inl (γ.2.1, L, .inl f2)), (b3, .inl (γ.2.1, L, .inl f3)), (b4, .inl (γ.2.1, L, .inl f4))] s.heap := hP
  have hl : lv_has ls 2 [(0, .ref a), (1, .int x1)] := hl
  refine lv_aload_n hx hb dLooks_classOf_0 rfl (lv_at hl 0 rfl) ?_
  refine lv_iload_n hx hb dLooks_classOf_1 rfl (lv_at hl 1 rfl) ?_
  refine pu_Vi (rest := []) S hC (c_Looks_has l γ Z a rw L x1) meLooks_has qw_4e5fd4a1cd ⟨Nat.le_of_ble_eq_true rfl, Nat.le_of_ble_eq_true rfl⟩ (va_recv hC.1 hP (ci := 6) (q0 := 0) rfl rfl) hI rfl hl.1 rfl (Nat.le_of_ble_eq_true rfl) dLooks_classOf_2 ⟨Nat.zero_le _, Nat.zero_le _⟩ (fun r4 hr4 => ?_)
  refine lv_if_eq (tgt := 17) hx hb dLooks_classOf_5 (by decide) (fun c5 => ?_) (fun c5 => ?_)
  · refine lv_iconst (v := (-1)) hx hb dLooks_classOf_17 (by decide) ?_
    exact hE _ _ _ trivial dLooks_classOf_18
  · refine lv_aload_n hx hb dLooks_classOf_8 rfl (lv_at hl 0 rfl) ?_
    refine va_get (D := γ.1) (ci := 6) (v := .ref b0) (C := R_Looks) (T := T_Looks) (N := 6) (Ts := bs_W0) hx hb hW in_Looks hown hC.1 hP 0 rfl rfl 0 (by decide) (hW _ qw_ac7df03aa7) (fun _ h9 => h9) rfl dLooks_classOf_9 ?_
    refine lv_iload_n hx hb dLooks_classOf_12 rfl (lv_at hl 1 rfl) ?_
    refine va_iald hx hb hC.1 hP 1 0 rfl rfl (in_has (by assumption) (by assumption) (by omega) (by omega)) dLooks_classOf_13 ?_
    refine lv_topi (fun v6 ev6 => ?_)
    refine lv_goto (tgt := 18) hx hb dLooks_classOf_14 (by decide) ?_
    exact hE _ _ _ trivial dLooks_classOf_18
theorem k6_Looks_classOf (l : Launch) (γ : gE) (A : Nat → Prop) (κ : Nat → Nat) (x1 : Int32)  : PU l yLooks_classOf bLooks_classOf 2 (some .int) 1 21 [.ref (γ.2.2.2 6), .int x1] γ (INV γ A κ) (vp_Si (fun v : Int32 => True)) :=
  pu_up 7 (by decide) (by decide) (fun Z => c_Looks_classOf l γ Z (γ.2.2.2 6) (γ.2.2.2 7) (κ 6) x1)
theorem k9_Looks_classOf (l : Launch) (γ : gE) (A : Nat → Prop) (κ : Nat → Nat) (x1 : Int32)  : PU l yLooks_classOf bLooks_classOf 2 (some .int) 1 21 [.ref (γ.2.2.2 9), .int x1] γ (INV γ A κ) (vp_Si (fun v : Int32 => True)) :=
  pu_up 9 (by decide) (by decide) (fun Z => c_Looks_classOf l γ Z (γ.2.2.2 9) (γ.2.2.2 10) (κ 7) x1)

set_option maxHeartbeats 4000000 in
set_option maxRecDepth 100000 in
theorem c_Looks_extentOf (l : Launch) (γ : gE) (Z : Nat → Prop) (a rw L : Nat) (x1 : Int32)  : PU l yLooks_extentOf bLooks_extentOf 2 (some .int) 1 21 [.ref a, .int x1] γ (cmp γ (fLooks γ a rw L) Z) (vp_Si (fun v : Int32 => True)) := by
  refine pu_openI (by decide) (Nat.le_of_ble_eq_true rfl) ?_
  intro p e s m args below meth c ls Q S hC hI hE hl
  obtain ⟨hx, hb, hml, hown, hW⟩ := id S
  obtain ⟨ws, ⟨b0, b1, b2, b3, b4, f0, f1, f2, f3, f4, rfl, h1, h2⟩, hP, hD⟩ := id hI
  have hP : va_P γ.1 vwCl [(a, .inr (6, [.ref b0, .ref b1, .ref b2, .ref b3, .ref b4, .ref rw])), (b0, .inl (γ.2.1, L, .inl f0)), (b1, .inl (γ.2.1, L, .inl f1)), (b2, .inl (γ.2.1, L, .inl f2)), (b3, .inl (γ.2.1, L, .inl f3)), (b4, .inl (γ.2.1, L, .inl f4))] s.heap := hP
  have hl : lv_has ls 2 [(0, .ref a), (1, .int x1)] := hl
  refine lv_aload_n hx hb dLooks_extentOf_0 rfl (lv_at hl 0 rfl) ?_
  refine lv_iload_n hx hb dLooks_extentOf_1 rfl (lv_at hl 1 rfl) ?_
  refine pu_Vi (rest := []) S hC (c_Looks_has l γ Z a rw L x1) meLooks_has qw_4e5fd4a1cd ⟨Nat.le_of_ble_eq_true rfl, Nat.le_of_ble_eq_true rfl⟩ (va_recv hC.1 hP (ci := 6) (q0 := 0) rfl rfl) hI rfl hl.1 rfl (Nat.le_of_ble_eq_true rfl) dLooks_extentOf_2 ⟨Nat.zero_le _, Nat.zero_le _⟩ (fun r4 hr4 => ?_)
  refine lv_if_eq (tgt := 17) hx hb dLooks_extentOf_5 (by decide) (fun c5 => ?_) (fun c5 => ?_)
  · refine lv_iconst (v := 0) hx hb dLooks_extentOf_17 (by decide) ?_
    exact hE _ _ _ trivial dLooks_extentOf_18
  · refine lv_aload_n hx hb dLooks_extentOf_8 rfl (lv_at hl 0 rfl) ?_
    refine va_get (D := γ.1) (ci := 6) (v := .ref b1) (C := R_Looks) (T := T_Looks) (N := 6) (Ts := bs_W0) hx hb hW in_Looks hown hC.1 hP 0 rfl rfl 1 (by decide) (hW _ qw_7dd30c70bd) (fun _ h9 => h9) rfl dLooks_extentOf_9 ?_
    refine lv_iload_n hx hb dLooks_extentOf_12 rfl (lv_at hl 1 rfl) ?_
    refine va_iald hx hb hC.1 hP 2 0 rfl rfl (in_has (by assumption) (by assumption) (by omega) (by omega)) dLooks_extentOf_13 ?_
    refine lv_topi (fun v6 ev6 => ?_)
    refine lv_goto (tgt := 18) hx hb dLooks_extentOf_14 (by decide) ?_
    exact hE _ _ _ trivial dLooks_extentOf_18
theorem k6_Looks_extentOf (l : Launch) (γ : gE) (A : Nat → Prop) (κ : Nat → Nat) (x1 : Int32)  : PU l yLooks_extentOf bLooks_extentOf 2 (some .int) 1 21 [.ref (γ.2.2.2 6), .int x1] γ (INV γ A κ) (vp_Si (fun v : Int32 => True)) :=
  pu_up 7 (by decide) (by decide) (fun Z => c_Looks_extentOf l γ Z (γ.2.2.2 6) (γ.2.2.2 7) (κ 6) x1)
theorem k9_Looks_extentOf (l : Launch) (γ : gE) (A : Nat → Prop) (κ : Nat → Nat) (x1 : Int32)  : PU l yLooks_extentOf bLooks_extentOf 2 (some .int) 1 21 [.ref (γ.2.2.2 9), .int x1] γ (INV γ A κ) (vp_Si (fun v : Int32 => True)) :=
  pu_up 9 (by decide) (by decide) (fun Z => c_Looks_extentOf l γ Z (γ.2.2.2 9) (γ.2.2.2 10) (κ 7) x1)

set_option maxHeartbeats 4000000 in
set_option maxRecDepth 100000 in
theorem c_Looks_meaningOf (l : Launch) (γ : gE) (Z : Nat → Prop) (a rw L : Nat) (x1 : Int32)  : PU l yLooks_meaningOf bLooks_meaningOf 2 (some .int) 1 21 [.ref a, .int x1] γ (cmp γ (fLooks γ a rw L) Z) (vp_Si (fun v : Int32 => True)) := by
  refine pu_openI (by decide) (Nat.le_of_ble_eq_true rfl) ?_
  intro p e s m args below meth c ls Q S hC hI hE hl
  obtain ⟨hx, hb, hml, hown, hW⟩ := id S
  obtain ⟨ws, ⟨b0, b1, b2, b3, b4, f0, f1, f2, f3, f4, rfl, h1, h2⟩, hP, hD⟩ := id hI
  have hP : va_P γ.1 vwCl [(a, .inr (6, [.ref b0, .ref b1, .ref b2, .ref b3, .ref b4, .ref rw])), (b0, .inl (γ.2.1, L, .inl f0)), (b1, .inl (γ.2.1, L, .inl f1)), (b2, .inl (γ.2.1, L, .inl f2)), (b3, .inl (γ.2.1, L, .inl f3)), (b4, .inl (γ.2.1, L, .inl f4))] s.heap := hP
  have hl : lv_has ls 2 [(0, .ref a), (1, .int x1)] := hl
  refine lv_aload_n hx hb dLooks_meaningOf_0 rfl (lv_at hl 0 rfl) ?_
  refine lv_iload_n hx hb dLooks_meaningOf_1 rfl (lv_at hl 1 rfl) ?_
  refine pu_Vi (rest := []) S hC (c_Looks_has l γ Z a rw L x1) meLooks_has qw_4e5fd4a1cd ⟨Nat.le_of_ble_eq_true rfl, Nat.le_of_ble_eq_true rfl⟩ (va_recv hC.1 hP (ci := 6) (q0 := 0) rfl rfl) hI rfl hl.1 rfl (Nat.le_of_ble_eq_true rfl) dLooks_meaningOf_2 ⟨Nat.zero_le _, Nat.zero_le _⟩ (fun r4 hr4 => ?_)
  refine lv_if_eq (tgt := 17) hx hb dLooks_meaningOf_5 (by decide) (fun c5 => ?_) (fun c5 => ?_)
  · refine lv_iconst (v := (-1)) hx hb dLooks_meaningOf_17 (by decide) ?_
    exact hE _ _ _ trivial dLooks_meaningOf_18
  · refine lv_aload_n hx hb dLooks_meaningOf_8 rfl (lv_at hl 0 rfl) ?_
    refine va_get (D := γ.1) (ci := 6) (v := .ref b2) (C := R_Looks) (T := T_Looks) (N := 6) (Ts := bs_W0) hx hb hW in_Looks hown hC.1 hP 0 rfl rfl 2 (by decide) (hW _ qw_427e012605) (fun _ h9 => h9) rfl dLooks_meaningOf_9 ?_
    refine lv_iload_n hx hb dLooks_meaningOf_12 rfl (lv_at hl 1 rfl) ?_
    refine va_iald hx hb hC.1 hP 3 0 rfl rfl (in_has (by assumption) (by assumption) (by omega) (by omega)) dLooks_meaningOf_13 ?_
    refine lv_topi (fun v6 ev6 => ?_)
    refine lv_goto (tgt := 18) hx hb dLooks_meaningOf_14 (by decide) ?_
    exact hE _ _ _ trivial dLooks_meaningOf_18
theorem k6_Looks_meaningOf (l : Launch) (γ : gE) (A : Nat → Prop) (κ : Nat → Nat) (x1 : Int32)  : PU l yLooks_meaningOf bLooks_meaningOf 2 (some .int) 1 21 [.ref (γ.2.2.2 6), .int x1] γ (INV γ A κ) (vp_Si (fun v : Int32 => True)) :=
  pu_up 7 (by decide) (by decide) (fun Z => c_Looks_meaningOf l γ Z (γ.2.2.2 6) (γ.2.2.2 7) (κ 6) x1)
theorem k9_Looks_meaningOf (l : Launch) (γ : gE) (A : Nat → Prop) (κ : Nat → Nat) (x1 : Int32)  : PU l yLooks_meaningOf bLooks_meaningOf 2 (some .int) 1 21 [.ref (γ.2.2.2 9), .int x1] γ (INV γ A κ) (vp_Si (fun v : Int32 => True)) :=
  pu_up 9 (by decide) (by decide) (fun Z => c_Looks_meaningOf l γ Z (γ.2.2.2 9) (γ.2.2.2 10) (κ 7) x1)

set_option maxHeartbeats 4000000 in
set_option maxRecDepth 100000 in
theorem c_Looks_numberOf (l : Launch) (γ : gE) (Z : Nat → Prop) (a rw L : Nat) (x1 : Int32)  : PU l yLooks_numberOf bLooks_numberOf 2 (some .int) 1 21 [.ref a, .int x1] γ (cmp γ (fLooks γ a rw L) Z) (vp_Si (fun v : Int32 => True)) := by
  refine pu_openI (by decide) (Nat.le_of_ble_eq_true rfl) ?_
  intro p e s m args below meth c ls Q S hC hI hE hl
  obtain ⟨hx, hb, hml, hown, hW⟩ := id S
  obtain ⟨ws, ⟨b0, b1, b2, b3, b4, f0, f1, f2, f3, f4, rfl, h1, h2⟩, hP, hD⟩ := id hI
  have hP : va_P γ.1 vwCl [(a, .inr (6, [.ref b0, .ref b1, .ref b2, .ref b3, .ref b4, .ref rw])), (b0, .inl (γ.2.1, L, .inl f0)), (b1, .inl (γ.2.1, L, .inl f1)), (b2, .inl (γ.2.1, L, .inl f2)), (b3, .inl (γ.2.1, L, .inl f3)), (b4, .inl (γ.2.1, L, .inl f4))] s.heap := hP
  have hl : lv_has ls 2 [(0, .ref a), (1, .int x1)] := hl
  refine lv_aload_n hx hb dLooks_numberOf_0 rfl (lv_at hl 0 rfl) ?_
  refine lv_iload_n hx hb dLooks_numberOf_1 rfl (lv_at hl 1 rfl) ?_
  refine pu_Vi (rest := []) S hC (c_Looks_has l γ Z a rw L x1) meLooks_has qw_4e5fd4a1cd ⟨Nat.le_of_ble_eq_true rfl, Nat.le_of_ble_eq_true rfl⟩ (va_recv hC.1 hP (ci := 6) (q0 := 0) rfl rfl) hI rfl hl.1 rfl (Nat.le_of_ble_eq_true rfl) dLooks_numberOf_2 ⟨Nat.zero_le _, Nat.zero_le _⟩ (fun r4 hr4 => ?_)
  refine lv_if_eq (tgt := 17) hx hb dLooks_numberOf_5 (by decide) (fun c5 => ?_) (fun c5 => ?_)
  · refine lv_iconst (v := 0) hx hb dLooks_numberOf_17 (by decide) ?_
    exact hE _ _ _ trivial dLooks_numberOf_18
  · refine lv_aload_n hx hb dLooks_numberOf_8 rfl (lv_at hl 0 rfl) ?_
    refine va_get (D := γ.1) (ci := 6) (v := .ref b3) (C := R_Looks) (T := T_Looks) (N := 6) (Ts := bs_W0) hx hb hW in_Looks hown hC.1 hP 0 rfl rfl 3 (by decide) (hW _ qw_5344cf30a3) (fun _ h9 => h9) rfl dLooks_numberOf_9 ?_
    refine lv_iload_n hx hb dLooks_numberOf_12 rfl (lv_at hl 1 rfl) ?_
    refine va_iald hx hb hC.1 hP 4 0 rfl rfl (in_has (by assumption) (by assumption) (by omega) (by omega)) dLooks_numberOf_13 ?_
    refine lv_topi (fun v6 ev6 => ?_)
    refine lv_goto (tgt := 18) hx hb dLooks_numberOf_14 (by decide) ?_
    exact hE _ _ _ trivial dLooks_numberOf_18
theorem k6_Looks_numberOf (l : Launch) (γ : gE) (A : Nat → Prop) (κ : Nat → Nat) (x1 : Int32)  : PU l yLooks_numberOf bLooks_numberOf 2 (some .int) 1 21 [.ref (γ.2.2.2 6), .int x1] γ (INV γ A κ) (vp_Si (fun v : Int32 => True)) :=
  pu_up 7 (by decide) (by decide) (fun Z => c_Looks_numberOf l γ Z (γ.2.2.2 6) (γ.2.2.2 7) (κ 6) x1)
theorem k9_Looks_numberOf (l : Launch) (γ : gE) (A : Nat → Prop) (κ : Nat → Nat) (x1 : Int32)  : PU l yLooks_numberOf bLooks_numberOf 2 (some .int) 1 21 [.ref (γ.2.2.2 9), .int x1] γ (INV γ A κ) (vp_Si (fun v : Int32 => True)) :=
  pu_up 9 (by decide) (by decide) (fun Z => c_Looks_numberOf l γ Z (γ.2.2.2 9) (γ.2.2.2 10) (κ 7) x1)

set_option maxHeartbeats 4000000 in
set_option maxRecDepth 100000 in
theorem c_Trees_firstOf (l : Launch) (γ : gE) (Z : Nat → Prop) (a N rt L : Nat) (x1 : Int32)  : PU l yTrees_firstOf bTrees_firstOf 2 (some .int) 1 21 [.ref a, .int x1] γ (cmp γ (fTrees γ a N rt L) Z) (vp_Si (fun v : Int32 => ¬ v < 0)) := by
  refine pu_openI (by decide) (Nat.le_of_ble_eq_true rfl) ?_
  intro p e s m args below meth c ls Q S hC hI hE hl
  obtain ⟨hx, hb, hml, hown, hW⟩ := id S
  obtain ⟨ws, ⟨b0, b1, b2, b3, f0, f1, f2, f3, rfl, h1, h2, h3, h4, h5, h6⟩, hP, hD⟩ := id hI
  have hP : va_P γ.1 vwCl [(a, .inr (1, [.ref b0, .ref b1, .ref b2, .ref b3, .int (nI N), .int (nI rt)])), (b0, .inl (γ.2.1, L, .inl f0)), (b1, .inl (γ.2.1, L, .inl f1)), (b2, .inl (γ.2.1, L, .inl f2)), (b3, .inl (γ.2.1, L, .inl f3))] s.heap := hP
  have hl : lv_has ls 2 [(0, .ref a), (1, .int x1)] := hl
  refine lv_aload_n hx hb dTrees_firstOf_0 rfl (lv_at hl 0 rfl) ?_
  refine lv_iload_n hx hb dTrees_firstOf_1 rfl (lv_at hl 1 rfl) ?_
  refine pu_Vi (rest := []) S hC (c_Trees_has l γ Z a N rt L x1) meTrees_has qw_42d433c8d4 ⟨Nat.le_of_ble_eq_true rfl, Nat.le_of_ble_eq_true rfl⟩ (va_recv hC.1 hP (ci := 1) (q0 := 0) rfl rfl) hI rfl hl.1 rfl (Nat.le_of_ble_eq_true rfl) dTrees_firstOf_2 ⟨Nat.zero_le _, Nat.zero_le _⟩ (fun r4 hr4 => ?_)
  refine lv_if_eq (tgt := 17) hx hb dTrees_firstOf_5 (by decide) (fun c5 => ?_) (fun c5 => ?_)
  · refine lv_iconst (v := 0) hx hb dTrees_firstOf_17 (by decide) ?_
    exact hE _ _ _ (by first | decide | (subst_vars; exact first_ok (by assumption) (by assumption) (by assumption) (by omega))) dTrees_firstOf_18
  · refine lv_aload_n hx hb dTrees_firstOf_8 rfl (lv_at hl 0 rfl) ?_
    refine va_get (D := γ.1) (ci := 1) (v := .ref b3) (C := R_Trees) (T := T_Trees) (N := 6) (Ts := bs_W0) hx hb hW in_Trees hown hC.1 hP 0 rfl rfl 3 (by decide) (hW _ qw_3682c3415f) (fun _ h9 => h9) rfl dTrees_firstOf_9 ?_
    refine lv_iload_n hx hb dTrees_firstOf_12 rfl (lv_at hl 1 rfl) ?_
    refine va_iald hx hb hC.1 hP 4 0 rfl rfl (in_has (by assumption) (by assumption) (by omega) (by omega)) dTrees_firstOf_13 ?_
    refine lv_topi (fun v6 ev6 => ?_)
    refine lv_goto (tgt := 18) hx hb dTrees_firstOf_14 (by decide) ?_
    exact hE _ _ _ (by first | decide | (subst_vars; exact first_ok (by assumption) (by assumption) (by assumption) (by omega))) dTrees_firstOf_18
theorem k1_Trees_firstOf (l : Launch) (γ : gE) (A : Nat → Prop) (κ : Nat → Nat) (x1 : Int32)  : PU l yTrees_firstOf bTrees_firstOf 2 (some .int) 1 21 [.ref (γ.2.2.2 1), .int x1] γ (INV γ A κ) (vp_Si (fun v : Int32 => ¬ v < 0)) :=
  pu_up 2 (by decide) (by decide) (fun Z => c_Trees_firstOf l γ Z (γ.2.2.2 1) (κ 0) (κ 1) (κ 11) x1)

set_option maxHeartbeats 4000000 in
set_option maxRecDepth 100000 in
theorem c_Trees_countOf (l : Launch) (γ : gE) (Z : Nat → Prop) (a N rt L : Nat) (x1 : Int32)  : PU l yTrees_countOf bTrees_countOf 2 (some .int) 1 21 [.ref a, .int x1] γ (cmp γ (fTrees γ a N rt L) Z) (vp_Si (fun v : Int32 => ∃ j, j ≤ 4096 ∧ v = nI j)) := by
  refine pu_openI (by decide) (Nat.le_of_ble_eq_true rfl) ?_
  intro p e s m args below meth c ls Q S hC hI hE hl
  obtain ⟨hx, hb, hml, hown, hW⟩ := id S
  obtain ⟨ws, ⟨b0, b1, b2, b3, f0, f1, f2, f3, rfl, h1, h2, h3, h4, h5, h6⟩, hP, hD⟩ := id hI
  have hP : va_P γ.1 vwCl [(a, .inr (1, [.ref b0, .ref b1, .ref b2, .ref b3, .int (nI N), .int (nI rt)])), (b0, .inl (γ.2.1, L, .inl f0)), (b1, .inl (γ.2.1, L, .inl f1)), (b2, .inl (γ.2.1, L, .inl f2)), (b3, .inl (γ.2.1, L, .inl f3))] s.heap := hP
  have hl : lv_has ls 2 [(0, .ref a), (1, .int x1)] := hl
  refine lv_aload_n hx hb dTrees_countOf_0 rfl (lv_at hl 0 rfl) ?_
  refine lv_iload_n hx hb dTrees_countOf_1 rfl (lv_at hl 1 rfl) ?_
  refine pu_Vi (rest := []) S hC (c_Trees_has l γ Z a N rt L x1) meTrees_has qw_42d433c8d4 ⟨Nat.le_of_ble_eq_true rfl, Nat.le_of_ble_eq_true rfl⟩ (va_recv hC.1 hP (ci := 1) (q0 := 0) rfl rfl) hI rfl hl.1 rfl (Nat.le_of_ble_eq_true rfl) dTrees_countOf_2 ⟨Nat.zero_le _, Nat.zero_le _⟩ (fun r4 hr4 => ?_)
  refine lv_if_eq (tgt := 17) hx hb dTrees_countOf_5 (by decide) (fun c5 => ?_) (fun c5 => ?_)
  · refine lv_iconst (v := 0) hx hb dTrees_countOf_17 (by decide) ?_
    exact hE _ _ _ (by first | exact ⟨0, by omega, rfl⟩ | (subst_vars; exact cnt_ok (by assumption) (by assumption) (by assumption) (by omega))) dTrees_countOf_18
  · refine lv_aload_n hx hb dTrees_countOf_8 rfl (lv_at hl 0 rfl) ?_
    refine va_get (D := γ.1) (ci := 1) (v := .ref b2) (C := R_Trees) (T := T_Trees) (N := 6) (Ts := bs_W0) hx hb hW in_Trees hown hC.1 hP 0 rfl rfl 2 (by decide) (hW _ qw_887ccc8355) (fun _ h9 => h9) rfl dTrees_countOf_9 ?_
    refine lv_iload_n hx hb dTrees_countOf_12 rfl (lv_at hl 1 rfl) ?_
    refine va_iald hx hb hC.1 hP 3 0 rfl rfl (in_has (by assumption) (by assumption) (by omega) (by omega)) dTrees_countOf_13 ?_
    refine lv_topi (fun v6 ev6 => ?_)
    refine lv_goto (tgt := 18) hx hb dTrees_countOf_14 (by decide) ?_
    exact hE _ _ _ (by first | exact ⟨0, by omega, rfl⟩ | (subst_vars; exact cnt_ok (by assumption) (by assumption) (by assumption) (by omega))) dTrees_countOf_18
theorem k1_Trees_countOf (l : Launch) (γ : gE) (A : Nat → Prop) (κ : Nat → Nat) (x1 : Int32)  : PU l yTrees_countOf bTrees_countOf 2 (some .int) 1 21 [.ref (γ.2.2.2 1), .int x1] γ (INV γ A κ) (vp_Si (fun v : Int32 => ∃ j, j ≤ 4096 ∧ v = nI j)) :=
  pu_up 2 (by decide) (by decide) (fun Z => c_Trees_countOf l γ Z (γ.2.2.2 1) (κ 0) (κ 1) (κ 11) x1)

set_option maxHeartbeats 4000000 in
set_option maxRecDepth 100000 in
theorem c_Trees_leftOfTwo (l : Launch) (γ : gE) (Z : Nat → Prop) (a N rt L : Nat) (x1 : Int32)  : PU l yTrees_leftOfTwo bTrees_leftOfTwo 2 (some .int) 2 42 [.ref a, .int x1] γ (cmp γ (fTrees γ a N rt L) Z) (vp_Si (fun v : Int32 => True)) := by
  refine pu_openI (by decide) (Nat.le_of_ble_eq_true rfl) ?_
  intro p e s m args below meth c ls Q S hC hI hE hl
  obtain ⟨hx, hb, hml, hown, hW⟩ := id S
  obtain ⟨ws, ⟨b0, b1, b2, b3, f0, f1, f2, f3, rfl, h1, h2, h3, h4, h5, h6⟩, hP, hD⟩ := id hI
  have hP : va_P γ.1 vwCl [(a, .inr (1, [.ref b0, .ref b1, .ref b2, .ref b3, .int (nI N), .int (nI rt)])), (b0, .inl (γ.2.1, L, .inl f0)), (b1, .inl (γ.2.1, L, .inl f1)), (b2, .inl (γ.2.1, L, .inl f2)), (b3, .inl (γ.2.1, L, .inl f3))] s.heap := hP
  have hl : lv_has ls 2 [(0, .ref a), (1, .int x1)] := hl
  refine lv_aload_n hx hb dTrees_leftOfTwo_0 rfl (lv_at hl 0 rfl) ?_
  refine lv_iload_n hx hb dTrees_leftOfTwo_1 rfl (lv_at hl 1 rfl) ?_
  refine lv_iconst (v := 1) hx hb dTrees_leftOfTwo_2 (by decide) ?_
  refine lv_isub hx hb dTrees_leftOfTwo_3 ?_
  refine lv_topi (fun v4 ev4 => ?_)
  refine pu_Vi (rest := []) S hC (c_Trees_firstOf l γ Z a N rt L v4) meTrees_firstOf qw_e019bcaac8 ⟨Nat.le_of_ble_eq_true rfl, Nat.le_of_ble_eq_true rfl⟩ (va_recv hC.1 hP (ci := 1) (q0 := 0) rfl rfl) hI rfl hl.1 rfl (Nat.le_of_ble_eq_true rfl) dTrees_leftOfTwo_4 ⟨Nat.zero_le _, Nat.zero_le _⟩ (fun r5 hr5 => ?_)
  refine lv_iconst (v := 1) hx hb dTrees_leftOfTwo_7 (by decide) ?_
  refine lv_isub hx hb dTrees_leftOfTwo_8 ?_
  refine lv_topi (fun v6 ev6 => ?_)
  exact hE _ _ _ trivial dTrees_leftOfTwo_9
theorem k1_Trees_leftOfTwo (l : Launch) (γ : gE) (A : Nat → Prop) (κ : Nat → Nat) (x1 : Int32)  : PU l yTrees_leftOfTwo bTrees_leftOfTwo 2 (some .int) 2 42 [.ref (γ.2.2.2 1), .int x1] γ (INV γ A κ) (vp_Si (fun v : Int32 => True)) :=
  pu_up 2 (by decide) (by decide) (fun Z => c_Trees_leftOfTwo l γ Z (γ.2.2.2 1) (κ 0) (κ 1) (κ 11) x1)

set_option maxHeartbeats 4000000 in
set_option maxRecDepth 100000 in
theorem c_Types_goesDown (l : Launch) (γ : gE) (Z : Nat → Prop) (a N L : Nat) (x1 : Int32)  : PU l yTypes_goesDown bTypes_goesDown 2 (some .boolean) 1 21 [.ref a, .int x1] γ (cmp γ (fTypes γ a N L) Z) (vp_Si (fun v : Int32 => True)) := by
  refine pu_openZ (by decide) (Nat.le_of_ble_eq_true rfl) ?_
  intro p e s m args below meth c ls Q S hC hI hE hl
  obtain ⟨hx, hb, hml, hown, hW⟩ := id S
  obtain ⟨ws, ⟨b0, b1, b2, b3, f0, f1, f2, f3, rfl, h1, h2, h3⟩, hP, hD⟩ := id hI
  have hP : va_P γ.1 vwCl [(a, .inr (3, [.ref b0, .ref b1, .ref b2, .ref b3, .int (nI N)])), (b0, .inl (γ.2.1, L, .inl f0)), (b1, .inl (γ.2.1, L, .inl f1)), (b2, .inl (γ.2.1, L, .inl f2)), (b3, .inl (γ.2.1, L, .inl f3))] s.heap := hP
  have hl : lv_has ls 2 [(0, .ref a), (1, .int x1)] := hl
  refine lv_aload_n hx hb dTypes_goesDown_0 rfl (lv_at hl 0 rfl) ?_
  refine lv_iload_n hx hb dTypes_goesDown_1 rfl (lv_at hl 1 rfl) ?_
  refine pu_Vi (rest := []) S hC (c_Types_has l γ Z a N L x1) meTypes_has qw_252588eab3 ⟨Nat.le_of_ble_eq_true rfl, Nat.le_of_ble_eq_true rfl⟩ (va_recv hC.1 hP (ci := 3) (q0 := 0) rfl rfl) hI rfl hl.1 rfl (Nat.le_of_ble_eq_true rfl) dTypes_goesDown_2 ⟨Nat.zero_le _, Nat.zero_le _⟩ (fun r5 hr5 => ?_)
  refine lv_if_eq (tgt := 21) hx hb dTypes_goesDown_5 (by decide) (fun c6 => ?_) (fun c6 => ?_)
  · refine lv_iconst (v := 0) hx hb dTypes_goesDown_21 (by decide) ?_
    exact hE _ _ _ rfl trivial dTypes_goesDown_22
  · refine lv_aload_n hx hb dTypes_goesDown_8 rfl (lv_at hl 0 rfl) ?_
    refine va_get (D := γ.1) (ci := 3) (v := .ref b3) (C := R_Types) (T := T_Types) (N := 5) (Ts := bs_W0) hx hb hW in_Types hown hC.1 hP 0 rfl rfl 3 (by decide) (hW _ qw_dded4610c2) (fun _ h9 => h9) rfl dTypes_goesDown_9 ?_
    refine lv_iload_n hx hb dTypes_goesDown_12 rfl (lv_at hl 1 rfl) ?_
    refine va_iald hx hb hC.1 hP 4 0 rfl rfl (in_has (by assumption) (by assumption) (by omega) (by omega)) dTypes_goesDown_13 ?_
    refine lv_topi (fun v7 ev7 => ?_)
    refine lv_if_ge (tgt := 21) hx hb dTypes_goesDown_14 (by decide) (fun c8 => ?_) (fun c8 => ?_)
    · refine lv_iconst (v := 0) hx hb dTypes_goesDown_21 (by decide) ?_
      exact hE _ _ _ rfl trivial dTypes_goesDown_22
    · refine lv_iconst (v := 1) hx hb dTypes_goesDown_17 (by decide) ?_
      refine lv_goto (tgt := 22) hx hb dTypes_goesDown_18 (by decide) ?_
      exact hE _ _ _ rfl trivial dTypes_goesDown_22
theorem k3_Types_goesDown (l : Launch) (γ : gE) (A : Nat → Prop) (κ : Nat → Nat) (x1 : Int32)  : PU l yTypes_goesDown bTypes_goesDown 2 (some .boolean) 1 21 [.ref (γ.2.2.2 3), .int x1] γ (INV γ A κ) (vp_Si (fun v : Int32 => True)) :=
  pu_up 4 (by decide) (by decide) (fun Z => c_Types_goesDown l γ Z (γ.2.2.2 3) (κ 4) (κ 13) x1)

set_option maxHeartbeats 4000000 in
set_option maxRecDepth 100000 in
theorem c_Types_extentOf (l : Launch) (γ : gE) (Z : Nat → Prop) (a N L : Nat) (x1 : Int32)  : PU l yTypes_extentOf bTypes_extentOf 3 (some .int) 2 42 [.ref a, .int x1] γ (cmp γ (fTypes γ a N L) Z) (vp_Si (fun v : Int32 => True)) := by
  refine pu_openI (by decide) (Nat.le_of_ble_eq_true rfl) ?_
  intro p e s m args below meth c ls Q S hC hI hE hl
  obtain ⟨hx, hb, hml, hown, hW⟩ := id S
  obtain ⟨ws, ⟨b0, b1, b2, b3, f0, f1, f2, f3, rfl, h1, h2, h3⟩, hP, hD⟩ := id hI
  have hP : va_P γ.1 vwCl [(a, .inr (3, [.ref b0, .ref b1, .ref b2, .ref b3, .int (nI N)])), (b0, .inl (γ.2.1, L, .inl f0)), (b1, .inl (γ.2.1, L, .inl f1)), (b2, .inl (γ.2.1, L, .inl f2)), (b3, .inl (γ.2.1, L, .inl f3))] s.heap := hP
  have hl : lv_has ls 3 [(0, .ref a), (1, .int x1)] := hl
  refine lv_aload_n hx hb dTypes_extentOf_0 rfl (lv_at hl 0 rfl) ?_
  refine lv_iload_n hx hb dTypes_extentOf_1 rfl (lv_at hl 1 rfl) ?_
  refine pu_Vi (rest := []) S hC (c_Types_classOf l γ Z a N L x1) meTypes_classOf qw_a799e12b89 ⟨Nat.le_of_ble_eq_true rfl, Nat.le_of_ble_eq_true rfl⟩ (va_recv hC.1 hP (ci := 3) (q0 := 0) rfl rfl) hI rfl hl.1 rfl (Nat.le_of_ble_eq_true rfl) dTypes_extentOf_2 ⟨Nat.zero_le _, Nat.zero_le _⟩ (fun r5 hr5 => ?_)
  refine lv_istore_n (lv' := [(2, .int r5), (0, .ref a), (1, .int x1)]) hx hb dTypes_extentOf_5 rfl hl (by decide) rfl (fun ls hl => ?_)
  refine lv_iload_n hx hb dTypes_extentOf_6 rfl (lv_at hl 0 rfl) ?_
  refine lv_iconst (v := 3) hx hb dTypes_extentOf_7 (by decide) ?_
  refine lv_icmp_ne (tgt := 19) hx hb dTypes_extentOf_8 (by decide) (fun c6 => ?_) (fun c6 => ?_)
  · refine lv_iload_n hx hb dTypes_extentOf_19 rfl (lv_at hl 0 rfl) ?_
    refine lv_iconst (v := 4) hx hb dTypes_extentOf_20 (by decide) ?_
    refine lv_icmp_ne (tgt := 28) hx hb dTypes_extentOf_21 (by decide) (fun c7 => ?_) (fun c7 => ?_)
    · refine lv_iconst (v := 0) hx hb dTypes_extentOf_28 (by decide) ?_
      exact hE _ _ _ trivial dTypes_extentOf_29
    · refine lv_iload_n hx hb dTypes_extentOf_24 rfl (lv_at hl 2 rfl) ?_
      refine lv_goto (tgt := 29) hx hb dTypes_extentOf_25 (by decide) ?_
      exact hE _ _ _ trivial dTypes_extentOf_29
  · refine lv_aload_n hx hb dTypes_extentOf_11 rfl (lv_at hl 1 rfl) ?_
    refine lv_iload_n hx hb dTypes_extentOf_12 rfl (lv_at hl 2 rfl) ?_
    refine pu_Vi (rest := []) S hC (c_Types_countOf l γ Z a N L x1) meTypes_countOf qw_f2b19d19af ⟨Nat.le_of_ble_eq_true rfl, Nat.le_of_ble_eq_true rfl⟩ (va_recv hC.1 hP (ci := 3) (q0 := 0) rfl rfl) hI rfl hl.1 rfl (Nat.le_of_ble_eq_true rfl) dTypes_extentOf_13 ⟨Nat.zero_le _, Nat.zero_le _⟩ (fun r8 hr8 => ?_)
    refine lv_goto (tgt := 29) hx hb dTypes_extentOf_16 (by decide) ?_
    exact hE _ _ _ trivial dTypes_extentOf_29
theorem k3_Types_extentOf (l : Launch) (γ : gE) (A : Nat → Prop) (κ : Nat → Nat) (x1 : Int32)  : PU l yTypes_extentOf bTypes_extentOf 3 (some .int) 2 42 [.ref (γ.2.2.2 3), .int x1] γ (INV γ A κ) (vp_Si (fun v : Int32 => True)) :=
  pu_up 4 (by decide) (by decide) (fun Z => c_Types_extentOf l γ Z (γ.2.2.2 3) (κ 4) (κ 13) x1)

set_option maxHeartbeats 4000000 in
set_option maxRecDepth 100000 in
theorem c_Types_fromRight (l : Launch) (γ : gE) (Z : Nat → Prop) (a N L : Nat) (x1 : Int32) (x2 : Int32)  : PU l yTypes_fromRight bTypes_fromRight 5 (some .int) 2 42 [.ref a, .int x1, .int x2] γ (cmp γ (fTypes γ a N L) Z) (vp_Si (fun v : Int32 => True)) := by
  refine pu_openI (by decide) (Nat.le_of_ble_eq_true rfl) ?_
  intro p e s m args below meth c ls Q S hC hI hE hl
  obtain ⟨hx, hb, hml, hown, hW⟩ := id S
  obtain ⟨ws, ⟨b0, b1, b2, b3, f0, f1, f2, f3, rfl, h1, h2, h3⟩, hP, hD⟩ := id hI
  have hP : va_P γ.1 vwCl [(a, .inr (3, [.ref b0, .ref b1, .ref b2, .ref b3, .int (nI N)])), (b0, .inl (γ.2.1, L, .inl f0)), (b1, .inl (γ.2.1, L, .inl f1)), (b2, .inl (γ.2.1, L, .inl f2)), (b3, .inl (γ.2.1, L, .inl f3))] s.heap := hP
  have hl : lv_has ls 5 [(0, .ref a), (1, .int x1), (2, .int x2)] := hl
  have J29 : ∀ (ls : Array Slot)  (i1 : Int32) (i2 : Int32) (t0 : Int64), lv_has ls 5 [(0, .ref a), (1, .int i1), (2, .int i2)] → W p l e (bs_rm 2 0 0 42) s m args below meth c s.heap [] 0 0 Q (F0 m 29 ls [.long t0]) := by
    intro ls  i1 i2 t0  hl
    refine lv_lstore_n (lv' := [(3, .long t0), (0, .ref a), (1, .int i1), (2, .int i2)]) hx hb dTypes_fromRight_29 rfl hl (by decide) rfl (fun ls hl => ?_)
    refine lv_lload_n hx hb dTypes_fromRight_30 rfl (lv_at hl 0 rfl) ?_
    refine lv_lconst (v := 0) hx hb dTypes_fromRight_31 (by decide) ?_
    refine W.lcmp hx hb dTypes_fromRight_32 ?_
    refine lv_topi (fun v18 ev18 => ?_)
    refine lv_if_lt (tgt := 52) hx hb dTypes_fromRight_33 (by decide) (fun c19 => ?_) (fun c19 => ?_)
    · refine lv_iconst (v := (-1)) hx hb dTypes_fromRight_52 (by decide) ?_
      exact hE _ _ _ trivial dTypes_fromRight_53
    · refine lv_lload_n hx hb dTypes_fromRight_36 rfl (lv_at hl 0 rfl) ?_
      refine lv_aload_n hx hb dTypes_fromRight_37 rfl (lv_at hl 1 rfl) ?_
      refine lv_iload_n hx hb dTypes_fromRight_38 rfl (lv_at hl 2 rfl) ?_
      refine pu_Vi (rest := [.long t0]) S hC (c_Types_countOf l γ Z a N L i1) meTypes_countOf qw_f2b19d19af ⟨Nat.le_of_ble_eq_true rfl, Nat.le_of_ble_eq_true rfl⟩ (va_recv hC.1 hP (ci := 3) (q0 := 0) rfl rfl) hI rfl hl.1 rfl (Nat.le_of_ble_eq_true rfl) dTypes_fromRight_39 ⟨Nat.zero_le _, Nat.zero_le _⟩ (fun r20 hr20 => ?_)
      refine lv_i2l hx hb dTypes_fromRight_42 rfl ?_
      refine lv_topl (fun v21 ev21 => ?_)
      refine W.lcmp hx hb dTypes_fromRight_43 ?_
      refine lv_topi (fun v22 ev22 => ?_)
      refine lv_if_ge (tgt := 52) hx hb dTypes_fromRight_44 (by decide) (fun c23 => ?_) (fun c23 => ?_)
      · refine lv_iconst (v := (-1)) hx hb dTypes_fromRight_52 (by decide) ?_
        exact hE _ _ _ trivial dTypes_fromRight_53
      · refine lv_lload_n hx hb dTypes_fromRight_47 rfl (lv_at hl 0 rfl) ?_
        refine lv_l2i hx hb dTypes_fromRight_48 rfl ?_
        refine lv_topi (fun v24 ev24 => ?_)
        refine lv_goto (tgt := 53) hx hb dTypes_fromRight_49 (by decide) ?_
        exact hE _ _ _ trivial dTypes_fromRight_53
  refine lv_aload_n hx hb dTypes_fromRight_0 rfl (lv_at hl 0 rfl) ?_
  refine lv_iload_n hx hb dTypes_fromRight_1 rfl (lv_at hl 1 rfl) ?_
  refine pu_Vi (rest := []) S hC (c_Types_goesDown l γ Z a N L x1) meTypes_goesDown qw_89684d58b5 ⟨Nat.le_of_ble_eq_true rfl, Nat.le_of_ble_eq_true rfl⟩ (va_recv hC.1 hP (ci := 3) (q0 := 0) rfl rfl) hI rfl hl.1 rfl (Nat.le_of_ble_eq_true rfl) dTypes_fromRight_2 ⟨Nat.zero_le _, Nat.zero_le _⟩ (fun r25 hr25 => ?_)
  refine lv_if_eq (tgt := 20) hx hb dTypes_fromRight_5 (by decide) (fun c26 => ?_) (fun c26 => ?_)
  · refine lv_aload_n hx hb dTypes_fromRight_20 rfl (lv_at hl 0 rfl) ?_
    refine lv_iload_n hx hb dTypes_fromRight_21 rfl (lv_at hl 1 rfl) ?_
    refine pu_Vi (rest := []) S hC (c_Types_rightOf l γ Z a N L x1) meTypes_rightOf qw_7f99fbf9f4 ⟨Nat.le_of_ble_eq_true rfl, Nat.le_of_ble_eq_true rfl⟩ (va_recv hC.1 hP (ci := 3) (q0 := 0) rfl rfl) hI rfl hl.1 rfl (Nat.le_of_ble_eq_true rfl) dTypes_fromRight_22 ⟨Nat.zero_le _, Nat.zero_le _⟩ (fun r27 hr27 => ?_)
    refine lv_i2l hx hb dTypes_fromRight_25 rfl ?_
    refine lv_topl (fun v28 ev28 => ?_)
    refine lv_iload_n hx hb dTypes_fromRight_26 rfl (lv_at hl 2 rfl) ?_
    refine lv_i2l hx hb dTypes_fromRight_27 rfl ?_
    refine lv_topl (fun v29 ev29 => ?_)
    refine lv_lsub hx hb dTypes_fromRight_28 ?_
    refine lv_topl (fun v30 ev30 => ?_)
    exact J29 ls x1 x2 v30 (lv_sub hl [0, 1, 2] rfl)
  · refine lv_iload_n hx hb dTypes_fromRight_8 rfl (lv_at hl 2 rfl) ?_
    refine lv_i2l hx hb dTypes_fromRight_9 rfl ?_
    refine lv_topl (fun v31 ev31 => ?_)
    refine lv_aload_n hx hb dTypes_fromRight_10 rfl (lv_at hl 0 rfl) ?_
    refine lv_iload_n hx hb dTypes_fromRight_11 rfl (lv_at hl 1 rfl) ?_
    refine pu_Vi (rest := [.long v31]) S hC (c_Types_rightOf l γ Z a N L x1) meTypes_rightOf qw_7f99fbf9f4 ⟨Nat.le_of_ble_eq_true rfl, Nat.le_of_ble_eq_true rfl⟩ (va_recv hC.1 hP (ci := 3) (q0 := 0) rfl rfl) hI rfl hl.1 rfl (Nat.le_of_ble_eq_true rfl) dTypes_fromRight_12 ⟨Nat.zero_le _, Nat.zero_le _⟩ (fun r32 hr32 => ?_)
    refine lv_i2l hx hb dTypes_fromRight_15 rfl ?_
    refine lv_topl (fun v33 ev33 => ?_)
    refine lv_lsub hx hb dTypes_fromRight_16 ?_
    refine lv_topl (fun v34 ev34 => ?_)
    refine lv_goto (tgt := 29) hx hb dTypes_fromRight_17 (by decide) ?_
    exact J29 ls x1 x2 v34 (lv_sub hl [0, 1, 2] rfl)
theorem k3_Types_fromRight (l : Launch) (γ : gE) (A : Nat → Prop) (κ : Nat → Nat) (x1 : Int32) (x2 : Int32)  : PU l yTypes_fromRight bTypes_fromRight 5 (some .int) 2 42 [.ref (γ.2.2.2 3), .int x1, .int x2] γ (INV γ A κ) (vp_Si (fun v : Int32 => True)) :=
  pu_up 4 (by decide) (by decide) (fun Z => c_Types_fromRight l γ Z (γ.2.2.2 3) (κ 4) (κ 13) x1 x2)
