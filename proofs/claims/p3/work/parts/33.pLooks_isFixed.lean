theorem qw_d08a1abfac : (Cond.fieldLink R_Looks 24 R_Looks "constancies" "[I") ∈ bs_W0 := bs_in (in_tables_1_1 (List.mem_of_getElem? (i := 206) rfl)) rfl
theorem qw_ae9666db7d : (Cond.fieldLink R_Names 27 R_Names "chains" "[I") ∈ bs_W0 := bs_in (in_tables_1_1 (List.mem_of_getElem? (i := 104) rfl)) rfl
theorem qw_a8d4a716ae : (Cond.fieldLink R_Names 9 R_Names "spellings" "[I") ∈ bs_W0 := bs_in (in_tables_1_1 (List.mem_of_getElem? (i := 99) rfl)) rfl
theorem qw_ddfb92ec41 : (Cond.fieldLink R_Names 24 R_Names "outers" "[I") ∈ bs_W0 := bs_in (in_tables_1_1 (List.mem_of_getElem? (i := 103) rfl)) rfl
theorem qw_125e0af2e4 : (Cond.methodLink R_Names 60 yNames_find) ∈ bs_W0 := bs_in (in_tables_1_5 (List.mem_of_getElem? (i := 32) rfl)) rfl
theorem qw_c2f4fc63da : (Cond.fieldLink R_Names 30 R_Names "starts" "[I") ∈ bs_W0 := bs_in (in_tables_1_1 (List.mem_of_getElem? (i := 105) rfl)) rfl
theorem qw_40882965f2 : (Cond.fieldLink R_Names 37 R_Names "scopes" "I") ∈ bs_W0 := bs_in (in_tables_1_1 (List.mem_of_getElem? (i := 107) rfl)) rfl
theorem qw_f4898d707a : (Cond.methodLink R_Rows 41 yRows_get) ∈ bs_W0 := bs_in (in_tables_1_4 (List.mem_of_getElem? (i := 64) rfl)) rfl
theorem qw_643b0e6c65 : (Cond.methodLink R_Rows 44 yLogic_isClear) ∈ bs_W0 := bs_in (in_tables_1_4 (List.mem_of_getElem? (i := 65) rfl)) rfl
theorem qw_71b4d70101 : (Cond.methodLink R_Rows 49 yLogic_isHigh) ∈ bs_W0 := bs_in (in_tables_1_4 (List.mem_of_getElem? (i := 74) rfl)) rfl
theorem qw_899a0812ea : (Cond.fieldLink R_Looker 27 R_Looker "hidden" "[I") ∈ bs_W0 := bs_in (in_tables_1_2 (List.mem_of_getElem? (i := 32) rfl)) rfl
theorem qw_22d2793f25 : (Cond.fieldLink R_Looker 35 R_Looker "trees" "LTypeBook$Trees;") ∈ bs_W0 := bs_in (in_tables_1_2 (List.mem_of_getElem? (i := 26) rfl)) rfl
theorem qw_ea9162cf9a : (Cond.methodLink R_Looker 138 yTrees_valueOf) ∈ bs_W0 := bs_in (in_tables_1_3 (List.mem_of_getElem? (i := 167) rfl)) rfl
theorem qw_195048702c : (Cond.methodLink R_Looker 160 yTrees_countOf) ∈ bs_W0 := bs_in (in_tables_1_3 (List.mem_of_getElem? (i := 168) rfl)) rfl
theorem qw_77aeadf252 : (Cond.fieldLink R_Looker 12 R_Looker "seen" "LTypeBook$Looks;") ∈ bs_W0 := bs_in (in_tables_1_2 (List.mem_of_getElem? (i := 29) rfl)) rfl
theorem qw_f23e8ec7f8 : (Cond.methodLink R_Looker 101 yLooks_classOf) ∈ bs_W0 := bs_in (in_tables_1_4 (List.mem_of_getElem? (i := 211) rfl)) rfl
theorem qw_a593f61add : (Cond.methodLink R_Looker 104 yLooks_extentOf) ∈ bs_W0 := bs_in (in_tables_1_5 (List.mem_of_getElem? (i := 71) rfl)) rfl
theorem qw_abb87946e7 : (Cond.fieldLink R_Looker 43 R_Looker "types" "LTypeBook$Types;") ∈ bs_W0 := bs_in (in_tables_1_2 (List.mem_of_getElem? (i := 28) rfl)) rfl
theorem qw_80ac4113df : (Cond.methodLink R_Looker 107 yTypes_classOf) ∈ bs_W0 := bs_in (in_tables_1_5 (List.mem_of_getElem? (i := 72) rfl)) rfl
theorem qw_a6b1bdd3ae : (Cond.methodLink R_Looker 110 yTypes_extentOf) ∈ bs_W0 := bs_in (in_tables_1_5 (List.mem_of_getElem? (i := 73) rfl)) rfl
theorem qw_7e695d47da : (Cond.methodLink R_Looker 111 yLooks_numberOf) ∈ bs_W0 := bs_in (in_tables_1_4 (List.mem_of_getElem? (i := 213) rfl)) rfl
theorem qw_3ab14e380a : (Cond.methodLink R_Looker 87 yLooks_isFixed) ∈ bs_W0 := bs_in (in_tables_1_4 (List.mem_of_getElem? (i := 212) rfl)) rfl
theorem qw_6a2da56b19 : (Cond.methodLink R_Looker 114 yTypes_leftOf) ∈ bs_W0 := bs_in (in_tables_1_5 (List.mem_of_getElem? (i := 81) rfl)) rfl
theorem qw_860591b8df : (Cond.methodLink R_Looker 117 yTypes_rightOf) ∈ bs_W0 := bs_in (in_tables_1_5 (List.mem_of_getElem? (i := 82) rfl)) rfl
set_option maxHeartbeats 4000000 in
set_option maxRecDepth 100000 in
theorem c_Looks_isFixed (l : Launch) (γ : gE) (Z : Nat → Prop) (a rw L : Nat) (x1 : Int32)  : PU l yLooks_isFixed bLooks_isFixed 2 (some .boolean) 1 21 [.ref a, .int x1] γ (cmp γ (fLooks γ a rw L) Z) (vp_Si (fun v : Int32 => True)) := by
  refine pu_openZ (by decide) (Nat.le_of_ble_eq_true rfl) ?_
  intro p e s m args below meth c ls Q S hC hI hE hl
  obtain ⟨hx, hb, hml, hown, hW⟩ := id S
  obtain ⟨ws, ⟨b0, b1, b2, b3, b4, f0, f1, f2, f3, f4, rfl, h1, h2⟩, hP, hD⟩ := id hI
  have hP : va_P γ.1 vwCl [(a, .inr (6, [.ref b0, .ref b1, .ref b2, .ref b3, .ref b4, .ref rw])), (b0, .inl (γ.2.1, L, .inl f0)), (b1, .inl (γ.2.1, L, .inl f1)), (b2, .inl (γ.2.1, L, .inl f2)), (b3, .inl (γ.2.1, L, .inl f3)), (b4, .inl (γ.2.1, L, .inl f4))] s.heap := hP
  have hl : lv_has ls 2 [(0, .ref a), (1, .int x1)] := hl
  refine lv_aload_n hx hb dLooks_isFixed_0 rfl (lv_at hl 0 rfl) ?_
  refine lv_iload_n hx hb dLooks_isFixed_1 rfl (lv_at hl 1 rfl) ?_
  refine pu_Vi (rest := []) S hC (c_Looks_has l γ Z a rw L x1) meLooks_has qw_4e5fd4a1cd ⟨Nat.le_of_ble_eq_true rfl, Nat.le_of_ble_eq_true rfl⟩ (va_recv hC.1 hP (ci := 6) (q0 := 0) rfl rfl) hI rfl hl.1 rfl (Nat.le_of_ble_eq_true rfl) dLooks_isFixed_2 ⟨Nat.zero_le _, Nat.zero_le _⟩ (fun r5 hr5 => ?_)
  refine lv_if_eq (tgt := 22) hx hb dLooks_isFixed_5 (by decide) (fun c6 => ?_) (fun c6 => ?_)
  · refine lv_iconst (v := 0) hx hb dLooks_isFixed_22 (by decide) ?_
    exact hE _ _ _ rfl trivial dLooks_isFixed_23
  · refine lv_aload_n hx hb dLooks_isFixed_8 rfl (lv_at hl 0 rfl) ?_
    refine va_get (D := γ.1) (ci := 6) (v := .ref b4) (C := R_Looks) (T := T_Looks) (N := 6) (Ts := bs_W0) hx hb hW in_Looks hown hC.1 hP 0 rfl rfl 4 (by decide) (hW _ qw_d08a1abfac) (fun _ h9 => h9) rfl dLooks_isFixed_9 ?_
    refine lv_iload_n hx hb dLooks_isFixed_12 rfl (lv_at hl 1 rfl) ?_
    refine va_iald hx hb hC.1 hP 5 0 rfl rfl (in_has (by assumption) (by assumption) (by omega) (by omega)) dLooks_isFixed_13 ?_
    refine lv_topi (fun v7 ev7 => ?_)
    refine lv_iconst (v := 1) hx hb dLooks_isFixed_14 (by decide) ?_
    refine lv_icmp_ne (tgt := 22) hx hb dLooks_isFixed_15 (by decide) (fun c8 => ?_) (fun c8 => ?_)
    · refine lv_iconst (v := 0) hx hb dLooks_isFixed_22 (by decide) ?_
      exact hE _ _ _ rfl trivial dLooks_isFixed_23
    · refine lv_iconst (v := 1) hx hb dLooks_isFixed_18 (by decide) ?_
      refine lv_goto (tgt := 23) hx hb dLooks_isFixed_19 (by decide) ?_
      exact hE _ _ _ rfl trivial dLooks_isFixed_23
theorem k6_Looks_isFixed (l : Launch) (γ : gE) (A : Nat → Prop) (κ : Nat → Nat) (x1 : Int32)  : PU l yLooks_isFixed bLooks_isFixed 2 (some .boolean) 1 21 [.ref (γ.2.2.2 6), .int x1] γ (INV γ A κ) (vp_Si (fun v : Int32 => True)) :=
  pu_up 7 (by decide) (by decide) (fun Z => c_Looks_isFixed l γ Z (γ.2.2.2 6) (γ.2.2.2 7) (κ 6) x1)
theorem k9_Looks_isFixed (l : Launch) (γ : gE) (A : Nat → Prop) (κ : Nat → Nat) (x1 : Int32)  : PU l yLooks_isFixed bLooks_isFixed 2 (some .boolean) 1 21 [.ref (γ.2.2.2 9), .int x1] γ (INV γ A κ) (vp_Si (fun v : Int32 => True)) :=
  pu_up 9 (by decide) (by decide) (fun Z => c_Looks_isFixed l γ Z (γ.2.2.2 9) (γ.2.2.2 10) (κ 7) x1)

set_option maxHeartbeats 4000000 in
set_option maxRecDepth 100000 in
theorem c_Names_find (l : Launch) (γ : gE) (Z : Nat → Prop) (a N sc L : Nat) (x1 : Int32)  : PU l yNames_find bNames_find 4 (some .int) 1 21 [.ref a, .int x1] γ (cmp γ (fNames γ a N sc L) Z) (vp_Si (fun v : Int32 => True)) := by
  refine pu_openI (by decide) (Nat.le_of_ble_eq_true rfl) ?_
  intro p e s m args below meth c ls Q S hC hI hE hl
  obtain ⟨hx, hb, hml, hown, hW⟩ := id S
  obtain ⟨ws, ⟨b0, b1, b2, b3, b4, b5, b6, f0, f1, f2, f3, f4, f5, f6, rfl, h1, h2, h3, h4, h5, h6⟩, hP, hD⟩ := id hI
  have hP : va_P γ.1 vwCl [(a, .inr (2, [.ref b0, .ref b1, .ref b2, .ref b3, .ref b4, .ref b5, .ref b6, .int (nI N), .int (nI sc)])), (b0, .inl (γ.2.1, L, .inl f0)), (b1, .inl (γ.2.1, L, .inl f1)), (b2, .inl (γ.2.1, L, .inl f2)), (b3, .inl (γ.2.1, L, .inl f3)), (b4, .inl (γ.2.1, L, .inl f4)), (b5, .inl (γ.2.1, 256, .inl f5)), (b6, .inl (γ.2.1, 32, .inl f6))] s.heap := hP
  have hl : lv_has ls 4 [(0, .ref a), (1, .int x1)] := hl
  have J13 : ∀ (N13 : Nat) (ls : Array Slot)  (i1 : Int32) (i2 : Int32) (i3 : Int32), (2147483647 - i3.toInt).toNat = N13 → lv_has ls 4 [(0, .ref a), (1, .int i1), (2, .int i2), (3, .int i3)] → W p l e (bs_rm 1 0 0 21) s m args below meth c s.heap [] 0 0 Q (F0 m 13 ls []) := by
    intro N13
    induction N13 using Nat.strongRecOn with
    | ind N13 ih13 =>
      intro ls  i1 i2 i3  hm13 hl
      refine lv_iload_n hx hb dNames_find_13 rfl (lv_at hl 3 rfl) ?_
      refine lv_aload_n hx hb dNames_find_14 rfl (lv_at hl 0 rfl) ?_
      refine va_get (D := γ.1) (ci := 2) (v := .int (nI N)) (C := R_Names) (T := T_Names) (N := 9) (Ts := bs_W0) hx hb hW in_Names hown hC.1 hP 0 rfl rfl 7 (by decide) (hW _ qw_171adcdf9f) (fun _ h9 => h9) rfl dNames_find_15 ?_
      refine lv_topi (fun v11 ev11 => ?_)
      refine lv_icmp_ge (tgt := 54) hx hb dNames_find_18 (by decide) (fun c12 => ?_) (fun c12 => ?_)
      · refine lv_iconst (v := (-1)) hx hb dNames_find_54 (by decide) ?_
        exact hE _ _ _ trivial dNames_find_55
      · refine lv_aload_n hx hb dNames_find_21 rfl (lv_at hl 0 rfl) ?_
        refine lv_iload_n hx hb dNames_find_22 rfl (lv_at hl 2 rfl) ?_
        refine pu_Vi (rest := []) S hC (c_Names_has l γ Z a N sc L i2) meNames_has qw_8f9013a759 ⟨Nat.le_of_ble_eq_true rfl, Nat.le_of_ble_eq_true rfl⟩ (va_recv hC.1 hP (ci := 2) (q0 := 0) rfl rfl) hI rfl hl.1 rfl (Nat.le_of_ble_eq_true rfl) dNames_find_23 ⟨Nat.zero_le _, Nat.zero_le _⟩ (fun r13 hr13 => ?_)
        refine lv_if_eq (tgt := 54) hx hb dNames_find_26 (by decide) (fun c14 => ?_) (fun c14 => ?_)
        · refine lv_iconst (v := (-1)) hx hb dNames_find_54 (by decide) ?_
          exact hE _ _ _ trivial dNames_find_55
        · refine lv_aload_n hx hb dNames_find_29 rfl (lv_at hl 0 rfl) ?_
          refine va_get (D := γ.1) (ci := 2) (v := .ref b0) (C := R_Names) (T := T_Names) (N := 9) (Ts := bs_W0) hx hb hW in_Names hown hC.1 hP 0 rfl rfl 0 (by decide) (hW _ qw_a8d4a716ae) (fun _ h9 => h9) rfl dNames_find_30 ?_
          refine lv_iload_n hx hb dNames_find_33 rfl (lv_at hl 2 rfl) ?_
          refine va_iald hx hb hC.1 hP 1 0 rfl rfl (in_has (by assumption) (by assumption) (by omega) (by omega)) dNames_find_34 ?_
          refine lv_topi (fun v15 ev15 => ?_)
          refine lv_iload_n hx hb dNames_find_35 rfl (lv_at hl 1 rfl) ?_
          refine lv_icmp_ne (tgt := 41) hx hb dNames_find_36 (by decide) (fun c16 => ?_) (fun c16 => ?_)
          · refine lv_aload_n hx hb dNames_find_41 rfl (lv_at hl 0 rfl) ?_
            refine va_get (D := γ.1) (ci := 2) (v := .ref b4) (C := R_Names) (T := T_Names) (N := 9) (Ts := bs_W0) hx hb hW in_Names hown hC.1 hP 0 rfl rfl 4 (by decide) (hW _ qw_ddfb92ec41) (fun _ h9 => h9) rfl dNames_find_42 ?_
            refine lv_iload_n hx hb dNames_find_45 rfl (lv_at hl 2 rfl) ?_
            refine va_iald hx hb hC.1 hP 5 0 rfl rfl (in_has (by assumption) (by assumption) (by omega) (by omega)) dNames_find_46 ?_
            refine lv_topi (fun v17 ev17 => ?_)
            refine lv_istore_n (lv' := [(2, .int v17), (0, .ref a), (1, .int i1), (3, .int i3)]) hx hb dNames_find_47 rfl hl (by decide) rfl (fun ls hl => ?_)
            obtain ⟨v18, ev18⟩ : ∃ y : Int32, y = i3 + 1 := ⟨_, rfl⟩
            refine lv_iinc (v := v18) (lv' := [(3, .int v18), (2, .int v17), (0, .ref a), (1, .int i1)]) hx hb dNames_find_48 hl (k := 3) rfl (by rw [ev18]; rfl) (by decide) rfl (fun ls hl => ?_)
            refine lv_goto (tgt := 13) hx hb dNames_find_51 (by decide) ?_
            exact ih13 _ (by have q1 : i3.toInt < 2147483647 := (by first | exact (mu_up (k := i3) (by assumption)).2 | assumption); have q2 := mu_lt q1; rw [← ev18] at q2; omega) ls i1 v17 v18 rfl (lv_sub hl [2, 3, 1, 0] rfl)
          · refine lv_iload_n hx hb dNames_find_39 rfl (lv_at hl 2 rfl) ?_
            exact hE _ _ _ trivial dNames_find_40
  refine lv_aload_n hx hb dNames_find_0 rfl (lv_at hl 0 rfl) ?_
  refine va_get (D := γ.1) (ci := 2) (v := .ref b5) (C := R_Names) (T := T_Names) (N := 9) (Ts := bs_W0) hx hb hW in_Names hown hC.1 hP 0 rfl rfl 5 (by decide) (hW _ qw_ae9666db7d) (fun _ h9 => h9) rfl dNames_find_1 ?_
  refine lv_iload_n hx hb dNames_find_4 rfl (lv_at hl 1 rfl) ?_
  refine lv_sipush (v := 255) hx hb dNames_find_5 (by decide) ?_
  refine lv_iand hx hb dNames_find_8 ?_
  refine lv_topi (fun v19 ev19 => ?_)
  refine va_iald hx hb hC.1 hP 6 0 rfl rfl (by subst_vars; exact pk_andIn _ 8 (by decide) (by decide)) dNames_find_9 ?_
  refine lv_topi (fun v20 ev20 => ?_)
  refine lv_istore_n (lv' := [(2, .int v20), (0, .ref a), (1, .int x1)]) hx hb dNames_find_10 rfl hl (by decide) rfl (fun ls hl => ?_)
  refine lv_iconst (v := 0) hx hb dNames_find_11 (by decide) ?_
  refine lv_istore_n (lv' := [(3, .int 0), (2, .int v20), (0, .ref a), (1, .int x1)]) hx hb dNames_find_12 rfl hl (by decide) rfl (fun ls hl => ?_)
  exact J13 _ ls x1 v20 0 rfl (lv_sub hl [2, 3, 1, 0] rfl)
theorem k2_Names_find (l : Launch) (γ : gE) (A : Nat → Prop) (κ : Nat → Nat) (x1 : Int32)  : PU l yNames_find bNames_find 4 (some .int) 1 21 [.ref (γ.2.2.2 2), .int x1] γ (INV γ A κ) (vp_Si (fun v : Int32 => True)) :=
  pu_up 3 (by decide) (by decide) (fun Z => c_Names_find l γ Z (γ.2.2.2 2) (κ 2) (κ 3) (κ 12) x1)

set_option maxHeartbeats 4000000 in
set_option maxRecDepth 100000 in
theorem c_Names_isTaken (l : Launch) (γ : gE) (Z : Nat → Prop) (a N sc L : Nat) (x1 : Int32)  : PU l yNames_isTaken bNames_isTaken 2 (some .boolean) 2 44 [.ref a, .int x1] γ (cmp γ (fNames γ a N sc L) Z) (vp_Si (fun v : Int32 => True)) := by
  refine pu_openZ (by decide) (Nat.le_of_ble_eq_true rfl) ?_
  intro p e s m args below meth c ls Q S hC hI hE hl
  obtain ⟨hx, hb, hml, hown, hW⟩ := id S
  obtain ⟨ws, ⟨b0, b1, b2, b3, b4, b5, b6, f0, f1, f2, f3, f4, f5, f6, rfl, h1, h2, h3, h4, h5, h6⟩, hP, hD⟩ := id hI
  have hP : va_P γ.1 vwCl [(a, .inr (2, [.ref b0, .ref b1, .ref b2, .ref b3, .ref b4, .ref b5, .ref b6, .int (nI N), .int (nI sc)])), (b0, .inl (γ.2.1, L, .inl f0)), (b1, .inl (γ.2.1, L, .inl f1)), (b2, .inl (γ.2.1, L, .inl f2)), (b3, .inl (γ.2.1, L, .inl f3)), (b4, .inl (γ.2.1, L, .inl f4)), (b5, .inl (γ.2.1, 256, .inl f5)), (b6, .inl (γ.2.1, 32, .inl f6))] s.heap := hP
  have hl : lv_has ls 2 [(0, .ref a), (1, .int x1)] := hl
  refine lv_aload_n hx hb dNames_isTaken_0 rfl (lv_at hl 0 rfl) ?_
  refine lv_iload_n hx hb dNames_isTaken_1 rfl (lv_at hl 1 rfl) ?_
  refine pu_Vi (rest := []) S hC (c_Names_find l γ Z a N sc L x1) meNames_find qw_125e0af2e4 ⟨Nat.le_of_ble_eq_true rfl, Nat.le_of_ble_eq_true rfl⟩ (va_recv hC.1 hP (ci := 2) (q0 := 0) rfl rfl) hI rfl hl.1 rfl (Nat.le_of_ble_eq_true rfl) dNames_isTaken_2 ⟨Nat.zero_le _, Nat.zero_le _⟩ (fun r6 hr6 => ?_)
  refine lv_aload_n hx hb dNames_isTaken_5 rfl (lv_at hl 0 rfl) ?_
  refine va_get (D := γ.1) (ci := 2) (v := .ref b6) (C := R_Names) (T := T_Names) (N := 9) (Ts := bs_W0) hx hb hW in_Names hown hC.1 hP 0 rfl rfl 6 (by decide) (hW _ qw_c2f4fc63da) (fun _ h9 => h9) rfl dNames_isTaken_6 ?_
  refine lv_aload_n hx hb dNames_isTaken_9 rfl (lv_at hl 0 rfl) ?_
  refine va_get (D := γ.1) (ci := 2) (v := .int (nI sc)) (C := R_Names) (T := T_Names) (N := 9) (Ts := bs_W0) hx hb hW in_Names hown hC.1 hP 0 rfl rfl 8 (by decide) (hW _ qw_40882965f2) (fun _ h9 => h9) rfl dNames_isTaken_10 ?_
  refine lv_topi (fun v7 ev7 => ?_)
  refine lv_iconst (v := 1) hx hb dNames_isTaken_13 (by decide) ?_
  refine lv_isub hx hb dNames_isTaken_14 ?_
  refine lv_topi (fun v8 ev8 => ?_)
  refine va_iald hx hb hC.1 hP 7 0 rfl rfl (by subst_vars; exact sc_in (by omega) (by omega)) dNames_isTaken_15 ?_
  refine lv_topi (fun v9 ev9 => ?_)
  refine lv_icmp_lt (tgt := 23) hx hb dNames_isTaken_16 (by decide) (fun c10 => ?_) (fun c10 => ?_)
  · refine lv_iconst (v := 0) hx hb dNames_isTaken_23 (by decide) ?_
    exact hE _ _ _ rfl trivial dNames_isTaken_24
  · refine lv_iconst (v := 1) hx hb dNames_isTaken_19 (by decide) ?_
    refine lv_goto (tgt := 24) hx hb dNames_isTaken_20 (by decide) ?_
    exact hE _ _ _ rfl trivial dNames_isTaken_24
theorem k2_Names_isTaken (l : Launch) (γ : gE) (A : Nat → Prop) (κ : Nat → Nat) (x1 : Int32)  : PU l yNames_isTaken bNames_isTaken 2 (some .boolean) 2 44 [.ref (γ.2.2.2 2), .int x1] γ (INV γ A κ) (vp_Si (fun v : Int32 => True)) :=
  pu_up 3 (by decide) (by decide) (fun Z => c_Names_isTaken l γ Z (γ.2.2.2 2) (κ 2) (κ 3) (κ 12) x1)

set_option maxHeartbeats 4000000 in
set_option maxRecDepth 100000 in
theorem c_Rows_get (l : Launch) (γ : gE) (Z : Nat → Prop) (a M : Nat) (x1 : Int32) (x2 : Int32)  : PU l yRows_get bRows_get 3 (some .int) 0 0 [.ref a, .int x1, .int x2] γ (cmp γ (fRows γ a M) Z) (vp_Si (fun v : Int32 => True)) := by
  refine pu_openI (by decide) (Nat.le_of_ble_eq_true rfl) ?_
  intro p e s m args below meth c ls Q S hC hI hE hl
  obtain ⟨hx, hb, hml, hown, hW⟩ := id S
  obtain ⟨ws, ⟨b0, g0, rfl, h1, h2⟩, hP, hD⟩ := id hI
  have hP : va_P γ.1 vwCl [(a, .inr (5, [.ref b0])), (b0, .inl (γ.2.2.1, 4 * M, .inr (.inl g0)))] s.heap := hP
  have hl : lv_has ls 3 [(0, .ref a), (1, .int x1), (2, .int x2)] := hl
  refine lv_iload_n hx hb dRows_get_0 rfl (lv_at hl 1 rfl) ?_
  refine lv_if_lt (tgt := 25) hx hb dRows_get_1 (by decide) (fun c16 => ?_) (fun c16 => ?_)
  · refine lv_iconst (v := 0) hx hb dRows_get_25 (by decide) ?_
    exact hE _ _ _ trivial dRows_get_26
  · refine lv_iload_n hx hb dRows_get_4 rfl (lv_at hl 1 rfl) ?_
    refine lv_aload_n hx hb dRows_get_5 rfl (lv_at hl 0 rfl) ?_
    refine va_get (D := γ.1) (ci := 5) (v := .ref b0) (C := R_Rows) (T := T_Rows) (N := 1) (Ts := bs_W0) hx hb hW in_Rows hown hC.1 hP 0 rfl rfl 0 (by decide) (hW _ qw_05e9c8a29d) (fun _ h9 => h9) rfl dRows_get_6 ?_
    refine va_alen hx hb hC.1 hP 1 1 rfl rfl rfl dRows_get_9 ?_
    refine lv_topi (fun v17 ev17 => ?_)
    have ev17 : v17 = nI (4 * M) := ev17
    refine lv_iconst (v := 4) hx hb dRows_get_10 (by decide) ?_
    refine lv_idiv hx hb dRows_get_11 (by decide) ?_
    refine lv_topi (fun v18 ev18 => ?_)
    refine lv_icmp_ge (tgt := 25) hx hb dRows_get_12 (by decide) (fun c19 => ?_) (fun c19 => ?_)
    · refine lv_iconst (v := 0) hx hb dRows_get_25 (by decide) ?_
      exact hE _ _ _ trivial dRows_get_26
    · refine lv_iload_n hx hb dRows_get_15 rfl (lv_at hl 2 rfl) ?_
      refine lv_if_lt (tgt := 25) hx hb dRows_get_16 (by decide) (fun c20 => ?_) (fun c20 => ?_)
      · refine lv_iconst (v := 0) hx hb dRows_get_25 (by decide) ?_
        exact hE _ _ _ trivial dRows_get_26
      · refine lv_iload_n hx hb dRows_get_19 rfl (lv_at hl 2 rfl) ?_
        refine lv_bipush (v := 64) hx hb dRows_get_20 (by decide) ?_
        refine lv_icmp_lt (tgt := 27) hx hb dRows_get_22 (by decide) (fun c21 => ?_) (fun c21 => ?_)
        · refine lv_aload_n hx hb dRows_get_27 rfl (lv_at hl 0 rfl) ?_
          refine va_get (D := γ.1) (ci := 5) (v := .ref b0) (C := R_Rows) (T := T_Rows) (N := 1) (Ts := bs_W0) hx hb hW in_Rows hown hC.1 hP 0 rfl rfl 0 (by decide) (hW _ qw_05e9c8a29d) (fun _ h9 => h9) rfl dRows_get_28 ?_
          refine lv_iload_n hx hb dRows_get_31 rfl (lv_at hl 1 rfl) ?_
          refine lv_iconst (v := 4) hx hb dRows_get_32 (by decide) ?_
          refine lv_imul hx hb dRows_get_33 ?_
          refine lv_topi (fun v22 ev22 => ?_)
          refine lv_iload_n hx hb dRows_get_34 rfl (lv_at hl 2 rfl) ?_
          refine lv_bipush (v := 16) hx hb dRows_get_35 (by decide) ?_
          refine lv_idiv hx hb dRows_get_37 (by decide) ?_
          refine lv_topi (fun v23 ev23 => ?_)
          refine lv_iadd hx hb dRows_get_38 ?_
          refine lv_topi (fun v24 ev24 => ?_)
          refine va_lald hx hb hC.1 hP 1 1 rfl rfl (by subst_vars; exact rows_ix (by assumption) (by assumption) (by assumption) (by first | assumption | exact lt_nge (by assumption)) (by omega)) dRows_get_39 ?_
          refine lv_topl (fun v25 ev25 => ?_)
          refine lv_iload_n hx hb dRows_get_40 rfl (lv_at hl 2 rfl) ?_
          refine lv_bipush (v := 16) hx hb dRows_get_41 (by decide) ?_
          refine lv_irem hx hb dRows_get_43 (by decide) ?_
          refine lv_topi (fun v26 ev26 => ?_)
          refine lv_iconst (v := 4) hx hb dRows_get_44 (by decide) ?_
          refine lv_imul hx hb dRows_get_45 ?_
          refine lv_topi (fun v27 ev27 => ?_)
          refine lv_lushr hx hb dRows_get_46 rfl ?_
          refine lv_topl (fun v28 ev28 => ?_)
          refine lv_l2i hx hb dRows_get_47 rfl ?_
          refine lv_topi (fun v29 ev29 => ?_)
          refine lv_bipush (v := 15) hx hb dRows_get_48 (by decide) ?_
          refine lv_iand hx hb dRows_get_50 ?_
          refine lv_topi (fun v30 ev30 => ?_)
          exact hE _ _ _ trivial dRows_get_51
        · refine lv_iconst (v := 0) hx hb dRows_get_25 (by decide) ?_
          exact hE _ _ _ trivial dRows_get_26
theorem k5_Rows_get (l : Launch) (γ : gE) (A : Nat → Prop) (κ : Nat → Nat) (x1 : Int32) (x2 : Int32)  : PU l yRows_get bRows_get 3 (some .int) 0 0 [.ref (γ.2.2.2 5), .int x1, .int x2] γ (INV γ A κ) (vp_Si (fun v : Int32 => True)) :=
  pu_up 6 (by decide) (by decide) (fun Z => c_Rows_get l γ Z (γ.2.2.2 5) (κ 8) x1 x2)
theorem k7_Rows_get (l : Launch) (γ : gE) (A : Nat → Prop) (κ : Nat → Nat) (x1 : Int32) (x2 : Int32)  : PU l yRows_get bRows_get 3 (some .int) 0 0 [.ref (γ.2.2.2 7), .int x1, .int x2] γ (INV γ A κ) (vp_Si (fun v : Int32 => True)) :=
  pu_up 8 (by decide) (by decide) (fun Z => c_Rows_get l γ Z (γ.2.2.2 7) (κ 9) x1 x2)
theorem k10_Rows_get (l : Launch) (γ : gE) (A : Nat → Prop) (κ : Nat → Nat) (x1 : Int32) (x2 : Int32)  : PU l yRows_get bRows_get 3 (some .int) 0 0 [.ref (γ.2.2.2 10), .int x1, .int x2] γ (INV γ A κ) (vp_Si (fun v : Int32 => True)) :=
  pu_up 10 (by decide) (by decide) (fun Z => c_Rows_get l γ Z (γ.2.2.2 10) (κ 10) x1 x2)

set_option maxHeartbeats 4000000 in
set_option maxRecDepth 100000 in
theorem c_Rows_isClear (l : Launch) (γ : gE) (Z : Nat → Prop) (a M : Nat) (x1 : Int32) (x2 : Int32)  : PU l yRows_isClear bRows_isClear 4 (some .boolean) 1 22 [.ref a, .int x1, .int x2] γ (cmp γ (fRows γ a M) Z) (vp_Si (fun v : Int32 => True)) := by
  refine pu_openZ (by decide) (Nat.le_of_ble_eq_true rfl) ?_
  intro p e s m args below meth c ls Q S hC hI hE hl
  obtain ⟨hx, hb, hml, hown, hW⟩ := id S
  obtain ⟨ws, ⟨b0, g0, rfl, h1, h2⟩, hP, hD⟩ := id hI
  have hP : va_P γ.1 vwCl [(a, .inr (5, [.ref b0])), (b0, .inl (γ.2.2.1, 4 * M, .inr (.inl g0)))] s.heap := hP
  have hl : lv_has ls 4 [(0, .ref a), (1, .int x1), (2, .int x2)] := hl
  have J2 : ∀ (N2 : Nat) (ls : Array Slot)  (i1 : Int32) (i2 : Int32) (i3 : Int32), (2147483647 - i3.toInt).toNat = N2 → lv_has ls 4 [(0, .ref a), (1, .int i1), (2, .int i2), (3, .int i3)] → W p l e (bs_rm 1 0 0 22) s m args below meth c s.heap [] 0 0 Q (F0 m 2 ls []) := by
    intro N2
    induction N2 using Nat.strongRecOn with
    | ind N2 ih2 =>
      intro ls  i1 i2 i3  hm2 hl
      refine lv_iload_n hx hb dRows_isClear_2 rfl (lv_at hl 3 rfl) ?_
      refine lv_iload_n hx hb dRows_isClear_3 rfl (lv_at hl 2 rfl) ?_
      refine lv_icmp_ge (tgt := 33) hx hb dRows_isClear_4 (by decide) (fun c7 => ?_) (fun c7 => ?_)
      · refine lv_iconst (v := 1) hx hb dRows_isClear_33 (by decide) ?_
        exact hE _ _ _ rfl trivial dRows_isClear_34
      · refine lv_iload_n hx hb dRows_isClear_7 rfl (lv_at hl 3 rfl) ?_
        refine lv_bipush (v := 64) hx hb dRows_isClear_8 (by decide) ?_
        refine lv_icmp_ge (tgt := 33) hx hb dRows_isClear_10 (by decide) (fun c8 => ?_) (fun c8 => ?_)
        · refine lv_iconst (v := 1) hx hb dRows_isClear_33 (by decide) ?_
          exact hE _ _ _ rfl trivial dRows_isClear_34
        · refine lv_aload_n hx hb dRows_isClear_13 rfl (lv_at hl 0 rfl) ?_
          refine lv_iload_n hx hb dRows_isClear_14 rfl (lv_at hl 1 rfl) ?_
          refine lv_iload_n hx hb dRows_isClear_15 rfl (lv_at hl 3 rfl) ?_
          refine pu_Vi (rest := []) S hC (c_Rows_get l γ Z a M i1 i3) meRows_get qw_f4898d707a ⟨Nat.le_of_ble_eq_true rfl, Nat.le_of_ble_eq_true rfl⟩ (va_recv hC.1 hP (ci := 5) (q0 := 0) rfl rfl) hI rfl hl.1 rfl (Nat.le_of_ble_eq_true rfl) dRows_isClear_16 ⟨Nat.zero_le _, Nat.zero_le _⟩ (fun r9 hr9 => ?_)
          refine pu_Si (rest := []) S hC (s_Logic_isClear l γ (cmp γ (fRows γ a M) Z) r9) meLogic_isClear qw_643b0e6c65 ⟨Nat.le_of_ble_eq_true rfl, Nat.le_of_ble_eq_true rfl⟩ hI rfl hl.1 rfl (Nat.le_of_ble_eq_true rfl) dRows_isClear_19 ⟨Nat.zero_le _, Nat.zero_le _⟩ (fun r10 hr10 => ?_)
          refine lv_if_ne (tgt := 27) hx hb dRows_isClear_22 (by decide) (fun c11 => ?_) (fun c11 => ?_)
          · obtain ⟨v12, ev12⟩ : ∃ y : Int32, y = i3 + 1 := ⟨_, rfl⟩
            refine lv_iinc (v := v12) (lv' := [(3, .int v12), (0, .ref a), (1, .int i1), (2, .int i2)]) hx hb dRows_isClear_27 hl (k := 3) rfl (by rw [ev12]; rfl) (by decide) rfl (fun ls hl => ?_)
            refine lv_goto (tgt := 2) hx hb dRows_isClear_30 (by decide) ?_
            exact ih2 _ (by have q1 : i3.toInt < 2147483647 := (by first | exact (mu_up (k := i3) (by assumption)).2 | assumption); have q2 := mu_lt q1; rw [← ev12] at q2; omega) ls i1 i2 v12 rfl (lv_sub hl [1, 2, 3, 0] rfl)
          · refine lv_iconst (v := 0) hx hb dRows_isClear_25 (by decide) ?_
            exact hE _ _ _ rfl trivial dRows_isClear_26
  refine lv_iconst (v := 0) hx hb dRows_isClear_0 (by decide) ?_
  refine lv_istore_n (lv' := [(3, .int 0), (0, .ref a), (1, .int x1), (2, .int x2)]) hx hb dRows_isClear_1 rfl hl (by decide) rfl (fun ls hl => ?_)
  exact J2 _ ls x1 x2 0 rfl (lv_sub hl [1, 2, 3, 0] rfl)
theorem k5_Rows_isClear (l : Launch) (γ : gE) (A : Nat → Prop) (κ : Nat → Nat) (x1 : Int32) (x2 : Int32)  : PU l yRows_isClear bRows_isClear 4 (some .boolean) 1 22 [.ref (γ.2.2.2 5), .int x1, .int x2] γ (INV γ A κ) (vp_Si (fun v : Int32 => True)) :=
  pu_up 6 (by decide) (by decide) (fun Z => c_Rows_isClear l γ Z (γ.2.2.2 5) (κ 8) x1 x2)
theorem k7_Rows_isClear (l : Launch) (γ : gE) (A : Nat → Prop) (κ : Nat → Nat) (x1 : Int32) (x2 : Int32)  : PU l yRows_isClear bRows_isClear 4 (some .boolean) 1 22 [.ref (γ.2.2.2 7), .int x1, .int x2] γ (INV γ A κ) (vp_Si (fun v : Int32 => True)) :=
  pu_up 8 (by decide) (by decide) (fun Z => c_Rows_isClear l γ Z (γ.2.2.2 7) (κ 9) x1 x2)
theorem k10_Rows_isClear (l : Launch) (γ : gE) (A : Nat → Prop) (κ : Nat → Nat) (x1 : Int32) (x2 : Int32)  : PU l yRows_isClear bRows_isClear 4 (some .boolean) 1 22 [.ref (γ.2.2.2 10), .int x1, .int x2] γ (INV γ A κ) (vp_Si (fun v : Int32 => True)) :=
  pu_up 10 (by decide) (by decide) (fun Z => c_Rows_isClear l γ Z (γ.2.2.2 10) (κ 10) x1 x2)

set_option maxHeartbeats 4000000 in
set_option maxRecDepth 100000 in
theorem c_Rows_bitsOf (l : Launch) (γ : gE) (Z : Nat → Prop) (a M : Nat) (x1 : Int32) (x2 : Int32)  : PU l yRows_bitsOf bRows_bitsOf 6 (some .long) 1 22 [.ref a, .int x1, .int x2] γ (cmp γ (fRows γ a M) Z) (vp_Sl (fun v : Int64 => True)) := by
  refine pu_openJ (by decide) (Nat.le_of_ble_eq_true rfl) ?_
  intro p e s m args below meth c ls Q S hC hI hE hl
  obtain ⟨hx, hb, hml, hown, hW⟩ := id S
  obtain ⟨ws, ⟨b0, g0, rfl, h1, h2⟩, hP, hD⟩ := id hI
  have hP : va_P γ.1 vwCl [(a, .inr (5, [.ref b0])), (b0, .inl (γ.2.2.1, 4 * M, .inr (.inl g0)))] s.heap := hP
  have hl : lv_has ls 6 [(0, .ref a), (1, .int x1), (2, .int x2)] := hl
  have J5 : ∀ (N5 : Nat) (ls : Array Slot)  (i1 : Int32) (i2 : Int32) (j3 : Int64) (i5 : Int32), (2147483647 - i5.toInt).toNat = N5 → lv_has ls 6 [(0, .ref a), (1, .int i1), (2, .int i2), (3, .long j3), (5, .int i5)] → W p l e (bs_rm 1 0 0 22) s m args below meth c s.heap [] 0 0 Q (F0 m 5 ls []) := by
    intro N5
    induction N5 using Nat.strongRecOn with
    | ind N5 ih5 =>
      intro ls  i1 i2 j3 i5  hm5 hl
      have J38 : ∀ (ls : Array Slot)  (i1 : Int32) (i2 : Int32) (j3 : Int64) (i5 : Int32), (i5.toInt < 2147483647 ∧ (2147483647 - i5.toInt).toNat = N5) → lv_has ls 6 [(0, .ref a), (1, .int i1), (2, .int i2), (3, .long j3), (5, .int i5)] → W p l e (bs_rm 1 0 0 22) s m args below meth c s.heap [] 0 0 Q (F0 m 38 ls []) := by
        intro ls  i1 i2 j3 i5 ⟨hf5a, hf5b⟩ hl
        obtain ⟨v9, ev9⟩ : ∃ y : Int32, y = i5 + 1 := ⟨_, rfl⟩
        refine lv_iinc (v := v9) (lv' := [(5, .int v9), (0, .ref a), (1, .int i1), (2, .int i2), (3, .long j3)]) hx hb dRows_bitsOf_38 hl (k := 4) rfl (by rw [ev9]; rfl) (by decide) rfl (fun ls hl => ?_)
        refine lv_goto (tgt := 5) hx hb dRows_bitsOf_41 (by decide) ?_
        exact ih5 _ (by have q1 : i5.toInt < 2147483647 := (by first | exact (mu_up (k := i5) (by assumption)).2 | assumption); have q2 := mu_lt q1; rw [← ev9] at q2; omega) ls i1 i2 j3 v9 rfl (lv_sub hl [1, 2, 3, 4, 0] rfl)
      refine lv_iload hx hb dRows_bitsOf_5 (lv_at hl 4 rfl) ?_
      refine lv_iload_n hx hb dRows_bitsOf_7 rfl (lv_at hl 2 rfl) ?_
      refine lv_icmp_ge (tgt := 44) hx hb dRows_bitsOf_8 (by decide) (fun c10 => ?_) (fun c10 => ?_)
      · refine lv_lload_n hx hb dRows_bitsOf_44 rfl (lv_at hl 3 rfl) ?_
        exact hE _ _ _ trivial dRows_bitsOf_45
      · refine lv_iload hx hb dRows_bitsOf_11 (lv_at hl 4 rfl) ?_
        refine lv_bipush (v := 64) hx hb dRows_bitsOf_13 (by decide) ?_
        refine lv_icmp_ge (tgt := 44) hx hb dRows_bitsOf_15 (by decide) (fun c11 => ?_) (fun c11 => ?_)
        · refine lv_lload_n hx hb dRows_bitsOf_44 rfl (lv_at hl 3 rfl) ?_
          exact hE _ _ _ trivial dRows_bitsOf_45
        · refine lv_aload_n hx hb dRows_bitsOf_18 rfl (lv_at hl 0 rfl) ?_
          refine lv_iload_n hx hb dRows_bitsOf_19 rfl (lv_at hl 1 rfl) ?_
          refine lv_iload hx hb dRows_bitsOf_20 (lv_at hl 4 rfl) ?_
          refine pu_Vi (rest := []) S hC (c_Rows_get l γ Z a M i1 i5) meRows_get qw_f4898d707a ⟨Nat.le_of_ble_eq_true rfl, Nat.le_of_ble_eq_true rfl⟩ (va_recv hC.1 hP (ci := 5) (q0 := 0) rfl rfl) hI rfl hl.1 rfl (Nat.le_of_ble_eq_true rfl) dRows_bitsOf_22 ⟨Nat.zero_le _, Nat.zero_le _⟩ (fun r12 hr12 => ?_)
          refine pu_Si (rest := []) S hC (s_Logic_isHigh l γ (cmp γ (fRows γ a M) Z) r12) meLogic_isHigh qw_71b4d70101 ⟨Nat.le_of_ble_eq_true rfl, Nat.le_of_ble_eq_true rfl⟩ hI rfl hl.1 rfl (Nat.le_of_ble_eq_true rfl) dRows_bitsOf_25 ⟨Nat.zero_le _, Nat.zero_le _⟩ (fun r13 hr13 => ?_)
          refine lv_if_eq (tgt := 38) hx hb dRows_bitsOf_28 (by decide) (fun c14 => ?_) (fun c14 => ?_)
          · exact J38 ls i1 i2 j3 i5 (by first | exact ⟨(mu_up (k := i5) (by assumption)).2, by assumption⟩ | exact ⟨by assumption, by assumption⟩) (lv_sub hl [0, 1, 2, 3, 4] rfl)
          · refine lv_lload_n hx hb dRows_bitsOf_31 rfl (lv_at hl 3 rfl) ?_
            refine lv_lconst (v := 1) hx hb dRows_bitsOf_32 (by decide) ?_
            refine lv_iload hx hb dRows_bitsOf_33 (lv_at hl 4 rfl) ?_
            refine lv_lshl hx hb dRows_bitsOf_35 rfl ?_
            refine lv_topl (fun v15 ev15 => ?_)
            refine lv_lor hx hb dRows_bitsOf_36 ?_
            refine lv_topl (fun v16 ev16 => ?_)
            refine lv_lstore_n (lv' := [(3, .long v16), (0, .ref a), (1, .int i1), (2, .int i2), (5, .int i5)]) hx hb dRows_bitsOf_37 rfl hl (by decide) rfl (fun ls hl => ?_)
            exact J38 ls i1 i2 v16 i5 (by first | exact ⟨(mu_up (k := i5) (by assumption)).2, by assumption⟩ | exact ⟨by assumption, by assumption⟩) (lv_sub hl [1, 2, 3, 0, 4] rfl)
  refine lv_lconst (v := 0) hx hb dRows_bitsOf_0 (by decide) ?_
  refine lv_lstore_n (lv' := [(3, .long 0), (0, .ref a), (1, .int x1), (2, .int x2)]) hx hb dRows_bitsOf_1 rfl hl (by decide) rfl (fun ls hl => ?_)
  refine lv_iconst (v := 0) hx hb dRows_bitsOf_2 (by decide) ?_
  refine lv_istore (lv' := [(5, .int 0), (3, .long 0), (0, .ref a), (1, .int x1), (2, .int x2)]) hx hb dRows_bitsOf_3 hl (by decide) rfl (fun ls hl => ?_)
  exact J5 _ ls x1 x2 0 0 rfl (lv_sub hl [2, 3, 4, 1, 0] rfl)
theorem k5_Rows_bitsOf (l : Launch) (γ : gE) (A : Nat → Prop) (κ : Nat → Nat) (x1 : Int32) (x2 : Int32)  : PU l yRows_bitsOf bRows_bitsOf 6 (some .long) 1 22 [.ref (γ.2.2.2 5), .int x1, .int x2] γ (INV γ A κ) (vp_Sl (fun v : Int64 => True)) :=
  pu_up 6 (by decide) (by decide) (fun Z => c_Rows_bitsOf l γ Z (γ.2.2.2 5) (κ 8) x1 x2)
theorem k7_Rows_bitsOf (l : Launch) (γ : gE) (A : Nat → Prop) (κ : Nat → Nat) (x1 : Int32) (x2 : Int32)  : PU l yRows_bitsOf bRows_bitsOf 6 (some .long) 1 22 [.ref (γ.2.2.2 7), .int x1, .int x2] γ (INV γ A κ) (vp_Sl (fun v : Int64 => True)) :=
  pu_up 8 (by decide) (by decide) (fun Z => c_Rows_bitsOf l γ Z (γ.2.2.2 7) (κ 9) x1 x2)
theorem k10_Rows_bitsOf (l : Launch) (γ : gE) (A : Nat → Prop) (κ : Nat → Nat) (x1 : Int32) (x2 : Int32)  : PU l yRows_bitsOf bRows_bitsOf 6 (some .long) 1 22 [.ref (γ.2.2.2 10), .int x1, .int x2] γ (INV γ A κ) (vp_Sl (fun v : Int64 => True)) :=
  pu_up 10 (by decide) (by decide) (fun Z => c_Rows_bitsOf l γ Z (γ.2.2.2 10) (κ 10) x1 x2)

set_option maxHeartbeats 4000000 in
set_option maxRecDepth 100000 in
theorem k_Looker_isHidden (l : Launch) (γ : gE) (A : Nat → Prop) (κ : Nat → Nat) (x1 : Int32)  : PU l yLooker_isHidden bLooker_isHidden 2 (some .boolean) 0 0 [.ref (γ.2.2.2 8), .int x1] γ (INV γ A κ) (vp_Si (fun v : Int32 => True)) := by
  refine pu_openZ (by decide) (Nat.le_of_ble_eq_true rfl) ?_
  intro p e s m args below meth c ls Q S hC hI hE hl
  obtain ⟨hx, hb, hml, hown, hW⟩ := id S
  obtain ⟨Zk, wk, ⟨bh, fh, vf, va, rfl, hk1, hk2⟩, hPk, hDk⟩ := inv_c hI 1 (by decide) (by decide)
  have hPk : va_P γ.1 vwCl [(γ.2.2.2 0, .inr (0, [.ref (γ.2.2.2 1), .ref (γ.2.2.2 2), .ref (γ.2.2.2 3), .ref (γ.2.2.2 4), .ref (γ.2.2.2 6), .ref (γ.2.2.2 8), .int vf])), (γ.2.2.2 8, .inr (7, [.ref (γ.2.2.2 1), .ref (γ.2.2.2 2), .ref (γ.2.2.2 3), .ref (γ.2.2.2 9), .ref (γ.2.2.2 11), .ref (γ.2.2.2 12), .ref bh, .int va])), (γ.2.2.2 11, .inr (8, [.ref (γ.2.2.2 9)])), (γ.2.2.2 12, .inr (9, [.ref (γ.2.2.2 1), .ref (γ.2.2.2 2), .ref (γ.2.2.2 3), .ref (γ.2.2.2 4), .ref (γ.2.2.2 9)])), (bh, .inl (γ.2.1, κ 15, .inl fh))] s.heap := hPk
  have hl : lv_has ls 2 [(0, .ref (γ.2.2.2 8)), (1, .int x1)] := hl
  have J23 : ∀ (ls : Array Slot)  (i1 : Int32), lv_has ls 2 [(0, .ref (γ.2.2.2 8)), (1, .int i1)] → W p l e (bs_rm 0 0 0 0) s m args below meth c s.heap [] 0 0 Q (F0 m 23 ls []) := by
    intro ls  i1  hl
    refine lv_iconst (v := 1) hx hb dLooker_isHidden_23 (by decide) ?_
    refine lv_goto (tgt := 28) hx hb dLooker_isHidden_24 (by decide) ?_
    exact hE _ _ _ rfl trivial dLooker_isHidden_28
  refine lv_iload_n hx hb dLooker_isHidden_0 rfl (lv_at hl 1 rfl) ?_
  refine lv_if_lt (tgt := 23) hx hb dLooker_isHidden_1 (by decide) (fun c6 => ?_) (fun c6 => ?_)
  · exact J23 ls x1 (lv_sub hl [0, 1] rfl)
  · refine lv_iload_n hx hb dLooker_isHidden_4 rfl (lv_at hl 1 rfl) ?_
    refine lv_aload_n hx hb dLooker_isHidden_5 rfl (lv_at hl 0 rfl) ?_
    refine va_get (D := γ.1) (ci := 7) (v := .ref bh) (C := R_Looker) (T := T_Looker) (N := 8) (Ts := bs_W0) hx hb hW in_Looker hown hC.1 hPk 1 rfl rfl 6 (by decide) (hW _ qw_899a0812ea) (fun _ h9 => h9) rfl dLooker_isHidden_6 ?_
    refine va_alen hx hb hC.1 hPk 4 0 rfl rfl rfl dLooker_isHidden_9 ?_
    refine lv_topi (fun v7 ev7 => ?_)
    have ev7 : v7 = nI (κ 15) := ev7
    refine lv_icmp_ge (tgt := 23) hx hb dLooker_isHidden_10 (by decide) (fun c8 => ?_) (fun c8 => ?_)
    · exact J23 ls x1 (lv_sub hl [0, 1] rfl)
    · refine lv_aload_n hx hb dLooker_isHidden_13 rfl (lv_at hl 0 rfl) ?_
      refine va_get (D := γ.1) (ci := 7) (v := .ref bh) (C := R_Looker) (T := T_Looker) (N := 8) (Ts := bs_W0) hx hb hW in_Looker hown hC.1 hPk 1 rfl rfl 6 (by decide) (hW _ qw_899a0812ea) (fun _ h9 => h9) rfl dLooker_isHidden_14 ?_
      refine lv_iload_n hx hb dLooker_isHidden_17 rfl (lv_at hl 1 rfl) ?_
      refine va_iald hx hb hC.1 hPk 4 0 rfl rfl (by subst_vars; exact in_cmp (by assumption) (by assumption) (by omega)) dLooker_isHidden_18 ?_
      refine lv_topi (fun v9 ev9 => ?_)
      refine lv_iconst (v := 1) hx hb dLooker_isHidden_19 (by decide) ?_
      refine lv_icmp_ne (tgt := 27) hx hb dLooker_isHidden_20 (by decide) (fun c10 => ?_) (fun c10 => ?_)
      · refine lv_iconst (v := 0) hx hb dLooker_isHidden_27 (by decide) ?_
        exact hE _ _ _ rfl trivial dLooker_isHidden_28
      · exact J23 ls x1 (lv_sub hl [0, 1] rfl)

set_option maxHeartbeats 4000000 in
set_option maxRecDepth 100000 in
theorem k_Looker_isOperator (l : Launch) (γ : gE) (A : Nat → Prop) (κ : Nat → Nat) (x1 : Int32) (x2 : Int32) (x3 : Int32)  : PU l yLooker_isOperator bLooker_isOperator 5 (some .boolean) 2 42 [.ref (γ.2.2.2 8), .int x1, .int x2, .int x3] γ (INV γ A κ) (vp_Si (fun v : Int32 => True)) := by
  refine pu_openZ (by decide) (Nat.le_of_ble_eq_true rfl) ?_
  intro p e s m args below meth c ls Q S hC hI hE hl
  obtain ⟨hx, hb, hml, hown, hW⟩ := id S
  have hl : lv_has ls 5 [(0, .ref (γ.2.2.2 8)), (1, .int x1), (2, .int x2), (3, .int x3)] := hl
  refine lv_aload_n hx hb dLooker_isOperator_0 rfl (lv_at hl 0 rfl) ?_
  refine of_get S hC (of_8_0 hI) in_Looker rfl (by decide) qw_22d2793f25 dLooker_isOperator_1 ?_
  refine lv_iload_n hx hb dLooker_isOperator_4 rfl (lv_at hl 1 rfl) ?_
  refine pu_Vi (rest := []) S hC (k1_Trees_valueOf l γ A κ x1) meTrees_valueOf qw_ea9162cf9a ⟨Nat.le_of_ble_eq_true rfl, Nat.le_of_ble_eq_true rfl⟩ (rv_1 hC hI) hI rfl hl.1 rfl (Nat.le_of_ble_eq_true rfl) dLooker_isOperator_5 ⟨Nat.zero_le _, Nat.zero_le _⟩ (fun r6 hr6 => ?_)
  refine lv_istore (lv' := [(4, .int r6), (0, .ref (γ.2.2.2 8)), (1, .int x1), (2, .int x2), (3, .int x3)]) hx hb dLooker_isOperator_8 hl (by decide) rfl (fun ls hl => ?_)
  refine lv_aload_n hx hb dLooker_isOperator_10 rfl (lv_at hl 1 rfl) ?_
  refine of_get S hC (of_8_0 hI) in_Looker rfl (by decide) qw_22d2793f25 dLooker_isOperator_11 ?_
  refine lv_iload_n hx hb dLooker_isOperator_14 rfl (lv_at hl 2 rfl) ?_
  refine pu_Vi (rest := []) S hC (k1_Trees_countOf l γ A κ x1) meTrees_countOf qw_195048702c ⟨Nat.le_of_ble_eq_true rfl, Nat.le_of_ble_eq_true rfl⟩ (rv_1 hC hI) hI rfl hl.1 rfl (Nat.le_of_ble_eq_true rfl) dLooker_isOperator_15 ⟨Nat.zero_le _, Nat.zero_le _⟩ (fun r7 hr7 => ?_)
  refine lv_iload_n hx hb dLooker_isOperator_18 rfl (lv_at hl 3 rfl) ?_
  refine lv_icmp_ne (tgt := 37) hx hb dLooker_isOperator_19 (by decide) (fun c8 => ?_) (fun c8 => ?_)
  · refine lv_iconst (v := 0) hx hb dLooker_isOperator_37 (by decide) ?_
    exact hE _ _ _ rfl trivial dLooker_isOperator_38
  · refine lv_iload hx hb dLooker_isOperator_22 (lv_at hl 0 rfl) ?_
    refine lv_if_lt (tgt := 37) hx hb dLooker_isOperator_24 (by decide) (fun c9 => ?_) (fun c9 => ?_)
    · refine lv_iconst (v := 0) hx hb dLooker_isOperator_37 (by decide) ?_
      exact hE _ _ _ rfl trivial dLooker_isOperator_38
    · refine lv_iload hx hb dLooker_isOperator_27 (lv_at hl 0 rfl) ?_
      refine lv_iload_n hx hb dLooker_isOperator_29 rfl (lv_at hl 4 rfl) ?_
      refine lv_icmp_gt (tgt := 37) hx hb dLooker_isOperator_30 (by decide) (fun c10 => ?_) (fun c10 => ?_)
      · refine lv_iconst (v := 0) hx hb dLooker_isOperator_37 (by decide) ?_
        exact hE _ _ _ rfl trivial dLooker_isOperator_38
      · refine lv_iconst (v := 1) hx hb dLooker_isOperator_33 (by decide) ?_
        refine lv_goto (tgt := 38) hx hb dLooker_isOperator_34 (by decide) ?_
        exact hE _ _ _ rfl trivial dLooker_isOperator_38

set_option maxHeartbeats 4000000 in
set_option maxRecDepth 100000 in
theorem k_Looker_classMisfit (l : Launch) (γ : gE) (A : Nat → Prop) (κ : Nat → Nat) (x1 : Int32) (x2 : Int32)  : PU l yLooker_classMisfit bLooker_classMisfit 5 (some .int) 3 64 [.ref (γ.2.2.2 8), .int x1, .int x2] γ (INV γ A κ) (vp_Si (fun v : Int32 => True)) := by
  refine pu_openI (by decide) (Nat.le_of_ble_eq_true rfl) ?_
  intro p e s m args below meth c ls Q S hC hI hE hl
  obtain ⟨hx, hb, hml, hown, hW⟩ := id S
  have hl : lv_has ls 5 [(0, .ref (γ.2.2.2 8)), (1, .int x1), (2, .int x2)] := hl
  have J51 : ∀ (ls : Array Slot)  (i1 : Int32) (i2 : Int32) (i3 : Int32) (i4 : Int32), lv_has ls 5 [(0, .ref (γ.2.2.2 8)), (1, .int i1), (2, .int i2), (3, .int i3), (4, .int i4)] → W p l e (bs_rm 3 0 0 64) s m args below meth c s.heap [] 0 0 Q (F0 m 51 ls []) := by
    intro ls  i1 i2 i3 i4  hl
    refine lv_iload_n hx hb dLooker_classMisfit_51 rfl (lv_at hl 3 rfl) ?_
    refine lv_iconst (v := 3) hx hb dLooker_classMisfit_52 (by decide) ?_
    refine lv_icmp_ne (tgt := 78) hx hb dLooker_classMisfit_53 (by decide) (fun c12 => ?_) (fun c12 => ?_)
    · refine lv_iconst (v := 0) hx hb dLooker_classMisfit_78 (by decide) ?_
      exact hE _ _ _ trivial dLooker_classMisfit_79
    · refine lv_iload hx hb dLooker_classMisfit_56 (lv_at hl 4 rfl) ?_
      refine lv_if_eq (tgt := 78) hx hb dLooker_classMisfit_58 (by decide) (fun c13 => ?_) (fun c13 => ?_)
      · refine lv_iconst (v := 0) hx hb dLooker_classMisfit_78 (by decide) ?_
        exact hE _ _ _ trivial dLooker_classMisfit_79
      · refine lv_iload hx hb dLooker_classMisfit_61 (lv_at hl 4 rfl) ?_
        refine lv_aload_n hx hb dLooker_classMisfit_63 rfl (lv_at hl 0 rfl) ?_
        refine of_get S hC (of_8_2 hI) in_Looker rfl (by decide) qw_abb87946e7 dLooker_classMisfit_64 ?_
        refine lv_iload_n hx hb dLooker_classMisfit_67 rfl (lv_at hl 2 rfl) ?_
        refine pu_Vi (rest := [.int i4]) S hC (k3_Types_extentOf l γ A κ i2) meTypes_extentOf qw_a6b1bdd3ae ⟨Nat.le_of_ble_eq_true rfl, Nat.le_of_ble_eq_true rfl⟩ (rv_3 hC hI) hI rfl hl.1 rfl (Nat.le_of_ble_eq_true rfl) dLooker_classMisfit_68 ⟨Nat.zero_le _, Nat.zero_le _⟩ (fun r14 hr14 => ?_)
        refine lv_icmp_eq (tgt := 78) hx hb dLooker_classMisfit_71 (by decide) (fun c15 => ?_) (fun c15 => ?_)
        · refine lv_iconst (v := 0) hx hb dLooker_classMisfit_78 (by decide) ?_
          exact hE _ _ _ trivial dLooker_classMisfit_79
        · refine lv_iconst (v := 4) hx hb dLooker_classMisfit_74 (by decide) ?_
          refine lv_goto (tgt := 79) hx hb dLooker_classMisfit_75 (by decide) ?_
          exact hE _ _ _ trivial dLooker_classMisfit_79
  refine lv_aload_n hx hb dLooker_classMisfit_0 rfl (lv_at hl 0 rfl) ?_
  refine of_get S hC (of_8_3 hI) in_Looker rfl (by decide) qw_77aeadf252 dLooker_classMisfit_1 ?_
  refine lv_iload_n hx hb dLooker_classMisfit_4 rfl (lv_at hl 1 rfl) ?_
  refine pu_Vi (rest := []) S hC (k9_Looks_classOf l γ A κ x1) meLooks_classOf qw_f23e8ec7f8 ⟨Nat.le_of_ble_eq_true rfl, Nat.le_of_ble_eq_true rfl⟩ (rv_9 hC hI) hI rfl hl.1 rfl (Nat.le_of_ble_eq_true rfl) dLooker_classMisfit_5 ⟨Nat.zero_le _, Nat.zero_le _⟩ (fun r16 hr16 => ?_)
  refine lv_istore_n (lv' := [(3, .int r16), (0, .ref (γ.2.2.2 8)), (1, .int x1), (2, .int x2)]) hx hb dLooker_classMisfit_8 rfl hl (by decide) rfl (fun ls hl => ?_)
  refine lv_aload_n hx hb dLooker_classMisfit_9 rfl (lv_at hl 1 rfl) ?_
  refine of_get S hC (of_8_3 hI) in_Looker rfl (by decide) qw_77aeadf252 dLooker_classMisfit_10 ?_
  refine lv_iload_n hx hb dLooker_classMisfit_13 rfl (lv_at hl 2 rfl) ?_
  refine pu_Vi (rest := []) S hC (k9_Looks_extentOf l γ A κ x1) meLooks_extentOf qw_a593f61add ⟨Nat.le_of_ble_eq_true rfl, Nat.le_of_ble_eq_true rfl⟩ (rv_9 hC hI) hI rfl hl.1 rfl (Nat.le_of_ble_eq_true rfl) dLooker_classMisfit_14 ⟨Nat.zero_le _, Nat.zero_le _⟩ (fun r17 hr17 => ?_)
  refine lv_istore (lv' := [(4, .int r17), (3, .int r16), (0, .ref (γ.2.2.2 8)), (1, .int x1), (2, .int x2)]) hx hb dLooker_classMisfit_17 hl (by decide) rfl (fun ls hl => ?_)
  refine lv_iload_n hx hb dLooker_classMisfit_19 rfl (lv_at hl 1 rfl) ?_
  refine lv_aload_n hx hb dLooker_classMisfit_20 rfl (lv_at hl 2 rfl) ?_
  refine of_get S hC (of_8_2 hI) in_Looker rfl (by decide) qw_abb87946e7 dLooker_classMisfit_21 ?_
  refine lv_iload_n hx hb dLooker_classMisfit_24 rfl (lv_at hl 4 rfl) ?_
  refine pu_Vi (rest := [.int r16]) S hC (k3_Types_classOf l γ A κ x2) meTypes_classOf qw_80ac4113df ⟨Nat.le_of_ble_eq_true rfl, Nat.le_of_ble_eq_true rfl⟩ (rv_3 hC hI) hI rfl hl.1 rfl (Nat.le_of_ble_eq_true rfl) dLooker_classMisfit_25 ⟨Nat.zero_le _, Nat.zero_le _⟩ (fun r18 hr18 => ?_)
  refine lv_icmp_ne (tgt := 49) hx hb dLooker_classMisfit_28 (by decide) (fun c19 => ?_) (fun c19 => ?_)
  · refine lv_iconst (v := 3) hx hb dLooker_classMisfit_49 (by decide) ?_
    exact hE _ _ _ trivial dLooker_classMisfit_50
  · refine lv_iload_n hx hb dLooker_classMisfit_31 rfl (lv_at hl 1 rfl) ?_
    refine lv_iconst (v := 4) hx hb dLooker_classMisfit_32 (by decide) ?_
    refine lv_icmp_ne (tgt := 51) hx hb dLooker_classMisfit_33 (by decide) (fun c20 => ?_) (fun c20 => ?_)
    · exact J51 ls x1 x2 r16 r17 (lv_sub hl [2, 3, 4, 1, 0] rfl)
    · refine lv_iload hx hb dLooker_classMisfit_36 (lv_at hl 0 rfl) ?_
      refine lv_aload_n hx hb dLooker_classMisfit_38 rfl (lv_at hl 2 rfl) ?_
      refine of_get S hC (of_8_2 hI) in_Looker rfl (by decide) qw_abb87946e7 dLooker_classMisfit_39 ?_
      refine lv_iload_n hx hb dLooker_classMisfit_42 rfl (lv_at hl 4 rfl) ?_
      refine pu_Vi (rest := [.int r17]) S hC (k3_Types_extentOf l γ A κ x2) meTypes_extentOf qw_a6b1bdd3ae ⟨Nat.le_of_ble_eq_true rfl, Nat.le_of_ble_eq_true rfl⟩ (rv_3 hC hI) hI rfl hl.1 rfl (Nat.le_of_ble_eq_true rfl) dLooker_classMisfit_43 ⟨Nat.zero_le _, Nat.zero_le _⟩ (fun r21 hr21 => ?_)
      refine lv_icmp_eq (tgt := 51) hx hb dLooker_classMisfit_46 (by decide) (fun c22 => ?_) (fun c22 => ?_)
      · exact J51 ls x1 x2 r16 r17 (lv_sub hl [2, 3, 4, 1, 0] rfl)
      · refine lv_iconst (v := 3) hx hb dLooker_classMisfit_49 (by decide) ?_
        exact hE _ _ _ trivial dLooker_classMisfit_50

set_option maxHeartbeats 4000000 in
set_option maxRecDepth 100000 in
theorem k_Looker_isOutside (l : Launch) (γ : gE) (A : Nat → Prop) (κ : Nat → Nat) (x1 : Int32) (x2 : Int32)  : PU l yLooker_isOutside bLooker_isOutside 4 (some .boolean) 2 42 [.ref (γ.2.2.2 8), .int x1, .int x2] γ (INV γ A κ) (vp_Si (fun v : Int32 => True)) := by
  refine pu_openZ (by decide) (Nat.le_of_ble_eq_true rfl) ?_
  intro p e s m args below meth c ls Q S hC hI hE hl
  obtain ⟨hx, hb, hml, hown, hW⟩ := id S
  have hl : lv_has ls 4 [(0, .ref (γ.2.2.2 8)), (1, .int x1), (2, .int x2)] := hl
  have J56 : ∀ (ls : Array Slot)  (i1 : Int32) (i2 : Int32) (i3 : Int32), lv_has ls 4 [(0, .ref (γ.2.2.2 8)), (1, .int i1), (2, .int i2), (3, .int i3)] → W p l e (bs_rm 2 0 0 42) s m args below meth c s.heap [] 0 0 Q (F0 m 56 ls []) := by
    intro ls  i1 i2 i3  hl
    refine lv_iconst (v := 1) hx hb dLooker_isOutside_56 (by decide) ?_
    refine lv_goto (tgt := 61) hx hb dLooker_isOutside_57 (by decide) ?_
    exact hE _ _ _ rfl trivial dLooker_isOutside_61
  refine lv_aload_n hx hb dLooker_isOutside_0 rfl (lv_at hl 0 rfl) ?_
  refine of_get S hC (of_8_3 hI) in_Looker rfl (by decide) qw_77aeadf252 dLooker_isOutside_1 ?_
  refine lv_iload_n hx hb dLooker_isOutside_4 rfl (lv_at hl 1 rfl) ?_
  refine pu_Vi (rest := []) S hC (k9_Looks_numberOf l γ A κ x1) meLooks_numberOf qw_7e695d47da ⟨Nat.le_of_ble_eq_true rfl, Nat.le_of_ble_eq_true rfl⟩ (rv_9 hC hI) hI rfl hl.1 rfl (Nat.le_of_ble_eq_true rfl) dLooker_isOutside_5 ⟨Nat.zero_le _, Nat.zero_le _⟩ (fun r10 hr10 => ?_)
  refine lv_istore_n (lv' := [(3, .int r10), (0, .ref (γ.2.2.2 8)), (1, .int x1), (2, .int x2)]) hx hb dLooker_isOutside_8 rfl hl (by decide) rfl (fun ls hl => ?_)
  refine lv_aload_n hx hb dLooker_isOutside_9 rfl (lv_at hl 1 rfl) ?_
  refine of_get S hC (of_8_3 hI) in_Looker rfl (by decide) qw_77aeadf252 dLooker_isOutside_10 ?_
  refine lv_iload_n hx hb dLooker_isOutside_13 rfl (lv_at hl 2 rfl) ?_
  refine pu_Vi (rest := []) S hC (k9_Looks_classOf l γ A κ x1) meLooks_classOf qw_f23e8ec7f8 ⟨Nat.le_of_ble_eq_true rfl, Nat.le_of_ble_eq_true rfl⟩ (rv_9 hC hI) hI rfl hl.1 rfl (Nat.le_of_ble_eq_true rfl) dLooker_isOutside_14 ⟨Nat.zero_le _, Nat.zero_le _⟩ (fun r11 hr11 => ?_)
  refine lv_iconst (v := 2) hx hb dLooker_isOutside_17 (by decide) ?_
  refine lv_icmp_ne (tgt := 60) hx hb dLooker_isOutside_18 (by decide) (fun c12 => ?_) (fun c12 => ?_)
  · refine lv_iconst (v := 0) hx hb dLooker_isOutside_60 (by decide) ?_
    exact hE _ _ _ rfl trivial dLooker_isOutside_61
  · refine lv_aload_n hx hb dLooker_isOutside_21 rfl (lv_at hl 1 rfl) ?_
    refine of_get S hC (of_8_3 hI) in_Looker rfl (by decide) qw_77aeadf252 dLooker_isOutside_22 ?_
    refine lv_iload_n hx hb dLooker_isOutside_25 rfl (lv_at hl 2 rfl) ?_
    refine pu_Vi (rest := []) S hC (k9_Looks_isFixed l γ A κ x1) meLooks_isFixed qw_3ab14e380a ⟨Nat.le_of_ble_eq_true rfl, Nat.le_of_ble_eq_true rfl⟩ (rv_9 hC hI) hI rfl hl.1 rfl (Nat.le_of_ble_eq_true rfl) dLooker_isOutside_26 ⟨Nat.zero_le _, Nat.zero_le _⟩ (fun r13 hr13 => ?_)
    refine lv_if_eq (tgt := 60) hx hb dLooker_isOutside_29 (by decide) (fun c14 => ?_) (fun c14 => ?_)
    · refine lv_iconst (v := 0) hx hb dLooker_isOutside_60 (by decide) ?_
      exact hE _ _ _ rfl trivial dLooker_isOutside_61
    · refine lv_iload_n hx hb dLooker_isOutside_32 rfl (lv_at hl 0 rfl) ?_
      refine lv_aload_n hx hb dLooker_isOutside_33 rfl (lv_at hl 1 rfl) ?_
      refine of_get S hC (of_8_2 hI) in_Looker rfl (by decide) qw_abb87946e7 dLooker_isOutside_34 ?_
      refine lv_iload_n hx hb dLooker_isOutside_37 rfl (lv_at hl 3 rfl) ?_
      refine pu_Vi (rest := [.int r10]) S hC (k3_Types_leftOf l γ A κ x2) meTypes_leftOf qw_6a2da56b19 ⟨Nat.le_of_ble_eq_true rfl, Nat.le_of_ble_eq_true rfl⟩ (rv_3 hC hI) hI rfl hl.1 rfl (Nat.le_of_ble_eq_true rfl) dLooker_isOutside_38 ⟨Nat.zero_le _, Nat.zero_le _⟩ (fun r15 hr15 => ?_)
      refine lv_icmp_lt (tgt := 56) hx hb dLooker_isOutside_41 (by decide) (fun c16 => ?_) (fun c16 => ?_)
      · exact J56 ls x1 x2 r10 (lv_sub hl [1, 2, 3, 0] rfl)
      · refine lv_iload_n hx hb dLooker_isOutside_44 rfl (lv_at hl 0 rfl) ?_
        refine lv_aload_n hx hb dLooker_isOutside_45 rfl (lv_at hl 1 rfl) ?_
        refine of_get S hC (of_8_2 hI) in_Looker rfl (by decide) qw_abb87946e7 dLooker_isOutside_46 ?_
        refine lv_iload_n hx hb dLooker_isOutside_49 rfl (lv_at hl 3 rfl) ?_
        refine pu_Vi (rest := [.int r10]) S hC (k3_Types_rightOf l γ A κ x2) meTypes_rightOf qw_860591b8df ⟨Nat.le_of_ble_eq_true rfl, Nat.le_of_ble_eq_true rfl⟩ (rv_3 hC hI) hI rfl hl.1 rfl (Nat.le_of_ble_eq_true rfl) dLooker_isOutside_50 ⟨Nat.zero_le _, Nat.zero_le _⟩ (fun r17 hr17 => ?_)
        refine lv_icmp_le (tgt := 60) hx hb dLooker_isOutside_53 (by decide) (fun c18 => ?_) (fun c18 => ?_)
        · refine lv_iconst (v := 0) hx hb dLooker_isOutside_60 (by decide) ?_
          exact hE _ _ _ rfl trivial dLooker_isOutside_61
        · exact J56 ls x1 x2 r10 (lv_sub hl [1, 2, 3, 0] rfl)
