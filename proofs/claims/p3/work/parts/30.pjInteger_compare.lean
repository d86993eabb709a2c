theorem qw_157c25bbff : (Cond.methodLink R_Logic 9 yLogic_isLow) ∈ bs_W0 := bs_in (in_tables_1_3 (List.mem_of_getElem? (i := 214) rfl)) rfl
theorem qw_b530a28374 : (Cond.methodLink R_Logic 15 yLogic_isHigh) ∈ bs_W0 := bs_in (in_tables_1_3 (List.mem_of_getElem? (i := 217) rfl)) rfl
theorem qw_dd402237cf : (Cond.methodLink R_Logic 18 yLogic_isClear) ∈ bs_W0 := bs_in (in_tables_1_4 (List.mem_of_getElem? (i := 42) rfl)) rfl
theorem qw_216c0f4a68 : (Cond.methodLink R_Logic 21 yLogic_and) ∈ bs_W0 := bs_in (in_tables_1_4 (List.mem_of_getElem? (i := 32) rfl)) rfl
theorem qw_675e585d2e : (Cond.methodLink R_Logic 25 yLogic_or) ∈ bs_W0 := bs_in (in_tables_1_4 (List.mem_of_getElem? (i := 35) rfl)) rfl
theorem qw_d35acbc9a6 : (Cond.methodLink R_Logic 28 yLogic_not) ∈ bs_W0 := bs_in (in_tables_1_4 (List.mem_of_getElem? (i := 38) rfl)) rfl
theorem qw_caa7fb3dc0 : (Cond.methodLink R_Logic 32 yLogic_other) ∈ bs_W0 := bs_in (in_tables_1_4 (List.mem_of_getElem? (i := 39) rfl)) rfl
set_option maxHeartbeats 4000000 in
set_option maxRecDepth 100000 in
theorem s_jInteger_compare (l : Launch) (γ : gE) (P : Heap → Prop) (x0 : Int32) (x1 : Int32)  : PU l yjInteger_compare bjInteger_compare 2 (some .int) 0 0 [.int x0, .int x1] γ P (vp_Si (fun v : Int32 => True)) := by
  refine pu_openFI (by decide +kernel) (Nat.le_of_ble_eq_true rfl) ?_
  intro p e s m args below meth c ls Q S hC hI hE hl
  obtain ⟨hx, hb, hml, hown, hW⟩ := id S
  have hl : lv_has ls 2 [(0, .int x0), (1, .int x1)] := hl
  refine lv_iload_n hx hb djInteger_compare_0 rfl (lv_at hl 0 rfl) ?_
  refine lv_iload_n hx hb djInteger_compare_1 rfl (lv_at hl 1 rfl) ?_
  refine lv_icmp_ge (tgt := 9) hx hb djInteger_compare_2 (by decide) (fun c3 => ?_) (fun c3 => ?_)
  · refine lv_iload_n hx hb djInteger_compare_9 rfl (lv_at hl 0 rfl) ?_
    refine lv_iload_n hx hb djInteger_compare_10 rfl (lv_at hl 1 rfl) ?_
    refine lv_icmp_ne (tgt := 18) hx hb djInteger_compare_11 (by decide) (fun c4 => ?_) (fun c4 => ?_)
    · refine lv_iconst (v := 1) hx hb djInteger_compare_18 (by decide) ?_
      exact hE _ _ _ trivial djInteger_compare_19
    · refine lv_iconst (v := 0) hx hb djInteger_compare_14 (by decide) ?_
      refine lv_goto (tgt := 19) hx hb djInteger_compare_15 (by decide) ?_
      exact hE _ _ _ trivial djInteger_compare_19
  · refine lv_iconst (v := (-1)) hx hb djInteger_compare_5 (by decide) ?_
    refine lv_goto (tgt := 19) hx hb djInteger_compare_6 (by decide) ?_
    exact hE _ _ _ trivial djInteger_compare_19

set_option maxHeartbeats 4000000 in
set_option maxRecDepth 100000 in
theorem s_jLong_compare (l : Launch) (γ : gE) (P : Heap → Prop) (x0 : Int64) (x2 : Int64)  : PU l yjLong_compare bjLong_compare 4 (some .int) 0 0 [.long x0, .long x2] γ P (vp_Si (fun v : Int32 => True)) := by
  refine pu_openFI (by decide +kernel) (Nat.le_of_ble_eq_true rfl) ?_
  intro p e s m args below meth c ls Q S hC hI hE hl
  obtain ⟨hx, hb, hml, hown, hW⟩ := id S
  have hl : lv_has ls 4 [(0, .long x0), (2, .long x2)] := hl
  refine lv_lload_n hx hb djLong_compare_0 rfl (lv_at hl 0 rfl) ?_
  refine lv_lload_n hx hb djLong_compare_1 rfl (lv_at hl 1 rfl) ?_
  refine W.lcmp hx hb djLong_compare_2 ?_
  refine lv_topi (fun v5 ev5 => ?_)
  refine lv_if_ge (tgt := 10) hx hb djLong_compare_3 (by decide) (fun c6 => ?_) (fun c6 => ?_)
  · refine lv_lload_n hx hb djLong_compare_10 rfl (lv_at hl 0 rfl) ?_
    refine lv_lload_n hx hb djLong_compare_11 rfl (lv_at hl 1 rfl) ?_
    refine W.lcmp hx hb djLong_compare_12 ?_
    refine lv_topi (fun v7 ev7 => ?_)
    refine lv_if_ne (tgt := 20) hx hb djLong_compare_13 (by decide) (fun c8 => ?_) (fun c8 => ?_)
    · refine lv_iconst (v := 1) hx hb djLong_compare_20 (by decide) ?_
      exact hE _ _ _ trivial djLong_compare_21
    · refine lv_iconst (v := 0) hx hb djLong_compare_16 (by decide) ?_
      refine lv_goto (tgt := 21) hx hb djLong_compare_17 (by decide) ?_
      exact hE _ _ _ trivial djLong_compare_21
  · refine lv_iconst (v := (-1)) hx hb djLong_compare_6 (by decide) ?_
    refine lv_goto (tgt := 21) hx hb djLong_compare_7 (by decide) ?_
    exact hE _ _ _ trivial djLong_compare_21

set_option maxHeartbeats 4000000 in
set_option maxRecDepth 100000 in
theorem s_jMath_floorMod (l : Launch) (γ : gE) (P : Heap → Prop) (x0 : Int64) (x2 : Int64) (h0 : ¬ x2 = 0) : PU l yjMath_floorMod bjMath_floorMod 6 (some .long) 0 0 [.long x0, .long x2] γ P (vp_Sl (fun v : Int64 => True)) := by
  refine pu_openFJ (by decide +kernel) (Nat.le_of_ble_eq_true rfl) ?_
  intro p e s m args below meth c ls Q S hC hI hE hl
  obtain ⟨hx, hb, hml, hown, hW⟩ := id S
  have hl : lv_has ls 6 [(0, .long x0), (2, .long x2)] := hl
  refine lv_lload_n hx hb djMath_floorMod_0 rfl (lv_at hl 0 rfl) ?_
  refine lv_lload_n hx hb djMath_floorMod_1 rfl (lv_at hl 1 rfl) ?_
  refine lv_lrem hx hb djMath_floorMod_2 h0 ?_
  refine lv_topl (fun v8 ev8 => ?_)
  refine lv_lstore (lv' := [(4, .long v8), (0, .long x0), (2, .long x2)]) hx hb djMath_floorMod_3 hl (by decide) rfl (fun ls hl => ?_)
  refine lv_lload_n hx hb djMath_floorMod_5 rfl (lv_at hl 1 rfl) ?_
  refine lv_lload_n hx hb djMath_floorMod_6 rfl (lv_at hl 2 rfl) ?_
  refine lv_lxor hx hb djMath_floorMod_7 ?_
  refine lv_topl (fun v9 ev9 => ?_)
  refine lv_lconst (v := 0) hx hb djMath_floorMod_8 (by decide) ?_
  refine W.lcmp hx hb djMath_floorMod_9 ?_
  refine lv_topi (fun v10 ev10 => ?_)
  refine lv_if_ge (tgt := 25) hx hb djMath_floorMod_10 (by decide) (fun c11 => ?_) (fun c11 => ?_)
  · refine lv_lload hx hb djMath_floorMod_25 (lv_at hl 0 rfl) ?_
    exact hE _ _ _ trivial djMath_floorMod_27
  · refine lv_lload hx hb djMath_floorMod_13 (lv_at hl 0 rfl) ?_
    refine lv_lconst (v := 0) hx hb djMath_floorMod_15 (by decide) ?_
    refine W.lcmp hx hb djMath_floorMod_16 ?_
    refine lv_topi (fun v12 ev12 => ?_)
    refine lv_if_eq (tgt := 25) hx hb djMath_floorMod_17 (by decide) (fun c13 => ?_) (fun c13 => ?_)
    · refine lv_lload hx hb djMath_floorMod_25 (lv_at hl 0 rfl) ?_
      exact hE _ _ _ trivial djMath_floorMod_27
    · refine lv_lload hx hb djMath_floorMod_20 (lv_at hl 0 rfl) ?_
      refine lv_lload_n hx hb djMath_floorMod_22 rfl (lv_at hl 2 rfl) ?_
      refine lv_ladd hx hb djMath_floorMod_23 ?_
      refine lv_topl (fun v14 ev14 => ?_)
      exact hE _ _ _ trivial djMath_floorMod_24

set_option maxHeartbeats 4000000 in
set_option maxRecDepth 100000 in
theorem s_Logic_isLow (l : Launch) (γ : gE) (P : Heap → Prop) (x0 : Int32)  : PU l yLogic_isLow bLogic_isLow 1 (some .boolean) 0 0 [.int x0] γ P (vp_Si (fun v : Int32 => True)) := by
  refine pu_openZ (by decide) (Nat.le_of_ble_eq_true rfl) ?_
  intro p e s m args below meth c ls Q S hC hI hE hl
  obtain ⟨hx, hb, hml, hown, hW⟩ := id S
  have hl : lv_has ls 1 [(0, .int x0)] := hl
  have J11 : ∀ (ls : Array Slot)  (i0 : Int32), lv_has ls 1 [(0, .int i0)] → W p l e (bs_rm 0 0 0 0) s m args below meth c s.heap [] 0 0 Q (F0 m 11 ls []) := by
    intro ls  i0  hl
    refine lv_iconst (v := 1) hx hb dLogic_isLow_11 (by decide) ?_
    refine lv_goto (tgt := 16) hx hb dLogic_isLow_12 (by decide) ?_
    exact hE _ _ _ rfl trivial dLogic_isLow_16
  refine lv_iload_n hx hb dLogic_isLow_0 rfl (lv_at hl 0 rfl) ?_
  refine lv_iconst (v := 2) hx hb dLogic_isLow_1 (by decide) ?_
  refine lv_icmp_eq (tgt := 11) hx hb dLogic_isLow_2 (by decide) (fun c3 => ?_) (fun c3 => ?_)
  · exact J11 ls x0 (lv_sub hl [0] rfl)
  · refine lv_iload_n hx hb dLogic_isLow_5 rfl (lv_at hl 0 rfl) ?_
    refine lv_bipush (v := 6) hx hb dLogic_isLow_6 (by decide) ?_
    refine lv_icmp_ne (tgt := 15) hx hb dLogic_isLow_8 (by decide) (fun c4 => ?_) (fun c4 => ?_)
    · refine lv_iconst (v := 0) hx hb dLogic_isLow_15 (by decide) ?_
      exact hE _ _ _ rfl trivial dLogic_isLow_16
    · exact J11 ls x0 (lv_sub hl [0] rfl)

set_option maxHeartbeats 4000000 in
set_option maxRecDepth 100000 in
theorem s_Logic_isHigh (l : Launch) (γ : gE) (P : Heap → Prop) (x0 : Int32)  : PU l yLogic_isHigh bLogic_isHigh 1 (some .boolean) 0 0 [.int x0] γ P (vp_Si (fun v : Int32 => True)) := by
  refine pu_openZ (by decide) (Nat.le_of_ble_eq_true rfl) ?_
  intro p e s m args below meth c ls Q S hC hI hE hl
  obtain ⟨hx, hb, hml, hown, hW⟩ := id S
  have hl : lv_has ls 1 [(0, .int x0)] := hl
  have J11 : ∀ (ls : Array Slot)  (i0 : Int32), lv_has ls 1 [(0, .int i0)] → W p l e (bs_rm 0 0 0 0) s m args below meth c s.heap [] 0 0 Q (F0 m 11 ls []) := by
    intro ls  i0  hl
    refine lv_iconst (v := 1) hx hb dLogic_isHigh_11 (by decide) ?_
    refine lv_goto (tgt := 16) hx hb dLogic_isHigh_12 (by decide) ?_
    exact hE _ _ _ rfl trivial dLogic_isHigh_16
  refine lv_iload_n hx hb dLogic_isHigh_0 rfl (lv_at hl 0 rfl) ?_
  refine lv_iconst (v := 3) hx hb dLogic_isHigh_1 (by decide) ?_
  refine lv_icmp_eq (tgt := 11) hx hb dLogic_isHigh_2 (by decide) (fun c3 => ?_) (fun c3 => ?_)
  · exact J11 ls x0 (lv_sub hl [0] rfl)
  · refine lv_iload_n hx hb dLogic_isHigh_5 rfl (lv_at hl 0 rfl) ?_
    refine lv_bipush (v := 7) hx hb dLogic_isHigh_6 (by decide) ?_
    refine lv_icmp_ne (tgt := 15) hx hb dLogic_isHigh_8 (by decide) (fun c4 => ?_) (fun c4 => ?_)
    · refine lv_iconst (v := 0) hx hb dLogic_isHigh_15 (by decide) ?_
      exact hE _ _ _ rfl trivial dLogic_isHigh_16
    · exact J11 ls x0 (lv_sub hl [0] rfl)

set_option maxHeartbeats 4000000 in
set_option maxRecDepth 100000 in
theorem s_Logic_isClear (l : Launch) (γ : gE) (P : Heap → Prop) (x0 : Int32)  : PU l yLogic_isClear bLogic_isClear 1 (some .boolean) 0 0 [.int x0] γ P (vp_Si (fun v : Int32 => True)) := by
  refine pu_openZ (by decide) (Nat.le_of_ble_eq_true rfl) ?_
  intro p e s m args below meth c ls Q S hC hI hE hl
  obtain ⟨hx, hb, hml, hown, hW⟩ := id S
  have hl : lv_has ls 1 [(0, .int x0)] := hl
  have J22 : ∀ (ls : Array Slot)  (i0 : Int32), lv_has ls 1 [(0, .int i0)] → W p l e (bs_rm 0 0 0 0) s m args below meth c s.heap [] 0 0 Q (F0 m 22 ls []) := by
    intro ls  i0  hl
    refine lv_iconst (v := 1) hx hb dLogic_isClear_22 (by decide) ?_
    refine lv_goto (tgt := 27) hx hb dLogic_isClear_23 (by decide) ?_
    exact hE _ _ _ rfl trivial dLogic_isClear_27
  refine lv_iload_n hx hb dLogic_isClear_0 rfl (lv_at hl 0 rfl) ?_
  refine lv_iconst (v := 2) hx hb dLogic_isClear_1 (by decide) ?_
  refine lv_icmp_eq (tgt := 22) hx hb dLogic_isClear_2 (by decide) (fun c5 => ?_) (fun c5 => ?_)
  · exact J22 ls x0 (lv_sub hl [0] rfl)
  · refine lv_iload_n hx hb dLogic_isClear_5 rfl (lv_at hl 0 rfl) ?_
    refine lv_iconst (v := 3) hx hb dLogic_isClear_6 (by decide) ?_
    refine lv_icmp_eq (tgt := 22) hx hb dLogic_isClear_7 (by decide) (fun c6 => ?_) (fun c6 => ?_)
    · exact J22 ls x0 (lv_sub hl [0] rfl)
    · refine lv_iload_n hx hb dLogic_isClear_10 rfl (lv_at hl 0 rfl) ?_
      refine lv_bipush (v := 6) hx hb dLogic_isClear_11 (by decide) ?_
      refine lv_icmp_eq (tgt := 22) hx hb dLogic_isClear_13 (by decide) (fun c7 => ?_) (fun c7 => ?_)
      · exact J22 ls x0 (lv_sub hl [0] rfl)
      · refine lv_iload_n hx hb dLogic_isClear_16 rfl (lv_at hl 0 rfl) ?_
        refine lv_bipush (v := 7) hx hb dLogic_isClear_17 (by decide) ?_
        refine lv_icmp_ne (tgt := 26) hx hb dLogic_isClear_19 (by decide) (fun c8 => ?_) (fun c8 => ?_)
        · refine lv_iconst (v := 0) hx hb dLogic_isClear_26 (by decide) ?_
          exact hE _ _ _ rfl trivial dLogic_isClear_27
        · exact J22 ls x0 (lv_sub hl [0] rfl)

set_option maxHeartbeats 4000000 in
set_option maxRecDepth 100000 in
theorem s_Logic_not (l : Launch) (γ : gE) (P : Heap → Prop) (x0 : Int32)  : PU l yLogic_not bLogic_not 1 (some .int) 1 20 [.int x0] γ P (vp_Si (fun v : Int32 => True)) := by
  refine pu_openI (by decide) (Nat.le_of_ble_eq_true rfl) ?_
  intro p e s m args below meth c ls Q S hC hI hE hl
  obtain ⟨hx, hb, hml, hown, hW⟩ := id S
  have hl : lv_has ls 1 [(0, .int x0)] := hl
  refine lv_iload_n hx hb dLogic_not_0 rfl (lv_at hl 0 rfl) ?_
  refine lv_if_ne (tgt := 8) hx hb dLogic_not_1 (by decide) (fun c6 => ?_) (fun c6 => ?_)
  · refine lv_iload_n hx hb dLogic_not_8 rfl (lv_at hl 0 rfl) ?_
    refine pu_Si (rest := []) S hC (s_Logic_isLow l γ P x0) meLogic_isLow qw_157c25bbff ⟨Nat.le_of_ble_eq_true rfl, Nat.le_of_ble_eq_true rfl⟩ hI rfl hl.1 rfl (Nat.le_of_ble_eq_true rfl) dLogic_not_9 ⟨Nat.zero_le _, Nat.zero_le _⟩ (fun r7 hr7 => ?_)
    refine lv_if_eq (tgt := 19) hx hb dLogic_not_12 (by decide) (fun c8 => ?_) (fun c8 => ?_)
    · refine lv_iload_n hx hb dLogic_not_19 rfl (lv_at hl 0 rfl) ?_
      refine pu_Si (rest := []) S hC (s_Logic_isHigh l γ P x0) meLogic_isHigh qw_b530a28374 ⟨Nat.le_of_ble_eq_true rfl, Nat.le_of_ble_eq_true rfl⟩ hI rfl hl.1 rfl (Nat.le_of_ble_eq_true rfl) dLogic_not_20 ⟨Nat.zero_le _, Nat.zero_le _⟩ (fun r9 hr9 => ?_)
      refine lv_if_eq (tgt := 30) hx hb dLogic_not_23 (by decide) (fun c10 => ?_) (fun c10 => ?_)
      · refine lv_iconst (v := 1) hx hb dLogic_not_30 (by decide) ?_
        exact hE _ _ _ trivial dLogic_not_31
      · refine lv_iconst (v := 2) hx hb dLogic_not_26 (by decide) ?_
        refine lv_goto (tgt := 31) hx hb dLogic_not_27 (by decide) ?_
        exact hE _ _ _ trivial dLogic_not_31
    · refine lv_iconst (v := 3) hx hb dLogic_not_15 (by decide) ?_
      refine lv_goto (tgt := 31) hx hb dLogic_not_16 (by decide) ?_
      exact hE _ _ _ trivial dLogic_not_31
  · refine lv_iconst (v := 0) hx hb dLogic_not_4 (by decide) ?_
    refine lv_goto (tgt := 31) hx hb dLogic_not_5 (by decide) ?_
    exact hE _ _ _ trivial dLogic_not_31

set_option maxHeartbeats 4000000 in
set_option maxRecDepth 100000 in
theorem s_Logic_and (l : Launch) (γ : gE) (P : Heap → Prop) (x0 : Int32) (x1 : Int32)  : PU l yLogic_and bLogic_and 2 (some .int) 1 20 [.int x0, .int x1] γ P (vp_Si (fun v : Int32 => True)) := by
  refine pu_openI (by decide) (Nat.le_of_ble_eq_true rfl) ?_
  intro p e s m args below meth c ls Q S hC hI hE hl
  obtain ⟨hx, hb, hml, hown, hW⟩ := id S
  have hl : lv_has ls 2 [(0, .int x0), (1, .int x1)] := hl
  have J24 : ∀ (ls : Array Slot)  (i0 : Int32) (i1 : Int32), lv_has ls 2 [(0, .int i0), (1, .int i1)] → W p l e (bs_rm 1 0 0 20) s m args below meth c s.heap [] 0 0 Q (F0 m 24 ls []) := by
    intro ls  i0 i1  hl
    refine lv_iconst (v := 0) hx hb dLogic_and_24 (by decide) ?_
    refine lv_goto (tgt := 47) hx hb dLogic_and_25 (by decide) ?_
    exact hE _ _ _ trivial dLogic_and_47
  refine lv_iload_n hx hb dLogic_and_0 rfl (lv_at hl 0 rfl) ?_
  refine pu_Si (rest := []) S hC (s_Logic_isLow l γ P x0) meLogic_isLow qw_157c25bbff ⟨Nat.le_of_ble_eq_true rfl, Nat.le_of_ble_eq_true rfl⟩ hI rfl hl.1 rfl (Nat.le_of_ble_eq_true rfl) dLogic_and_1 ⟨Nat.zero_le _, Nat.zero_le _⟩ (fun r11 hr11 => ?_)
  refine lv_if_ne (tgt := 14) hx hb dLogic_and_4 (by decide) (fun c12 => ?_) (fun c12 => ?_)
  · refine lv_iconst (v := 2) hx hb dLogic_and_14 (by decide) ?_
    exact hE _ _ _ trivial dLogic_and_15
  · refine lv_iload_n hx hb dLogic_and_7 rfl (lv_at hl 1 rfl) ?_
    refine pu_Si (rest := []) S hC (s_Logic_isLow l γ P x1) meLogic_isLow qw_157c25bbff ⟨Nat.le_of_ble_eq_true rfl, Nat.le_of_ble_eq_true rfl⟩ hI rfl hl.1 rfl (Nat.le_of_ble_eq_true rfl) dLogic_and_8 ⟨Nat.zero_le _, Nat.zero_le _⟩ (fun r13 hr13 => ?_)
    refine lv_if_eq (tgt := 16) hx hb dLogic_and_11 (by decide) (fun c14 => ?_) (fun c14 => ?_)
    · refine lv_iload_n hx hb dLogic_and_16 rfl (lv_at hl 0 rfl) ?_
      refine lv_if_eq (tgt := 24) hx hb dLogic_and_17 (by decide) (fun c15 => ?_) (fun c15 => ?_)
      · exact J24 ls x0 x1 (lv_sub hl [0, 1] rfl)
      · refine lv_iload_n hx hb dLogic_and_20 rfl (lv_at hl 1 rfl) ?_
        refine lv_if_ne (tgt := 28) hx hb dLogic_and_21 (by decide) (fun c16 => ?_) (fun c16 => ?_)
        · refine lv_iload_n hx hb dLogic_and_28 rfl (lv_at hl 0 rfl) ?_
          refine pu_Si (rest := []) S hC (s_Logic_isHigh l γ P x0) meLogic_isHigh qw_b530a28374 ⟨Nat.le_of_ble_eq_true rfl, Nat.le_of_ble_eq_true rfl⟩ hI rfl hl.1 rfl (Nat.le_of_ble_eq_true rfl) dLogic_and_29 ⟨Nat.zero_le _, Nat.zero_le _⟩ (fun r17 hr17 => ?_)
          refine lv_if_eq (tgt := 46) hx hb dLogic_and_32 (by decide) (fun c18 => ?_) (fun c18 => ?_)
          · refine lv_iconst (v := 1) hx hb dLogic_and_46 (by decide) ?_
            exact hE _ _ _ trivial dLogic_and_47
          · refine lv_iload_n hx hb dLogic_and_35 rfl (lv_at hl 1 rfl) ?_
            refine pu_Si (rest := []) S hC (s_Logic_isHigh l γ P x1) meLogic_isHigh qw_b530a28374 ⟨Nat.le_of_ble_eq_true rfl, Nat.le_of_ble_eq_true rfl⟩ hI rfl hl.1 rfl (Nat.le_of_ble_eq_true rfl) dLogic_and_36 ⟨Nat.zero_le _, Nat.zero_le _⟩ (fun r19 hr19 => ?_)
            refine lv_if_eq (tgt := 46) hx hb dLogic_and_39 (by decide) (fun c20 => ?_) (fun c20 => ?_)
            · refine lv_iconst (v := 1) hx hb dLogic_and_46 (by decide) ?_
              exact hE _ _ _ trivial dLogic_and_47
            · refine lv_iconst (v := 3) hx hb dLogic_and_42 (by decide) ?_
              refine lv_goto (tgt := 47) hx hb dLogic_and_43 (by decide) ?_
              exact hE _ _ _ trivial dLogic_and_47
        · exact J24 ls x0 x1 (lv_sub hl [0, 1] rfl)
    · refine lv_iconst (v := 2) hx hb dLogic_and_14 (by decide) ?_
      exact hE _ _ _ trivial dLogic_and_15

set_option maxHeartbeats 4000000 in
set_option maxRecDepth 100000 in
theorem s_Logic_or (l : Launch) (γ : gE) (P : Heap → Prop) (x0 : Int32) (x1 : Int32)  : PU l yLogic_or bLogic_or 2 (some .int) 1 20 [.int x0, .int x1] γ P (vp_Si (fun v : Int32 => True)) := by
  refine pu_openI (by decide) (Nat.le_of_ble_eq_true rfl) ?_
  intro p e s m args below meth c ls Q S hC hI hE hl
  obtain ⟨hx, hb, hml, hown, hW⟩ := id S
  have hl : lv_has ls 2 [(0, .int x0), (1, .int x1)] := hl
  have J24 : ∀ (ls : Array Slot)  (i0 : Int32) (i1 : Int32), lv_has ls 2 [(0, .int i0), (1, .int i1)] → W p l e (bs_rm 1 0 0 20) s m args below meth c s.heap [] 0 0 Q (F0 m 24 ls []) := by
    intro ls  i0 i1  hl
    refine lv_iconst (v := 0) hx hb dLogic_or_24 (by decide) ?_
    refine lv_goto (tgt := 47) hx hb dLogic_or_25 (by decide) ?_
    exact hE _ _ _ trivial dLogic_or_47
  refine lv_iload_n hx hb dLogic_or_0 rfl (lv_at hl 0 rfl) ?_
  refine pu_Si (rest := []) S hC (s_Logic_isHigh l γ P x0) meLogic_isHigh qw_b530a28374 ⟨Nat.le_of_ble_eq_true rfl, Nat.le_of_ble_eq_true rfl⟩ hI rfl hl.1 rfl (Nat.le_of_ble_eq_true rfl) dLogic_or_1 ⟨Nat.zero_le _, Nat.zero_le _⟩ (fun r11 hr11 => ?_)
  refine lv_if_ne (tgt := 14) hx hb dLogic_or_4 (by decide) (fun c12 => ?_) (fun c12 => ?_)
  · refine lv_iconst (v := 3) hx hb dLogic_or_14 (by decide) ?_
    exact hE _ _ _ trivial dLogic_or_15
  · refine lv_iload_n hx hb dLogic_or_7 rfl (lv_at hl 1 rfl) ?_
    refine pu_Si (rest := []) S hC (s_Logic_isHigh l γ P x1) meLogic_isHigh qw_b530a28374 ⟨Nat.le_of_ble_eq_true rfl, Nat.le_of_ble_eq_true rfl⟩ hI rfl hl.1 rfl (Nat.le_of_ble_eq_true rfl) dLogic_or_8 ⟨Nat.zero_le _, Nat.zero_le _⟩ (fun r13 hr13 => ?_)
    refine lv_if_eq (tgt := 16) hx hb dLogic_or_11 (by decide) (fun c14 => ?_) (fun c14 => ?_)
    · refine lv_iload_n hx hb dLogic_or_16 rfl (lv_at hl 0 rfl) ?_
      refine lv_if_eq (tgt := 24) hx hb dLogic_or_17 (by decide) (fun c15 => ?_) (fun c15 => ?_)
      · exact J24 ls x0 x1 (lv_sub hl [0, 1] rfl)
      · refine lv_iload_n hx hb dLogic_or_20 rfl (lv_at hl 1 rfl) ?_
        refine lv_if_ne (tgt := 28) hx hb dLogic_or_21 (by decide) (fun c16 => ?_) (fun c16 => ?_)
        · refine lv_iload_n hx hb dLogic_or_28 rfl (lv_at hl 0 rfl) ?_
          refine pu_Si (rest := []) S hC (s_Logic_isLow l γ P x0) meLogic_isLow qw_157c25bbff ⟨Nat.le_of_ble_eq_true rfl, Nat.le_of_ble_eq_true rfl⟩ hI rfl hl.1 rfl (Nat.le_of_ble_eq_true rfl) dLogic_or_29 ⟨Nat.zero_le _, Nat.zero_le _⟩ (fun r17 hr17 => ?_)
          refine lv_if_eq (tgt := 46) hx hb dLogic_or_32 (by decide) (fun c18 => ?_) (fun c18 => ?_)
          · refine lv_iconst (v := 1) hx hb dLogic_or_46 (by decide) ?_
            exact hE _ _ _ trivial dLogic_or_47
          · refine lv_iload_n hx hb dLogic_or_35 rfl (lv_at hl 1 rfl) ?_
            refine pu_Si (rest := []) S hC (s_Logic_isLow l γ P x1) meLogic_isLow qw_157c25bbff ⟨Nat.le_of_ble_eq_true rfl, Nat.le_of_ble_eq_true rfl⟩ hI rfl hl.1 rfl (Nat.le_of_ble_eq_true rfl) dLogic_or_36 ⟨Nat.zero_le _, Nat.zero_le _⟩ (fun r19 hr19 => ?_)
            refine lv_if_eq (tgt := 46) hx hb dLogic_or_39 (by decide) (fun c20 => ?_) (fun c20 => ?_)
            · refine lv_iconst (v := 1) hx hb dLogic_or_46 (by decide) ?_
              exact hE _ _ _ trivial dLogic_or_47
            · refine lv_iconst (v := 2) hx hb dLogic_or_42 (by decide) ?_
              refine lv_goto (tgt := 47) hx hb dLogic_or_43 (by decide) ?_
              exact hE _ _ _ trivial dLogic_or_47
        · exact J24 ls x0 x1 (lv_sub hl [0, 1] rfl)
    · refine lv_iconst (v := 3) hx hb dLogic_or_14 (by decide) ?_
      exact hE _ _ _ trivial dLogic_or_15

set_option maxHeartbeats 4000000 in
set_option maxRecDepth 100000 in
theorem s_Logic_other (l : Launch) (γ : gE) (P : Heap → Prop) (x0 : Int32) (x1 : Int32)  : PU l yLogic_other bLogic_other 2 (some .int) 1 20 [.int x0, .int x1] γ P (vp_Si (fun v : Int32 => True)) := by
  refine pu_openI (by decide) (Nat.le_of_ble_eq_true rfl) ?_
  intro p e s m args below meth c ls Q S hC hI hE hl
  obtain ⟨hx, hb, hml, hown, hW⟩ := id S
  have hl : lv_has ls 2 [(0, .int x0), (1, .int x1)] := hl
  have J24 : ∀ (ls : Array Slot)  (i0 : Int32) (i1 : Int32), lv_has ls 2 [(0, .int i0), (1, .int i1)] → W p l e (bs_rm 1 0 0 20) s m args below meth c s.heap [] 0 0 Q (F0 m 24 ls []) := by
    intro ls  i0 i1  hl
    refine lv_iconst (v := 1) hx hb dLogic_other_24 (by decide) ?_
    refine lv_goto (tgt := 44) hx hb dLogic_other_25 (by decide) ?_
    exact hE _ _ _ trivial dLogic_other_44
  refine lv_iload_n hx hb dLogic_other_0 rfl (lv_at hl 0 rfl) ?_
  refine lv_if_eq (tgt := 8) hx hb dLogic_other_1 (by decide) (fun c10 => ?_) (fun c10 => ?_)
  · refine lv_iconst (v := 0) hx hb dLogic_other_8 (by decide) ?_
    exact hE _ _ _ trivial dLogic_other_9
  · refine lv_iload_n hx hb dLogic_other_4 rfl (lv_at hl 1 rfl) ?_
    refine lv_if_ne (tgt := 10) hx hb dLogic_other_5 (by decide) (fun c11 => ?_) (fun c11 => ?_)
    · refine lv_iload_n hx hb dLogic_other_10 rfl (lv_at hl 0 rfl) ?_
      refine pu_Si (rest := []) S hC (s_Logic_isClear l γ P x0) meLogic_isClear qw_dd402237cf ⟨Nat.le_of_ble_eq_true rfl, Nat.le_of_ble_eq_true rfl⟩ hI rfl hl.1 rfl (Nat.le_of_ble_eq_true rfl) dLogic_other_11 ⟨Nat.zero_le _, Nat.zero_le _⟩ (fun r12 hr12 => ?_)
      refine lv_if_eq (tgt := 24) hx hb dLogic_other_14 (by decide) (fun c13 => ?_) (fun c13 => ?_)
      · exact J24 ls x0 x1 (lv_sub hl [0, 1] rfl)
      · refine lv_iload_n hx hb dLogic_other_17 rfl (lv_at hl 1 rfl) ?_
        refine pu_Si (rest := []) S hC (s_Logic_isClear l γ P x1) meLogic_isClear qw_dd402237cf ⟨Nat.le_of_ble_eq_true rfl, Nat.le_of_ble_eq_true rfl⟩ hI rfl hl.1 rfl (Nat.le_of_ble_eq_true rfl) dLogic_other_18 ⟨Nat.zero_le _, Nat.zero_le _⟩ (fun r14 hr14 => ?_)
        refine lv_if_ne (tgt := 28) hx hb dLogic_other_21 (by decide) (fun c15 => ?_) (fun c15 => ?_)
        · refine lv_iload_n hx hb dLogic_other_28 rfl (lv_at hl 0 rfl) ?_
          refine pu_Si (rest := []) S hC (s_Logic_isHigh l γ P x0) meLogic_isHigh qw_b530a28374 ⟨Nat.le_of_ble_eq_true rfl, Nat.le_of_ble_eq_true rfl⟩ hI rfl hl.1 rfl (Nat.le_of_ble_eq_true rfl) dLogic_other_29 ⟨Nat.zero_le _, Nat.zero_le _⟩ (fun r16 hr16 => ?_)
          refine lv_iload_n hx hb dLogic_other_32 rfl (lv_at hl 1 rfl) ?_
          refine pu_Si (rest := [.int r16]) S hC (s_Logic_isHigh l γ P x1) meLogic_isHigh qw_b530a28374 ⟨Nat.le_of_ble_eq_true rfl, Nat.le_of_ble_eq_true rfl⟩ hI rfl hl.1 rfl (Nat.le_of_ble_eq_true rfl) dLogic_other_33 ⟨Nat.zero_le _, Nat.zero_le _⟩ (fun r17 hr17 => ?_)
          refine lv_icmp_eq (tgt := 43) hx hb dLogic_other_36 (by decide) (fun c18 => ?_) (fun c18 => ?_)
          · refine lv_iconst (v := 2) hx hb dLogic_other_43 (by decide) ?_
            exact hE _ _ _ trivial dLogic_other_44
          · refine lv_iconst (v := 3) hx hb dLogic_other_39 (by decide) ?_
            refine lv_goto (tgt := 44) hx hb dLogic_other_40 (by decide) ?_
            exact hE _ _ _ trivial dLogic_other_44
        · exact J24 ls x0 x1 (lv_sub hl [0, 1] rfl)
    · refine lv_iconst (v := 0) hx hb dLogic_other_8 (by decide) ?_
      exact hE _ _ _ trivial dLogic_other_9

set_option maxHeartbeats 4000000 in
set_option maxRecDepth 100000 in
theorem s_Logic_ofSigns (l : Launch) (γ : gE) (P : Heap → Prop) (x0 : Int32) (x1 : Int32) (x2 : Int32)  : PU l yLogic_ofSigns bLogic_ofSigns 3 (some .int) 2 41 [.int x0, .int x1, .int x2] γ P (vp_Si (fun v : Int32 => True)) := by
  refine pu_openI (by decide) (Nat.le_of_ble_eq_true rfl) ?_
  intro p e s m args below meth c ls Q S hC hI hE hl
  obtain ⟨hx, hb, hml, hown, hW⟩ := id S
  have hl : lv_has ls 3 [(0, .int x0), (1, .int x1), (2, .int x2)] := hl
  refine lv_iload_n hx hb dLogic_ofSigns_0 rfl (lv_at hl 0 rfl) ?_
  by_cases k15 : x0 = 0
  · subst k15
    refine lv_tableIn (tgt := 36) hx hb dLogic_ofSigns_1 (by decide) (by decide) rfl (by decide) ?_
    refine lv_iload_n hx hb dLogic_ofSigns_36 rfl (lv_at hl 1 rfl) ?_
    refine lv_iload_n hx hb dLogic_ofSigns_37 rfl (lv_at hl 2 rfl) ?_
    refine pu_Si (rest := []) S hC (s_Logic_and l γ P x1 x2) meLogic_and qw_216c0f4a68 ⟨Nat.le_of_ble_eq_true rfl, Nat.le_of_ble_eq_true rfl⟩ hI rfl hl.1 rfl (Nat.le_of_ble_eq_true rfl) dLogic_ofSigns_38 ⟨Nat.zero_le _, Nat.zero_le _⟩ (fun r16 hr16 => ?_)
    exact hE _ _ _ trivial dLogic_ofSigns_41
  by_cases k17 : x0 = 1
  · subst k17
    refine lv_tableIn (tgt := 42) hx hb dLogic_ofSigns_1 (by decide) (by decide) rfl (by decide) ?_
    refine lv_iload_n hx hb dLogic_ofSigns_42 rfl (lv_at hl 1 rfl) ?_
    refine lv_iload_n hx hb dLogic_ofSigns_43 rfl (lv_at hl 2 rfl) ?_
    refine pu_Si (rest := []) S hC (s_Logic_or l γ P x1 x2) meLogic_or qw_675e585d2e ⟨Nat.le_of_ble_eq_true rfl, Nat.le_of_ble_eq_true rfl⟩ hI rfl hl.1 rfl (Nat.le_of_ble_eq_true rfl) dLogic_ofSigns_44 ⟨Nat.zero_le _, Nat.zero_le _⟩ (fun r18 hr18 => ?_)
    exact hE _ _ _ trivial dLogic_ofSigns_47
  by_cases k19 : x0 = 2
  · subst k19
    refine lv_tableIn (tgt := 48) hx hb dLogic_ofSigns_1 (by decide) (by decide) rfl (by decide) ?_
    refine lv_iload_n hx hb dLogic_ofSigns_48 rfl (lv_at hl 1 rfl) ?_
    refine lv_iload_n hx hb dLogic_ofSigns_49 rfl (lv_at hl 2 rfl) ?_
    refine pu_Si (rest := []) S hC (s_Logic_and l γ P x1 x2) meLogic_and qw_216c0f4a68 ⟨Nat.le_of_ble_eq_true rfl, Nat.le_of_ble_eq_true rfl⟩ hI rfl hl.1 rfl (Nat.le_of_ble_eq_true rfl) dLogic_ofSigns_50 ⟨Nat.zero_le _, Nat.zero_le _⟩ (fun r20 hr20 => ?_)
    refine pu_Si (rest := []) S hC (s_Logic_not l γ P r20) meLogic_not qw_d35acbc9a6 ⟨Nat.le_of_ble_eq_true rfl, Nat.le_of_ble_eq_true rfl⟩ hI rfl hl.1 rfl (Nat.le_of_ble_eq_true rfl) dLogic_ofSigns_53 ⟨Nat.zero_le _, Nat.zero_le _⟩ (fun r21 hr21 => ?_)
    exact hE _ _ _ trivial dLogic_ofSigns_56
  by_cases k22 : x0 = 3
  · subst k22
    refine lv_tableIn (tgt := 57) hx hb dLogic_ofSigns_1 (by decide) (by decide) rfl (by decide) ?_
    refine lv_iload_n hx hb dLogic_ofSigns_57 rfl (lv_at hl 1 rfl) ?_
    refine lv_iload_n hx hb dLogic_ofSigns_58 rfl (lv_at hl 2 rfl) ?_
    refine pu_Si (rest := []) S hC (s_Logic_or l γ P x1 x2) meLogic_or qw_675e585d2e ⟨Nat.le_of_ble_eq_true rfl, Nat.le_of_ble_eq_true rfl⟩ hI rfl hl.1 rfl (Nat.le_of_ble_eq_true rfl) dLogic_ofSigns_59 ⟨Nat.zero_le _, Nat.zero_le _⟩ (fun r23 hr23 => ?_)
    refine pu_Si (rest := []) S hC (s_Logic_not l γ P r23) meLogic_not qw_d35acbc9a6 ⟨Nat.le_of_ble_eq_true rfl, Nat.le_of_ble_eq_true rfl⟩ hI rfl hl.1 rfl (Nat.le_of_ble_eq_true rfl) dLogic_ofSigns_62 ⟨Nat.zero_le _, Nat.zero_le _⟩ (fun r24 hr24 => ?_)
    exact hE _ _ _ trivial dLogic_ofSigns_65
  by_cases k25 : x0 = 4
  · subst k25
    refine lv_tableIn (tgt := 66) hx hb dLogic_ofSigns_1 (by decide) (by decide) rfl (by decide) ?_
    refine lv_iload_n hx hb dLogic_ofSigns_66 rfl (lv_at hl 1 rfl) ?_
    refine lv_iload_n hx hb dLogic_ofSigns_67 rfl (lv_at hl 2 rfl) ?_
    refine pu_Si (rest := []) S hC (s_Logic_other l γ P x1 x2) meLogic_other qw_caa7fb3dc0 ⟨Nat.le_of_ble_eq_true rfl, Nat.le_of_ble_eq_true rfl⟩ hI rfl hl.1 rfl (Nat.le_of_ble_eq_true rfl) dLogic_ofSigns_68 ⟨Nat.zero_le _, Nat.zero_le _⟩ (fun r26 hr26 => ?_)
    exact hE _ _ _ trivial dLogic_ofSigns_71
  refine lv_tableOut (tgt := 72) hx hb dLogic_ofSigns_1 (by have qk15 := lv_neT (a := 0) k15 (by decide); have qk17 := lv_neT (a := 1) k17 (by decide); have qk19 := lv_neT (a := 2) k19 (by decide); have qk22 := lv_neT (a := 3) k22 (by decide); have qk25 := lv_neT (a := 4) k25 (by decide); omega) (by decide) ?_
  refine lv_iload_n hx hb dLogic_ofSigns_72 rfl (lv_at hl 1 rfl) ?_
  refine lv_iload_n hx hb dLogic_ofSigns_73 rfl (lv_at hl 2 rfl) ?_
  refine pu_Si (rest := []) S hC (s_Logic_other l γ P x1 x2) meLogic_other qw_caa7fb3dc0 ⟨Nat.le_of_ble_eq_true rfl, Nat.le_of_ble_eq_true rfl⟩ hI rfl hl.1 rfl (Nat.le_of_ble_eq_true rfl) dLogic_ofSigns_74 ⟨Nat.zero_le _, Nat.zero_le _⟩ (fun r27 hr27 => ?_)
  refine pu_Si (rest := []) S hC (s_Logic_not l γ P r27) meLogic_not qw_d35acbc9a6 ⟨Nat.le_of_ble_eq_true rfl, Nat.le_of_ble_eq_true rfl⟩ hI rfl hl.1 rfl (Nat.le_of_ble_eq_true rfl) dLogic_ofSigns_77 ⟨Nat.zero_le _, Nat.zero_le _⟩ (fun r28 hr28 => ?_)
  exact hE _ _ _ trivial dLogic_ofSigns_80

set_option maxHeartbeats 4000000 in
set_option maxRecDepth 100000 in
theorem s_Logic_ofTruths (l : Launch) (γ : gE) (P : Heap → Prop) (x0 : Int32) (x1 : Int32) (x2 : Int32)  : PU l yLogic_ofTruths bLogic_ofTruths 3 (some .boolean) 0 0 [.int x0, .int x1, .int x2] γ P (vp_Si (fun v : Int32 => True)) := by
  refine pu_openZ (by decide) (Nat.le_of_ble_eq_true rfl) ?_
  intro p e s m args below meth c ls Q S hC hI hE hl
  obtain ⟨hx, hb, hml, hown, hW⟩ := id S
  have hl : lv_has ls 3 [(0, .int x0), (1, .int x1), (2, .int x2)] := hl
  have J72 : ∀ (ls : Array Slot)  (i0 : Int32) (i1 : Int32) (i2 : Int32), lv_has ls 3 [(0, .int i0), (1, .int i1), (2, .int i2)] → W p l e (bs_rm 0 0 0 0) s m args below meth c s.heap [] 0 0 Q (F0 m 72 ls []) := by
    intro ls  i0 i1 i2  hl
    refine lv_iconst (v := 1) hx hb dLogic_ofTruths_72 (by decide) ?_
    refine lv_goto (tgt := 77) hx hb dLogic_ofTruths_73 (by decide) ?_
    exact hE _ _ _ rfl trivial dLogic_ofTruths_77
  have J58 : ∀ (ls : Array Slot)  (i0 : Int32) (i1 : Int32) (i2 : Int32), lv_has ls 3 [(0, .int i0), (1, .int i1), (2, .int i2)] → W p l e (bs_rm 0 0 0 0) s m args below meth c s.heap [] 0 0 Q (F0 m 58 ls []) := by
    intro ls  i0 i1 i2  hl
    refine lv_iconst (v := 1) hx hb dLogic_ofTruths_58 (by decide) ?_
    refine lv_goto (tgt := 63) hx hb dLogic_ofTruths_59 (by decide) ?_
    exact hE _ _ _ rfl trivial dLogic_ofTruths_63
  refine lv_iload_n hx hb dLogic_ofTruths_0 rfl (lv_at hl 0 rfl) ?_
  by_cases k16 : x0 = 0
  · subst k16
    refine lv_tableIn (tgt := 36) hx hb dLogic_ofTruths_1 (by decide) (by decide) rfl (by decide) ?_
    refine lv_iload_n hx hb dLogic_ofTruths_36 rfl (lv_at hl 1 rfl) ?_
    refine lv_if_eq (tgt := 48) hx hb dLogic_ofTruths_37 (by decide) (fun c17 => ?_) (fun c17 => ?_)
    · refine lv_iconst (v := 0) hx hb dLogic_ofTruths_48 (by decide) ?_
      exact hE _ _ _ rfl trivial dLogic_ofTruths_49
    · refine lv_iload_n hx hb dLogic_ofTruths_40 rfl (lv_at hl 2 rfl) ?_
      refine lv_if_eq (tgt := 48) hx hb dLogic_ofTruths_41 (by decide) (fun c18 => ?_) (fun c18 => ?_)
      · refine lv_iconst (v := 0) hx hb dLogic_ofTruths_48 (by decide) ?_
        exact hE _ _ _ rfl trivial dLogic_ofTruths_49
      · refine lv_iconst (v := 1) hx hb dLogic_ofTruths_44 (by decide) ?_
        refine lv_goto (tgt := 49) hx hb dLogic_ofTruths_45 (by decide) ?_
        exact hE _ _ _ rfl trivial dLogic_ofTruths_49
  by_cases k19 : x0 = 1
  · subst k19
    refine lv_tableIn (tgt := 50) hx hb dLogic_ofTruths_1 (by decide) (by decide) rfl (by decide) ?_
    refine lv_iload_n hx hb dLogic_ofTruths_50 rfl (lv_at hl 1 rfl) ?_
    refine lv_if_ne (tgt := 58) hx hb dLogic_ofTruths_51 (by decide) (fun c20 => ?_) (fun c20 => ?_)
    · exact J58 ls 1 x1 x2 (lv_sub hl [0, 1, 2] rfl)
    · refine lv_iload_n hx hb dLogic_ofTruths_54 rfl (lv_at hl 2 rfl) ?_
      refine lv_if_eq (tgt := 62) hx hb dLogic_ofTruths_55 (by decide) (fun c21 => ?_) (fun c21 => ?_)
      · refine lv_iconst (v := 0) hx hb dLogic_ofTruths_62 (by decide) ?_
        exact hE _ _ _ rfl trivial dLogic_ofTruths_63
      · exact J58 ls 1 x1 x2 (lv_sub hl [0, 1, 2] rfl)
  by_cases k22 : x0 = 2
  · subst k22
    refine lv_tableIn (tgt := 64) hx hb dLogic_ofTruths_1 (by decide) (by decide) rfl (by decide) ?_
    refine lv_iload_n hx hb dLogic_ofTruths_64 rfl (lv_at hl 1 rfl) ?_
    refine lv_if_eq (tgt := 72) hx hb dLogic_ofTruths_65 (by decide) (fun c23 => ?_) (fun c23 => ?_)
    · exact J72 ls 2 x1 x2 (lv_sub hl [0, 1, 2] rfl)
    · refine lv_iload_n hx hb dLogic_ofTruths_68 rfl (lv_at hl 2 rfl) ?_
      refine lv_if_ne (tgt := 76) hx hb dLogic_ofTruths_69 (by decide) (fun c24 => ?_) (fun c24 => ?_)
      · refine lv_iconst (v := 0) hx hb dLogic_ofTruths_76 (by decide) ?_
        exact hE _ _ _ rfl trivial dLogic_ofTruths_77
      · exact J72 ls 2 x1 x2 (lv_sub hl [0, 1, 2] rfl)
  by_cases k25 : x0 = 3
  · subst k25
    refine lv_tableIn (tgt := 78) hx hb dLogic_ofTruths_1 (by decide) (by decide) rfl (by decide) ?_
    refine lv_iload_n hx hb dLogic_ofTruths_78 rfl (lv_at hl 1 rfl) ?_
    refine lv_if_ne (tgt := 90) hx hb dLogic_ofTruths_79 (by decide) (fun c26 => ?_) (fun c26 => ?_)
    · refine lv_iconst (v := 0) hx hb dLogic_ofTruths_90 (by decide) ?_
      exact hE _ _ _ rfl trivial dLogic_ofTruths_91
    · refine lv_iload_n hx hb dLogic_ofTruths_82 rfl (lv_at hl 2 rfl) ?_
      refine lv_if_ne (tgt := 90) hx hb dLogic_ofTruths_83 (by decide) (fun c27 => ?_) (fun c27 => ?_)
      · refine lv_iconst (v := 0) hx hb dLogic_ofTruths_90 (by decide) ?_
        exact hE _ _ _ rfl trivial dLogic_ofTruths_91
      · refine lv_iconst (v := 1) hx hb dLogic_ofTruths_86 (by decide) ?_
        refine lv_goto (tgt := 91) hx hb dLogic_ofTruths_87 (by decide) ?_
        exact hE _ _ _ rfl trivial dLogic_ofTruths_91
  by_cases k28 : x0 = 4
  · subst k28
    refine lv_tableIn (tgt := 92) hx hb dLogic_ofTruths_1 (by decide) (by decide) rfl (by decide) ?_
    refine lv_iload_n hx hb dLogic_ofTruths_92 rfl (lv_at hl 1 rfl) ?_
    refine lv_iload_n hx hb dLogic_ofTruths_93 rfl (lv_at hl 2 rfl) ?_
    refine lv_icmp_eq (tgt := 101) hx hb dLogic_ofTruths_94 (by decide) (fun c29 => ?_) (fun c29 => ?_)
    · refine lv_iconst (v := 0) hx hb dLogic_ofTruths_101 (by decide) ?_
      exact hE _ _ _ rfl trivial dLogic_ofTruths_102
    · refine lv_iconst (v := 1) hx hb dLogic_ofTruths_97 (by decide) ?_
      refine lv_goto (tgt := 102) hx hb dLogic_ofTruths_98 (by decide) ?_
      exact hE _ _ _ rfl trivial dLogic_ofTruths_102
  refine lv_tableOut (tgt := 103) hx hb dLogic_ofTruths_1 (by have qk16 := lv_neT (a := 0) k16 (by decide); have qk19 := lv_neT (a := 1) k19 (by decide); have qk22 := lv_neT (a := 2) k22 (by decide); have qk25 := lv_neT (a := 3) k25 (by decide); have qk28 := lv_neT (a := 4) k28 (by decide); omega) (by decide) ?_
  refine lv_iload_n hx hb dLogic_ofTruths_103 rfl (lv_at hl 1 rfl) ?_
  refine lv_iload_n hx hb dLogic_ofTruths_104 rfl (lv_at hl 2 rfl) ?_
  refine lv_icmp_ne (tgt := 112) hx hb dLogic_ofTruths_105 (by decide) (fun c30 => ?_) (fun c30 => ?_)
  · refine lv_iconst (v := 0) hx hb dLogic_ofTruths_112 (by decide) ?_
    exact hE _ _ _ rfl trivial dLogic_ofTruths_113
  · refine lv_iconst (v := 1) hx hb dLogic_ofTruths_108 (by decide) ?_
    refine lv_goto (tgt := 113) hx hb dLogic_ofTruths_109 (by decide) ?_
    exact hE _ _ _ rfl trivial dLogic_ofTruths_113

set_option maxHeartbeats 4000000 in
set_option maxRecDepth 100000 in
theorem s_Trees_bearsName (l : Launch) (γ : gE) (P : Heap → Prop) (x0 : Int32)  : PU l yTrees_bearsName bTrees_bearsName 1 (some .boolean) 0 0 [.int x0] γ P (vp_Si (fun v : Int32 => (v = 1 ∧ BN x0) ∨ (v = 0 ∧ ¬ BN x0))) := by
  refine pu_openZ (by decide) (Nat.le_of_ble_eq_true rfl) ?_
  intro p e s m args below meth c ls Q S hC hI hE hl
  obtain ⟨hx, hb, hml, hown, hW⟩ := id S
  have hl : lv_has ls 1 [(0, .int x0)] := hl
  have J29 : ∀ (ls : Array Slot)  (i0 : Int32), (BN x0) → lv_has ls 1 [(0, .int i0)] → W p l e (bs_rm 0 0 0 0) s m args below meth c s.heap [] 0 0 Q (F0 m 29 ls []) := by
    intro ls  i0 h29 hl
    refine lv_iconst (v := 1) hx hb dTrees_bearsName_29 (by decide) ?_
    refine lv_goto (tgt := 34) hx hb dTrees_bearsName_30 (by decide) ?_
    exact hE _ _ _ rfl (by first | exact Or.inl ⟨rfl, h29⟩ | exact Or.inr ⟨rfl, fun h9 => by rcases h9 with h9 | h9 | h9 | h9; exact n1 h9; exact n2 h9; exact n3 h9; exact absurd (e0.trans h9) (by assumption)⟩) dTrees_bearsName_34
  have J23 : ∀ (ls : Array Slot)  (i0 : Int32), (i0 = x0) → (¬ x0 = 1) → (¬ x0 = 10) → (¬ (¬ x0 < 22 ∧ x0 ≤ 25)) → lv_has ls 1 [(0, .int i0)] → W p l e (bs_rm 0 0 0 0) s m args below meth c s.heap [] 0 0 Q (F0 m 23 ls []) := by
    intro ls  i0 e0 n1 n2 n3 hl
    refine lv_iload_n hx hb dTrees_bearsName_23 rfl (lv_at hl 0 rfl) ?_
    refine lv_bipush (v := 53) hx hb dTrees_bearsName_24 (by decide) ?_
    refine lv_icmp_ne (tgt := 33) hx hb dTrees_bearsName_26 (by decide) (fun c6 => ?_) (fun c6 => ?_)
    · refine lv_iconst (v := 0) hx hb dTrees_bearsName_33 (by decide) ?_
      exact hE _ _ _ rfl (by first | exact Or.inl ⟨rfl, h29⟩ | exact Or.inr ⟨rfl, fun h9 => by rcases h9 with h9 | h9 | h9 | h9; exact n1 h9; exact n2 h9; exact n3 h9; exact absurd (e0.trans h9) (by assumption)⟩) dTrees_bearsName_34
    · exact J29 ls i0 (by first | exact Or.inl (by assumption) | exact Or.inr (Or.inl (by assumption)) | exact Or.inr (Or.inr (Or.inl ⟨by assumption, by assumption⟩)) | exact Or.inr (Or.inr (Or.inr (by rw [← e0]; assumption)))) (lv_sub hl [0] rfl)
  refine lv_iload_n hx hb dTrees_bearsName_0 rfl (lv_at hl 0 rfl) ?_
  refine lv_iconst (v := 1) hx hb dTrees_bearsName_1 (by decide) ?_
  refine lv_icmp_eq (tgt := 29) hx hb dTrees_bearsName_2 (by decide) (fun c7 => ?_) (fun c7 => ?_)
  · exact J29 ls x0 (by first | exact Or.inl (by assumption) | exact Or.inr (Or.inl (by assumption)) | exact Or.inr (Or.inr (Or.inl ⟨by assumption, by assumption⟩)) | exact Or.inr (Or.inr (Or.inr (by rw [← e0]; assumption)))) (lv_sub hl [0] rfl)
  · refine lv_iload_n hx hb dTrees_bearsName_5 rfl (lv_at hl 0 rfl) ?_
    refine lv_bipush (v := 10) hx hb dTrees_bearsName_6 (by decide) ?_
    refine lv_icmp_eq (tgt := 29) hx hb dTrees_bearsName_8 (by decide) (fun c8 => ?_) (fun c8 => ?_)
    · exact J29 ls x0 (by first | exact Or.inl (by assumption) | exact Or.inr (Or.inl (by assumption)) | exact Or.inr (Or.inr (Or.inl ⟨by assumption, by assumption⟩)) | exact Or.inr (Or.inr (Or.inr (by rw [← e0]; assumption)))) (lv_sub hl [0] rfl)
    · refine lv_iload_n hx hb dTrees_bearsName_11 rfl (lv_at hl 0 rfl) ?_
      refine lv_bipush (v := 22) hx hb dTrees_bearsName_12 (by decide) ?_
      refine lv_icmp_lt (tgt := 23) hx hb dTrees_bearsName_14 (by decide) (fun c9 => ?_) (fun c9 => ?_)
      · exact J23 ls x0 rfl (by assumption) (by assumption) (by first | exact (fun h9 => h9.1 (by assumption)) | exact (fun h9 => absurd h9.2 (by assumption))) (lv_sub hl [0] rfl)
      · refine lv_iload_n hx hb dTrees_bearsName_17 rfl (lv_at hl 0 rfl) ?_
        refine lv_bipush (v := 25) hx hb dTrees_bearsName_18 (by decide) ?_
        refine lv_icmp_le (tgt := 29) hx hb dTrees_bearsName_20 (by decide) (fun c10 => ?_) (fun c10 => ?_)
        · exact J29 ls x0 (by first | exact Or.inl (by assumption) | exact Or.inr (Or.inl (by assumption)) | exact Or.inr (Or.inr (Or.inl ⟨by assumption, by assumption⟩)) | exact Or.inr (Or.inr (Or.inr (by rw [← e0]; assumption)))) (lv_sub hl [0] rfl)
        · exact J23 ls x0 rfl (by assumption) (by assumption) (by first | exact (fun h9 => h9.1 (by assumption)) | exact (fun h9 => absurd h9.2 (by assumption))) (lv_sub hl [0] rfl)
