theorem qw_ddc03b0c9b : (Cond.methodLink R_Looker 64 yLooker_hideBelowAttributes) ∈ bs_W0 := bs_in (in_tables_1_3 (List.mem_of_getElem? (i := 43) rfl)) rfl
theorem qw_f3ed62502a : (Cond.methodLink R_Looker 73 yLooker_isHidden) ∈ bs_W0 := bs_in (in_tables_1_3 (List.mem_of_getElem? (i := 52) rfl)) rfl
theorem qw_d6c8e7411b : (Cond.methodLink R_Looker 77 yLooker_lookAt) ∈ bs_W0 := bs_in (in_tables_1_3 (List.mem_of_getElem? (i := 56) rfl)) rfl
theorem qw_287ec6b8fc : (Cond.methodLink R_Looker 83 yLooks_copy) ∈ bs_W0 := bs_in (in_tables_1_4 (List.mem_of_getElem? (i := 227) rfl)) rfl
set_option maxHeartbeats 4000000 in
set_option maxRecDepth 100000 in
theorem k_Looker_look (l : Launch) (γ : gE) (A : Nat → Prop) (κ : Nat → Nat) (x1 : Int32) (x2 : Int32) (hlast : x2.toInt < 2147483647) : MU l yLooker_look bLooker_look 5 (some .int) 6 150 0 0 [.ref (γ.2.2.2 8), .int x1, .int x2] γ A (INV γ A κ) (mQi (fun r H => True ∧ INV γ A κ H) A) := by
  refine mu_openI (by decide) (Nat.le_of_ble_eq_true rfl) ?_
  intro p e s m args below meth c ls Q S hnm hC hA hI hE hl
  obtain ⟨hx, hb, hml, hown, hW⟩ := id S
  have hS : va_S A s.heap s.heap [] := va_S.rf
  have hl : lv_has ls 5 [(0, .ref (γ.2.2.2 8)), (1, .int x1), (2, .int x2)] := hl
  have J14 : ∀ (N14 : Nat) (ls : Array Slot) (H : Heap) (locs : List Loc) (i1 : Int32) (i2 : Int32) (i3 : Int32), INV γ A κ H → va_S A s.heap H locs → (i2.toInt < 2147483647) → (2147483647 - i3.toInt).toNat = N14 → lv_has ls 5 [(0, .ref (γ.2.2.2 8)), (1, .int i1), (2, .int i2), (3, .int i3)] → W p l e (bs_rm 6 0 0 150) s m args below meth c H locs 0 0 Q (F0 m 14 ls []) := by
    intro N14
    induction N14 using Nat.strongRecOn with
    | ind N14 ih14 =>
      intro ls H locs i1 i2 i3 hI hS hq hm14 hl
      have J41 : ∀ (ls : Array Slot) (H : Heap) (locs : List Loc) (i1 : Int32) (i2 : Int32) (i3 : Int32) (t0 : Int32), INV γ A κ H → va_S A s.heap H locs → (i3.toInt < 2147483647 ∧ (2147483647 - i3.toInt).toNat = N14) → (i2.toInt < 2147483647) → lv_has ls 5 [(0, .ref (γ.2.2.2 8)), (1, .int i1), (2, .int i2), (3, .int i3)] → W p l e (bs_rm 6 0 0 150) s m args below meth c H locs 0 0 Q (F0 m 41 ls [.int t0]) := by
        intro ls H locs i1 i2 i3 t0 hI hS ⟨hf14a, hf14b⟩ hq hl
        refine lv_istore (lv' := [(4, .int t0), (0, .ref (γ.2.2.2 8)), (1, .int i1), (2, .int i2), (3, .int i3)]) hx hb dLooker_look_41 hl (by decide) rfl (fun ls hl => ?_)
        refine lv_iload hx hb dLooker_look_43 (lv_at hl 0 rfl) ?_
        refine lv_if_eq (tgt := 51) hx hb dLooker_look_45 (by decide) (fun c9 => ?_) (fun c9 => ?_)
        · obtain ⟨v10, ev10⟩ : ∃ y : Int32, y = i3 + 1 := ⟨_, rfl⟩
          refine lv_iinc (v := v10) (lv' := [(3, .int v10), (4, .int t0), (0, .ref (γ.2.2.2 8)), (1, .int i1), (2, .int i2)]) hx hb dLooker_look_51 hl (k := 4) rfl (by rw [ev10]; rfl) (by decide) rfl (fun ls hl => ?_)
          refine lv_goto (tgt := 14) hx hb dLooker_look_54 (by decide) ?_
          exact ih14 _ (by have q1 : i3.toInt < 2147483647 := (by first | exact (mu_up (k := i3) (by assumption)).2 | assumption); have q2 := mu_lt q1; rw [← ev10] at q2; omega) ls _ _ i1 i2 v10 hI hS (by first | assumption | exact hlast) rfl (lv_sub hl [2, 3, 4, 0] rfl)
        · refine lv_iload hx hb dLooker_look_48 (lv_at hl 0 rfl) ?_
          exact hE _ _ _ _ _ hS ⟨trivial, hI⟩ dLooker_look_50
      refine lv_iload_n hx hb dLooker_look_14 rfl (lv_at hl 3 rfl) ?_
      refine lv_iload_n hx hb dLooker_look_15 rfl (lv_at hl 2 rfl) ?_
      refine lv_icmp_gt (tgt := 57) hx hb dLooker_look_16 (by decide) (fun c11 => ?_) (fun c11 => ?_)
      · refine lv_iconst (v := 0) hx hb dLooker_look_57 (by decide) ?_
        exact hE _ _ _ _ _ hS ⟨trivial, hI⟩ dLooker_look_58
      · have hlt : i3.toInt < 2147483647 := mu_le (by assumption) hq
        refine lv_aload_n hx hb dLooker_look_19 rfl (lv_at hl 0 rfl) ?_
        refine lv_iload_n hx hb dLooker_look_20 rfl (lv_at hl 3 rfl) ?_
        refine iv_at S hC hI (fun q h => hA q (Nat.le_trans hS.1 h)) hS qw_a0a252684f dLooker_look_21 (fun H locs hI hS => ?_)
        refine lv_aload_n hx hb dLooker_look_24 rfl (lv_at hl 0 rfl) ?_
        refine lv_iload_n hx hb dLooker_look_25 rfl (lv_at hl 3 rfl) ?_
        refine pu_Vi (rest := []) S hC (k_Looker_isHidden l γ A κ i3) meLooker_isHidden qw_f3ed62502a ⟨Nat.le_of_ble_eq_true rfl, Nat.le_of_ble_eq_true rfl⟩ (rv_8 hC hI) hI rfl hl.1 rfl (Nat.le_of_ble_eq_true rfl) dLooker_look_26 ⟨Nat.zero_le _, Nat.zero_le _⟩ (fun r12 hr12 => ?_)
        refine lv_if_eq (tgt := 36) hx hb dLooker_look_29 (by decide) (fun c13 => ?_) (fun c13 => ?_)
        · refine lv_aload_n hx hb dLooker_look_36 rfl (lv_at hl 0 rfl) ?_
          refine lv_iload_n hx hb dLooker_look_37 rfl (lv_at hl 3 rfl) ?_
          refine mu_Vi (rest := []) S hC (fun q h => hA q (Nat.le_trans hS.1 h)) (fun q h => h) hS (k_Looker_lookAt l γ A κ i3) meLooker_lookAt qw_d6c8e7411b ⟨Nat.le_of_ble_eq_true rfl, Nat.le_of_ble_eq_true rfl⟩ (rv_8 hC hI) hI rfl hl.1 rfl (Nat.le_of_ble_eq_true rfl) dLooker_look_38 ⟨Nat.le_refl _, Nat.le_refl _⟩ (fun r14 H locs ⟨hr14, hI⟩ hS _ _ => ?_)
          exact J41 ls _ _ i1 i2 i3 r14 hI hS (by first | exact ⟨(mu_up (k := i3) (by assumption)).2, by assumption⟩ | exact ⟨by assumption, by assumption⟩) (by first | assumption | exact hlast) (lv_sub hl [0, 1, 2, 3] rfl)
        · refine lv_iconst (v := 0) hx hb dLooker_look_32 (by decide) ?_
          refine lv_goto (tgt := 41) hx hb dLooker_look_33 (by decide) ?_
          exact J41 ls _ _ i1 i2 i3 0 hI hS (by first | exact ⟨(mu_up (k := i3) (by assumption)).2, by assumption⟩ | exact ⟨by assumption, by assumption⟩) (by first | assumption | exact hlast) (lv_sub hl [0, 1, 2, 3] rfl)
  refine lv_aload_n hx hb dLooker_look_0 rfl (lv_at hl 0 rfl) ?_
  refine lv_iload_n hx hb dLooker_look_1 rfl (lv_at hl 1 rfl) ?_
  refine mu_Vv (rest := []) S hC (fun q h => hA q (Nat.le_trans hS.1 h)) (fun q h => h) hS (k_Looker_hideBelowAttributes l γ A κ x1) meLooker_hideBelowAttributes qw_ddc03b0c9b ⟨Nat.le_of_ble_eq_true rfl, Nat.le_of_ble_eq_true rfl⟩ (rv_8 hC hI) hI rfl hl.1 rfl (Nat.le_of_ble_eq_true rfl) dLooker_look_2 ⟨Nat.le_refl _, Nat.le_refl _⟩ (fun H locs hI hS _ _ => ?_)
  refine lv_aload_n hx hb dLooker_look_5 rfl (lv_at hl 0 rfl) ?_
  refine of_get S hC (of_8_0 hI) in_Looker rfl (by decide) qw_22d2793f25 dLooker_look_6 ?_
  refine lv_iload_n hx hb dLooker_look_9 rfl (lv_at hl 1 rfl) ?_
  refine pu_Vi (rest := []) S hC (k1_Trees_firstOf l γ A κ x1) meTrees_firstOf qw_b381ab4f95 ⟨Nat.le_of_ble_eq_true rfl, Nat.le_of_ble_eq_true rfl⟩ (rv_1 hC hI) hI rfl hl.1 rfl (Nat.le_of_ble_eq_true rfl) dLooker_look_10 ⟨Nat.zero_le _, Nat.zero_le _⟩ (fun r16 hr16 => ?_)
  refine lv_istore_n (lv' := [(3, .int r16), (0, .ref (γ.2.2.2 8)), (1, .int x1), (2, .int x2)]) hx hb dLooker_look_13 rfl hl (by decide) rfl (fun ls hl => ?_)
  exact J14 _ ls _ _ x1 x2 r16 hI hS (by first | assumption | exact hlast) rfl (lv_sub hl [1, 2, 3, 0] rfl)

set_option maxHeartbeats 4000000 in
set_option maxRecDepth 100000 in
theorem k_Looker_tell (l : Launch) (γ : gE) (A : Nat → Prop) (κ : Nat → Nat) (x2 : Int32) (x3 : Int32) (hlast : x3.toInt < 2147483647) : MU l yLooker_tell bLooker_tell 5 (none) 3 105 0 0 [.ref (γ.2.2.2 8), .ref (γ.2.2.2 6), .int x2, .int x3] γ A (INV γ A κ) (mQv (fun H => INV γ A κ H) A) := by
  refine mu_openV (by decide) (Nat.le_of_ble_eq_true rfl) ?_
  intro p e s m args below meth c ls Q S hnm hC hA hI hE hl
  obtain ⟨hx, hb, hml, hown, hW⟩ := id S
  have hS : va_S A s.heap s.heap [] := va_S.rf
  have hl : lv_has ls 5 [(0, .ref (γ.2.2.2 8)), (1, .ref (γ.2.2.2 6)), (2, .int x2), (3, .int x3)] := hl
  have J10 : ∀ (N10 : Nat) (ls : Array Slot) (H : Heap) (locs : List Loc) (i2 : Int32) (i3 : Int32) (i4 : Int32), INV γ A κ H → va_S A s.heap H locs → (i3.toInt < 2147483647) → (2147483647 - i4.toInt).toNat = N10 → lv_has ls 5 [(0, .ref (γ.2.2.2 8)), (1, .ref (γ.2.2.2 6)), (2, .int i2), (3, .int i3), (4, .int i4)] → W p l e (bs_rm 3 0 0 105) s m args below meth c H locs 0 0 Q (F0 m 10 ls []) := by
    intro N10
    induction N10 using Nat.strongRecOn with
    | ind N10 ih10 =>
      intro ls H locs i2 i3 i4 hI hS hq hm10 hl
      have J35 : ∀ (ls : Array Slot) (H : Heap) (locs : List Loc) (i2 : Int32) (i3 : Int32) (i4 : Int32), INV γ A κ H → va_S A s.heap H locs → (i4.toInt < 2147483647 ∧ (2147483647 - i4.toInt).toNat = N10) → (i3.toInt < 2147483647) → lv_has ls 5 [(0, .ref (γ.2.2.2 8)), (1, .ref (γ.2.2.2 6)), (2, .int i2), (3, .int i3), (4, .int i4)] → W p l e (bs_rm 3 0 0 105) s m args below meth c H locs 0 0 Q (F0 m 35 ls []) := by
        intro ls H locs i2 i3 i4 hI hS ⟨hf10a, hf10b⟩ hq hl
        obtain ⟨v7, ev7⟩ : ∃ y : Int32, y = i4 + 1 := ⟨_, rfl⟩
        refine lv_iinc (v := v7) (lv' := [(4, .int v7), (0, .ref (γ.2.2.2 8)), (1, .ref (γ.2.2.2 6)), (2, .int i2), (3, .int i3)]) hx hb dLooker_tell_35 hl (k := 4) rfl (by rw [ev7]; rfl) (by decide) rfl (fun ls hl => ?_)
        refine lv_goto (tgt := 10) hx hb dLooker_tell_38 (by decide) ?_
        exact ih10 _ (by have q1 : i4.toInt < 2147483647 := (by first | exact (mu_up (k := i4) (by assumption)).2 | assumption); have q2 := mu_lt q1; rw [← ev7] at q2; omega) ls _ _ i2 i3 v7 hI hS (by first | assumption | exact hlast) rfl (lv_sub hl [1, 2, 3, 4, 0] rfl)
      refine lv_iload hx hb dLooker_tell_10 (lv_at hl 4 rfl) ?_
      refine lv_iload_n hx hb dLooker_tell_12 rfl (lv_at hl 3 rfl) ?_
      refine lv_icmp_gt (tgt := 41) hx hb dLooker_tell_13 (by decide) (fun c8 => ?_) (fun c8 => ?_)
      · exact hE _ _ _ _ hS hI dLooker_tell_41
      · have hlt : i4.toInt < 2147483647 := mu_le (by assumption) hq
        refine lv_aload_n hx hb dLooker_tell_16 rfl (lv_at hl 0 rfl) ?_
        refine lv_iload hx hb dLooker_tell_17 (lv_at hl 4 rfl) ?_
        refine pu_Vi (rest := []) S hC (k_Looker_isHidden l γ A κ i4) meLooker_isHidden qw_f3ed62502a ⟨Nat.le_of_ble_eq_true rfl, Nat.le_of_ble_eq_true rfl⟩ (rv_8 hC hI) hI rfl hl.1 rfl (Nat.le_of_ble_eq_true rfl) dLooker_tell_19 ⟨Nat.zero_le _, Nat.zero_le _⟩ (fun r9 hr9 => ?_)
        refine lv_if_ne (tgt := 35) hx hb dLooker_tell_22 (by decide) (fun c10 => ?_) (fun c10 => ?_)
        · exact J35 ls _ _ i2 i3 i4 hI hS (by first | exact ⟨(mu_up (k := i4) (by assumption)).2, by assumption⟩ | exact ⟨by assumption, by assumption⟩) (by first | assumption | exact hlast) (lv_sub hl [0, 1, 2, 3, 4] rfl)
        · refine lv_aload_n hx hb dLooker_tell_25 rfl (lv_at hl 1 rfl) ?_
          refine lv_aload_n hx hb dLooker_tell_26 rfl (lv_at hl 0 rfl) ?_
          refine of_get S hC (of_8_3 hI) in_Looker rfl (by decide) qw_77aeadf252 dLooker_tell_27 ?_
          refine lv_iload hx hb dLooker_tell_30 (lv_at hl 4 rfl) ?_
          refine mu_Vv (rest := []) S hC (fun q h => hA q (Nat.le_trans hS.1 h)) (fun q h => h) hS (k6_Looks_copy l γ A κ i4) meLooks_copy qw_287ec6b8fc ⟨Nat.le_of_ble_eq_true rfl, Nat.le_of_ble_eq_true rfl⟩ (rv_6 hC hI) hI rfl hl.1 rfl (Nat.le_of_ble_eq_true rfl) dLooker_tell_32 ⟨Nat.le_refl _, Nat.le_refl _⟩ (fun H locs hI hS _ _ => ?_)
          exact J35 ls _ _ i2 i3 i4 hI hS (by first | exact ⟨(mu_up (k := i4) (by assumption)).2, by assumption⟩ | exact ⟨by assumption, by assumption⟩) (by first | assumption | exact hlast) (lv_sub hl [0, 1, 2, 3, 4] rfl)
  refine lv_aload_n hx hb dLooker_tell_0 rfl (lv_at hl 0 rfl) ?_
  refine of_get S hC (of_8_0 hI) in_Looker rfl (by decide) qw_22d2793f25 dLooker_tell_1 ?_
  refine lv_iload_n hx hb dLooker_tell_4 rfl (lv_at hl 2 rfl) ?_
  refine pu_Vi (rest := []) S hC (k1_Trees_firstOf l γ A κ x2) meTrees_firstOf qw_b381ab4f95 ⟨Nat.le_of_ble_eq_true rfl, Nat.le_of_ble_eq_true rfl⟩ (rv_1 hC hI) hI rfl hl.1 rfl (Nat.le_of_ble_eq_true rfl) dLooker_tell_5 ⟨Nat.zero_le _, Nat.zero_le _⟩ (fun r12 hr12 => ?_)
  refine lv_istore (lv' := [(4, .int r12), (0, .ref (γ.2.2.2 8)), (1, .ref (γ.2.2.2 6)), (2, .int x2), (3, .int x3)]) hx hb dLooker_tell_8 hl (by decide) rfl (fun ls hl => ?_)
  exact J10 _ ls _ _ x2 x3 r12 hI hS (by first | assumption | exact hlast) rfl (lv_sub hl [1, 2, 3, 4, 0] rfl)
