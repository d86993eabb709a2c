def P_jInteger_compare  (x0 : Int32) (x1 : Int32) : Int32 := (if x1 ≤ x0 then (if x0 = x1 then 0 else 1) else (-1))
set_option maxHeartbeats 4000000 in
set_option maxRecDepth 100000 in
theorem f_jInteger_compare (l : Launch) (γ : gE) (P : Heap → Prop) (x0 : Int32) (x1 : Int32)  : PU l yjInteger_compare bjInteger_compare 2 (some .int) 0 0 [.int x0, .int x1] γ P (vp_Si (fun v : Int32 => (True) ∧ v = P_jInteger_compare  x0 x1)) := by
  refine pu_openFI (by decide +kernel) (Nat.le_of_ble_eq_true rfl) ?_
  intro p e s m args below meth c ls Q S hC hI hE hl
  obtain ⟨hx, hb, hml, hown, hW⟩ := id S
  have hl : lv_has ls 2 [(0, .int x0), (1, .int x1)] := hl
  obtain ⟨OUT, hQ, hO⟩ : ∃ z, (z = P_jInteger_compare  x0 x1) ∧ Oq z (P_jInteger_compare  x0 x1) := ⟨_, rfl, rfl⟩
  rw [← hQ] at hE
  clear hQ
  refine lv_iload_n hx hb djInteger_compare_0 rfl (lv_at hl 0 rfl) ?_
  refine lv_iload_n hx hb djInteger_compare_1 rfl (lv_at hl 1 rfl) ?_
  refine lv_icmp_ge (tgt := 9) hx hb djInteger_compare_2 (by decide) (fun c3 => ?_) (fun c3 => ?_)
  · refine lv_iload_n hx hb djInteger_compare_9 rfl (lv_at hl 0 rfl) ?_
    refine lv_iload_n hx hb djInteger_compare_10 rfl (lv_at hl 1 rfl) ?_
    refine lv_icmp_ne (tgt := 18) hx hb djInteger_compare_11 (by decide) (fun c4 => ?_) (fun c4 => ?_)
    · refine lv_iconst (v := 1) hx hb djInteger_compare_18 (by decide) ?_
      exact hE _ _ _ ⟨trivial, (by exact (hO.tr ((if_pos c3).trans (if_neg c4))).symm)⟩ djInteger_compare_19
    · refine lv_iconst (v := 0) hx hb djInteger_compare_14 (by decide) ?_
      refine lv_goto (tgt := 19) hx hb djInteger_compare_15 (by decide) ?_
      exact hE _ _ _ ⟨trivial, (by exact (hO.tr ((if_pos c3).trans (if_pos c4))).symm)⟩ djInteger_compare_19
  · refine lv_iconst (v := (-1)) hx hb djInteger_compare_5 (by decide) ?_
    refine lv_goto (tgt := 19) hx hb djInteger_compare_6 (by decide) ?_
    exact hE _ _ _ ⟨trivial, (by exact (hO.tr (if_neg c3)).symm)⟩ djInteger_compare_19

def P_jLong_compare  (x0 : Int64) (x2 : Int64) : Int32 := (if 0 ≤ (lg_cmp x0 x2) then (if (lg_cmp x0 x2) = 0 then 0 else 1) else (-1))
set_option maxHeartbeats 4000000 in
set_option maxRecDepth 100000 in
theorem f_jLong_compare (l : Launch) (γ : gE) (P : Heap → Prop) (x0 : Int64) (x2 : Int64)  : PU l yjLong_compare bjLong_compare 4 (some .int) 0 0 [.long x0, .long x2] γ P (vp_Si (fun v : Int32 => (True) ∧ v = P_jLong_compare  x0 x2)) := by
  refine pu_openFI (by decide +kernel) (Nat.le_of_ble_eq_true rfl) ?_
  intro p e s m args below meth c ls Q S hC hI hE hl
  obtain ⟨hx, hb, hml, hown, hW⟩ := id S
  have hl : lv_has ls 4 [(0, .long x0), (2, .long x2)] := hl
  obtain ⟨OUT, hQ, hO⟩ : ∃ z, (z = P_jLong_compare  x0 x2) ∧ Oq z (P_jLong_compare  x0 x2) := ⟨_, rfl, rfl⟩
  rw [← hQ] at hE
  clear hQ
  refine lv_lload_n hx hb djLong_compare_0 rfl (lv_at hl 0 rfl) ?_
  refine lv_lload_n hx hb djLong_compare_1 rfl (lv_at hl 1 rfl) ?_
  refine W.lcmp hx hb djLong_compare_2 ?_
  refine lv_topi (fun v5 ev5 => ?_)
  refine lv_if_ge (tgt := 10) hx hb djLong_compare_3 (by decide) (fun c6 => ?_) (fun c6 => ?_)
  · refine lv_lload_n hx hb djLong_compare_10 rfl (lv_at hl 0 rfl) ?_
    refine lv_lload_n hx hb djLong_compare_11 rfl (lv_at hl 1 rfl) ?_
    refine W.lcmp hx hb djLong_compare_12 ?_
    refine lv_topi (fun v7 ev7 => ?_)
    refine lv_if_ne (tgt := 20) hx hb djLong_compare_13 (by decide) (fun c8 => ?_) (fun c8 => ?_)
    · refine lv_iconst (v := 1) hx hb djLong_compare_20 (by decide) ?_
      exact hE _ _ _ ⟨trivial, (by subst ev7 ev5; exact (hO.tr ((if_pos c6).trans (if_neg c8))).symm)⟩ djLong_compare_21
    · refine lv_iconst (v := 0) hx hb djLong_compare_16 (by decide) ?_
      refine lv_goto (tgt := 21) hx hb djLong_compare_17 (by decide) ?_
      exact hE _ _ _ ⟨trivial, (by subst ev7 ev5; exact (hO.tr ((if_pos c6).trans (if_pos c8))).symm)⟩ djLong_compare_21
  · refine lv_iconst (v := (-1)) hx hb djLong_compare_6 (by decide) ?_
    refine lv_goto (tgt := 21) hx hb djLong_compare_7 (by decide) ?_
    exact hE _ _ _ ⟨trivial, (by subst ev5; exact (hO.tr (if_neg c6)).symm)⟩ djLong_compare_21

def P_jMath_floorMod  (x0 : Int64) (x2 : Int64) : Int64 := (if 0 ≤ (lg_cmp (x0 ^^^ x2) 0) then (x0 - x0 / x2 * x2) else (if (lg_cmp (x0 - x0 / x2 * x2) 0) = 0 then (x0 - x0 / x2 * x2) else ((x0 - x0 / x2 * x2) + x2)))
set_option maxHeartbeats 4000000 in
set_option maxRecDepth 100000 in
theorem f_jMath_floorMod (l : Launch) (γ : gE) (P : Heap → Prop) (x0 : Int64) (x2 : Int64) (h0 : ¬ x2 = 0) : PU l yjMath_floorMod bjMath_floorMod 6 (some .long) 0 0 [.long x0, .long x2] γ P (vp_Sl (fun v : Int64 => (True) ∧ v = P_jMath_floorMod  x0 x2)) := by
  refine pu_openFJ (by decide +kernel) (Nat.le_of_ble_eq_true rfl) ?_
  intro p e s m args below meth c ls Q S hC hI hE hl
  obtain ⟨hx, hb, hml, hown, hW⟩ := id S
  have hl : lv_has ls 6 [(0, .long x0), (2, .long x2)] := hl
  obtain ⟨OUT, hQ, hO⟩ : ∃ z, (z = P_jMath_floorMod  x0 x2) ∧ Oq z (P_jMath_floorMod  x0 x2) := ⟨_, rfl, rfl⟩
  rw [← hQ] at hE
  clear hQ
  refine lv_lload_n hx hb djMath_floorMod_0 rfl (lv_at hl 0 rfl) ?_
  refine lv_lload_n hx hb djMath_floorMod_1 rfl (lv_at hl 1 rfl) ?_
  refine lv_lrem hx hb djMath_floorMod_2 h0 ?_
  refine lv_topl (fun v8 ev8 => ?_)
  refine lv_lstore (lv' := [(4, .long v8), (0, .long x0), (2, .long x2)]) hx hb djMath_floorMod_3 hl (by decide) rfl (fun ls hl => ?_)
  refine lv_lload_n hx hb djMath_floorMod_5 rfl (lv_at hl 1 rfl) ?_
  refine lv_lload_n hx hb djMath_floorMod_6 rfl (lv_at hl 2 rfl) ?_
  refine lv_lxor hx hb djMath_floorMod_7 ?_
  refine lv_topl (fun v9 ev9 => ?_)
  refine lv_lconst (v := 0) hx hb djMath_floorMod_8 (by decide) ?_
  refine W.lcmp hx hb djMath_floorMod_9 ?_
  refine lv_topi (fun v10 ev10 => ?_)
  refine lv_if_ge (tgt := 25) hx hb djMath_floorMod_10 (by decide) (fun c11 => ?_) (fun c11 => ?_)
  · refine lv_lload hx hb djMath_floorMod_25 (lv_at hl 0 rfl) ?_
    exact hE _ _ _ ⟨trivial, (by subst ev10 ev9 ev8; exact (hO.tr (if_pos c11)).symm)⟩ djMath_floorMod_27
  · refine lv_lload hx hb djMath_floorMod_13 (lv_at hl 0 rfl) ?_
    refine lv_lconst (v := 0) hx hb djMath_floorMod_15 (by decide) ?_
    refine W.lcmp hx hb djMath_floorMod_16 ?_
    refine lv_topi (fun v12 ev12 => ?_)
    refine lv_if_eq (tgt := 25) hx hb djMath_floorMod_17 (by decide) (fun c13 => ?_) (fun c13 => ?_)
    · refine lv_lload hx hb djMath_floorMod_25 (lv_at hl 0 rfl) ?_
      exact hE _ _ _ ⟨trivial, (by subst ev12 ev10 ev9 ev8; exact (hO.tr ((if_neg c11).trans (if_pos c13))).symm)⟩ djMath_floorMod_27
    · refine lv_lload hx hb djMath_floorMod_20 (lv_at hl 0 rfl) ?_
      refine lv_lload_n hx hb djMath_floorMod_22 rfl (lv_at hl 2 rfl) ?_
      refine lv_ladd hx hb djMath_floorMod_23 ?_
      refine lv_topl (fun v14 ev14 => ?_)
      exact hE _ _ _ ⟨trivial, (by subst ev14 ev12 ev10 ev9 ev8; exact (hO.tr ((if_neg c11).trans (if_neg c13))).symm)⟩ djMath_floorMod_24

def P_Logic_isLow_11  (i0 : Int32) : Int32 := 1
def P_Logic_isLow  (x0 : Int32) : Int32 := (if x0 = 2 then (P_Logic_isLow_11   x0) else (if x0 = 6 then (P_Logic_isLow_11   x0) else 0))
set_option maxHeartbeats 4000000 in
set_option maxRecDepth 100000 in
theorem f_Logic_isLow (l : Launch) (γ : gE) (P : Heap → Prop) (x0 : Int32)  : PU l yLogic_isLow bLogic_isLow 1 (some .boolean) 0 0 [.int x0] γ P (vp_Si (fun v : Int32 => (True) ∧ v = P_Logic_isLow  x0)) := by
  refine pu_openZ (by decide) (Nat.le_of_ble_eq_true rfl) ?_
  intro p e s m args below meth c ls Q S hC hI hE hl
  obtain ⟨hx, hb, hml, hown, hW⟩ := id S
  have hl : lv_has ls 1 [(0, .int x0)] := hl
  obtain ⟨OUT, hQ, hO⟩ : ∃ z, (z = P_Logic_isLow  x0) ∧ Oq z (P_Logic_isLow  x0) := ⟨_, rfl, rfl⟩
  rw [← hQ] at hE
  clear hQ
  have J11 : ∀ (ls : Array Slot)  (i0 : Int32), (Oq OUT (P_Logic_isLow_11    i0)) → lv_has ls 1 [(0, .int i0)] → W p l e (bs_rm 0 0 0 0) s m args below meth c s.heap [] 0 0 Q (F0 m 11 ls []) := by
    intro ls  i0 hO hl
    refine lv_iconst (v := 1) hx hb dLogic_isLow_11 (by decide) ?_
    refine lv_goto (tgt := 16) hx hb dLogic_isLow_12 (by decide) ?_
    exact hE _ _ _ rfl ⟨trivial, (by exact (hO.tr rfl).symm)⟩ dLogic_isLow_16
  refine lv_iload_n hx hb dLogic_isLow_0 rfl (lv_at hl 0 rfl) ?_
  refine lv_iconst (v := 2) hx hb dLogic_isLow_1 (by decide) ?_
  refine lv_icmp_eq (tgt := 11) hx hb dLogic_isLow_2 (by decide) (fun c3 => ?_) (fun c3 => ?_)
  · exact J11 ls x0 (by exact hO.tr (if_pos c3)) (lv_sub hl [0] rfl)
  · refine lv_iload_n hx hb dLogic_isLow_5 rfl (lv_at hl 0 rfl) ?_
    refine lv_bipush (v := 6) hx hb dLogic_isLow_6 (by decide) ?_
    refine lv_icmp_ne (tgt := 15) hx hb dLogic_isLow_8 (by decide) (fun c4 => ?_) (fun c4 => ?_)
    · refine lv_iconst (v := 0) hx hb dLogic_isLow_15 (by decide) ?_
      exact hE _ _ _ rfl ⟨trivial, (by exact (hO.tr ((if_neg c3).trans (if_neg c4))).symm)⟩ dLogic_isLow_16
    · exact J11 ls x0 (by exact hO.tr ((if_neg c3).trans (if_pos c4))) (lv_sub hl [0] rfl)

def P_Logic_isHigh_11  (i0 : Int32) : Int32 := 1
def P_Logic_isHigh  (x0 : Int32) : Int32 := (if x0 = 3 then (P_Logic_isHigh_11   x0) else (if x0 = 7 then (P_Logic_isHigh_11   x0) else 0))
set_option maxHeartbeats 4000000 in
set_option maxRecDepth 100000 in
theorem f_Logic_isHigh (l : Launch) (γ : gE) (P : Heap → Prop) (x0 : Int32)  : PU l yLogic_isHigh bLogic_isHigh 1 (some .boolean) 0 0 [.int x0] γ P (vp_Si (fun v : Int32 => (True) ∧ v = P_Logic_isHigh  x0)) := by
  refine pu_openZ (by decide) (Nat.le_of_ble_eq_true rfl) ?_
  intro p e s m args below meth c ls Q S hC hI hE hl
  obtain ⟨hx, hb, hml, hown, hW⟩ := id S
  have hl : lv_has ls 1 [(0, .int x0)] := hl
  obtain ⟨OUT, hQ, hO⟩ : ∃ z, (z = P_Logic_isHigh  x0) ∧ Oq z (P_Logic_isHigh  x0) := ⟨_, rfl, rfl⟩
  rw [← hQ] at hE
  clear hQ
  have J11 : ∀ (ls : Array Slot)  (i0 : Int32), (Oq OUT (P_Logic_isHigh_11    i0)) → lv_has ls 1 [(0, .int i0)] → W p l e (bs_rm 0 0 0 0) s m args below meth c s.heap [] 0 0 Q (F0 m 11 ls []) := by
    intro ls  i0 hO hl
    refine lv_iconst (v := 1) hx hb dLogic_isHigh_11 (by decide) ?_
    refine lv_goto (tgt := 16) hx hb dLogic_isHigh_12 (by decide) ?_
    exact hE _ _ _ rfl ⟨trivial, (by exact (hO.tr rfl).symm)⟩ dLogic_isHigh_16
  refine lv_iload_n hx hb dLogic_isHigh_0 rfl (lv_at hl 0 rfl) ?_
  refine lv_iconst (v := 3) hx hb dLogic_isHigh_1 (by decide) ?_
  refine lv_icmp_eq (tgt := 11) hx hb dLogic_isHigh_2 (by decide) (fun c3 => ?_) (fun c3 => ?_)
  · exact J11 ls x0 (by exact hO.tr (if_pos c3)) (lv_sub hl [0] rfl)
  · refine lv_iload_n hx hb dLogic_isHigh_5 rfl (lv_at hl 0 rfl) ?_
    refine lv_bipush (v := 7) hx hb dLogic_isHigh_6 (by decide) ?_
    refine lv_icmp_ne (tgt := 15) hx hb dLogic_isHigh_8 (by decide) (fun c4 => ?_) (fun c4 => ?_)
    · refine lv_iconst (v := 0) hx hb dLogic_isHigh_15 (by decide) ?_
      exact hE _ _ _ rfl ⟨trivial, (by exact (hO.tr ((if_neg c3).trans (if_neg c4))).symm)⟩ dLogic_isHigh_16
    · exact J11 ls x0 (by exact hO.tr ((if_neg c3).trans (if_pos c4))) (lv_sub hl [0] rfl)

def P_Logic_isClear_22  (i0 : Int32) : Int32 := 1
def P_Logic_isClear  (x0 : Int32) : Int32 := (if x0 = 2 then (P_Logic_isClear_22   x0) else (if x0 = 3 then (P_Logic_isClear_22   x0) else (if x0 = 6 then (P_Logic_isClear_22   x0) else (if x0 = 7 then (P_Logic_isClear_22   x0) else 0))))
set_option maxHeartbeats 4000000 in
set_option maxRecDepth 100000 in
theorem f_Logic_isClear (l : Launch) (γ : gE) (P : Heap → Prop) (x0 : Int32)  : PU l yLogic_isClear bLogic_isClear 1 (some .boolean) 0 0 [.int x0] γ P (vp_Si (fun v : Int32 => (True) ∧ v = P_Logic_isClear  x0)) := by
  refine pu_openZ (by decide) (Nat.le_of_ble_eq_true rfl) ?_
  intro p e s m args below meth c ls Q S hC hI hE hl
  obtain ⟨hx, hb, hml, hown, hW⟩ := id S
  have hl : lv_has ls 1 [(0, .int x0)] := hl
  obtain ⟨OUT, hQ, hO⟩ : ∃ z, (z = P_Logic_isClear  x0) ∧ Oq z (P_Logic_isClear  x0) := ⟨_, rfl, rfl⟩
  rw [← hQ] at hE
  clear hQ
  have J22 : ∀ (ls : Array Slot)  (i0 : Int32), (Oq OUT (P_Logic_isClear_22    i0)) → lv_has ls 1 [(0, .int i0)] → W p l e (bs_rm 0 0 0 0) s m args below meth c s.heap [] 0 0 Q (F0 m 22 ls []) := by
    intro ls  i0 hO hl
    refine lv_iconst (v := 1) hx hb dLogic_isClear_22 (by decide) ?_
    refine lv_goto (tgt := 27) hx hb dLogic_isClear_23 (by decide) ?_
    exact hE _ _ _ rfl ⟨trivial, (by exact (hO.tr rfl).symm)⟩ dLogic_isClear_27
  refine lv_iload_n hx hb dLogic_isClear_0 rfl (lv_at hl 0 rfl) ?_
  refine lv_iconst (v := 2) hx hb dLogic_isClear_1 (by decide) ?_
  refine lv_icmp_eq (tgt := 22) hx hb dLogic_isClear_2 (by decide) (fun c5 => ?_) (fun c5 => ?_)
  · exact J22 ls x0 (by exact hO.tr (if_pos c5)) (lv_sub hl [0] rfl)
  · refine lv_iload_n hx hb dLogic_isClear_5 rfl (lv_at hl 0 rfl) ?_
    refine lv_iconst (v := 3) hx hb dLogic_isClear_6 (by decide) ?_
    refine lv_icmp_eq (tgt := 22) hx hb dLogic_isClear_7 (by decide) (fun c6 => ?_) (fun c6 => ?_)
    · exact J22 ls x0 (by exact hO.tr ((if_neg c5).trans (if_pos c6))) (lv_sub hl [0] rfl)
    · refine lv_iload_n hx hb dLogic_isClear_10 rfl (lv_at hl 0 rfl) ?_
      refine lv_bipush (v := 6) hx hb dLogic_isClear_11 (by decide) ?_
      refine lv_icmp_eq (tgt := 22) hx hb dLogic_isClear_13 (by decide) (fun c7 => ?_) (fun c7 => ?_)
      · exact J22 ls x0 (by exact hO.tr ((if_neg c5).trans ((if_neg c6).trans (if_pos c7)))) (lv_sub hl [0] rfl)
      · refine lv_iload_n hx hb dLogic_isClear_16 rfl (lv_at hl 0 rfl) ?_
        refine lv_bipush (v := 7) hx hb dLogic_isClear_17 (by decide) ?_
        refine lv_icmp_ne (tgt := 26) hx hb dLogic_isClear_19 (by decide) (fun c8 => ?_) (fun c8 => ?_)
        · refine lv_iconst (v := 0) hx hb dLogic_isClear_26 (by decide) ?_
          exact hE _ _ _ rfl ⟨trivial, (by exact (hO.tr ((if_neg c5).trans ((if_neg c6).trans ((if_neg c7).trans (if_neg c8))))).symm)⟩ dLogic_isClear_27
        · exact J22 ls x0 (by exact hO.tr ((if_neg c5).trans ((if_neg c6).trans ((if_neg c7).trans (if_pos c8))))) (lv_sub hl [0] rfl)

def P_Logic_not  (x0 : Int32) : Int32 := (if x0 = 0 then 0 else (if (P_Logic_isLow x0) = 0 then (if (P_Logic_isHigh x0) = 0 then 1 else 2) else 3))
set_option maxHeartbeats 4000000 in
set_option maxRecDepth 100000 in
theorem f_Logic_not (l : Launch) (γ : gE) (P : Heap → Prop) (x0 : Int32)  : PU l yLogic_not bLogic_not 1 (some .int) 1 20 [.int x0] γ P (vp_Si (fun v : Int32 => (True) ∧ v = P_Logic_not  x0)) := by
  refine pu_openI (by decide) (Nat.le_of_ble_eq_true rfl) ?_
  intro p e s m args below meth c ls Q S hC hI hE hl
  obtain ⟨hx, hb, hml, hown, hW⟩ := id S
  have hl : lv_has ls 1 [(0, .int x0)] := hl
  obtain ⟨OUT, hQ, hO⟩ : ∃ z, (z = P_Logic_not  x0) ∧ Oq z (P_Logic_not  x0) := ⟨_, rfl, rfl⟩
  rw [← hQ] at hE
  clear hQ
  refine lv_iload_n hx hb dLogic_not_0 rfl (lv_at hl 0 rfl) ?_
  refine lv_if_ne (tgt := 8) hx hb dLogic_not_1 (by decide) (fun c6 => ?_) (fun c6 => ?_)
  · refine lv_iload_n hx hb dLogic_not_8 rfl (lv_at hl 0 rfl) ?_
    refine pu_Si (rest := []) S hC (f_Logic_isLow l γ P x0) meLogic_isLow qw_157c25bbff ⟨Nat.le_of_ble_eq_true rfl, Nat.le_of_ble_eq_true rfl⟩ hI rfl hl.1 rfl (Nat.le_of_ble_eq_true rfl) dLogic_not_9 ⟨Nat.zero_le _, Nat.zero_le _⟩ (fun r7 hr7 => ?_)
    obtain ⟨hr7, er7⟩ := hr7
    refine lv_if_eq (tgt := 19) hx hb dLogic_not_12 (by decide) (fun c8 => ?_) (fun c8 => ?_)
    · refine lv_iload_n hx hb dLogic_not_19 rfl (lv_at hl 0 rfl) ?_
      refine pu_Si (rest := []) S hC (f_Logic_isHigh l γ P x0) meLogic_isHigh qw_b530a28374 ⟨Nat.le_of_ble_eq_true rfl, Nat.le_of_ble_eq_true rfl⟩ hI rfl hl.1 rfl (Nat.le_of_ble_eq_true rfl) dLogic_not_20 ⟨Nat.zero_le _, Nat.zero_le _⟩ (fun r9 hr9 => ?_)
      obtain ⟨hr9, er9⟩ := hr9
      refine lv_if_eq (tgt := 30) hx hb dLogic_not_23 (by decide) (fun c10 => ?_) (fun c10 => ?_)
      · refine lv_iconst (v := 1) hx hb dLogic_not_30 (by decide) ?_
        exact hE _ _ _ ⟨trivial, (by subst er9 er7; exact (hO.tr ((if_neg c6).trans ((if_pos c8).trans (if_pos c10)))).symm)⟩ dLogic_not_31
      · refine lv_iconst (v := 2) hx hb dLogic_not_26 (by decide) ?_
        refine lv_goto (tgt := 31) hx hb dLogic_not_27 (by decide) ?_
        exact hE _ _ _ ⟨trivial, (by subst er9 er7; exact (hO.tr ((if_neg c6).trans ((if_pos c8).trans (if_neg c10)))).symm)⟩ dLogic_not_31
    · refine lv_iconst (v := 3) hx hb dLogic_not_15 (by decide) ?_
      refine lv_goto (tgt := 31) hx hb dLogic_not_16 (by decide) ?_
      exact hE _ _ _ ⟨trivial, (by subst er7; exact (hO.tr ((if_neg c6).trans (if_neg c8))).symm)⟩ dLogic_not_31
  · refine lv_iconst (v := 0) hx hb dLogic_not_4 (by decide) ?_
    refine lv_goto (tgt := 31) hx hb dLogic_not_5 (by decide) ?_
    exact hE _ _ _ ⟨trivial, (by exact (hO.tr (if_pos c6)).symm)⟩ dLogic_not_31

def P_Logic_and_24  (i0 : Int32) (i1 : Int32) : Int32 := 0
def P_Logic_and  (x0 : Int32) (x1 : Int32) : Int32 := (if (P_Logic_isLow x0) = 0 then (if (P_Logic_isLow x1) = 0 then (if x0 = 0 then (P_Logic_and_24   x0 x1) else (if x1 = 0 then (P_Logic_and_24   x0 x1) else (if (P_Logic_isHigh x0) = 0 then 1 else (if (P_Logic_isHigh x1) = 0 then 1 else 3)))) else 2) else 2)
set_option maxHeartbeats 4000000 in
set_option maxRecDepth 100000 in
theorem f_Logic_and (l : Launch) (γ : gE) (P : Heap → Prop) (x0 : Int32) (x1 : Int32)  : PU l yLogic_and bLogic_and 2 (some .int) 1 20 [.int x0, .int x1] γ P (vp_Si (fun v : Int32 => (True) ∧ v = P_Logic_and  x0 x1)) := by
  refine pu_openI (by decide) (Nat.le_of_ble_eq_true rfl) ?_
  intro p e s m args below meth c ls Q S hC hI hE hl
  obtain ⟨hx, hb, hml, hown, hW⟩ := id S
  have hl : lv_has ls 2 [(0, .int x0), (1, .int x1)] := hl
  obtain ⟨OUT, hQ, hO⟩ : ∃ z, (z = P_Logic_and  x0 x1) ∧ Oq z (P_Logic_and  x0 x1) := ⟨_, rfl, rfl⟩
  rw [← hQ] at hE
  clear hQ
  have J24 : ∀ (ls : Array Slot)  (i0 : Int32) (i1 : Int32), (Oq OUT (P_Logic_and_24    i0 i1)) → lv_has ls 2 [(0, .int i0), (1, .int i1)] → W p l e (bs_rm 1 0 0 20) s m args below meth c s.heap [] 0 0 Q (F0 m 24 ls []) := by
    intro ls  i0 i1 hO hl
    refine lv_iconst (v := 0) hx hb dLogic_and_24 (by decide) ?_
    refine lv_goto (tgt := 47) hx hb dLogic_and_25 (by decide) ?_
    exact hE _ _ _ ⟨trivial, (by exact (hO.tr rfl).symm)⟩ dLogic_and_47
  refine lv_iload_n hx hb dLogic_and_0 rfl (lv_at hl 0 rfl) ?_
  refine pu_Si (rest := []) S hC (f_Logic_isLow l γ P x0) meLogic_isLow qw_157c25bbff ⟨Nat.le_of_ble_eq_true rfl, Nat.le_of_ble_eq_true rfl⟩ hI rfl hl.1 rfl (Nat.le_of_ble_eq_true rfl) dLogic_and_1 ⟨Nat.zero_le _, Nat.zero_le _⟩ (fun r11 hr11 => ?_)
  obtain ⟨hr11, er11⟩ := hr11
  refine lv_if_ne (tgt := 14) hx hb dLogic_and_4 (by decide) (fun c12 => ?_) (fun c12 => ?_)
  · refine lv_iconst (v := 2) hx hb dLogic_and_14 (by decide) ?_
    exact hE _ _ _ ⟨trivial, (by subst er11; exact (hO.tr (if_neg c12)).symm)⟩ dLogic_and_15
  · refine lv_iload_n hx hb dLogic_and_7 rfl (lv_at hl 1 rfl) ?_
    refine pu_Si (rest := []) S hC (f_Logic_isLow l γ P x1) meLogic_isLow qw_157c25bbff ⟨Nat.le_of_ble_eq_true rfl, Nat.le_of_ble_eq_true rfl⟩ hI rfl hl.1 rfl (Nat.le_of_ble_eq_true rfl) dLogic_and_8 ⟨Nat.zero_le _, Nat.zero_le _⟩ (fun r13 hr13 => ?_)
    obtain ⟨hr13, er13⟩ := hr13
    refine lv_if_eq (tgt := 16) hx hb dLogic_and_11 (by decide) (fun c14 => ?_) (fun c14 => ?_)
    · refine lv_iload_n hx hb dLogic_and_16 rfl (lv_at hl 0 rfl) ?_
      refine lv_if_eq (tgt := 24) hx hb dLogic_and_17 (by decide) (fun c15 => ?_) (fun c15 => ?_)
      · exact J24 ls x0 x1 (by subst er13 er11; exact hO.tr ((if_pos c12).trans ((if_pos c14).trans (if_pos c15)))) (lv_sub hl [0, 1] rfl)
      · refine lv_iload_n hx hb dLogic_and_20 rfl (lv_at hl 1 rfl) ?_
        refine lv_if_ne (tgt := 28) hx hb dLogic_and_21 (by decide) (fun c16 => ?_) (fun c16 => ?_)
        · refine lv_iload_n hx hb dLogic_and_28 rfl (lv_at hl 0 rfl) ?_
          refine pu_Si (rest := []) S hC (f_Logic_isHigh l γ P x0) meLogic_isHigh qw_b530a28374 ⟨Nat.le_of_ble_eq_true rfl, Nat.le_of_ble_eq_true rfl⟩ hI rfl hl.1 rfl (Nat.le_of_ble_eq_true rfl) dLogic_and_29 ⟨Nat.zero_le _, Nat.zero_le _⟩ (fun r17 hr17 => ?_)
          obtain ⟨hr17, er17⟩ := hr17
          refine lv_if_eq (tgt := 46) hx hb dLogic_and_32 (by decide) (fun c18 => ?_) (fun c18 => ?_)
          · refine lv_iconst (v := 1) hx hb dLogic_and_46 (by decide) ?_
            exact hE _ _ _ ⟨trivial, (by subst er17 er13 er11; exact (hO.tr ((if_pos c12).trans ((if_pos c14).trans ((if_neg c15).trans ((if_neg c16).trans (if_pos c18)))))).symm)⟩ dLogic_and_47
          · refine lv_iload_n hx hb dLogic_and_35 rfl (lv_at hl 1 rfl) ?_
            refine pu_Si (rest := []) S hC (f_Logic_isHigh l γ P x1) meLogic_isHigh qw_b530a28374 ⟨Nat.le_of_ble_eq_true rfl, Nat.le_of_ble_eq_true rfl⟩ hI rfl hl.1 rfl (Nat.le_of_ble_eq_true rfl) dLogic_and_36 ⟨Nat.zero_le _, Nat.zero_le _⟩ (fun r19 hr19 => ?_)
            obtain ⟨hr19, er19⟩ := hr19
            refine lv_if_eq (tgt := 46) hx hb dLogic_and_39 (by decide) (fun c20 => ?_) (fun c20 => ?_)
            · refine lv_iconst (v := 1) hx hb dLogic_and_46 (by decide) ?_
              exact hE _ _ _ ⟨trivial, (by subst er19 er17 er13 er11; exact (hO.tr ((if_pos c12).trans ((if_pos c14).trans ((if_neg c15).trans ((if_neg c16).trans ((if_neg c18).trans (if_pos c20))))))).symm)⟩ dLogic_and_47
            · refine lv_iconst (v := 3) hx hb dLogic_and_42 (by decide) ?_
              refine lv_goto (tgt := 47) hx hb dLogic_and_43 (by decide) ?_
              exact hE _ _ _ ⟨trivial, (by subst er19 er17 er13 er11; exact (hO.tr ((if_pos c12).trans ((if_pos c14).trans ((if_neg c15).trans ((if_neg c16).trans ((if_neg c18).trans (if_neg c20))))))).symm)⟩ dLogic_and_47
        · exact J24 ls x0 x1 (by subst er13 er11; exact hO.tr ((if_pos c12).trans ((if_pos c14).trans ((if_neg c15).trans (if_pos c16))))) (lv_sub hl [0, 1] rfl)
    · refine lv_iconst (v := 2) hx hb dLogic_and_14 (by decide) ?_
      exact hE _ _ _ ⟨trivial, (by subst er13 er11; exact (hO.tr ((if_pos c12).trans (if_neg c14))).symm)⟩ dLogic_and_15

def P_Logic_or_24  (i0 : Int32) (i1 : Int32) : Int32 := 0
def P_Logic_or  (x0 : Int32) (x1 : Int32) : Int32 := (if (P_Logic_isHigh x0) = 0 then (if (P_Logic_isHigh x1) = 0 then (if x0 = 0 then (P_Logic_or_24   x0 x1) else (if x1 = 0 then (P_Logic_or_24   x0 x1) else (if (P_Logic_isLow x0) = 0 then 1 else (if (P_Logic_isLow x1) = 0 then 1 else 2)))) else 3) else 3)
set_option maxHeartbeats 4000000 in
set_option maxRecDepth 100000 in
theorem f_Logic_or (l : Launch) (γ : gE) (P : Heap → Prop) (x0 : Int32) (x1 : Int32)  : PU l yLogic_or bLogic_or 2 (some .int) 1 20 [.int x0, .int x1] γ P (vp_Si (fun v : Int32 => (True) ∧ v = P_Logic_or  x0 x1)) := by
  refine pu_openI (by decide) (Nat.le_of_ble_eq_true rfl) ?_
  intro p e s m args below meth c ls Q S hC hI hE hl
  obtain ⟨hx, hb, hml, hown, hW⟩ := id S
  have hl : lv_has ls 2 [(0, .int x0), (1, .int x1)] := hl
  obtain ⟨OUT, hQ, hO⟩ : ∃ z, (z = P_Logic_or  x0 x1) ∧ Oq z (P_Logic_or  x0 x1) := ⟨_, rfl, rfl⟩
  rw [← hQ] at hE
  clear hQ
  have J24 : ∀ (ls : Array Slot)  (i0 : Int32) (i1 : Int32), (Oq OUT (P_Logic_or_24    i0 i1)) → lv_has ls 2 [(0, .int i0), (1, .int i1)] → W p l e (bs_rm 1 0 0 20) s m args below meth c s.heap [] 0 0 Q (F0 m 24 ls []) := by
    intro ls  i0 i1 hO hl
    refine lv_iconst (v := 0) hx hb dLogic_or_24 (by decide) ?_
    refine lv_goto (tgt := 47) hx hb dLogic_or_25 (by decide) ?_
    exact hE _ _ _ ⟨trivial, (by exact (hO.tr rfl).symm)⟩ dLogic_or_47
  refine lv_iload_n hx hb dLogic_or_0 rfl (lv_at hl 0 rfl) ?_
  refine pu_Si (rest := []) S hC (f_Logic_isHigh l γ P x0) meLogic_isHigh qw_b530a28374 ⟨Nat.le_of_ble_eq_true rfl, Nat.le_of_ble_eq_true rfl⟩ hI rfl hl.1 rfl (Nat.le_of_ble_eq_true rfl) dLogic_or_1 ⟨Nat.zero_le _, Nat.zero_le _⟩ (fun r11 hr11 => ?_)
  obtain ⟨hr11, er11⟩ := hr11
  refine lv_if_ne (tgt := 14) hx hb dLogic_or_4 (by decide) (fun c12 => ?_) (fun c12 => ?_)
  · refine lv_iconst (v := 3) hx hb dLogic_or_14 (by decide) ?_
    exact hE _ _ _ ⟨trivial, (by subst er11; exact (hO.tr (if_neg c12)).symm)⟩ dLogic_or_15
  · refine lv_iload_n hx hb dLogic_or_7 rfl (lv_at hl 1 rfl) ?_
    refine pu_Si (rest := []) S hC (f_Logic_isHigh l γ P x1) meLogic_isHigh qw_b530a28374 ⟨Nat.le_of_ble_eq_true rfl, Nat.le_of_ble_eq_true rfl⟩ hI rfl hl.1 rfl (Nat.le_of_ble_eq_true rfl) dLogic_or_8 ⟨Nat.zero_le _, Nat.zero_le _⟩ (fun r13 hr13 => ?_)
    obtain ⟨hr13, er13⟩ := hr13
    refine lv_if_eq (tgt := 16) hx hb dLogic_or_11 (by decide) (fun c14 => ?_) (fun c14 => ?_)
    · refine lv_iload_n hx hb dLogic_or_16 rfl (lv_at hl 0 rfl) ?_
      refine lv_if_eq (tgt := 24) hx hb dLogic_or_17 (by decide) (fun c15 => ?_) (fun c15 => ?_)
      · exact J24 ls x0 x1 (by subst er13 er11; exact hO.tr ((if_pos c12).trans ((if_pos c14).trans (if_pos c15)))) (lv_sub hl [0, 1] rfl)
      · refine lv_iload_n hx hb dLogic_or_20 rfl (lv_at hl 1 rfl) ?_
        refine lv_if_ne (tgt := 28) hx hb dLogic_or_21 (by decide) (fun c16 => ?_) (fun c16 => ?_)
        · refine lv_iload_n hx hb dLogic_or_28 rfl (lv_at hl 0 rfl) ?_
          refine pu_Si (rest := []) S hC (f_Logic_isLow l γ P x0) meLogic_isLow qw_157c25bbff ⟨Nat.le_of_ble_eq_true rfl, Nat.le_of_ble_eq_true rfl⟩ hI rfl hl.1 rfl (Nat.le_of_ble_eq_true rfl) dLogic_or_29 ⟨Nat.zero_le _, Nat.zero_le _⟩ (fun r17 hr17 => ?_)
          obtain ⟨hr17, er17⟩ := hr17
          refine lv_if_eq (tgt := 46) hx hb dLogic_or_32 (by decide) (fun c18 => ?_) (fun c18 => ?_)
          · refine lv_iconst (v := 1) hx hb dLogic_or_46 (by decide) ?_
            exact hE _ _ _ ⟨trivial, (by subst er17 er13 er11; exact (hO.tr ((if_pos c12).trans ((if_pos c14).trans ((if_neg c15).trans ((if_neg c16).trans (if_pos c18)))))).symm)⟩ dLogic_or_47
          · refine lv_iload_n hx hb dLogic_or_35 rfl (lv_at hl 1 rfl) ?_
            refine pu_Si (rest := []) S hC (f_Logic_isLow l γ P x1) meLogic_isLow qw_157c25bbff ⟨Nat.le_of_ble_eq_true rfl, Nat.le_of_ble_eq_true rfl⟩ hI rfl hl.1 rfl (Nat.le_of_ble_eq_true rfl) dLogic_or_36 ⟨Nat.zero_le _, Nat.zero_le _⟩ (fun r19 hr19 => ?_)
            obtain ⟨hr19, er19⟩ := hr19
            refine lv_if_eq (tgt := 46) hx hb dLogic_or_39 (by decide) (fun c20 => ?_) (fun c20 => ?_)
            · refine lv_iconst (v := 1) hx hb dLogic_or_46 (by decide) ?_
              exact hE _ _ _ ⟨trivial, (by subst er19 er17 er13 er11; exact (hO.tr ((if_pos c12).trans ((if_pos c14).trans ((if_neg c15).trans ((if_neg c16).trans ((if_neg c18).trans (if_pos c20))))))).symm)⟩ dLogic_or_47
            · refine lv_iconst (v := 2) hx hb dLogic_or_42 (by decide) ?_
              refine lv_goto (tgt := 47) hx hb dLogic_or_43 (by decide) ?_
              exact hE _ _ _ ⟨trivial, (by subst er19 er17 er13 er11; exact (hO.tr ((if_pos c12).trans ((if_pos c14).trans ((if_neg c15).trans ((if_neg c16).trans ((if_neg c18).trans (if_neg c20))))))).symm)⟩ dLogic_or_47
        · exact J24 ls x0 x1 (by subst er13 er11; exact hO.tr ((if_pos c12).trans ((if_pos c14).trans ((if_neg c15).trans (if_pos c16))))) (lv_sub hl [0, 1] rfl)
    · refine lv_iconst (v := 3) hx hb dLogic_or_14 (by decide) ?_
      exact hE _ _ _ ⟨trivial, (by subst er13 er11; exact (hO.tr ((if_pos c12).trans (if_neg c14))).symm)⟩ dLogic_or_15

def P_Logic_other_24  (i0 : Int32) (i1 : Int32) : Int32 := 1
def P_Logic_other  (x0 : Int32) (x1 : Int32) : Int32 := (if x0 = 0 then 0 else (if x1 = 0 then 0 else (if (P_Logic_isClear x0) = 0 then (P_Logic_other_24   x0 x1) else (if (P_Logic_isClear x1) = 0 then (P_Logic_other_24   x0 x1) else (if (P_Logic_isHigh x0) = (P_Logic_isHigh x1) then 2 else 3)))))
set_option maxHeartbeats 4000000 in
set_option maxRecDepth 100000 in
theorem f_Logic_other (l : Launch) (γ : gE) (P : Heap → Prop) (x0 : Int32) (x1 : Int32)  : PU l yLogic_other bLogic_other 2 (some .int) 1 20 [.int x0, .int x1] γ P (vp_Si (fun v : Int32 => (True) ∧ v = P_Logic_other  x0 x1)) := by
  refine pu_openI (by decide) (Nat.le_of_ble_eq_true rfl) ?_
  intro p e s m args below meth c ls Q S hC hI hE hl
  obtain ⟨hx, hb, hml, hown, hW⟩ := id S
  have hl : lv_has ls 2 [(0, .int x0), (1, .int x1)] := hl
  obtain ⟨OUT, hQ, hO⟩ : ∃ z, (z = P_Logic_other  x0 x1) ∧ Oq z (P_Logic_other  x0 x1) := ⟨_, rfl, rfl⟩
  rw [← hQ] at hE
  clear hQ
  have J24 : ∀ (ls : Array Slot)  (i0 : Int32) (i1 : Int32), (Oq OUT (P_Logic_other_24    i0 i1)) → lv_has ls 2 [(0, .int i0), (1, .int i1)] → W p l e (bs_rm 1 0 0 20) s m args below meth c s.heap [] 0 0 Q (F0 m 24 ls []) := by
    intro ls  i0 i1 hO hl
    refine lv_iconst (v := 1) hx hb dLogic_other_24 (by decide) ?_
    refine lv_goto (tgt := 44) hx hb dLogic_other_25 (by decide) ?_
    exact hE _ _ _ ⟨trivial, (by exact (hO.tr rfl).symm)⟩ dLogic_other_44
  refine lv_iload_n hx hb dLogic_other_0 rfl (lv_at hl 0 rfl) ?_
  refine lv_if_eq (tgt := 8) hx hb dLogic_other_1 (by decide) (fun c10 => ?_) (fun c10 => ?_)
  · refine lv_iconst (v := 0) hx hb dLogic_other_8 (by decide) ?_
    exact hE _ _ _ ⟨trivial, (by exact (hO.tr (if_pos c10)).symm)⟩ dLogic_other_9
  · refine lv_iload_n hx hb dLogic_other_4 rfl (lv_at hl 1 rfl) ?_
    refine lv_if_ne (tgt := 10) hx hb dLogic_other_5 (by decide) (fun c11 => ?_) (fun c11 => ?_)
    · refine lv_iload_n hx hb dLogic_other_10 rfl (lv_at hl 0 rfl) ?_
      refine pu_Si (rest := []) S hC (f_Logic_isClear l γ P x0) meLogic_isClear qw_dd402237cf ⟨Nat.le_of_ble_eq_true rfl, Nat.le_of_ble_eq_true rfl⟩ hI rfl hl.1 rfl (Nat.le_of_ble_eq_true rfl) dLogic_other_11 ⟨Nat.zero_le _, Nat.zero_le _⟩ (fun r12 hr12 => ?_)
      obtain ⟨hr12, er12⟩ := hr12
      refine lv_if_eq (tgt := 24) hx hb dLogic_other_14 (by decide) (fun c13 => ?_) (fun c13 => ?_)
      · exact J24 ls x0 x1 (by subst er12; exact hO.tr ((if_neg c10).trans ((if_neg c11).trans (if_pos c13)))) (lv_sub hl [0, 1] rfl)
      · refine lv_iload_n hx hb dLogic_other_17 rfl (lv_at hl 1 rfl) ?_
        refine pu_Si (rest := []) S hC (f_Logic_isClear l γ P x1) meLogic_isClear qw_dd402237cf ⟨Nat.le_of_ble_eq_true rfl, Nat.le_of_ble_eq_true rfl⟩ hI rfl hl.1 rfl (Nat.le_of_ble_eq_true rfl) dLogic_other_18 ⟨Nat.zero_le _, Nat.zero_le _⟩ (fun r14 hr14 => ?_)
        obtain ⟨hr14, er14⟩ := hr14
        refine lv_if_ne (tgt := 28) hx hb dLogic_other_21 (by decide) (fun c15 => ?_) (fun c15 => ?_)
        · refine lv_iload_n hx hb dLogic_other_28 rfl (lv_at hl 0 rfl) ?_
          refine pu_Si (rest := []) S hC (f_Logic_isHigh l γ P x0) meLogic_isHigh qw_b530a28374 ⟨Nat.le_of_ble_eq_true rfl, Nat.le_of_ble_eq_true rfl⟩ hI rfl hl.1 rfl (Nat.le_of_ble_eq_true rfl) dLogic_other_29 ⟨Nat.zero_le _, Nat.zero_le _⟩ (fun r16 hr16 => ?_)
          obtain ⟨hr16, er16⟩ := hr16
          refine lv_iload_n hx hb dLogic_other_32 rfl (lv_at hl 1 rfl) ?_
          refine pu_Si (rest := [.int r16]) S hC (f_Logic_isHigh l γ P x1) meLogic_isHigh qw_b530a28374 ⟨Nat.le_of_ble_eq_true rfl, Nat.le_of_ble_eq_true rfl⟩ hI rfl hl.1 rfl (Nat.le_of_ble_eq_true rfl) dLogic_other_33 ⟨Nat.zero_le _, Nat.zero_le _⟩ (fun r17 hr17 => ?_)
          obtain ⟨hr17, er17⟩ := hr17
          refine lv_icmp_eq (tgt := 43) hx hb dLogic_other_36 (by decide) (fun c18 => ?_) (fun c18 => ?_)
          · refine lv_iconst (v := 2) hx hb dLogic_other_43 (by decide) ?_
            exact hE _ _ _ ⟨trivial, (by subst er17 er16 er14 er12; exact (hO.tr ((if_neg c10).trans ((if_neg c11).trans ((if_neg c13).trans ((if_neg c15).trans (if_pos c18)))))).symm)⟩ dLogic_other_44
          · refine lv_iconst (v := 3) hx hb dLogic_other_39 (by decide) ?_
            refine lv_goto (tgt := 44) hx hb dLogic_other_40 (by decide) ?_
            exact hE _ _ _ ⟨trivial, (by subst er17 er16 er14 er12; exact (hO.tr ((if_neg c10).trans ((if_neg c11).trans ((if_neg c13).trans ((if_neg c15).trans (if_neg c18)))))).symm)⟩ dLogic_other_44
        · exact J24 ls x0 x1 (by subst er14 er12; exact hO.tr ((if_neg c10).trans ((if_neg c11).trans ((if_neg c13).trans (if_pos c15))))) (lv_sub hl [0, 1] rfl)
    · refine lv_iconst (v := 0) hx hb dLogic_other_8 (by decide) ?_
      exact hE _ _ _ ⟨trivial, (by exact (hO.tr ((if_neg c10).trans (if_pos c11))).symm)⟩ dLogic_other_9

def P_Logic_ofSigns  (x0 : Int32) (x1 : Int32) (x2 : Int32) : Int32 := (if x0 = 0 then (P_Logic_and x1 x2) else (if x0 = 1 then (P_Logic_or x1 x2) else (if x0 = 2 then (P_Logic_not (P_Logic_and x1 x2)) else (if x0 = 3 then (P_Logic_not (P_Logic_or x1 x2)) else (if x0 = 4 then (P_Logic_other x1 x2) else (P_Logic_not (P_Logic_other x1 x2)))))))
set_option maxHeartbeats 4000000 in
set_option maxRecDepth 100000 in
theorem f_Logic_ofSigns (l : Launch) (γ : gE) (P : Heap → Prop) (x0 : Int32) (x1 : Int32) (x2 : Int32)  : PU l yLogic_ofSigns bLogic_ofSigns 3 (some .int) 2 41 [.int x0, .int x1, .int x2] γ P (vp_Si (fun v : Int32 => (True) ∧ v = P_Logic_ofSigns  x0 x1 x2)) := by
  refine pu_openI (by decide) (Nat.le_of_ble_eq_true rfl) ?_
  intro p e s m args below meth c ls Q S hC hI hE hl
  obtain ⟨hx, hb, hml, hown, hW⟩ := id S
  have hl : lv_has ls 3 [(0, .int x0), (1, .int x1), (2, .int x2)] := hl
  obtain ⟨OUT, hQ, hO⟩ : ∃ z, (z = P_Logic_ofSigns  x0 x1 x2) ∧ Oq z (P_Logic_ofSigns  x0 x1 x2) := ⟨_, rfl, rfl⟩
  rw [← hQ] at hE
  clear hQ
  refine lv_iload_n hx hb dLogic_ofSigns_0 rfl (lv_at hl 0 rfl) ?_
  by_cases k15 : x0 = 0
  · rw [k15]
    refine lv_tableIn (tgt := 36) hx hb dLogic_ofSigns_1 (by decide) (by decide) rfl (by decide) ?_
    refine lv_iload_n hx hb dLogic_ofSigns_36 rfl (lv_at hl 1 rfl) ?_
    refine lv_iload_n hx hb dLogic_ofSigns_37 rfl (lv_at hl 2 rfl) ?_
    refine pu_Si (rest := []) S hC (f_Logic_and l γ P x1 x2) meLogic_and qw_216c0f4a68 ⟨Nat.le_of_ble_eq_true rfl, Nat.le_of_ble_eq_true rfl⟩ hI rfl hl.1 rfl (Nat.le_of_ble_eq_true rfl) dLogic_ofSigns_38 ⟨Nat.zero_le _, Nat.zero_le _⟩ (fun r16 hr16 => ?_)
    obtain ⟨hr16, er16⟩ := hr16
    exact hE _ _ _ ⟨trivial, (by subst er16; exact (hO.tr (if_pos k15)).symm)⟩ dLogic_ofSigns_41
  by_cases k17 : x0 = 1
  · rw [k17]
    refine lv_tableIn (tgt := 42) hx hb dLogic_ofSigns_1 (by decide) (by decide) rfl (by decide) ?_
    refine lv_iload_n hx hb dLogic_ofSigns_42 rfl (lv_at hl 1 rfl) ?_
    refine lv_iload_n hx hb dLogic_ofSigns_43 rfl (lv_at hl 2 rfl) ?_
    refine pu_Si (rest := []) S hC (f_Logic_or l γ P x1 x2) meLogic_or qw_675e585d2e ⟨Nat.le_of_ble_eq_true rfl, Nat.le_of_ble_eq_true rfl⟩ hI rfl hl.1 rfl (Nat.le_of_ble_eq_true rfl) dLogic_ofSigns_44 ⟨Nat.zero_le _, Nat.zero_le _⟩ (fun r18 hr18 => ?_)
    obtain ⟨hr18, er18⟩ := hr18
    exact hE _ _ _ ⟨trivial, (by subst er18; exact (hO.tr ((if_neg k15).trans (if_pos k17))).symm)⟩ dLogic_ofSigns_47
  by_cases k19 : x0 = 2
  · rw [k19]
    refine lv_tableIn (tgt := 48) hx hb dLogic_ofSigns_1 (by decide) (by decide) rfl (by decide) ?_
    refine lv_iload_n hx hb dLogic_ofSigns_48 rfl (lv_at hl 1 rfl) ?_
    refine lv_iload_n hx hb dLogic_ofSigns_49 rfl (lv_at hl 2 rfl) ?_
    refine pu_Si (rest := []) S hC (f_Logic_and l γ P x1 x2) meLogic_and qw_216c0f4a68 ⟨Nat.le_of_ble_eq_true rfl, Nat.le_of_ble_eq_true rfl⟩ hI rfl hl.1 rfl (Nat.le_of_ble_eq_true rfl) dLogic_ofSigns_50 ⟨Nat.zero_le _, Nat.zero_le _⟩ (fun r20 hr20 => ?_)
    obtain ⟨hr20, er20⟩ := hr20
    refine pu_Si (rest := []) S hC (f_Logic_not l γ P r20) meLogic_not qw_d35acbc9a6 ⟨Nat.le_of_ble_eq_true rfl, Nat.le_of_ble_eq_true rfl⟩ hI rfl hl.1 rfl (Nat.le_of_ble_eq_true rfl) dLogic_ofSigns_53 ⟨Nat.zero_le _, Nat.zero_le _⟩ (fun r21 hr21 => ?_)
    obtain ⟨hr21, er21⟩ := hr21
    exact hE _ _ _ ⟨trivial, (by subst er21 er20; exact (hO.tr ((if_neg k15).trans ((if_neg k17).trans (if_pos k19)))).symm)⟩ dLogic_ofSigns_56
  by_cases k22 : x0 = 3
  · rw [k22]
    refine lv_tableIn (tgt := 57) hx hb dLogic_ofSigns_1 (by decide) (by decide) rfl (by decide) ?_
    refine lv_iload_n hx hb dLogic_ofSigns_57 rfl (lv_at hl 1 rfl) ?_
    refine lv_iload_n hx hb dLogic_ofSigns_58 rfl (lv_at hl 2 rfl) ?_
    refine pu_Si (rest := []) S hC (f_Logic_or l γ P x1 x2) meLogic_or qw_675e585d2e ⟨Nat.le_of_ble_eq_true rfl, Nat.le_of_ble_eq_true rfl⟩ hI rfl hl.1 rfl (Nat.le_of_ble_eq_true rfl) dLogic_ofSigns_59 ⟨Nat.zero_le _, Nat.zero_le _⟩ (fun r23 hr23 => ?_)
    obtain ⟨hr23, er23⟩ := hr23
    refine pu_Si (rest := []) S hC (f_Logic_not l γ P r23) meLogic_not qw_d35acbc9a6 ⟨Nat.le_of_ble_eq_true rfl, Nat.le_of_ble_eq_true rfl⟩ hI rfl hl.1 rfl (Nat.le_of_ble_eq_true rfl) dLogic_ofSigns_62 ⟨Nat.zero_le _, Nat.zero_le _⟩ (fun r24 hr24 => ?_)
    obtain ⟨hr24, er24⟩ := hr24
    exact hE _ _ _ ⟨trivial, (by subst er24 er23; exact (hO.tr ((if_neg k15).trans ((if_neg k17).trans ((if_neg k19).trans (if_pos k22))))).symm)⟩ dLogic_ofSigns_65
  by_cases k25 : x0 = 4
  · rw [k25]
    refine lv_tableIn (tgt := 66) hx hb dLogic_ofSigns_1 (by decide) (by decide) rfl (by decide) ?_
    refine lv_iload_n hx hb dLogic_ofSigns_66 rfl (lv_at hl 1 rfl) ?_
    refine lv_iload_n hx hb dLogic_ofSigns_67 rfl (lv_at hl 2 rfl) ?_
    refine pu_Si (rest := []) S hC (f_Logic_other l γ P x1 x2) meLogic_other qw_caa7fb3dc0 ⟨Nat.le_of_ble_eq_true rfl, Nat.le_of_ble_eq_true rfl⟩ hI rfl hl.1 rfl (Nat.le_of_ble_eq_true rfl) dLogic_ofSigns_68 ⟨Nat.zero_le _, Nat.zero_le _⟩ (fun r26 hr26 => ?_)
    obtain ⟨hr26, er26⟩ := hr26
    exact hE _ _ _ ⟨trivial, (by subst er26; exact (hO.tr ((if_neg k15).trans ((if_neg k17).trans ((if_neg k19).trans ((if_neg k22).trans (if_pos k25)))))).symm)⟩ dLogic_ofSigns_71
  refine lv_tableOut (tgt := 72) hx hb dLogic_ofSigns_1 (by have qk15 := lv_neT (a := 0) k15 (by decide); have qk17 := lv_neT (a := 1) k17 (by decide); have qk19 := lv_neT (a := 2) k19 (by decide); have qk22 := lv_neT (a := 3) k22 (by decide); have qk25 := lv_neT (a := 4) k25 (by decide); omega) (by decide) ?_
  refine lv_iload_n hx hb dLogic_ofSigns_72 rfl (lv_at hl 1 rfl) ?_
  refine lv_iload_n hx hb dLogic_ofSigns_73 rfl (lv_at hl 2 rfl) ?_
  refine pu_Si (rest := []) S hC (f_Logic_other l γ P x1 x2) meLogic_other qw_caa7fb3dc0 ⟨Nat.le_of_ble_eq_true rfl, Nat.le_of_ble_eq_true rfl⟩ hI rfl hl.1 rfl (Nat.le_of_ble_eq_true rfl) dLogic_ofSigns_74 ⟨Nat.zero_le _, Nat.zero_le _⟩ (fun r27 hr27 => ?_)
  obtain ⟨hr27, er27⟩ := hr27
  refine pu_Si (rest := []) S hC (f_Logic_not l γ P r27) meLogic_not qw_d35acbc9a6 ⟨Nat.le_of_ble_eq_true rfl, Nat.le_of_ble_eq_true rfl⟩ hI rfl hl.1 rfl (Nat.le_of_ble_eq_true rfl) dLogic_ofSigns_77 ⟨Nat.zero_le _, Nat.zero_le _⟩ (fun r28 hr28 => ?_)
  obtain ⟨hr28, er28⟩ := hr28
  exact hE _ _ _ ⟨trivial, (by subst er28 er27; exact (hO.tr ((if_neg k15).trans ((if_neg k17).trans ((if_neg k19).trans ((if_neg k22).trans (if_neg k25)))))).symm)⟩ dLogic_ofSigns_80
def P_Logic_ofTruths_58  (i0 : Int32) (i1 : Int32) (i2 : Int32) : Int32 := 1
def P_Logic_ofTruths_72  (i0 : Int32) (i1 : Int32) (i2 : Int32) : Int32 := 1
def P_Logic_ofTruths  (x0 : Int32) (x1 : Int32) (x2 : Int32) : Int32 := (if x0 = 0 then (if x1 = 0 then 0 else (if x2 = 0 then 0 else 1)) else (if x0 = 1 then (if x1 = 0 then (if x2 = 0 then 0 else (P_Logic_ofTruths_58   x0 x1 x2)) else (P_Logic_ofTruths_58   x0 x1 x2)) else (if x0 = 2 then (if x1 = 0 then (P_Logic_ofTruths_72   x0 x1 x2) else (if x2 = 0 then (P_Logic_ofTruths_72   x0 x1 x2) else 0)) else (if x0 = 3 then (if x1 = 0 then (if x2 = 0 then 1 else 0) else 0) else (if x0 = 4 then (if x1 = x2 then 0 else 1) else (if x1 = x2 then 1 else 0))))))
set_option maxHeartbeats 4000000 in
set_option maxRecDepth 100000 in
theorem f_Logic_ofTruths (l : Launch) (γ : gE) (P : Heap → Prop) (x0 : Int32) (x1 : Int32) (x2 : Int32)  : PU l yLogic_ofTruths bLogic_ofTruths 3 (some .boolean) 0 0 [.int x0, .int x1, .int x2] γ P (vp_Si (fun v : Int32 => (True) ∧ v = P_Logic_ofTruths  x0 x1 x2)) := by
  refine pu_openZ (by decide) (Nat.le_of_ble_eq_true rfl) ?_
  intro p e s m args below meth c ls Q S hC hI hE hl
  obtain ⟨hx, hb, hml, hown, hW⟩ := id S
  have hl : lv_has ls 3 [(0, .int x0), (1, .int x1), (2, .int x2)] := hl
  obtain ⟨OUT, hQ, hO⟩ : ∃ z, (z = P_Logic_ofTruths  x0 x1 x2) ∧ Oq z (P_Logic_ofTruths  x0 x1 x2) := ⟨_, rfl, rfl⟩
  rw [← hQ] at hE
  clear hQ
  have J72 : ∀ (ls : Array Slot)  (i0 : Int32) (i1 : Int32) (i2 : Int32), (Oq OUT (P_Logic_ofTruths_72    i0 i1 i2)) → lv_has ls 3 [(0, .int i0), (1, .int i1), (2, .int i2)] → W p l e (bs_rm 0 0 0 0) s m args below meth c s.heap [] 0 0 Q (F0 m 72 ls []) := by
    intro ls  i0 i1 i2 hO hl
    refine lv_iconst (v := 1) hx hb dLogic_ofTruths_72 (by decide) ?_
    refine lv_goto (tgt := 77) hx hb dLogic_ofTruths_73 (by decide) ?_
    exact hE _ _ _ rfl ⟨trivial, (by exact (hO.tr rfl).symm)⟩ dLogic_ofTruths_77
  have J58 : ∀ (ls : Array Slot)  (i0 : Int32) (i1 : Int32) (i2 : Int32), (Oq OUT (P_Logic_ofTruths_58    i0 i1 i2)) → lv_has ls 3 [(0, .int i0), (1, .int i1), (2, .int i2)] → W p l e (bs_rm 0 0 0 0) s m args below meth c s.heap [] 0 0 Q (F0 m 58 ls []) := by
    intro ls  i0 i1 i2 hO hl
    refine lv_iconst (v := 1) hx hb dLogic_ofTruths_58 (by decide) ?_
    refine lv_goto (tgt := 63) hx hb dLogic_ofTruths_59 (by decide) ?_
    exact hE _ _ _ rfl ⟨trivial, (by exact (hO.tr rfl).symm)⟩ dLogic_ofTruths_63
  refine lv_iload_n hx hb dLogic_ofTruths_0 rfl (lv_at hl 0 rfl) ?_
  by_cases k16 : x0 = 0
  · rw [k16]
    refine lv_tableIn (tgt := 36) hx hb dLogic_ofTruths_1 (by decide) (by decide) rfl (by decide) ?_
    refine lv_iload_n hx hb dLogic_ofTruths_36 rfl (lv_at hl 1 rfl) ?_
    refine lv_if_eq (tgt := 48) hx hb dLogic_ofTruths_37 (by decide) (fun c17 => ?_) (fun c17 => ?_)
    · refine lv_iconst (v := 0) hx hb dLogic_ofTruths_48 (by decide) ?_
      exact hE _ _ _ rfl ⟨trivial, (by exact (hO.tr ((if_pos k16).trans (if_pos c17))).symm)⟩ dLogic_ofTruths_49
    · refine lv_iload_n hx hb dLogic_ofTruths_40 rfl (lv_at hl 2 rfl) ?_
      refine lv_if_eq (tgt := 48) hx hb dLogic_ofTruths_41 (by decide) (fun c18 => ?_) (fun c18 => ?_)
      · refine lv_iconst (v := 0) hx hb dLogic_ofTruths_48 (by decide) ?_
        exact hE _ _ _ rfl ⟨trivial, (by exact (hO.tr ((if_pos k16).trans ((if_neg c17).trans (if_pos c18)))).symm)⟩ dLogic_ofTruths_49
      · refine lv_iconst (v := 1) hx hb dLogic_ofTruths_44 (by decide) ?_
        refine lv_goto (tgt := 49) hx hb dLogic_ofTruths_45 (by decide) ?_
        exact hE _ _ _ rfl ⟨trivial, (by exact (hO.tr ((if_pos k16).trans ((if_neg c17).trans (if_neg c18)))).symm)⟩ dLogic_ofTruths_49
  by_cases k19 : x0 = 1
  · rw [k19]
    refine lv_tableIn (tgt := 50) hx hb dLogic_ofTruths_1 (by decide) (by decide) rfl (by decide) ?_
    refine lv_iload_n hx hb dLogic_ofTruths_50 rfl (lv_at hl 1 rfl) ?_
    refine lv_if_ne (tgt := 58) hx hb dLogic_ofTruths_51 (by decide) (fun c20 => ?_) (fun c20 => ?_)
    · exact J58 ls x0 x1 x2 (by exact hO.tr ((if_neg k16).trans ((if_pos k19).trans (if_neg c20)))) (lv_sub hl [0, 1, 2] rfl)
    · refine lv_iload_n hx hb dLogic_ofTruths_54 rfl (lv_at hl 2 rfl) ?_
      refine lv_if_eq (tgt := 62) hx hb dLogic_ofTruths_55 (by decide) (fun c21 => ?_) (fun c21 => ?_)
      · refine lv_iconst (v := 0) hx hb dLogic_ofTruths_62 (by decide) ?_
        exact hE _ _ _ rfl ⟨trivial, (by exact (hO.tr ((if_neg k16).trans ((if_pos k19).trans ((if_pos c20).trans (if_pos c21))))).symm)⟩ dLogic_ofTruths_63
      · exact J58 ls x0 x1 x2 (by exact hO.tr ((if_neg k16).trans ((if_pos k19).trans ((if_pos c20).trans (if_neg c21))))) (lv_sub hl [0, 1, 2] rfl)
  by_cases k22 : x0 = 2
  · rw [k22]
    refine lv_tableIn (tgt := 64) hx hb dLogic_ofTruths_1 (by decide) (by decide) rfl (by decide) ?_
    refine lv_iload_n hx hb dLogic_ofTruths_64 rfl (lv_at hl 1 rfl) ?_
    refine lv_if_eq (tgt := 72) hx hb dLogic_ofTruths_65 (by decide) (fun c23 => ?_) (fun c23 => ?_)
    · exact J72 ls x0 x1 x2 (by exact hO.tr ((if_neg k16).trans ((if_neg k19).trans ((if_pos k22).trans (if_pos c23))))) (lv_sub hl [0, 1, 2] rfl)
    · refine lv_iload_n hx hb dLogic_ofTruths_68 rfl (lv_at hl 2 rfl) ?_
      refine lv_if_ne (tgt := 76) hx hb dLogic_ofTruths_69 (by decide) (fun c24 => ?_) (fun c24 => ?_)
      · refine lv_iconst (v := 0) hx hb dLogic_ofTruths_76 (by decide) ?_
        exact hE _ _ _ rfl ⟨trivial, (by exact (hO.tr ((if_neg k16).trans ((if_neg k19).trans ((if_pos k22).trans ((if_neg c23).trans (if_neg c24)))))).symm)⟩ dLogic_ofTruths_77
      · exact J72 ls x0 x1 x2 (by exact hO.tr ((if_neg k16).trans ((if_neg k19).trans ((if_pos k22).trans ((if_neg c23).trans (if_pos c24)))))) (lv_sub hl [0, 1, 2] rfl)
  by_cases k25 : x0 = 3
  · rw [k25]
    refine lv_tableIn (tgt := 78) hx hb dLogic_ofTruths_1 (by decide) (by decide) rfl (by decide) ?_
    refine lv_iload_n hx hb dLogic_ofTruths_78 rfl (lv_at hl 1 rfl) ?_
    refine lv_if_ne (tgt := 90) hx hb dLogic_ofTruths_79 (by decide) (fun c26 => ?_) (fun c26 => ?_)
    · refine lv_iconst (v := 0) hx hb dLogic_ofTruths_90 (by decide) ?_
      exact hE _ _ _ rfl ⟨trivial, (by exact (hO.tr ((if_neg k16).trans ((if_neg k19).trans ((if_neg k22).trans ((if_pos k25).trans (if_neg c26)))))).symm)⟩ dLogic_ofTruths_91
    · refine lv_iload_n hx hb dLogic_ofTruths_82 rfl (lv_at hl 2 rfl) ?_
      refine lv_if_ne (tgt := 90) hx hb dLogic_ofTruths_83 (by decide) (fun c27 => ?_) (fun c27 => ?_)
      · refine lv_iconst (v := 0) hx hb dLogic_ofTruths_90 (by decide) ?_
        exact hE _ _ _ rfl ⟨trivial, (by exact (hO.tr ((if_neg k16).trans ((if_neg k19).trans ((if_neg k22).trans ((if_pos k25).trans ((if_pos c26).trans (if_neg c27))))))).symm)⟩ dLogic_ofTruths_91
      · refine lv_iconst (v := 1) hx hb dLogic_ofTruths_86 (by decide) ?_
        refine lv_goto (tgt := 91) hx hb dLogic_ofTruths_87 (by decide) ?_
        exact hE _ _ _ rfl ⟨trivial, (by exact (hO.tr ((if_neg k16).trans ((if_neg k19).trans ((if_neg k22).trans ((if_pos k25).trans ((if_pos c26).trans (if_pos c27))))))).symm)⟩ dLogic_ofTruths_91
  by_cases k28 : x0 = 4
  · rw [k28]
    refine lv_tableIn (tgt := 92) hx hb dLogic_ofTruths_1 (by decide) (by decide) rfl (by decide) ?_
    refine lv_iload_n hx hb dLogic_ofTruths_92 rfl (lv_at hl 1 rfl) ?_
    refine lv_iload_n hx hb dLogic_ofTruths_93 rfl (lv_at hl 2 rfl) ?_
    refine lv_icmp_eq (tgt := 101) hx hb dLogic_ofTruths_94 (by decide) (fun c29 => ?_) (fun c29 => ?_)
    · refine lv_iconst (v := 0) hx hb dLogic_ofTruths_101 (by decide) ?_
      exact hE _ _ _ rfl ⟨trivial, (by exact (hO.tr ((if_neg k16).trans ((if_neg k19).trans ((if_neg k22).trans ((if_neg k25).trans ((if_pos k28).trans (if_pos c29))))))).symm)⟩ dLogic_ofTruths_102
    · refine lv_iconst (v := 1) hx hb dLogic_ofTruths_97 (by decide) ?_
      refine lv_goto (tgt := 102) hx hb dLogic_ofTruths_98 (by decide) ?_
      exact hE _ _ _ rfl ⟨trivial, (by exact (hO.tr ((if_neg k16).trans ((if_neg k19).trans ((if_neg k22).trans ((if_neg k25).trans ((if_pos k28).trans (if_neg c29))))))).symm)⟩ dLogic_ofTruths_102
  refine lv_tableOut (tgt := 103) hx hb dLogic_ofTruths_1 (by have qk16 := lv_neT (a := 0) k16 (by decide); have qk19 := lv_neT (a := 1) k19 (by decide); have qk22 := lv_neT (a := 2) k22 (by decide); have qk25 := lv_neT (a := 3) k25 (by decide); have qk28 := lv_neT (a := 4) k28 (by decide); omega) (by decide) ?_
  refine lv_iload_n hx hb dLogic_ofTruths_103 rfl (lv_at hl 1 rfl) ?_
  refine lv_iload_n hx hb dLogic_ofTruths_104 rfl (lv_at hl 2 rfl) ?_
  refine lv_icmp_ne (tgt := 112) hx hb dLogic_ofTruths_105 (by decide) (fun c30 => ?_) (fun c30 => ?_)
  · refine lv_iconst (v := 0) hx hb dLogic_ofTruths_112 (by decide) ?_
    exact hE _ _ _ rfl ⟨trivial, (by exact (hO.tr ((if_neg k16).trans ((if_neg k19).trans ((if_neg k22).trans ((if_neg k25).trans ((if_neg k28).trans (if_neg c30))))))).symm)⟩ dLogic_ofTruths_113
  · refine lv_iconst (v := 1) hx hb dLogic_ofTruths_108 (by decide) ?_
    refine lv_goto (tgt := 113) hx hb dLogic_ofTruths_109 (by decide) ?_
    exact hE _ _ _ rfl ⟨trivial, (by exact (hO.tr ((if_neg k16).trans ((if_neg k19).trans ((if_neg k22).trans ((if_neg k25).trans ((if_neg k28).trans (if_pos c30))))))).symm)⟩ dLogic_ofTruths_113

def P_Trees_bearsName_29  (i0 : Int32) : Int32 := 1
def P_Trees_bearsName_23  (i0 : Int32) : Int32 := (if i0 = 53 then (P_Trees_bearsName_29   i0) else 0)
def P_Trees_bearsName  (x0 : Int32) : Int32 := (if x0 = 1 then (P_Trees_bearsName_29   x0) else (if x0 = 10 then (P_Trees_bearsName_29   x0) else (if x0 < 22 then (P_Trees_bearsName_23   x0) else (if x0 ≤ 25 then (P_Trees_bearsName_29   x0) else (P_Trees_bearsName_23   x0)))))
set_option maxHeartbeats 4000000 in
set_option maxRecDepth 100000 in
theorem f_Trees_bearsName (l : Launch) (γ : gE) (P : Heap → Prop) (x0 : Int32)  : PU l yTrees_bearsName bTrees_bearsName 1 (some .boolean) 0 0 [.int x0] γ P (vp_Si (fun v : Int32 => ((v = 1 ∧ BN x0) ∨ (v = 0 ∧ ¬ BN x0)) ∧ v = P_Trees_bearsName  x0)) := by
  refine pu_openZ (by decide) (Nat.le_of_ble_eq_true rfl) ?_
  intro p e s m args below meth c ls Q S hC hI hE hl
  obtain ⟨hx, hb, hml, hown, hW⟩ := id S
  have hl : lv_has ls 1 [(0, .int x0)] := hl
  obtain ⟨OUT, hQ, hO⟩ : ∃ z, (z = P_Trees_bearsName  x0) ∧ Oq z (P_Trees_bearsName  x0) := ⟨_, rfl, rfl⟩
  rw [← hQ] at hE
  clear hQ
  have J29 : ∀ (ls : Array Slot)  (i0 : Int32), (BN x0) → (Oq OUT (P_Trees_bearsName_29    i0)) → lv_has ls 1 [(0, .int i0)] → W p l e (bs_rm 0 0 0 0) s m args below meth c s.heap [] 0 0 Q (F0 m 29 ls []) := by
    intro ls  i0 h29 hO hl
    refine lv_iconst (v := 1) hx hb dTrees_bearsName_29 (by decide) ?_
    refine lv_goto (tgt := 34) hx hb dTrees_bearsName_30 (by decide) ?_
    exact hE _ _ _ rfl ⟨(by first | exact Or.inl ⟨rfl, h29⟩ | exact Or.inr ⟨rfl, fun h9 => by rcases h9 with h9 | h9 | h9 | h9; exact n1 h9; exact n2 h9; exact n3 h9; exact absurd (e0.trans h9) (by assumption)⟩), (by exact (hO.tr rfl).symm)⟩ dTrees_bearsName_34
  have J23 : ∀ (ls : Array Slot)  (i0 : Int32), (i0 = x0) → (¬ x0 = 1) → (¬ x0 = 10) → (¬ (¬ x0 < 22 ∧ x0 ≤ 25)) → (Oq OUT (P_Trees_bearsName_23    i0)) → lv_has ls 1 [(0, .int i0)] → W p l e (bs_rm 0 0 0 0) s m args below meth c s.heap [] 0 0 Q (F0 m 23 ls []) := by
    intro ls  i0 e0 n1 n2 n3 hO hl
    refine lv_iload_n hx hb dTrees_bearsName_23 rfl (lv_at hl 0 rfl) ?_
    refine lv_bipush (v := 53) hx hb dTrees_bearsName_24 (by decide) ?_
    refine lv_icmp_ne (tgt := 33) hx hb dTrees_bearsName_26 (by decide) (fun c6 => ?_) (fun c6 => ?_)
    · refine lv_iconst (v := 0) hx hb dTrees_bearsName_33 (by decide) ?_
      exact hE _ _ _ rfl ⟨(by first | exact Or.inl ⟨rfl, h29⟩ | exact Or.inr ⟨rfl, fun h9 => by rcases h9 with h9 | h9 | h9 | h9; exact n1 h9; exact n2 h9; exact n3 h9; exact absurd (e0.trans h9) (by assumption)⟩), (by exact (hO.tr (if_neg c6)).symm)⟩ dTrees_bearsName_34
    · exact J29 ls i0 (by first | exact Or.inl (by assumption) | exact Or.inr (Or.inl (by assumption)) | exact Or.inr (Or.inr (Or.inl ⟨by assumption, by assumption⟩)) | exact Or.inr (Or.inr (Or.inr (by rw [← e0]; assumption)))) (by exact hO.tr (if_pos c6)) (lv_sub hl [0] rfl)
  refine lv_iload_n hx hb dTrees_bearsName_0 rfl (lv_at hl 0 rfl) ?_
  refine lv_iconst (v := 1) hx hb dTrees_bearsName_1 (by decide) ?_
  refine lv_icmp_eq (tgt := 29) hx hb dTrees_bearsName_2 (by decide) (fun c7 => ?_) (fun c7 => ?_)
  · exact J29 ls x0 (by first | exact Or.inl (by assumption) | exact Or.inr (Or.inl (by assumption)) | exact Or.inr (Or.inr (Or.inl ⟨by assumption, by assumption⟩)) | exact Or.inr (Or.inr (Or.inr (by rw [← e0]; assumption)))) (by exact hO.tr (if_pos c7)) (lv_sub hl [0] rfl)
  · refine lv_iload_n hx hb dTrees_bearsName_5 rfl (lv_at hl 0 rfl) ?_
    refine lv_bipush (v := 10) hx hb dTrees_bearsName_6 (by decide) ?_
    refine lv_icmp_eq (tgt := 29) hx hb dTrees_bearsName_8 (by decide) (fun c8 => ?_) (fun c8 => ?_)
    · exact J29 ls x0 (by first | exact Or.inl (by assumption) | exact Or.inr (Or.inl (by assumption)) | exact Or.inr (Or.inr (Or.inl ⟨by assumption, by assumption⟩)) | exact Or.inr (Or.inr (Or.inr (by rw [← e0]; assumption)))) (by exact hO.tr ((if_neg c7).trans (if_pos c8))) (lv_sub hl [0] rfl)
    · refine lv_iload_n hx hb dTrees_bearsName_11 rfl (lv_at hl 0 rfl) ?_
      refine lv_bipush (v := 22) hx hb dTrees_bearsName_12 (by decide) ?_
      refine lv_icmp_lt (tgt := 23) hx hb dTrees_bearsName_14 (by decide) (fun c9 => ?_) (fun c9 => ?_)
      · exact J23 ls x0 rfl (by assumption) (by assumption) (by first | exact (fun h9 => h9.1 (by assumption)) | exact (fun h9 => absurd h9.2 (by assumption))) (by exact hO.tr ((if_neg c7).trans ((if_neg c8).trans (if_pos c9)))) (lv_sub hl [0] rfl)
      · refine lv_iload_n hx hb dTrees_bearsName_17 rfl (lv_at hl 0 rfl) ?_
        refine lv_bipush (v := 25) hx hb dTrees_bearsName_18 (by decide) ?_
        refine lv_icmp_le (tgt := 29) hx hb dTrees_bearsName_20 (by decide) (fun c10 => ?_) (fun c10 => ?_)
        · exact J29 ls x0 (by first | exact Or.inl (by assumption) | exact Or.inr (Or.inl (by assumption)) | exact Or.inr (Or.inr (Or.inl ⟨by assumption, by assumption⟩)) | exact Or.inr (Or.inr (Or.inr (by rw [← e0]; assumption)))) (by exact hO.tr ((if_neg c7).trans ((if_neg c8).trans ((if_neg c9).trans (if_pos c10))))) (lv_sub hl [0] rfl)
        · exact J23 ls x0 rfl (by assumption) (by assumption) (by first | exact (fun h9 => h9.1 (by assumption)) | exact (fun h9 => absurd h9.2 (by assumption))) (by exact hO.tr ((if_neg c7).trans ((if_neg c8).trans ((if_neg c9).trans (if_neg c10))))) (lv_sub hl [0] rfl)

def P_TypeBook_isName  (x0 : Int32) : Int32 := (if x0 < 0 then 0 else (if 9999 < x0 then 0 else 1))
set_option maxHeartbeats 4000000 in
set_option maxRecDepth 100000 in
theorem f_TypeBook_isName (l : Launch) (γ : gE) (P : Heap → Prop) (x0 : Int32)  : PU l yTypeBook_isName bTypeBook_isName 1 (some .boolean) 0 0 [.int x0] γ P (vp_Si (fun v : Int32 => ((v = 1 ∧ GNm x0) ∨ (v = 0 ∧ ¬ GNm x0)) ∧ v = P_TypeBook_isName  x0)) := by
  refine pu_openZ (by decide) (Nat.le_of_ble_eq_true rfl) ?_
  intro p e s m args below meth c ls Q S hC hI hE hl
  obtain ⟨hx, hb, hml, hown, hW⟩ := id S
  have hl : lv_has ls 1 [(0, .int x0)] := hl
  obtain ⟨OUT, hQ, hO⟩ : ∃ z, (z = P_TypeBook_isName  x0) ∧ Oq z (P_TypeBook_isName  x0) := ⟨_, rfl, rfl⟩
  rw [← hQ] at hE
  clear hQ
  refine lv_iload_n hx hb dTypeBook_isName_0 rfl (lv_at hl 0 rfl) ?_
  refine lv_if_lt (tgt := 15) hx hb dTypeBook_isName_1 (by decide) (fun c3 => ?_) (fun c3 => ?_)
  · refine lv_iconst (v := 0) hx hb dTypeBook_isName_15 (by decide) ?_
    exact hE _ _ _ rfl ⟨(by first | exact Or.inl ⟨rfl, by assumption, by assumption⟩ | exact Or.inr ⟨rfl, fun h9 => h9.1 (by assumption)⟩ | exact Or.inr ⟨rfl, fun h9 => h9.2 (by assumption)⟩), (by exact (hO.tr (if_pos c3)).symm)⟩ dTypeBook_isName_16
  · refine lv_iload_n hx hb dTypeBook_isName_4 rfl (lv_at hl 0 rfl) ?_
    refine lv_sipush (v := 9999) hx hb dTypeBook_isName_5 (by decide) ?_
    refine lv_icmp_gt (tgt := 15) hx hb dTypeBook_isName_8 (by decide) (fun c4 => ?_) (fun c4 => ?_)
    · refine lv_iconst (v := 0) hx hb dTypeBook_isName_15 (by decide) ?_
      exact hE _ _ _ rfl ⟨(by first | exact Or.inl ⟨rfl, by assumption, by assumption⟩ | exact Or.inr ⟨rfl, fun h9 => h9.1 (by assumption)⟩ | exact Or.inr ⟨rfl, fun h9 => h9.2 (by assumption)⟩), (by exact (hO.tr ((if_neg c3).trans (if_pos c4))).symm)⟩ dTypeBook_isName_16
    · refine lv_iconst (v := 1) hx hb dTypeBook_isName_11 (by decide) ?_
      refine lv_goto (tgt := 16) hx hb dTypeBook_isName_12 (by decide) ?_
      exact hE _ _ _ rfl ⟨(by first | exact Or.inl ⟨rfl, by assumption, by assumption⟩ | exact Or.inr ⟨rfl, fun h9 => h9.1 (by assumption)⟩ | exact Or.inr ⟨rfl, fun h9 => h9.2 (by assumption)⟩), (by exact (hO.tr ((if_neg c3).trans (if_neg c4))).symm)⟩ dTypeBook_isName_16

def P_Looker_earlier_8  (i0 : Int32) (i1 : Int32) : Int32 := (if i0 = 0 then i1 else i0)
def P_Looker_earlier  (x0 : Int32) (x1 : Int32) : Int32 := (if x0 = 0 then (P_Looker_earlier_8   x0 x1) else (if x1 = 0 then (P_Looker_earlier_8   x0 x1) else (if (x1 - x1 / 11 * 11) < (x0 - x0 / 11 * 11) then x1 else x0)))
set_option maxHeartbeats 4000000 in
set_option maxRecDepth 100000 in
theorem f_Looker_earlier (l : Launch) (γ : gE) (P : Heap → Prop) (x0 : Int32) (x1 : Int32)  : PU l yLooker_earlier bLooker_earlier 2 (some .int) 0 0 [.int x0, .int x1] γ P (vp_Si (fun v : Int32 => (True) ∧ v = P_Looker_earlier  x0 x1)) := by
  refine pu_openI (by decide) (Nat.le_of_ble_eq_true rfl) ?_
  intro p e s m args below meth c ls Q S hC hI hE hl
  obtain ⟨hx, hb, hml, hown, hW⟩ := id S
  have hl : lv_has ls 2 [(0, .int x0), (1, .int x1)] := hl
  obtain ⟨OUT, hQ, hO⟩ : ∃ z, (z = P_Looker_earlier  x0 x1) ∧ Oq z (P_Looker_earlier  x0 x1) := ⟨_, rfl, rfl⟩
  rw [← hQ] at hE
  clear hQ
  have J8 : ∀ (ls : Array Slot)  (i0 : Int32) (i1 : Int32), (Oq OUT (P_Looker_earlier_8    i0 i1)) → lv_has ls 2 [(0, .int i0), (1, .int i1)] → W p l e (bs_rm 0 0 0 0) s m args below meth c s.heap [] 0 0 Q (F0 m 8 ls []) := by
    intro ls  i0 i1 hO hl
    refine lv_iload_n hx hb dLooker_earlier_8 rfl (lv_at hl 0 rfl) ?_
    refine lv_if_ne (tgt := 16) hx hb dLooker_earlier_9 (by decide) (fun c7 => ?_) (fun c7 => ?_)
    · refine lv_iload_n hx hb dLooker_earlier_16 rfl (lv_at hl 0 rfl) ?_
      exact hE _ _ _ ⟨trivial, (by exact (hO.tr (if_neg c7)).symm)⟩ dLooker_earlier_17
    · refine lv_iload_n hx hb dLooker_earlier_12 rfl (lv_at hl 1 rfl) ?_
      refine lv_goto (tgt := 17) hx hb dLooker_earlier_13 (by decide) ?_
      exact hE _ _ _ ⟨trivial, (by exact (hO.tr (if_pos c7)).symm)⟩ dLooker_earlier_17
  refine lv_iload_n hx hb dLooker_earlier_0 rfl (lv_at hl 0 rfl) ?_
  refine lv_if_eq (tgt := 8) hx hb dLooker_earlier_1 (by decide) (fun c8 => ?_) (fun c8 => ?_)
  · exact J8 ls x0 x1 (by exact hO.tr (if_pos c8)) (lv_sub hl [0, 1] rfl)
  · refine lv_iload_n hx hb dLooker_earlier_4 rfl (lv_at hl 1 rfl) ?_
    refine lv_if_ne (tgt := 18) hx hb dLooker_earlier_5 (by decide) (fun c9 => ?_) (fun c9 => ?_)
    · refine lv_iload_n hx hb dLooker_earlier_18 rfl (lv_at hl 0 rfl) ?_
      refine lv_bipush (v := 11) hx hb dLooker_earlier_19 (by decide) ?_
      refine lv_irem hx hb dLooker_earlier_21 (by decide) ?_
      refine lv_topi (fun v10 ev10 => ?_)
      refine lv_iload_n hx hb dLooker_earlier_22 rfl (lv_at hl 1 rfl) ?_
      refine lv_bipush (v := 11) hx hb dLooker_earlier_23 (by decide) ?_
      refine lv_irem hx hb dLooker_earlier_25 (by decide) ?_
      refine lv_topi (fun v11 ev11 => ?_)
      refine lv_icmp_gt (tgt := 33) hx hb dLooker_earlier_26 (by decide) (fun c12 => ?_) (fun c12 => ?_)
      · refine lv_iload_n hx hb dLooker_earlier_33 rfl (lv_at hl 1 rfl) ?_
        exact hE _ _ _ ⟨trivial, (by subst ev11 ev10; exact (hO.tr ((if_neg c8).trans ((if_neg c9).trans (if_pos c12)))).symm)⟩ dLooker_earlier_34
      · refine lv_iload_n hx hb dLooker_earlier_29 rfl (lv_at hl 0 rfl) ?_
        refine lv_goto (tgt := 34) hx hb dLooker_earlier_30 (by decide) ?_
        exact hE _ _ _ ⟨trivial, (by subst ev11 ev10; exact (hO.tr ((if_neg c8).trans ((if_neg c9).trans (if_neg c12)))).symm)⟩ dLooker_earlier_34
    · exact J8 ls x0 x1 (by exact hO.tr ((if_neg c8).trans (if_pos c9))) (lv_sub hl [0, 1] rfl)

def P_Looker_elementsOf  (x0 : Int32) (x1 : Int64) (x3 : Int64) : Int64 := (if x0 = 12 then ((x3 - x1) + 1) else ((x1 - x3) + 1))
set_option maxHeartbeats 4000000 in
set_option maxRecDepth 100000 in
theorem f_Looker_elementsOf (l : Launch) (γ : gE) (P : Heap → Prop) (x0 : Int32) (x1 : Int64) (x3 : Int64)  : PU l yLooker_elementsOf bLooker_elementsOf 5 (some .long) 0 0 [.int x0, .long x1, .long x3] γ P (vp_Sl (fun v : Int64 => (True) ∧ v = P_Looker_elementsOf  x0 x1 x3)) := by
  refine pu_openJ (by decide) (Nat.le_of_ble_eq_true rfl) ?_
  intro p e s m args below meth c ls Q S hC hI hE hl
  obtain ⟨hx, hb, hml, hown, hW⟩ := id S
  have hl : lv_has ls 5 [(0, .int x0), (1, .long x1), (3, .long x3)] := hl
  obtain ⟨OUT, hQ, hO⟩ : ∃ z, (z = P_Looker_elementsOf  x0 x1 x3) ∧ Oq z (P_Looker_elementsOf  x0 x1 x3) := ⟨_, rfl, rfl⟩
  rw [← hQ] at hE
  clear hQ
  refine lv_iload_n hx hb dLooker_elementsOf_0 rfl (lv_at hl 0 rfl) ?_
  refine lv_bipush (v := 12) hx hb dLooker_elementsOf_1 (by decide) ?_
  refine lv_icmp_ne (tgt := 14) hx hb dLooker_elementsOf_3 (by decide) (fun c6 => ?_) (fun c6 => ?_)
  · refine lv_lload_n hx hb dLooker_elementsOf_14 rfl (lv_at hl 1 rfl) ?_
    refine lv_lload_n hx hb dLooker_elementsOf_15 rfl (lv_at hl 2 rfl) ?_
    refine lv_lsub hx hb dLooker_elementsOf_16 ?_
    refine lv_topl (fun v7 ev7 => ?_)
    refine lv_lconst (v := 1) hx hb dLooker_elementsOf_17 (by decide) ?_
    refine lv_ladd hx hb dLooker_elementsOf_18 ?_
    refine lv_topl (fun v8 ev8 => ?_)
    exact hE _ _ _ ⟨trivial, (by subst ev8 ev7; exact (hO.tr (if_neg c6)).symm)⟩ dLooker_elementsOf_19
  · refine lv_lload_n hx hb dLooker_elementsOf_6 rfl (lv_at hl 2 rfl) ?_
    refine lv_lload_n hx hb dLooker_elementsOf_7 rfl (lv_at hl 1 rfl) ?_
    refine lv_lsub hx hb dLooker_elementsOf_8 ?_
    refine lv_topl (fun v9 ev9 => ?_)
    refine lv_lconst (v := 1) hx hb dLooker_elementsOf_9 (by decide) ?_
    refine lv_ladd hx hb dLooker_elementsOf_10 ?_
    refine lv_topl (fun v10 ev10 => ?_)
    refine lv_goto (tgt := 19) hx hb dLooker_elementsOf_11 (by decide) ?_
    exact hE _ _ _ ⟨trivial, (by subst ev10 ev9; exact (hO.tr (if_pos c6)).symm)⟩ dLooker_elementsOf_19

def P_Looker_boundsFault_51  (i0 : Int32) (i1 : Int32) (i2 : Int32) (j3 : Int64) : Int32 := 6
def P_Looker_boundsFault  (x0 : Int32) (x1 : Int32) (x2 : Int32) : Int32 := (if x0 = 11 then (if x1 ≤ x2 then 0 else 8) else (if (lg_cmp (P_Looker_elementsOf x0 (x1.toInt64) (x2.toInt64)) 64) ≤ 0 then (if x1 < 0 then (P_Looker_boundsFault_51   x0 x1 x2 (P_Looker_elementsOf x0 (x1.toInt64) (x2.toInt64))) else (if x2 < 0 then (P_Looker_boundsFault_51   x0 x1 x2 (P_Looker_elementsOf x0 (x1.toInt64) (x2.toInt64))) else (if 0 ≤ (lg_cmp (P_Looker_elementsOf x0 (x1.toInt64) (x2.toInt64)) 1) then 0 else (P_Looker_boundsFault_51   x0 x1 x2 (P_Looker_elementsOf x0 (x1.toInt64) (x2.toInt64)))))) else 4))
set_option maxHeartbeats 4000000 in
set_option maxRecDepth 100000 in
theorem f_Looker_boundsFault (l : Launch) (γ : gE) (P : Heap → Prop) (x0 : Int32) (x1 : Int32) (x2 : Int32)  : PU l yLooker_boundsFault bLooker_boundsFault 5 (some .int) 1 24 [.int x0, .int x1, .int x2] γ P (vp_Si (fun v : Int32 => (True) ∧ v = P_Looker_boundsFault  x0 x1 x2)) := by
  refine pu_openI (by decide) (Nat.le_of_ble_eq_true rfl) ?_
  intro p e s m args below meth c ls Q S hC hI hE hl
  obtain ⟨hx, hb, hml, hown, hW⟩ := id S
  have hl : lv_has ls 5 [(0, .int x0), (1, .int x1), (2, .int x2)] := hl
  obtain ⟨OUT, hQ, hO⟩ : ∃ z, (z = P_Looker_boundsFault  x0 x1 x2) ∧ Oq z (P_Looker_boundsFault  x0 x1 x2) := ⟨_, rfl, rfl⟩
  rw [← hQ] at hE
  clear hQ
  have J51 : ∀ (ls : Array Slot)  (i0 : Int32) (i1 : Int32) (i2 : Int32) (j3 : Int64), (Oq OUT (P_Looker_boundsFault_51    i0 i1 i2 j3)) → lv_has ls 5 [(0, .int i0), (1, .int i1), (2, .int i2), (3, .long j3)] → W p l e (bs_rm 1 0 0 24) s m args below meth c s.heap [] 0 0 Q (F0 m 51 ls []) := by
    intro ls  i0 i1 i2 j3 hO hl
    refine lv_bipush (v := 6) hx hb dLooker_boundsFault_51 (by decide) ?_
    refine lv_goto (tgt := 57) hx hb dLooker_boundsFault_53 (by decide) ?_
    exact hE _ _ _ ⟨trivial, (by exact (hO.tr rfl).symm)⟩ dLooker_boundsFault_57
  refine lv_iload_n hx hb dLooker_boundsFault_0 rfl (lv_at hl 0 rfl) ?_
  refine lv_bipush (v := 11) hx hb dLooker_boundsFault_1 (by decide) ?_
  refine lv_icmp_ne (tgt := 18) hx hb dLooker_boundsFault_3 (by decide) (fun c12 => ?_) (fun c12 => ?_)
  · refine lv_iload_n hx hb dLooker_boundsFault_18 rfl (lv_at hl 0 rfl) ?_
    refine lv_iload_n hx hb dLooker_boundsFault_19 rfl (lv_at hl 1 rfl) ?_
    refine lv_i2l hx hb dLooker_boundsFault_20 rfl ?_
    refine lv_topl (fun v13 ev13 => ?_)
    refine lv_iload_n hx hb dLooker_boundsFault_21 rfl (lv_at hl 2 rfl) ?_
    refine lv_i2l hx hb dLooker_boundsFault_22 rfl ?_
    refine lv_topl (fun v14 ev14 => ?_)
    refine pu_Sl (rest := []) S hC (f_Looker_elementsOf l γ P x0 v13 v14) meLooker_elementsOf qw_b544f0cdd0 ⟨Nat.le_of_ble_eq_true rfl, Nat.le_of_ble_eq_true rfl⟩ hI rfl hl.1 rfl (Nat.le_of_ble_eq_true rfl) dLooker_boundsFault_23 ⟨Nat.zero_le _, Nat.zero_le _⟩ (fun r15 hr15 => ?_)
    obtain ⟨hr15, er15⟩ := hr15
    refine lv_lstore_n (lv' := [(3, .long r15), (0, .int x0), (1, .int x1), (2, .int x2)]) hx hb dLooker_boundsFault_26 rfl hl (by decide) rfl (fun ls hl => ?_)
    refine lv_lload_n hx hb dLooker_boundsFault_27 rfl (lv_at hl 0 rfl) ?_
    refine lv_ldc2 (v := 64) hx hb hown (hW _ qw_62eac39618) dLooker_boundsFault_28 ?_
    refine W.lcmp hx hb dLooker_boundsFault_31 ?_
    refine lv_topi (fun v16 ev16 => ?_)
    refine lv_if_le (tgt := 37) hx hb dLooker_boundsFault_32 (by decide) (fun c17 => ?_) (fun c17 => ?_)
    · refine lv_iload_n hx hb dLooker_boundsFault_37 rfl (lv_at hl 2 rfl) ?_
      refine lv_if_lt (tgt := 51) hx hb dLooker_boundsFault_38 (by decide) (fun c18 => ?_) (fun c18 => ?_)
      · exact J51 ls x0 x1 x2 r15 (by subst ev16 er15 ev14 ev13; exact hO.tr ((if_neg c12).trans ((if_pos c17).trans (if_pos c18)))) (lv_sub hl [1, 2, 3, 0] rfl)
      · refine lv_iload_n hx hb dLooker_boundsFault_41 rfl (lv_at hl 3 rfl) ?_
        refine lv_if_lt (tgt := 51) hx hb dLooker_boundsFault_42 (by decide) (fun c19 => ?_) (fun c19 => ?_)
        · exact J51 ls x0 x1 x2 r15 (by subst ev16 er15 ev14 ev13; exact hO.tr ((if_neg c12).trans ((if_pos c17).trans ((if_neg c18).trans (if_pos c19))))) (lv_sub hl [1, 2, 3, 0] rfl)
        · refine lv_lload_n hx hb dLooker_boundsFault_45 rfl (lv_at hl 0 rfl) ?_
          refine lv_lconst (v := 1) hx hb dLooker_boundsFault_46 (by decide) ?_
          refine W.lcmp hx hb dLooker_boundsFault_47 ?_
          refine lv_topi (fun v20 ev20 => ?_)
          refine lv_if_ge (tgt := 56) hx hb dLooker_boundsFault_48 (by decide) (fun c21 => ?_) (fun c21 => ?_)
          · refine lv_iconst (v := 0) hx hb dLooker_boundsFault_56 (by decide) ?_
            exact hE _ _ _ ⟨trivial, (by subst ev20 ev16 er15 ev14 ev13; exact (hO.tr ((if_neg c12).trans ((if_pos c17).trans ((if_neg c18).trans ((if_neg c19).trans (if_pos c21)))))).symm)⟩ dLooker_boundsFault_57
          · exact J51 ls x0 x1 x2 r15 (by subst ev20 ev16 er15 ev14 ev13; exact hO.tr ((if_neg c12).trans ((if_pos c17).trans ((if_neg c18).trans ((if_neg c19).trans (if_neg c21)))))) (lv_sub hl [1, 2, 3, 0] rfl)
    · refine lv_iconst (v := 4) hx hb dLooker_boundsFault_35 (by decide) ?_
      exact hE _ _ _ ⟨trivial, (by subst ev16 er15 ev14 ev13; exact (hO.tr ((if_neg c12).trans (if_neg c17))).symm)⟩ dLooker_boundsFault_36
  · refine lv_iload_n hx hb dLooker_boundsFault_6 rfl (lv_at hl 1 rfl) ?_
    refine lv_iload_n hx hb dLooker_boundsFault_7 rfl (lv_at hl 2 rfl) ?_
    refine lv_icmp_le (tgt := 16) hx hb dLooker_boundsFault_8 (by decide) (fun c22 => ?_) (fun c22 => ?_)
    · refine lv_iconst (v := 0) hx hb dLooker_boundsFault_16 (by decide) ?_
      exact hE _ _ _ ⟨trivial, (by exact (hO.tr ((if_pos c12).trans (if_pos c22))).symm)⟩ dLooker_boundsFault_17
    · refine lv_bipush (v := 8) hx hb dLooker_boundsFault_11 (by decide) ?_
      refine lv_goto (tgt := 17) hx hb dLooker_boundsFault_13 (by decide) ?_
      exact hE _ _ _ ⟨trivial, (by exact (hO.tr ((if_pos c12).trans (if_neg c22))).symm)⟩ dLooker_boundsFault_17

def P_Operators_divided  (x0 : Int32) (x1 : Int64) (x3 : Int64) : Int64 := (if (lg_cmp x3 0) = 0 then 0 else (if x0 = 16 then (x1 / x3) else (if x0 = 17 then (P_jMath_floorMod x1 x3) else (x1 - x1 / x3 * x3))))
set_option maxHeartbeats 4000000 in
set_option maxRecDepth 100000 in
theorem f_Operators_divided (l : Launch) (γ : gE) (P : Heap → Prop) (x0 : Int32) (x1 : Int64) (x3 : Int64)  : PU l yOperators_divided bOperators_divided 5 (some .long) 1 25 [.int x0, .long x1, .long x3] γ P (vp_Sl (fun v : Int64 => (True) ∧ v = P_Operators_divided  x0 x1 x3)) := by
  refine pu_openJ (by decide) (Nat.le_of_ble_eq_true rfl) ?_
  intro p e s m args below meth c ls Q S hC hI hE hl
  obtain ⟨hx, hb, hml, hown, hW⟩ := id S
  have hl : lv_has ls 5 [(0, .int x0), (1, .long x1), (3, .long x3)] := hl
  obtain ⟨OUT, hQ, hO⟩ : ∃ z, (z = P_Operators_divided  x0 x1 x3) ∧ Oq z (P_Operators_divided  x0 x1 x3) := ⟨_, rfl, rfl⟩
  rw [← hQ] at hE
  clear hQ
  refine lv_lload_n hx hb dOperators_divided_0 rfl (lv_at hl 2 rfl) ?_
  refine lv_lconst (v := 0) hx hb dOperators_divided_1 (by decide) ?_
  refine W.lcmp hx hb dOperators_divided_2 ?_
  refine lv_topi (fun v8 ev8 => ?_)
  refine lv_if_ne (tgt := 8) hx hb dOperators_divided_3 (by decide) (fun c9 => ?_) (fun c9 => ?_)
  · refine lv_iload_n hx hb dOperators_divided_8 rfl (lv_at hl 0 rfl) ?_
    refine lv_bipush (v := 16) hx hb dOperators_divided_9 (by decide) ?_
    refine lv_icmp_ne (tgt := 20) hx hb dOperators_divided_11 (by decide) (fun c10 => ?_) (fun c10 => ?_)
    · refine lv_iload_n hx hb dOperators_divided_20 rfl (lv_at hl 0 rfl) ?_
      refine lv_bipush (v := 17) hx hb dOperators_divided_21 (by decide) ?_
      refine lv_icmp_ne (tgt := 34) hx hb dOperators_divided_23 (by decide) (fun c11 => ?_) (fun c11 => ?_)
      · refine lv_lload_n hx hb dOperators_divided_34 rfl (lv_at hl 1 rfl) ?_
        refine lv_lload_n hx hb dOperators_divided_35 rfl (lv_at hl 2 rfl) ?_
        refine lv_lrem hx hb dOperators_divided_36 (lc_nz (by assumption) (by assumption)) ?_
        refine lv_topl (fun v12 ev12 => ?_)
        exact hE _ _ _ ⟨trivial, (by subst ev12 ev8; exact (hO.tr ((if_neg c9).trans ((if_neg c10).trans (if_neg c11)))).symm)⟩ dOperators_divided_37
      · refine lv_lload_n hx hb dOperators_divided_26 rfl (lv_at hl 1 rfl) ?_
        refine lv_lload_n hx hb dOperators_divided_27 rfl (lv_at hl 2 rfl) ?_
        refine pu_Sl (rest := []) S hC (f_jMath_floorMod l γ P x1 x3 (lc_nz (by assumption) (by assumption))) mejMath_floorMod qw_5a22fbae04 ⟨Nat.le_of_ble_eq_true rfl, Nat.le_of_ble_eq_true rfl⟩ hI rfl hl.1 rfl (Nat.le_of_ble_eq_true rfl) dOperators_divided_28 ⟨Nat.zero_le _, Nat.zero_le _⟩ (fun r13 hr13 => ?_)
        obtain ⟨hr13, er13⟩ := hr13
        refine lv_goto (tgt := 37) hx hb dOperators_divided_31 (by decide) ?_
        exact hE _ _ _ ⟨trivial, (by subst er13 ev8; exact (hO.tr ((if_neg c9).trans ((if_neg c10).trans (if_pos c11)))).symm)⟩ dOperators_divided_37
    · refine lv_lload_n hx hb dOperators_divided_14 rfl (lv_at hl 1 rfl) ?_
      refine lv_lload_n hx hb dOperators_divided_15 rfl (lv_at hl 2 rfl) ?_
      refine lv_ldiv hx hb dOperators_divided_16 (lc_nz (by assumption) (by assumption)) ?_
      refine lv_topl (fun v14 ev14 => ?_)
      refine lv_goto (tgt := 37) hx hb dOperators_divided_17 (by decide) ?_
      exact hE _ _ _ ⟨trivial, (by subst ev14 ev8; exact (hO.tr ((if_neg c9).trans (if_pos c10))).symm)⟩ dOperators_divided_37
  · refine lv_lconst (v := 0) hx hb dOperators_divided_6 (by decide) ?_
    exact hE _ _ _ ⟨trivial, (by subst ev8; exact (hO.tr (if_pos c9)).symm)⟩ dOperators_divided_7

def P_Trees_has (N rt L : Nat) (f : gf) (x1 : Int32) : Int32 := (if x1 < 0 then 0 else (if (nI N) ≤ x1 then 0 else 1))
set_option maxHeartbeats 4000000 in
set_option maxRecDepth 100000 in
theorem fc_Trees_has (l : Launch) (γ : gE) (Z : Nat → Prop) (a N rt L : Nat) (f : gf) (x1 : Int32)  : PU l yTrees_has bTrees_has 2 (some .boolean) 0 0 [.ref a, .int x1] γ (cmp γ (gTrees γ a N rt L f) Z) (vp_Si (fun v : Int32 => (v = 0 ∨ ∃ j, j < N ∧ x1 = nI j) ∧ v = P_Trees_has N rt L f x1)) := by
  refine pu_openZ (by decide) (Nat.le_of_ble_eq_true rfl) ?_
  intro p e s m args below meth c ls Q S hC hI hE hl
  obtain ⟨hx, hb, hml, hown, hW⟩ := id S
  obtain ⟨ws, ⟨b0, b1, b2, b3, rfl, h1, h2, h3, h4, h5, h6⟩, hP, hD⟩ := id hI
  have hP : va_P γ.1 vwCl [(a, .inr (1, [.ref b0, .ref b1, .ref b2, .ref b3, .int (nI N), .int (nI rt)])), (b0, .inl (γ.2.1, L, .inl (f 0))), (b1, .inl (γ.2.1, L, .inl (f 1))), (b2, .inl (γ.2.1, L, .inl (f 2))), (b3, .inl (γ.2.1, L, .inl (f 3)))] s.heap := hP
  have hl : lv_has ls 2 [(0, .ref a), (1, .int x1)] := hl
  obtain ⟨OUT, hQ, hO⟩ : ∃ z, (z = P_Trees_has N rt L f x1) ∧ Oq z (P_Trees_has N rt L f x1) := ⟨_, rfl, rfl⟩
  rw [← hQ] at hE
  clear hQ
  refine lv_iload_n hx hb dTrees_has_0 rfl (lv_at hl 1 rfl) ?_
  refine lv_if_lt (tgt := 16) hx hb dTrees_has_1 (by decide) (fun c4 => ?_) (fun c4 => ?_)
  · refine lv_iconst (v := 0) hx hb dTrees_has_16 (by decide) ?_
    exact hE _ _ _ rfl ⟨(by subst_vars; first | exact Or.inl rfl | exact Or.inr (has_ok (by assumption) (by assumption) (by omega))), (by exact (hO.tr (if_pos c4)).symm)⟩ dTrees_has_17
  · refine lv_iload_n hx hb dTrees_has_4 rfl (lv_at hl 1 rfl) ?_
    refine lv_aload_n hx hb dTrees_has_5 rfl (lv_at hl 0 rfl) ?_
    refine va_get (D := γ.1) (ci := 1) (v := .int (nI N)) (C := R_Trees) (T := T_Trees) (N := 6) (Ts := bs_W0) hx hb hW in_Trees hown hC.1 hP 0 rfl rfl 4 (by decide) (hW _ qw_adbe8dbe65) (fun _ h9 => h9) rfl dTrees_has_6 ?_
    refine lv_topi (fun v5 ev5 => ?_)
    refine lv_icmp_ge (tgt := 16) hx hb dTrees_has_9 (by decide) (fun c6 => ?_) (fun c6 => ?_)
    · refine lv_iconst (v := 0) hx hb dTrees_has_16 (by decide) ?_
      exact hE _ _ _ rfl ⟨(by subst_vars; first | exact Or.inl rfl | exact Or.inr (has_ok (by assumption) (by assumption) (by omega))), (by subst ev5; exact (hO.tr ((if_neg c4).trans (if_pos c6))).symm)⟩ dTrees_has_17
    · refine lv_iconst (v := 1) hx hb dTrees_has_12 (by decide) ?_
      refine lv_goto (tgt := 17) hx hb dTrees_has_13 (by decide) ?_
      exact hE _ _ _ rfl ⟨(by subst_vars; first | exact Or.inl rfl | exact Or.inr (has_ok (by assumption) (by assumption) (by omega))), (by subst ev5; exact (hO.tr ((if_neg c4).trans (if_neg c6))).symm)⟩ dTrees_has_17
theorem f1_Trees_has (l : Launch) (γ : gE) (A : Nat → Prop) (κ : Nat → Nat) (φ : gF) (ψ : gG) (x1 : Int32)  : PU l yTrees_has bTrees_has 2 (some .boolean) 0 0 [.ref (γ.2.2.2 1), .int x1] γ (INVF γ A κ φ ψ) (vp_Si (fun v : Int32 => (v = 0 ∨ ∃ j, j < (κ 0) ∧ x1 = nI j) ∧ v = P_Trees_has (κ 0) (κ 1) (κ 11) (φ 2) x1)) :=
  puf_up 2 (by decide) (by decide) (fun Z => fc_Trees_has l γ Z (γ.2.2.2 1) (κ 0) (κ 1) (κ 11) (φ 2) x1)

def P_Names_has (N sc L : Nat) (f : gf) (x1 : Int32) : Int32 := (if x1 < 0 then 0 else (if (nI N) ≤ x1 then 0 else 1))
set_option maxHeartbeats 4000000 in
set_option maxRecDepth 100000 in
theorem fc_Names_has (l : Launch) (γ : gE) (Z : Nat → Prop) (a N sc L : Nat) (f : gf) (x1 : Int32)  : PU l yNames_has bNames_has 2 (some .boolean) 0 0 [.ref a, .int x1] γ (cmp γ (gNames γ a N sc L f) Z) (vp_Si (fun v : Int32 => (v = 0 ∨ ∃ j, j < N ∧ x1 = nI j) ∧ v = P_Names_has N sc L f x1)) := by
  refine pu_openZ (by decide) (Nat.le_of_ble_eq_true rfl) ?_
  intro p e s m args below meth c ls Q S hC hI hE hl
  obtain ⟨hx, hb, hml, hown, hW⟩ := id S
  obtain ⟨ws, ⟨b0, b1, b2, b3, b4, b5, b6, rfl, h1, h2, h3, h4, h5, h6⟩, hP, hD⟩ := id hI
  have hP : va_P γ.1 vwCl [(a, .inr (2, [.ref b0, .ref b1, .ref b2, .ref b3, .ref b4, .ref b5, .ref b6, .int (nI N), .int (nI sc)])), (b0, .inl (γ.2.1, L, .inl (f 0))), (b1, .inl (γ.2.1, L, .inl (f 1))), (b2, .inl (γ.2.1, L, .inl (f 2))), (b3, .inl (γ.2.1, L, .inl (f 3))), (b4, .inl (γ.2.1, L, .inl (f 4))), (b5, .inl (γ.2.1, 256, .inl (f 5))), (b6, .inl (γ.2.1, 32, .inl (f 6)))] s.heap := hP
  have hl : lv_has ls 2 [(0, .ref a), (1, .int x1)] := hl
  obtain ⟨OUT, hQ, hO⟩ : ∃ z, (z = P_Names_has N sc L f x1) ∧ Oq z (P_Names_has N sc L f x1) := ⟨_, rfl, rfl⟩
  rw [← hQ] at hE
  clear hQ
  refine lv_iload_n hx hb dNames_has_0 rfl (lv_at hl 1 rfl) ?_
  refine lv_if_lt (tgt := 16) hx hb dNames_has_1 (by decide) (fun c4 => ?_) (fun c4 => ?_)
  · refine lv_iconst (v := 0) hx hb dNames_has_16 (by decide) ?_
    exact hE _ _ _ rfl ⟨(by subst_vars; first | exact Or.inl rfl | exact Or.inr (has_ok (by assumption) (by assumption) (by omega))), (by exact (hO.tr (if_pos c4)).symm)⟩ dNames_has_17
  · refine lv_iload_n hx hb dNames_has_4 rfl (lv_at hl 1 rfl) ?_
    refine lv_aload_n hx hb dNames_has_5 rfl (lv_at hl 0 rfl) ?_
    refine va_get (D := γ.1) (ci := 2) (v := .int (nI N)) (C := R_Names) (T := T_Names) (N := 9) (Ts := bs_W0) hx hb hW in_Names hown hC.1 hP 0 rfl rfl 7 (by decide) (hW _ qw_171adcdf9f) (fun _ h9 => h9) rfl dNames_has_6 ?_
    refine lv_topi (fun v5 ev5 => ?_)
    refine lv_icmp_ge (tgt := 16) hx hb dNames_has_9 (by decide) (fun c6 => ?_) (fun c6 => ?_)
    · refine lv_iconst (v := 0) hx hb dNames_has_16 (by decide) ?_
      exact hE _ _ _ rfl ⟨(by subst_vars; first | exact Or.inl rfl | exact Or.inr (has_ok (by assumption) (by assumption) (by omega))), (by subst ev5; exact (hO.tr ((if_neg c4).trans (if_pos c6))).symm)⟩ dNames_has_17
    · refine lv_iconst (v := 1) hx hb dNames_has_12 (by decide) ?_
      refine lv_goto (tgt := 17) hx hb dNames_has_13 (by decide) ?_
      exact hE _ _ _ rfl ⟨(by subst_vars; first | exact Or.inl rfl | exact Or.inr (has_ok (by assumption) (by assumption) (by omega))), (by subst ev5; exact (hO.tr ((if_neg c4).trans (if_neg c6))).symm)⟩ dNames_has_17
def P_Types_has (N L : Nat) (f : gf) (x1 : Int32) : Int32 := (if x1 < 0 then 0 else (if (nI N) ≤ x1 then 0 else 1))
set_option maxHeartbeats 4000000 in
set_option maxRecDepth 100000 in
theorem fc_Types_has (l : Launch) (γ : gE) (Z : Nat → Prop) (a N L : Nat) (f : gf) (x1 : Int32)  : PU l yTypes_has bTypes_has 2 (some .boolean) 0 0 [.ref a, .int x1] γ (cmp γ (gTypes γ a N L f) Z) (vp_Si (fun v : Int32 => (v = 0 ∨ ∃ j, j < N ∧ x1 = nI j) ∧ v = P_Types_has N L f x1)) := by
  refine pu_openZ (by decide) (Nat.le_of_ble_eq_true rfl) ?_
  intro p e s m args below meth c ls Q S hC hI hE hl
  obtain ⟨hx, hb, hml, hown, hW⟩ := id S
  obtain ⟨ws, ⟨b0, b1, b2, b3, rfl, h1, h2, h3⟩, hP, hD⟩ := id hI
  have hP : va_P γ.1 vwCl [(a, .inr (3, [.ref b0, .ref b1, .ref b2, .ref b3, .int (nI N)])), (b0, .inl (γ.2.1, L, .inl (f 0))), (b1, .inl (γ.2.1, L, .inl (f 1))), (b2, .inl (γ.2.1, L, .inl (f 2))), (b3, .inl (γ.2.1, L, .inl (f 3)))] s.heap := hP
  have hl : lv_has ls 2 [(0, .ref a), (1, .int x1)] := hl
  obtain ⟨OUT, hQ, hO⟩ : ∃ z, (z = P_Types_has N L f x1) ∧ Oq z (P_Types_has N L f x1) := ⟨_, rfl, rfl⟩
  rw [← hQ] at hE
  clear hQ
  refine lv_iload_n hx hb dTypes_has_0 rfl (lv_at hl 1 rfl) ?_
  refine lv_if_lt (tgt := 16) hx hb dTypes_has_1 (by decide) (fun c4 => ?_) (fun c4 => ?_)
  · refine lv_iconst (v := 0) hx hb dTypes_has_16 (by decide) ?_
    exact hE _ _ _ rfl ⟨(by subst_vars; first | exact Or.inl rfl | exact Or.inr (has_ok (by assumption) (by assumption) (by omega))), (by exact (hO.tr (if_pos c4)).symm)⟩ dTypes_has_17
  · refine lv_iload_n hx hb dTypes_has_4 rfl (lv_at hl 1 rfl) ?_
    refine lv_aload_n hx hb dTypes_has_5 rfl (lv_at hl 0 rfl) ?_
    refine va_get (D := γ.1) (ci := 3) (v := .int (nI N)) (C := R_Types) (T := T_Types) (N := 5) (Ts := bs_W0) hx hb hW in_Types hown hC.1 hP 0 rfl rfl 4 (by decide) (hW _ qw_f9da65449d) (fun _ h9 => h9) rfl dTypes_has_6 ?_
    refine lv_topi (fun v5 ev5 => ?_)
    refine lv_icmp_ge (tgt := 16) hx hb dTypes_has_9 (by decide) (fun c6 => ?_) (fun c6 => ?_)
    · refine lv_iconst (v := 0) hx hb dTypes_has_16 (by decide) ?_
      exact hE _ _ _ rfl ⟨(by subst_vars; first | exact Or.inl rfl | exact Or.inr (has_ok (by assumption) (by assumption) (by omega))), (by subst ev5; exact (hO.tr ((if_neg c4).trans (if_pos c6))).symm)⟩ dTypes_has_17
    · refine lv_iconst (v := 1) hx hb dTypes_has_12 (by decide) ?_
      refine lv_goto (tgt := 17) hx hb dTypes_has_13 (by decide) ?_
      exact hE _ _ _ rfl ⟨(by subst_vars; first | exact Or.inl rfl | exact Or.inr (has_ok (by assumption) (by assumption) (by omega))), (by subst ev5; exact (hO.tr ((if_neg c4).trans (if_neg c6))).symm)⟩ dTypes_has_17
theorem f3_Types_has (l : Launch) (γ : gE) (A : Nat → Prop) (κ : Nat → Nat) (φ : gF) (ψ : gG) (x1 : Int32)  : PU l yTypes_has bTypes_has 2 (some .boolean) 0 0 [.ref (γ.2.2.2 3), .int x1] γ (INVF γ A κ φ ψ) (vp_Si (fun v : Int32 => (v = 0 ∨ ∃ j, j < (κ 4) ∧ x1 = nI j) ∧ v = P_Types_has (κ 4) (κ 13) (φ 4) x1)) :=
  puf_up 4 (by decide) (by decide) (fun Z => fc_Types_has l γ Z (γ.2.2.2 3) (κ 4) (κ 13) (φ 4) x1)
def P_Objects_has (N L : Nat) (f : gf) (x1 : Int32) : Int32 := (if x1 < 0 then 0 else (if (nI N) ≤ x1 then 0 else 1))
set_option maxHeartbeats 4000000 in
set_option maxRecDepth 100000 in
theorem fc_Objects_has (l : Launch) (γ : gE) (Z : Nat → Prop) (a rw N L : Nat) (f : gf) (x1 : Int32)  : PU l yObjects_has bObjects_has 2 (some .boolean) 0 0 [.ref a, .int x1] γ (cmp γ (gObjects γ a rw N L f) Z) (vp_Si (fun v : Int32 => (v = 0 ∨ ∃ j, j < N ∧ x1 = nI j) ∧ v = P_Objects_has N L f x1)) := by
  refine pu_openZ (by decide) (Nat.le_of_ble_eq_true rfl) ?_
  intro p e s m args below meth c ls Q S hC hI hE hl
  obtain ⟨hx, hb, hml, hown, hW⟩ := id S
  obtain ⟨ws, ⟨b0, b1, b2, rfl, h1, h2, h3⟩, hP, hD⟩ := id hI
  have hP : va_P γ.1 vwCl [(a, .inr (4, [.ref b0, .ref b1, .ref b2, .ref rw, .int (nI N)])), (b0, .inl (γ.2.1, L, .inl (f 0))), (b1, .inl (γ.2.1, L, .inl (f 1))), (b2, .inl (γ.2.1, L, .inl (f 2)))] s.heap := hP
  have hl : lv_has ls 2 [(0, .ref a), (1, .int x1)] := hl
  obtain ⟨OUT, hQ, hO⟩ : ∃ z, (z = P_Objects_has N L f x1) ∧ Oq z (P_Objects_has N L f x1) := ⟨_, rfl, rfl⟩
  rw [← hQ] at hE
  clear hQ
  refine lv_iload_n hx hb dObjects_has_0 rfl (lv_at hl 1 rfl) ?_
  refine lv_if_lt (tgt := 16) hx hb dObjects_has_1 (by decide) (fun c4 => ?_) (fun c4 => ?_)
  · refine lv_iconst (v := 0) hx hb dObjects_has_16 (by decide) ?_
    exact hE _ _ _ rfl ⟨(by subst_vars; first | exact Or.inl rfl | exact Or.inr (has_ok (by assumption) (by assumption) (by omega))), (by exact (hO.tr (if_pos c4)).symm)⟩ dObjects_has_17
  · refine lv_iload_n hx hb dObjects_has_4 rfl (lv_at hl 1 rfl) ?_
    refine lv_aload_n hx hb dObjects_has_5 rfl (lv_at hl 0 rfl) ?_
    refine va_get (D := γ.1) (ci := 4) (v := .int (nI N)) (C := R_Objects) (T := T_Objects) (N := 5) (Ts := bs_W0) hx hb hW in_Objects hown hC.1 hP 0 rfl rfl 4 (by decide) (hW _ qw_1a9a6fdaf2) (fun _ h9 => h9) rfl dObjects_has_6 ?_
    refine lv_topi (fun v5 ev5 => ?_)
    refine lv_icmp_ge (tgt := 16) hx hb dObjects_has_9 (by decide) (fun c6 => ?_) (fun c6 => ?_)
    · refine lv_iconst (v := 0) hx hb dObjects_has_16 (by decide) ?_
      exact hE _ _ _ rfl ⟨(by subst_vars; first | exact Or.inl rfl | exact Or.inr (has_ok (by assumption) (by assumption) (by omega))), (by subst ev5; exact (hO.tr ((if_neg c4).trans (if_pos c6))).symm)⟩ dObjects_has_17
    · refine lv_iconst (v := 1) hx hb dObjects_has_12 (by decide) ?_
      refine lv_goto (tgt := 17) hx hb dObjects_has_13 (by decide) ?_
      exact hE _ _ _ rfl ⟨(by subst_vars; first | exact Or.inl rfl | exact Or.inr (has_ok (by assumption) (by assumption) (by omega))), (by subst ev5; exact (hO.tr ((if_neg c4).trans (if_neg c6))).symm)⟩ dObjects_has_17
theorem f4_Objects_has (l : Launch) (γ : gE) (A : Nat → Prop) (κ : Nat → Nat) (φ : gF) (ψ : gG) (x1 : Int32)  : PU l yObjects_has bObjects_has 2 (some .boolean) 0 0 [.ref (γ.2.2.2 4), .int x1] γ (INVF γ A κ φ ψ) (vp_Si (fun v : Int32 => (v = 0 ∨ ∃ j, j < (κ 5) ∧ x1 = nI j) ∧ v = P_Objects_has (κ 5) (κ 14) (φ 5) x1)) :=
  puf_up 5 (by decide) (by decide) (fun Z => fc_Objects_has l γ Z (γ.2.2.2 4) (γ.2.2.2 5) (κ 5) (κ 14) (φ 5) x1)

def P_Looks_has (L : Nat) (f : gf) (x1 : Int32) : Int32 := (if x1 < 0 then 0 else (if (nI (L)) ≤ x1 then 0 else 1))
set_option maxHeartbeats 4000000 in
set_option maxRecDepth 100000 in
theorem fc_Looks_has (l : Launch) (γ : gE) (Z : Nat → Prop) (a rw L : Nat) (f : gf) (x1 : Int32)  : PU l yLooks_has bLooks_has 2 (some .boolean) 0 0 [.ref a, .int x1] γ (cmp γ (gLooks γ a rw L f) Z) (vp_Si (fun v : Int32 => (v = 0 ∨ ∃ j, j < L ∧ x1 = nI j) ∧ v = P_Looks_has L f x1)) := by
  refine pu_openZ (by decide) (Nat.le_of_ble_eq_true rfl) ?_
  intro p e s m args below meth c ls Q S hC hI hE hl
  obtain ⟨hx, hb, hml, hown, hW⟩ := id S
  obtain ⟨ws, ⟨b0, b1, b2, b3, b4, rfl, h1, h2⟩, hP, hD⟩ := id hI
  have hP : va_P γ.1 vwCl [(a, .inr (6, [.ref b0, .ref b1, .ref b2, .ref b3, .ref b4, .ref rw])), (b0, .inl (γ.2.1, L, .inl (f 0))), (b1, .inl (γ.2.1, L, .inl (f 1))), (b2, .inl (γ.2.1, L, .inl (f 2))), (b3, .inl (γ.2.1, L, .inl (f 3))), (b4, .inl (γ.2.1, L, .inl (f 4)))] s.heap := hP
  have hl : lv_has ls 2 [(0, .ref a), (1, .int x1)] := hl
  obtain ⟨OUT, hQ, hO⟩ : ∃ z, (z = P_Looks_has L f x1) ∧ Oq z (P_Looks_has L f x1) := ⟨_, rfl, rfl⟩
  rw [← hQ] at hE
  clear hQ
  refine lv_iload_n hx hb dLooks_has_0 rfl (lv_at hl 1 rfl) ?_
  refine lv_if_lt (tgt := 17) hx hb dLooks_has_1 (by decide) (fun c4 => ?_) (fun c4 => ?_)
  · refine lv_iconst (v := 0) hx hb dLooks_has_17 (by decide) ?_
    exact hE _ _ _ rfl ⟨(by subst_vars; first | exact Or.inl rfl | exact Or.inr (has_ok (by assumption) (by assumption) (by omega))), (by exact (hO.tr (if_pos c4)).symm)⟩ dLooks_has_18
  · refine lv_iload_n hx hb dLooks_has_4 rfl (lv_at hl 1 rfl) ?_
    refine lv_aload_n hx hb dLooks_has_5 rfl (lv_at hl 0 rfl) ?_
    refine va_get (D := γ.1) (ci := 6) (v := .ref b0) (C := R_Looks) (T := T_Looks) (N := 6) (Ts := bs_W0) hx hb hW in_Looks hown hC.1 hP 0 rfl rfl 0 (by decide) (hW _ qw_ac7df03aa7) (fun _ h9 => h9) rfl dLooks_has_6 ?_
    refine va_alen hx hb hC.1 hP 1 0 rfl rfl rfl dLooks_has_9 ?_
    refine lv_topi (fun v5 ev5 => ?_)
    have ev5 : v5 = nI (L) := ev5
    refine lv_icmp_ge (tgt := 17) hx hb dLooks_has_10 (by decide) (fun c6 => ?_) (fun c6 => ?_)
    · refine lv_iconst (v := 0) hx hb dLooks_has_17 (by decide) ?_
      exact hE _ _ _ rfl ⟨(by subst_vars; first | exact Or.inl rfl | exact Or.inr (has_ok (by assumption) (by assumption) (by omega))), (by subst ev5; exact (hO.tr ((if_neg c4).trans (if_pos c6))).symm)⟩ dLooks_has_18
    · refine lv_iconst (v := 1) hx hb dLooks_has_13 (by decide) ?_
      refine lv_goto (tgt := 18) hx hb dLooks_has_14 (by decide) ?_
      exact hE _ _ _ rfl ⟨(by subst_vars; first | exact Or.inl rfl | exact Or.inr (has_ok (by assumption) (by assumption) (by omega))), (by subst ev5; exact (hO.tr ((if_neg c4).trans (if_neg c6))).symm)⟩ dLooks_has_18
def P_Rows_has (M : Nat) (g : gg) (x1 : Int32) : Int32 := (if x1 < 0 then 0 else (if ((nI (4 * M)) / 4) ≤ x1 then 0 else 1))
set_option maxHeartbeats 4000000 in
set_option maxRecDepth 100000 in
theorem fc_Rows_has (l : Launch) (γ : gE) (Z : Nat → Prop) (a M : Nat) (g : gg) (x1 : Int32)  : PU l yRows_has bRows_has 2 (some .boolean) 0 0 [.ref a, .int x1] γ (cmp γ (gRows γ a M g) Z) (vp_Si (fun v : Int32 => (v = 0 ∨ ∃ j, j < M ∧ x1 = nI j) ∧ v = P_Rows_has M g x1)) := by
  refine pu_openZ (by decide) (Nat.le_of_ble_eq_true rfl) ?_
  intro p e s m args below meth c ls Q S hC hI hE hl
  obtain ⟨hx, hb, hml, hown, hW⟩ := id S
  obtain ⟨ws, ⟨b0, rfl, h1, h2⟩, hP, hD⟩ := id hI
  have hP : va_P γ.1 vwCl [(a, .inr (5, [.ref b0])), (b0, .inl (γ.2.2.1, 4 * M, .inr (.inl g)))] s.heap := hP
  have hl : lv_has ls 2 [(0, .ref a), (1, .int x1)] := hl
  obtain ⟨OUT, hQ, hO⟩ : ∃ z, (z = P_Rows_has M g x1) ∧ Oq z (P_Rows_has M g x1) := ⟨_, rfl, rfl⟩
  rw [← hQ] at hE
  clear hQ
  refine lv_iload_n hx hb dRows_has_0 rfl (lv_at hl 1 rfl) ?_
  refine lv_if_lt (tgt := 19) hx hb dRows_has_1 (by decide) (fun c5 => ?_) (fun c5 => ?_)
  · refine lv_iconst (v := 0) hx hb dRows_has_19 (by decide) ?_
    exact hE _ _ _ rfl ⟨(by subst_vars; first | exact Or.inl rfl | exact Or.inr (has_ok (by assumption) (by rw [← rows_q (by omega)]; assumption) (by omega))), (by exact (hO.tr (if_pos c5)).symm)⟩ dRows_has_20
  · refine lv_iload_n hx hb dRows_has_4 rfl (lv_at hl 1 rfl) ?_
    refine lv_aload_n hx hb dRows_has_5 rfl (lv_at hl 0 rfl) ?_
    refine va_get (D := γ.1) (ci := 5) (v := .ref b0) (C := R_Rows) (T := T_Rows) (N := 1) (Ts := bs_W0) hx hb hW in_Rows hown hC.1 hP 0 rfl rfl 0 (by decide) (hW _ qw_05e9c8a29d) (fun _ h9 => h9) rfl dRows_has_6 ?_
    refine va_alen hx hb hC.1 hP 1 1 rfl rfl rfl dRows_has_9 ?_
    refine lv_topi (fun v6 ev6 => ?_)
    have ev6 : v6 = nI (4 * M) := ev6
    refine lv_iconst (v := 4) hx hb dRows_has_10 (by decide) ?_
    refine lv_idiv hx hb dRows_has_11 (by decide) ?_
    refine lv_topi (fun v7 ev7 => ?_)
    refine lv_icmp_ge (tgt := 19) hx hb dRows_has_12 (by decide) (fun c8 => ?_) (fun c8 => ?_)
    · refine lv_iconst (v := 0) hx hb dRows_has_19 (by decide) ?_
      exact hE _ _ _ rfl ⟨(by subst_vars; first | exact Or.inl rfl | exact Or.inr (has_ok (by assumption) (by rw [← rows_q (by omega)]; assumption) (by omega))), (by subst ev7 ev6; exact (hO.tr ((if_neg c5).trans (if_pos c8))).symm)⟩ dRows_has_20
    · refine lv_iconst (v := 1) hx hb dRows_has_15 (by decide) ?_
      refine lv_goto (tgt := 20) hx hb dRows_has_16 (by decide) ?_
      exact hE _ _ _ rfl ⟨(by subst_vars; first | exact Or.inl rfl | exact Or.inr (has_ok (by assumption) (by rw [← rows_q (by omega)]; assumption) (by omega))), (by subst ev7 ev6; exact (hO.tr ((if_neg c5).trans (if_neg c8))).symm)⟩ dRows_has_20
theorem f5_Rows_has (l : Launch) (γ : gE) (A : Nat → Prop) (κ : Nat → Nat) (φ : gF) (ψ : gG) (x1 : Int32)  : PU l yRows_has bRows_has 2 (some .boolean) 0 0 [.ref (γ.2.2.2 5), .int x1] γ (INVF γ A κ φ ψ) (vp_Si (fun v : Int32 => (v = 0 ∨ ∃ j, j < (κ 8) ∧ x1 = nI j) ∧ v = P_Rows_has (κ 8) (ψ 6) x1)) :=
  puf_up 6 (by decide) (by decide) (fun Z => fc_Rows_has l γ Z (γ.2.2.2 5) (κ 8) (ψ 6) x1)
theorem f7_Rows_has (l : Launch) (γ : gE) (A : Nat → Prop) (κ : Nat → Nat) (φ : gF) (ψ : gG) (x1 : Int32)  : PU l yRows_has bRows_has 2 (some .boolean) 0 0 [.ref (γ.2.2.2 7), .int x1] γ (INVF γ A κ φ ψ) (vp_Si (fun v : Int32 => (v = 0 ∨ ∃ j, j < (κ 9) ∧ x1 = nI j) ∧ v = P_Rows_has (κ 9) (ψ 8) x1)) :=
  puf_up 8 (by decide) (by decide) (fun Z => fc_Rows_has l γ Z (γ.2.2.2 7) (κ 9) (ψ 8) x1)
theorem f10_Rows_has (l : Launch) (γ : gE) (A : Nat → Prop) (κ : Nat → Nat) (φ : gF) (ψ : gG) (x1 : Int32)  : PU l yRows_has bRows_has 2 (some .boolean) 0 0 [.ref (γ.2.2.2 10), .int x1] γ (INVF γ A κ φ ψ) (vp_Si (fun v : Int32 => (v = 0 ∨ ∃ j, j < (κ 10) ∧ x1 = nI j) ∧ v = P_Rows_has (κ 10) (ψ 10) x1)) :=
  puf_up 10 (by decide) (by decide) (fun Z => fc_Rows_has l γ Z (γ.2.2.2 10) (κ 10) (ψ 10) x1)

def P_Trees_kindOf (N rt L : Nat) (f : gf) (x1 : Int32) : Int32 := (if (P_Trees_has N rt L f x1) = 0 then (-1) else ((f 0) x1.toNatClampNeg))
set_option maxHeartbeats 4000000 in
set_option maxRecDepth 100000 in
theorem fc_Trees_kindOf (l : Launch) (γ : gE) (Z : Nat → Prop) (a N rt L : Nat) (f : gf) (x1 : Int32)  : PU l yTrees_kindOf bTrees_kindOf 2 (some .int) 1 21 [.ref a, .int x1] γ (cmp γ (gTrees γ a N rt L f) Z) (vp_Si (fun v : Int32 => (True) ∧ v = P_Trees_kindOf N rt L f x1)) := by
  refine pu_openI (by decide) (Nat.le_of_ble_eq_true rfl) ?_
  intro p e s m args below meth c ls Q S hC hI hE hl
  obtain ⟨hx, hb, hml, hown, hW⟩ := id S
  obtain ⟨ws, ⟨b0, b1, b2, b3, rfl, h1, h2, h3, h4, h5, h6⟩, hP, hD⟩ := id hI
  have hP : va_P γ.1 vwCl [(a, .inr (1, [.ref b0, .ref b1, .ref b2, .ref b3, .int (nI N), .int (nI rt)])), (b0, .inl (γ.2.1, L, .inl (f 0))), (b1, .inl (γ.2.1, L, .inl (f 1))), (b2, .inl (γ.2.1, L, .inl (f 2))), (b3, .inl (γ.2.1, L, .inl (f 3)))] s.heap := hP
  have hl : lv_has ls 2 [(0, .ref a), (1, .int x1)] := hl
  obtain ⟨OUT, hQ, hO⟩ : ∃ z, (z = P_Trees_kindOf N rt L f x1) ∧ Oq z (P_Trees_kindOf N rt L f x1) := ⟨_, rfl, rfl⟩
  rw [← hQ] at hE
  clear hQ
  refine lv_aload_n hx hb dTrees_kindOf_0 rfl (lv_at hl 0 rfl) ?_
  refine lv_iload_n hx hb dTrees_kindOf_1 rfl (lv_at hl 1 rfl) ?_
  refine pu_Vi (rest := []) S hC (fc_Trees_has l γ Z a N rt L f x1) meTrees_has qw_42d433c8d4 ⟨Nat.le_of_ble_eq_true rfl, Nat.le_of_ble_eq_true rfl⟩ (va_recv hC.1 hP (ci := 1) (q0 := 0) rfl rfl) hI rfl hl.1 rfl (Nat.le_of_ble_eq_true rfl) dTrees_kindOf_2 ⟨Nat.zero_le _, Nat.zero_le _⟩ (fun r4 hr4 => ?_)
  obtain ⟨hr4, er4⟩ := hr4
  refine lv_if_eq (tgt := 17) hx hb dTrees_kindOf_5 (by decide) (fun c5 => ?_) (fun c5 => ?_)
  · refine lv_iconst (v := (-1)) hx hb dTrees_kindOf_17 (by decide) ?_
    exact hE _ _ _ ⟨trivial, (by subst er4; exact (hO.tr (if_pos c5)).symm)⟩ dTrees_kindOf_18
  · refine lv_aload_n hx hb dTrees_kindOf_8 rfl (lv_at hl 0 rfl) ?_
    refine va_get (D := γ.1) (ci := 1) (v := .ref b0) (C := R_Trees) (T := T_Trees) (N := 6) (Ts := bs_W0) hx hb hW in_Trees hown hC.1 hP 0 rfl rfl 0 (by decide) (hW _ qw_ffd9ddfb57) (fun _ h9 => h9) rfl dTrees_kindOf_9 ?_
    refine lv_iload_n hx hb dTrees_kindOf_12 rfl (lv_at hl 1 rfl) ?_
    refine va_iald hx hb hC.1 hP 1 0 rfl rfl (in_has (by assumption) (by assumption) (by omega) (by omega)) dTrees_kindOf_13 ?_
    refine lv_topi (fun v6 ev6 => ?_)
    refine lv_goto (tgt := 18) hx hb dTrees_kindOf_14 (by decide) ?_
    exact hE _ _ _ ⟨trivial, (by subst ev6 er4; exact (hO.tr (if_neg c5)).symm)⟩ dTrees_kindOf_18
theorem f1_Trees_kindOf (l : Launch) (γ : gE) (A : Nat → Prop) (κ : Nat → Nat) (φ : gF) (ψ : gG) (x1 : Int32)  : PU l yTrees_kindOf bTrees_kindOf 2 (some .int) 1 21 [.ref (γ.2.2.2 1), .int x1] γ (INVF γ A κ φ ψ) (vp_Si (fun v : Int32 => (True) ∧ v = P_Trees_kindOf (κ 0) (κ 1) (κ 11) (φ 2) x1)) :=
  puf_up 2 (by decide) (by decide) (fun Z => fc_Trees_kindOf l γ Z (γ.2.2.2 1) (κ 0) (κ 1) (κ 11) (φ 2) x1)

def P_Trees_valueOf (N rt L : Nat) (f : gf) (x1 : Int32) : Int32 := (if (P_Trees_has N rt L f x1) = 0 then (-1) else ((f 1) x1.toNatClampNeg))
set_option maxHeartbeats 4000000 in
set_option maxRecDepth 100000 in
theorem fc_Trees_valueOf (l : Launch) (γ : gE) (Z : Nat → Prop) (a N rt L : Nat) (f : gf) (x1 : Int32)  : PU l yTrees_valueOf bTrees_valueOf 2 (some .int) 1 21 [.ref a, .int x1] γ (cmp γ (gTrees γ a N rt L f) Z) (vp_Si (fun v : Int32 => (True) ∧ v = P_Trees_valueOf N rt L f x1)) := by
  refine pu_openI (by decide) (Nat.le_of_ble_eq_true rfl) ?_
  intro p e s m args below meth c ls Q S hC hI hE hl
  obtain ⟨hx, hb, hml, hown, hW⟩ := id S
  obtain ⟨ws, ⟨b0, b1, b2, b3, rfl, h1, h2, h3, h4, h5, h6⟩, hP, hD⟩ := id hI
  have hP : va_P γ.1 vwCl [(a, .inr (1, [.ref b0, .ref b1, .ref b2, .ref b3, .int (nI N), .int (nI rt)])), (b0, .inl (γ.2.1, L, .inl (f 0))), (b1, .inl (γ.2.1, L, .inl (f 1))), (b2, .inl (γ.2.1, L, .inl (f 2))), (b3, .inl (γ.2.1, L, .inl (f 3)))] s.heap := hP
  have hl : lv_has ls 2 [(0, .ref a), (1, .int x1)] := hl
  obtain ⟨OUT, hQ, hO⟩ : ∃ z, (z = P_Trees_valueOf N rt L f x1) ∧ Oq z (P_Trees_valueOf N rt L f x1) := ⟨_, rfl, rfl⟩
  rw [← hQ] at hE
  clear hQ
  refine lv_aload_n hx hb dTrees_valueOf_0 rfl (lv_at hl 0 rfl) ?_
  refine lv_iload_n hx hb dTrees_valueOf_1 rfl (lv_at hl 1 rfl) ?_
  refine pu_Vi (rest := []) S hC (fc_Trees_has l γ Z a N rt L f x1) meTrees_has qw_42d433c8d4 ⟨Nat.le_of_ble_eq_true rfl, Nat.le_of_ble_eq_true rfl⟩ (va_recv hC.1 hP (ci := 1) (q0 := 0) rfl rfl) hI rfl hl.1 rfl (Nat.le_of_ble_eq_true rfl) dTrees_valueOf_2 ⟨Nat.zero_le _, Nat.zero_le _⟩ (fun r4 hr4 => ?_)
  obtain ⟨hr4, er4⟩ := hr4
  refine lv_if_eq (tgt := 17) hx hb dTrees_valueOf_5 (by decide) (fun c5 => ?_) (fun c5 => ?_)
  · refine lv_iconst (v := (-1)) hx hb dTrees_valueOf_17 (by decide) ?_
    exact hE _ _ _ ⟨trivial, (by subst er4; exact (hO.tr (if_pos c5)).symm)⟩ dTrees_valueOf_18
  · refine lv_aload_n hx hb dTrees_valueOf_8 rfl (lv_at hl 0 rfl) ?_
    refine va_get (D := γ.1) (ci := 1) (v := .ref b1) (C := R_Trees) (T := T_Trees) (N := 6) (Ts := bs_W0) hx hb hW in_Trees hown hC.1 hP 0 rfl rfl 1 (by decide) (hW _ qw_fdd50f5077) (fun _ h9 => h9) rfl dTrees_valueOf_9 ?_
    refine lv_iload_n hx hb dTrees_valueOf_12 rfl (lv_at hl 1 rfl) ?_
    refine va_iald hx hb hC.1 hP 2 0 rfl rfl (in_has (by assumption) (by assumption) (by omega) (by omega)) dTrees_valueOf_13 ?_
    refine lv_topi (fun v6 ev6 => ?_)
    refine lv_goto (tgt := 18) hx hb dTrees_valueOf_14 (by decide) ?_
    exact hE _ _ _ ⟨trivial, (by subst ev6 er4; exact (hO.tr (if_neg c5)).symm)⟩ dTrees_valueOf_18
theorem f1_Trees_valueOf (l : Launch) (γ : gE) (A : Nat → Prop) (κ : Nat → Nat) (φ : gF) (ψ : gG) (x1 : Int32)  : PU l yTrees_valueOf bTrees_valueOf 2 (some .int) 1 21 [.ref (γ.2.2.2 1), .int x1] γ (INVF γ A κ φ ψ) (vp_Si (fun v : Int32 => (True) ∧ v = P_Trees_valueOf (κ 0) (κ 1) (κ 11) (φ 2) x1)) :=
  puf_up 2 (by decide) (by decide) (fun Z => fc_Trees_valueOf l γ Z (γ.2.2.2 1) (κ 0) (κ 1) (κ 11) (φ 2) x1)

def P_Names_sortOf (N sc L : Nat) (f : gf) (x1 : Int32) : Int32 := (if (P_Names_has N sc L f x1) = 0 then (-1) else ((f 1) x1.toNatClampNeg))
set_option maxHeartbeats 4000000 in
set_option maxRecDepth 100000 in
theorem fc_Names_sortOf (l : Launch) (γ : gE) (Z : Nat → Prop) (a N sc L : Nat) (f : gf) (x1 : Int32)  : PU l yNames_sortOf bNames_sortOf 2 (some .int) 1 21 [.ref a, .int x1] γ (cmp γ (gNames γ a N sc L f) Z) (vp_Si (fun v : Int32 => (True) ∧ v = P_Names_sortOf N sc L f x1)) := by
  refine pu_openI (by decide) (Nat.le_of_ble_eq_true rfl) ?_
  intro p e s m args below meth c ls Q S hC hI hE hl
  obtain ⟨hx, hb, hml, hown, hW⟩ := id S
  obtain ⟨ws, ⟨b0, b1, b2, b3, b4, b5, b6, rfl, h1, h2, h3, h4, h5, h6⟩, hP, hD⟩ := id hI
  have hP : va_P γ.1 vwCl [(a, .inr (2, [.ref b0, .ref b1, .ref b2, .ref b3, .ref b4, .ref b5, .ref b6, .int (nI N), .int (nI sc)])), (b0, .inl (γ.2.1, L, .inl (f 0))), (b1, .inl (γ.2.1, L, .inl (f 1))), (b2, .inl (γ.2.1, L, .inl (f 2))), (b3, .inl (γ.2.1, L, .inl (f 3))), (b4, .inl (γ.2.1, L, .inl (f 4))), (b5, .inl (γ.2.1, 256, .inl (f 5))), (b6, .inl (γ.2.1, 32, .inl (f 6)))] s.heap := hP
  have hl : lv_has ls 2 [(0, .ref a), (1, .int x1)] := hl
  obtain ⟨OUT, hQ, hO⟩ : ∃ z, (z = P_Names_sortOf N sc L f x1) ∧ Oq z (P_Names_sortOf N sc L f x1) := ⟨_, rfl, rfl⟩
  rw [← hQ] at hE
  clear hQ
  refine lv_aload_n hx hb dNames_sortOf_0 rfl (lv_at hl 0 rfl) ?_
  refine lv_iload_n hx hb dNames_sortOf_1 rfl (lv_at hl 1 rfl) ?_
  refine pu_Vi (rest := []) S hC (fc_Names_has l γ Z a N sc L f x1) meNames_has qw_8f9013a759 ⟨Nat.le_of_ble_eq_true rfl, Nat.le_of_ble_eq_true rfl⟩ (va_recv hC.1 hP (ci := 2) (q0 := 0) rfl rfl) hI rfl hl.1 rfl (Nat.le_of_ble_eq_true rfl) dNames_sortOf_2 ⟨Nat.zero_le _, Nat.zero_le _⟩ (fun r4 hr4 => ?_)
  obtain ⟨hr4, er4⟩ := hr4
  refine lv_if_eq (tgt := 17) hx hb dNames_sortOf_5 (by decide) (fun c5 => ?_) (fun c5 => ?_)
  · refine lv_iconst (v := (-1)) hx hb dNames_sortOf_17 (by decide) ?_
    exact hE _ _ _ ⟨trivial, (by subst er4; exact (hO.tr (if_pos c5)).symm)⟩ dNames_sortOf_18
  · refine lv_aload_n hx hb dNames_sortOf_8 rfl (lv_at hl 0 rfl) ?_
    refine va_get (D := γ.1) (ci := 2) (v := .ref b1) (C := R_Names) (T := T_Names) (N := 9) (Ts := bs_W0) hx hb hW in_Names hown hC.1 hP 0 rfl rfl 1 (by decide) (hW _ qw_5903ecb25d) (fun _ h9 => h9) rfl dNames_sortOf_9 ?_
    refine lv_iload_n hx hb dNames_sortOf_12 rfl (lv_at hl 1 rfl) ?_
    refine va_iald hx hb hC.1 hP 2 0 rfl rfl (in_has (by assumption) (by assumption) (by omega) (by omega)) dNames_sortOf_13 ?_
    refine lv_topi (fun v6 ev6 => ?_)
    refine lv_goto (tgt := 18) hx hb dNames_sortOf_14 (by decide) ?_
    exact hE _ _ _ ⟨trivial, (by subst ev6 er4; exact (hO.tr (if_neg c5)).symm)⟩ dNames_sortOf_18
theorem f2_Names_sortOf (l : Launch) (γ : gE) (A : Nat → Prop) (κ : Nat → Nat) (φ : gF) (ψ : gG) (x1 : Int32)  : PU l yNames_sortOf bNames_sortOf 2 (some .int) 1 21 [.ref (γ.2.2.2 2), .int x1] γ (INVF γ A κ φ ψ) (vp_Si (fun v : Int32 => (True) ∧ v = P_Names_sortOf (κ 2) (κ 3) (κ 12) (φ 3) x1)) :=
  puf_up 3 (by decide) (by decide) (fun Z => fc_Names_sortOf l γ Z (γ.2.2.2 2) (κ 2) (κ 3) (κ 12) (φ 3) x1)

def P_Names_numberOf (N sc L : Nat) (f : gf) (x1 : Int32) : Int32 := (if (P_Names_has N sc L f x1) = 0 then (-1) else ((f 2) x1.toNatClampNeg))
set_option maxHeartbeats 4000000 in
set_option maxRecDepth 100000 in
theorem fc_Names_numberOf (l : Launch) (γ : gE) (Z : Nat → Prop) (a N sc L : Nat) (f : gf) (x1 : Int32)  : PU l yNames_numberOf bNames_numberOf 2 (some .int) 1 21 [.ref a, .int x1] γ (cmp γ (gNames γ a N sc L f) Z) (vp_Si (fun v : Int32 => (True) ∧ v = P_Names_numberOf N sc L f x1)) := by
  refine pu_openI (by decide) (Nat.le_of_ble_eq_true rfl) ?_
  intro p e s m args below meth c ls Q S hC hI hE hl
  obtain ⟨hx, hb, hml, hown, hW⟩ := id S
  obtain ⟨ws, ⟨b0, b1, b2, b3, b4, b5, b6, rfl, h1, h2, h3, h4, h5, h6⟩, hP, hD⟩ := id hI
  have hP : va_P γ.1 vwCl [(a, .inr (2, [.ref b0, .ref b1, .ref b2, .ref b3, .ref b4, .ref b5, .ref b6, .int (nI N), .int (nI sc)])), (b0, .inl (γ.2.1, L, .inl (f 0))), (b1, .inl (γ.2.1, L, .inl (f 1))), (b2, .inl (γ.2.1, L, .inl (f 2))), (b3, .inl (γ.2.1, L, .inl (f 3))), (b4, .inl (γ.2.1, L, .inl (f 4))), (b5, .inl (γ.2.1, 256, .inl (f 5))), (b6, .inl (γ.2.1, 32, .inl (f 6)))] s.heap := hP
  have hl : lv_has ls 2 [(0, .ref a), (1, .int x1)] := hl
  obtain ⟨OUT, hQ, hO⟩ : ∃ z, (z = P_Names_numberOf N sc L f x1) ∧ Oq z (P_Names_numberOf N sc L f x1) := ⟨_, rfl, rfl⟩
  rw [← hQ] at hE
  clear hQ
  refine lv_aload_n hx hb dNames_numberOf_0 rfl (lv_at hl 0 rfl) ?_
  refine lv_iload_n hx hb dNames_numberOf_1 rfl (lv_at hl 1 rfl) ?_
  refine pu_Vi (rest := []) S hC (fc_Names_has l γ Z a N sc L f x1) meNames_has qw_8f9013a759 ⟨Nat.le_of_ble_eq_true rfl, Nat.le_of_ble_eq_true rfl⟩ (va_recv hC.1 hP (ci := 2) (q0 := 0) rfl rfl) hI rfl hl.1 rfl (Nat.le_of_ble_eq_true rfl) dNames_numberOf_2 ⟨Nat.zero_le _, Nat.zero_le _⟩ (fun r4 hr4 => ?_)
  obtain ⟨hr4, er4⟩ := hr4
  refine lv_if_eq (tgt := 17) hx hb dNames_numberOf_5 (by decide) (fun c5 => ?_) (fun c5 => ?_)
  · refine lv_iconst (v := (-1)) hx hb dNames_numberOf_17 (by decide) ?_
    exact hE _ _ _ ⟨trivial, (by subst er4; exact (hO.tr (if_pos c5)).symm)⟩ dNames_numberOf_18
  · refine lv_aload_n hx hb dNames_numberOf_8 rfl (lv_at hl 0 rfl) ?_
    refine va_get (D := γ.1) (ci := 2) (v := .ref b2) (C := R_Names) (T := T_Names) (N := 9) (Ts := bs_W0) hx hb hW in_Names hown hC.1 hP 0 rfl rfl 2 (by decide) (hW _ qw_ee1ba38ad0) (fun _ h9 => h9) rfl dNames_numberOf_9 ?_
    refine lv_iload_n hx hb dNames_numberOf_12 rfl (lv_at hl 1 rfl) ?_
    refine va_iald hx hb hC.1 hP 3 0 rfl rfl (in_has (by assumption) (by assumption) (by omega) (by omega)) dNames_numberOf_13 ?_
    refine lv_topi (fun v6 ev6 => ?_)
    refine lv_goto (tgt := 18) hx hb dNames_numberOf_14 (by decide) ?_
    exact hE _ _ _ ⟨trivial, (by subst ev6 er4; exact (hO.tr (if_neg c5)).symm)⟩ dNames_numberOf_18
theorem f2_Names_numberOf (l : Launch) (γ : gE) (A : Nat → Prop) (κ : Nat → Nat) (φ : gF) (ψ : gG) (x1 : Int32)  : PU l yNames_numberOf bNames_numberOf 2 (some .int) 1 21 [.ref (γ.2.2.2 2), .int x1] γ (INVF γ A κ φ ψ) (vp_Si (fun v : Int32 => (True) ∧ v = P_Names_numberOf (κ 2) (κ 3) (κ 12) (φ 3) x1)) :=
  puf_up 3 (by decide) (by decide) (fun Z => fc_Names_numberOf l γ Z (γ.2.2.2 2) (κ 2) (κ 3) (κ 12) (φ 3) x1)

def P_Names_partOf (N sc L : Nat) (f : gf) (x1 : Int32) : Int32 := (if (P_Names_has N sc L f x1) = 0 then (-1) else ((f 3) x1.toNatClampNeg))
set_option maxHeartbeats 4000000 in
set_option maxRecDepth 100000 in
theorem fc_Names_partOf (l : Launch) (γ : gE) (Z : Nat → Prop) (a N sc L : Nat) (f : gf) (x1 : Int32)  : PU l yNames_partOf bNames_partOf 2 (some .int) 1 21 [.ref a, .int x1] γ (cmp γ (gNames γ a N sc L f) Z) (vp_Si (fun v : Int32 => (True) ∧ v = P_Names_partOf N sc L f x1)) := by
  refine pu_openI (by decide) (Nat.le_of_ble_eq_true rfl) ?_
  intro p e s m args below meth c ls Q S hC hI hE hl
  obtain ⟨hx, hb, hml, hown, hW⟩ := id S
  obtain ⟨ws, ⟨b0, b1, b2, b3, b4, b5, b6, rfl, h1, h2, h3, h4, h5, h6⟩, hP, hD⟩ := id hI
  have hP : va_P γ.1 vwCl [(a, .inr (2, [.ref b0, .ref b1, .ref b2, .ref b3, .ref b4, .ref b5, .ref b6, .int (nI N), .int (nI sc)])), (b0, .inl (γ.2.1, L, .inl (f 0))), (b1, .inl (γ.2.1, L, .inl (f 1))), (b2, .inl (γ.2.1, L, .inl (f 2))), (b3, .inl (γ.2.1, L, .inl (f 3))), (b4, .inl (γ.2.1, L, .inl (f 4))), (b5, .inl (γ.2.1, 256, .inl (f 5))), (b6, .inl (γ.2.1, 32, .inl (f 6)))] s.heap := hP
  have hl : lv_has ls 2 [(0, .ref a), (1, .int x1)] := hl
  obtain ⟨OUT, hQ, hO⟩ : ∃ z, (z = P_Names_partOf N sc L f x1) ∧ Oq z (P_Names_partOf N sc L f x1) := ⟨_, rfl, rfl⟩
  rw [← hQ] at hE
  clear hQ
  refine lv_aload_n hx hb dNames_partOf_0 rfl (lv_at hl 0 rfl) ?_
  refine lv_iload_n hx hb dNames_partOf_1 rfl (lv_at hl 1 rfl) ?_
  refine pu_Vi (rest := []) S hC (fc_Names_has l γ Z a N sc L f x1) meNames_has qw_8f9013a759 ⟨Nat.le_of_ble_eq_true rfl, Nat.le_of_ble_eq_true rfl⟩ (va_recv hC.1 hP (ci := 2) (q0 := 0) rfl rfl) hI rfl hl.1 rfl (Nat.le_of_ble_eq_true rfl) dNames_partOf_2 ⟨Nat.zero_le _, Nat.zero_le _⟩ (fun r4 hr4 => ?_)
  obtain ⟨hr4, er4⟩ := hr4
  refine lv_if_eq (tgt := 17) hx hb dNames_partOf_5 (by decide) (fun c5 => ?_) (fun c5 => ?_)
  · refine lv_iconst (v := (-1)) hx hb dNames_partOf_17 (by decide) ?_
    exact hE _ _ _ ⟨trivial, (by subst er4; exact (hO.tr (if_pos c5)).symm)⟩ dNames_partOf_18
  · refine lv_aload_n hx hb dNames_partOf_8 rfl (lv_at hl 0 rfl) ?_
    refine va_get (D := γ.1) (ci := 2) (v := .ref b3) (C := R_Names) (T := T_Names) (N := 9) (Ts := bs_W0) hx hb hW in_Names hown hC.1 hP 0 rfl rfl 3 (by decide) (hW _ qw_1a22e5f505) (fun _ h9 => h9) rfl dNames_partOf_9 ?_
    refine lv_iload_n hx hb dNames_partOf_12 rfl (lv_at hl 1 rfl) ?_
    refine va_iald hx hb hC.1 hP 4 0 rfl rfl (in_has (by assumption) (by assumption) (by omega) (by omega)) dNames_partOf_13 ?_
    refine lv_topi (fun v6 ev6 => ?_)
    refine lv_goto (tgt := 18) hx hb dNames_partOf_14 (by decide) ?_
    exact hE _ _ _ ⟨trivial, (by subst ev6 er4; exact (hO.tr (if_neg c5)).symm)⟩ dNames_partOf_18
theorem f2_Names_partOf (l : Launch) (γ : gE) (A : Nat → Prop) (κ : Nat → Nat) (φ : gF) (ψ : gG) (x1 : Int32)  : PU l yNames_partOf bNames_partOf 2 (some .int) 1 21 [.ref (γ.2.2.2 2), .int x1] γ (INVF γ A κ φ ψ) (vp_Si (fun v : Int32 => (True) ∧ v = P_Names_partOf (κ 2) (κ 3) (κ 12) (φ 3) x1)) :=
  puf_up 3 (by decide) (by decide) (fun Z => fc_Names_partOf l γ Z (γ.2.2.2 2) (κ 2) (κ 3) (κ 12) (φ 3) x1)

def P_Types_classOf (N L : Nat) (f : gf) (x1 : Int32) : Int32 := (if (P_Types_has N L f x1) = 0 then (-1) else ((f 0) x1.toNatClampNeg))
set_option maxHeartbeats 4000000 in
set_option maxRecDepth 100000 in
theorem fc_Types_classOf (l : Launch) (γ : gE) (Z : Nat → Prop) (a N L : Nat) (f : gf) (x1 : Int32)  : PU l yTypes_classOf bTypes_classOf 2 (some .int) 1 21 [.ref a, .int x1] γ (cmp γ (gTypes γ a N L f) Z) (vp_Si (fun v : Int32 => (True) ∧ v = P_Types_classOf N L f x1)) := by
  refine pu_openI (by decide) (Nat.le_of_ble_eq_true rfl) ?_
  intro p e s m args below meth c ls Q S hC hI hE hl
  obtain ⟨hx, hb, hml, hown, hW⟩ := id S
  obtain ⟨ws, ⟨b0, b1, b2, b3, rfl, h1, h2, h3⟩, hP, hD⟩ := id hI
  have hP : va_P γ.1 vwCl [(a, .inr (3, [.ref b0, .ref b1, .ref b2, .ref b3, .int (nI N)])), (b0, .inl (γ.2.1, L, .inl (f 0))), (b1, .inl (γ.2.1, L, .inl (f 1))), (b2, .inl (γ.2.1, L, .inl (f 2))), (b3, .inl (γ.2.1, L, .inl (f 3)))] s.heap := hP
  have hl : lv_has ls 2 [(0, .ref a), (1, .int x1)] := hl
  obtain ⟨OUT, hQ, hO⟩ : ∃ z, (z = P_Types_classOf N L f x1) ∧ Oq z (P_Types_classOf N L f x1) := ⟨_, rfl, rfl⟩
  rw [← hQ] at hE
  clear hQ
  refine lv_aload_n hx hb dTypes_classOf_0 rfl (lv_at hl 0 rfl) ?_
  refine lv_iload_n hx hb dTypes_classOf_1 rfl (lv_at hl 1 rfl) ?_
  refine pu_Vi (rest := []) S hC (fc_Types_has l γ Z a N L f x1) meTypes_has qw_252588eab3 ⟨Nat.le_of_ble_eq_true rfl, Nat.le_of_ble_eq_true rfl⟩ (va_recv hC.1 hP (ci := 3) (q0 := 0) rfl rfl) hI rfl hl.1 rfl (Nat.le_of_ble_eq_true rfl) dTypes_classOf_2 ⟨Nat.zero_le _, Nat.zero_le _⟩ (fun r4 hr4 => ?_)
  obtain ⟨hr4, er4⟩ := hr4
  refine lv_if_eq (tgt := 17) hx hb dTypes_classOf_5 (by decide) (fun c5 => ?_) (fun c5 => ?_)
  · refine lv_iconst (v := (-1)) hx hb dTypes_classOf_17 (by decide) ?_
    exact hE _ _ _ ⟨trivial, (by subst er4; exact (hO.tr (if_pos c5)).symm)⟩ dTypes_classOf_18
  · refine lv_aload_n hx hb dTypes_classOf_8 rfl (lv_at hl 0 rfl) ?_
    refine va_get (D := γ.1) (ci := 3) (v := .ref b0) (C := R_Types) (T := T_Types) (N := 5) (Ts := bs_W0) hx hb hW in_Types hown hC.1 hP 0 rfl rfl 0 (by decide) (hW _ qw_9652573c2f) (fun _ h9 => h9) rfl dTypes_classOf_9 ?_
    refine lv_iload_n hx hb dTypes_classOf_12 rfl (lv_at hl 1 rfl) ?_
    refine va_iald hx hb hC.1 hP 1 0 rfl rfl (in_has (by assumption) (by assumption) (by omega) (by omega)) dTypes_classOf_13 ?_
    refine lv_topi (fun v6 ev6 => ?_)
    refine lv_goto (tgt := 18) hx hb dTypes_classOf_14 (by decide) ?_
    exact hE _ _ _ ⟨trivial, (by subst ev6 er4; exact (hO.tr (if_neg c5)).symm)⟩ dTypes_classOf_18
theorem f3_Types_classOf (l : Launch) (γ : gE) (A : Nat → Prop) (κ : Nat → Nat) (φ : gF) (ψ : gG) (x1 : Int32)  : PU l yTypes_classOf bTypes_classOf 2 (some .int) 1 21 [.ref (γ.2.2.2 3), .int x1] γ (INVF γ A κ φ ψ) (vp_Si (fun v : Int32 => (True) ∧ v = P_Types_classOf (κ 4) (κ 13) (φ 4) x1)) :=
  puf_up 4 (by decide) (by decide) (fun Z => fc_Types_classOf l γ Z (γ.2.2.2 3) (κ 4) (κ 13) (φ 4) x1)

def P_Types_leftOf (N L : Nat) (f : gf) (x1 : Int32) : Int32 := (if (P_Types_has N L f x1) = 0 then 0 else ((f 1) x1.toNatClampNeg))
set_option maxHeartbeats 4000000 in
set_option maxRecDepth 100000 in
theorem fc_Types_leftOf (l : Launch) (γ : gE) (Z : Nat → Prop) (a N L : Nat) (f : gf) (x1 : Int32)  : PU l yTypes_leftOf bTypes_leftOf 2 (some .int) 1 21 [.ref a, .int x1] γ (cmp γ (gTypes γ a N L f) Z) (vp_Si (fun v : Int32 => (True) ∧ v = P_Types_leftOf N L f x1)) := by
  refine pu_openI (by decide) (Nat.le_of_ble_eq_true rfl) ?_
  intro p e s m args below meth c ls Q S hC hI hE hl
  obtain ⟨hx, hb, hml, hown, hW⟩ := id S
  obtain ⟨ws, ⟨b0, b1, b2, b3, rfl, h1, h2, h3⟩, hP, hD⟩ := id hI
  have hP : va_P γ.1 vwCl [(a, .inr (3, [.ref b0, .ref b1, .ref b2, .ref b3, .int (nI N)])), (b0, .inl (γ.2.1, L, .inl (f 0))), (b1, .inl (γ.2.1, L, .inl (f 1))), (b2, .inl (γ.2.1, L, .inl (f 2))), (b3, .inl (γ.2.1, L, .inl (f 3)))] s.heap := hP
  have hl : lv_has ls 2 [(0, .ref a), (1, .int x1)] := hl
  obtain ⟨OUT, hQ, hO⟩ : ∃ z, (z = P_Types_leftOf N L f x1) ∧ Oq z (P_Types_leftOf N L f x1) := ⟨_, rfl, rfl⟩
  rw [← hQ] at hE
  clear hQ
  refine lv_aload_n hx hb dTypes_leftOf_0 rfl (lv_at hl 0 rfl) ?_
  refine lv_iload_n hx hb dTypes_leftOf_1 rfl (lv_at hl 1 rfl) ?_
  refine pu_Vi (rest := []) S hC (fc_Types_has l γ Z a N L f x1) meTypes_has qw_252588eab3 ⟨Nat.le_of_ble_eq_true rfl, Nat.le_of_ble_eq_true rfl⟩ (va_recv hC.1 hP (ci := 3) (q0 := 0) rfl rfl) hI rfl hl.1 rfl (Nat.le_of_ble_eq_true rfl) dTypes_leftOf_2 ⟨Nat.zero_le _, Nat.zero_le _⟩ (fun r4 hr4 => ?_)
  obtain ⟨hr4, er4⟩ := hr4
  refine lv_if_eq (tgt := 17) hx hb dTypes_leftOf_5 (by decide) (fun c5 => ?_) (fun c5 => ?_)
  · refine lv_iconst (v := 0) hx hb dTypes_leftOf_17 (by decide) ?_
    exact hE _ _ _ ⟨trivial, (by subst er4; exact (hO.tr (if_pos c5)).symm)⟩ dTypes_leftOf_18
  · refine lv_aload_n hx hb dTypes_leftOf_8 rfl (lv_at hl 0 rfl) ?_
    refine va_get (D := γ.1) (ci := 3) (v := .ref b1) (C := R_Types) (T := T_Types) (N := 5) (Ts := bs_W0) hx hb hW in_Types hown hC.1 hP 0 rfl rfl 1 (by decide) (hW _ qw_3e3b315a67) (fun _ h9 => h9) rfl dTypes_leftOf_9 ?_
    refine lv_iload_n hx hb dTypes_leftOf_12 rfl (lv_at hl 1 rfl) ?_
    refine va_iald hx hb hC.1 hP 2 0 rfl rfl (in_has (by assumption) (by assumption) (by omega) (by omega)) dTypes_leftOf_13 ?_
    refine lv_topi (fun v6 ev6 => ?_)
    refine lv_goto (tgt := 18) hx hb dTypes_leftOf_14 (by decide) ?_
    exact hE _ _ _ ⟨trivial, (by subst ev6 er4; exact (hO.tr (if_neg c5)).symm)⟩ dTypes_leftOf_18
theorem f3_Types_leftOf (l : Launch) (γ : gE) (A : Nat → Prop) (κ : Nat → Nat) (φ : gF) (ψ : gG) (x1 : Int32)  : PU l yTypes_leftOf bTypes_leftOf 2 (some .int) 1 21 [.ref (γ.2.2.2 3), .int x1] γ (INVF γ A κ φ ψ) (vp_Si (fun v : Int32 => (True) ∧ v = P_Types_leftOf (κ 4) (κ 13) (φ 4) x1)) :=
  puf_up 4 (by decide) (by decide) (fun Z => fc_Types_leftOf l γ Z (γ.2.2.2 3) (κ 4) (κ 13) (φ 4) x1)

def P_Types_rightOf (N L : Nat) (f : gf) (x1 : Int32) : Int32 := (if (P_Types_has N L f x1) = 0 then 0 else ((f 2) x1.toNatClampNeg))
set_option maxHeartbeats 4000000 in
set_option maxRecDepth 100000 in
theorem fc_Types_rightOf (l : Launch) (γ : gE) (Z : Nat → Prop) (a N L : Nat) (f : gf) (x1 : Int32)  : PU l yTypes_rightOf bTypes_rightOf 2 (some .int) 1 21 [.ref a, .int x1] γ (cmp γ (gTypes γ a N L f) Z) (vp_Si (fun v : Int32 => (True) ∧ v = P_Types_rightOf N L f x1)) := by
  refine pu_openI (by decide) (Nat.le_of_ble_eq_true rfl) ?_
  intro p e s m args below meth c ls Q S hC hI hE hl
  obtain ⟨hx, hb, hml, hown, hW⟩ := id S
  obtain ⟨ws, ⟨b0, b1, b2, b3, rfl, h1, h2, h3⟩, hP, hD⟩ := id hI
  have hP : va_P γ.1 vwCl [(a, .inr (3, [.ref b0, .ref b1, .ref b2, .ref b3, .int (nI N)])), (b0, .inl (γ.2.1, L, .inl (f 0))), (b1, .inl (γ.2.1, L, .inl (f 1))), (b2, .inl (γ.2.1, L, .inl (f 2))), (b3, .inl (γ.2.1, L, .inl (f 3)))] s.heap := hP
  have hl : lv_has ls 2 [(0, .ref a), (1, .int x1)] := hl
  obtain ⟨OUT, hQ, hO⟩ : ∃ z, (z = P_Types_rightOf N L f x1) ∧ Oq z (P_Types_rightOf N L f x1) := ⟨_, rfl, rfl⟩
  rw [← hQ] at hE
  clear hQ
  refine lv_aload_n hx hb dTypes_rightOf_0 rfl (lv_at hl 0 rfl) ?_
  refine lv_iload_n hx hb dTypes_rightOf_1 rfl (lv_at hl 1 rfl) ?_
  refine pu_Vi (rest := []) S hC (fc_Types_has l γ Z a N L f x1) meTypes_has qw_252588eab3 ⟨Nat.le_of_ble_eq_true rfl, Nat.le_of_ble_eq_true rfl⟩ (va_recv hC.1 hP (ci := 3) (q0 := 0) rfl rfl) hI rfl hl.1 rfl (Nat.le_of_ble_eq_true rfl) dTypes_rightOf_2 ⟨Nat.zero_le _, Nat.zero_le _⟩ (fun r4 hr4 => ?_)
  obtain ⟨hr4, er4⟩ := hr4
  refine lv_if_eq (tgt := 17) hx hb dTypes_rightOf_5 (by decide) (fun c5 => ?_) (fun c5 => ?_)
  · refine lv_iconst (v := 0) hx hb dTypes_rightOf_17 (by decide) ?_
    exact hE _ _ _ ⟨trivial, (by subst er4; exact (hO.tr (if_pos c5)).symm)⟩ dTypes_rightOf_18
  · refine lv_aload_n hx hb dTypes_rightOf_8 rfl (lv_at hl 0 rfl) ?_
    refine va_get (D := γ.1) (ci := 3) (v := .ref b2) (C := R_Types) (T := T_Types) (N := 5) (Ts := bs_W0) hx hb hW in_Types hown hC.1 hP 0 rfl rfl 2 (by decide) (hW _ qw_dd571233a8) (fun _ h9 => h9) rfl dTypes_rightOf_9 ?_
    refine lv_iload_n hx hb dTypes_rightOf_12 rfl (lv_at hl 1 rfl) ?_
    refine va_iald hx hb hC.1 hP 3 0 rfl rfl (in_has (by assumption) (by assumption) (by omega) (by omega)) dTypes_rightOf_13 ?_
    refine lv_topi (fun v6 ev6 => ?_)
    refine lv_goto (tgt := 18) hx hb dTypes_rightOf_14 (by decide) ?_
    exact hE _ _ _ ⟨trivial, (by subst ev6 er4; exact (hO.tr (if_neg c5)).symm)⟩ dTypes_rightOf_18
theorem f3_Types_rightOf (l : Launch) (γ : gE) (A : Nat → Prop) (κ : Nat → Nat) (φ : gF) (ψ : gG) (x1 : Int32)  : PU l yTypes_rightOf bTypes_rightOf 2 (some .int) 1 21 [.ref (γ.2.2.2 3), .int x1] γ (INVF γ A κ φ ψ) (vp_Si (fun v : Int32 => (True) ∧ v = P_Types_rightOf (κ 4) (κ 13) (φ 4) x1)) :=
  puf_up 4 (by decide) (by decide) (fun Z => fc_Types_rightOf l γ Z (γ.2.2.2 3) (κ 4) (κ 13) (φ 4) x1)

def P_Types_countOf (N L : Nat) (f : gf) (x1 : Int32) : Int32 := (if (P_Types_has N L f x1) = 0 then 0 else (if 0 ≤ ((f 3) x1.toNatClampNeg) then ((f 3) x1.toNatClampNeg) else 0 - ((f 3) x1.toNatClampNeg)))
set_option maxHeartbeats 4000000 in
set_option maxRecDepth 100000 in
theorem fc_Types_countOf (l : Launch) (γ : gE) (Z : Nat → Prop) (a N L : Nat) (f : gf) (x1 : Int32)  : PU l yTypes_countOf bTypes_countOf 2 (some .int) 1 21 [.ref a, .int x1] γ (cmp γ (gTypes γ a N L f) Z) (vp_Si (fun v : Int32 => (True) ∧ v = P_Types_countOf N L f x1)) := by
  refine pu_openI (by decide) (Nat.le_of_ble_eq_true rfl) ?_
  intro p e s m args below meth c ls Q S hC hI hE hl
  obtain ⟨hx, hb, hml, hown, hW⟩ := id S
  obtain ⟨ws, ⟨b0, b1, b2, b3, rfl, h1, h2, h3⟩, hP, hD⟩ := id hI
  have hP : va_P γ.1 vwCl [(a, .inr (3, [.ref b0, .ref b1, .ref b2, .ref b3, .int (nI N)])), (b0, .inl (γ.2.1, L, .inl (f 0))), (b1, .inl (γ.2.1, L, .inl (f 1))), (b2, .inl (γ.2.1, L, .inl (f 2))), (b3, .inl (γ.2.1, L, .inl (f 3)))] s.heap := hP
  have hl : lv_has ls 2 [(0, .ref a), (1, .int x1)] := hl
  obtain ⟨OUT, hQ, hO⟩ : ∃ z, (z = P_Types_countOf N L f x1) ∧ Oq z (P_Types_countOf N L f x1) := ⟨_, rfl, rfl⟩
  rw [← hQ] at hE
  clear hQ
  refine lv_aload_n hx hb dTypes_countOf_0 rfl (lv_at hl 0 rfl) ?_
  refine lv_iload_n hx hb dTypes_countOf_1 rfl (lv_at hl 1 rfl) ?_
  refine pu_Vi (rest := []) S hC (fc_Types_has l γ Z a N L f x1) meTypes_has qw_252588eab3 ⟨Nat.le_of_ble_eq_true rfl, Nat.le_of_ble_eq_true rfl⟩ (va_recv hC.1 hP (ci := 3) (q0 := 0) rfl rfl) hI rfl hl.1 rfl (Nat.le_of_ble_eq_true rfl) dTypes_countOf_2 ⟨Nat.zero_le _, Nat.zero_le _⟩ (fun r5 hr5 => ?_)
  obtain ⟨hr5, er5⟩ := hr5
  refine lv_if_eq (tgt := 20) hx hb dTypes_countOf_5 (by decide) (fun c6 => ?_) (fun c6 => ?_)
  · refine lv_iconst (v := 0) hx hb dTypes_countOf_20 (by decide) ?_
    exact hE _ _ _ ⟨trivial, (by subst er5; exact (hO.tr (if_pos c6)).symm)⟩ dTypes_countOf_21
  · refine lv_aload_n hx hb dTypes_countOf_8 rfl (lv_at hl 0 rfl) ?_
    refine va_get (D := γ.1) (ci := 3) (v := .ref b3) (C := R_Types) (T := T_Types) (N := 5) (Ts := bs_W0) hx hb hW in_Types hown hC.1 hP 0 rfl rfl 3 (by decide) (hW _ qw_dded4610c2) (fun _ h9 => h9) rfl dTypes_countOf_9 ?_
    refine lv_iload_n hx hb dTypes_countOf_12 rfl (lv_at hl 1 rfl) ?_
    refine va_iald hx hb hC.1 hP 4 0 rfl rfl (in_has (by assumption) (by assumption) (by omega) (by omega)) dTypes_countOf_13 ?_
    refine lv_topi (fun v7 ev7 => ?_)
    refine va_mabs (rest := []) hx hb (hml.trans hl.1.symm) hown (hW _ qw_3728bb290b) (hW _ qw_788fc9f3dd) (hW _ qw_0001fcaade) (hW _ qw_970e918a43) (Nat.le_of_ble_eq_true rfl) (Nat.le_of_ble_eq_true rfl) (Nat.zero_le _) (Nat.zero_le _) dTypes_countOf_14 ?_
    refine lv_topi (fun v8 ev8 => ?_)
    refine lv_goto (tgt := 21) hx hb dTypes_countOf_17 (by decide) ?_
    exact hE _ _ _ ⟨trivial, (by subst ev8 ev7 er5; exact (hO.tr (if_neg c6)).symm)⟩ dTypes_countOf_21
theorem f3_Types_countOf (l : Launch) (γ : gE) (A : Nat → Prop) (κ : Nat → Nat) (φ : gF) (ψ : gG) (x1 : Int32)  : PU l yTypes_countOf bTypes_countOf 2 (some .int) 1 21 [.ref (γ.2.2.2 3), .int x1] γ (INVF γ A κ φ ψ) (vp_Si (fun v : Int32 => (True) ∧ v = P_Types_countOf (κ 4) (κ 13) (φ 4) x1)) :=
  puf_up 4 (by decide) (by decide) (fun Z => fc_Types_countOf l γ Z (γ.2.2.2 3) (κ 4) (κ 13) (φ 4) x1)

def P_Objects_whatOf (N L : Nat) (f : gf) (x1 : Int32) : Int32 := (if (P_Objects_has N L f x1) = 0 then (-1) else ((f 0) x1.toNatClampNeg))
set_option maxHeartbeats 4000000 in
set_option maxRecDepth 100000 in
theorem fc_Objects_whatOf (l : Launch) (γ : gE) (Z : Nat → Prop) (a rw N L : Nat) (f : gf) (x1 : Int32)  : PU l yObjects_whatOf bObjects_whatOf 2 (some .int) 1 21 [.ref a, .int x1] γ (cmp γ (gObjects γ a rw N L f) Z) (vp_Si (fun v : Int32 => (True) ∧ v = P_Objects_whatOf N L f x1)) := by
  refine pu_openI (by decide) (Nat.le_of_ble_eq_true rfl) ?_
  intro p e s m args below meth c ls Q S hC hI hE hl
  obtain ⟨hx, hb, hml, hown, hW⟩ := id S
  obtain ⟨ws, ⟨b0, b1, b2, rfl, h1, h2, h3⟩, hP, hD⟩ := id hI
  have hP : va_P γ.1 vwCl [(a, .inr (4, [.ref b0, .ref b1, .ref b2, .ref rw, .int (nI N)])), (b0, .inl (γ.2.1, L, .inl (f 0))), (b1, .inl (γ.2.1, L, .inl (f 1))), (b2, .inl (γ.2.1, L, .inl (f 2)))] s.heap := hP
  have hl : lv_has ls 2 [(0, .ref a), (1, .int x1)] := hl
  obtain ⟨OUT, hQ, hO⟩ : ∃ z, (z = P_Objects_whatOf N L f x1) ∧ Oq z (P_Objects_whatOf N L f x1) := ⟨_, rfl, rfl⟩
  rw [← hQ] at hE
  clear hQ
  refine lv_aload_n hx hb dObjects_whatOf_0 rfl (lv_at hl 0 rfl) ?_
  refine lv_iload_n hx hb dObjects_whatOf_1 rfl (lv_at hl 1 rfl) ?_
  refine pu_Vi (rest := []) S hC (fc_Objects_has l γ Z a rw N L f x1) meObjects_has qw_2f2cb5cb5a ⟨Nat.le_of_ble_eq_true rfl, Nat.le_of_ble_eq_true rfl⟩ (va_recv hC.1 hP (ci := 4) (q0 := 0) rfl rfl) hI rfl hl.1 rfl (Nat.le_of_ble_eq_true rfl) dObjects_whatOf_2 ⟨Nat.zero_le _, Nat.zero_le _⟩ (fun r4 hr4 => ?_)
  obtain ⟨hr4, er4⟩ := hr4
  refine lv_if_eq (tgt := 17) hx hb dObjects_whatOf_5 (by decide) (fun c5 => ?_) (fun c5 => ?_)
  · refine lv_iconst (v := (-1)) hx hb dObjects_whatOf_17 (by decide) ?_
    exact hE _ _ _ ⟨trivial, (by subst er4; exact (hO.tr (if_pos c5)).symm)⟩ dObjects_whatOf_18
  · refine lv_aload_n hx hb dObjects_whatOf_8 rfl (lv_at hl 0 rfl) ?_
    refine va_get (D := γ.1) (ci := 4) (v := .ref b0) (C := R_Objects) (T := T_Objects) (N := 5) (Ts := bs_W0) hx hb hW in_Objects hown hC.1 hP 0 rfl rfl 0 (by decide) (hW _ qw_bb1fa418e1) (fun _ h9 => h9) rfl dObjects_whatOf_9 ?_
    refine lv_iload_n hx hb dObjects_whatOf_12 rfl (lv_at hl 1 rfl) ?_
    refine va_iald hx hb hC.1 hP 1 0 rfl rfl (in_has (by assumption) (by assumption) (by omega) (by omega)) dObjects_whatOf_13 ?_
    refine lv_topi (fun v6 ev6 => ?_)
    refine lv_goto (tgt := 18) hx hb dObjects_whatOf_14 (by decide) ?_
    exact hE _ _ _ ⟨trivial, (by subst ev6 er4; exact (hO.tr (if_neg c5)).symm)⟩ dObjects_whatOf_18
theorem f4_Objects_whatOf (l : Launch) (γ : gE) (A : Nat → Prop) (κ : Nat → Nat) (φ : gF) (ψ : gG) (x1 : Int32)  : PU l yObjects_whatOf bObjects_whatOf 2 (some .int) 1 21 [.ref (γ.2.2.2 4), .int x1] γ (INVF γ A κ φ ψ) (vp_Si (fun v : Int32 => (True) ∧ v = P_Objects_whatOf (κ 5) (κ 14) (φ 5) x1)) :=
  puf_up 5 (by decide) (by decide) (fun Z => fc_Objects_whatOf l γ Z (γ.2.2.2 4) (γ.2.2.2 5) (κ 5) (κ 14) (φ 5) x1)

def P_Objects_typeOfObject (N L : Nat) (f : gf) (x1 : Int32) : Int32 := (if (P_Objects_has N L f x1) = 0 then (-1) else ((f 1) x1.toNatClampNeg))
set_option maxHeartbeats 4000000 in
set_option maxRecDepth 100000 in
theorem fc_Objects_typeOfObject (l : Launch) (γ : gE) (Z : Nat → Prop) (a rw N L : Nat) (f : gf) (x1 : Int32)  : PU l yObjects_typeOfObject bObjects_typeOfObject 2 (some .int) 1 21 [.ref a, .int x1] γ (cmp γ (gObjects γ a rw N L f) Z) (vp_Si (fun v : Int32 => (True) ∧ v = P_Objects_typeOfObject N L f x1)) := by
  refine pu_openI (by decide) (Nat.le_of_ble_eq_true rfl) ?_
  intro p e s m args below meth c ls Q S hC hI hE hl
  obtain ⟨hx, hb, hml, hown, hW⟩ := id S
  obtain ⟨ws, ⟨b0, b1, b2, rfl, h1, h2, h3⟩, hP, hD⟩ := id hI
  have hP : va_P γ.1 vwCl [(a, .inr (4, [.ref b0, .ref b1, .ref b2, .ref rw, .int (nI N)])), (b0, .inl (γ.2.1, L, .inl (f 0))), (b1, .inl (γ.2.1, L, .inl (f 1))), (b2, .inl (γ.2.1, L, .inl (f 2)))] s.heap := hP
  have hl : lv_has ls 2 [(0, .ref a), (1, .int x1)] := hl
  obtain ⟨OUT, hQ, hO⟩ : ∃ z, (z = P_Objects_typeOfObject N L f x1) ∧ Oq z (P_Objects_typeOfObject N L f x1) := ⟨_, rfl, rfl⟩
  rw [← hQ] at hE
  clear hQ
  refine lv_aload_n hx hb dObjects_typeOfObject_0 rfl (lv_at hl 0 rfl) ?_
  refine lv_iload_n hx hb dObjects_typeOfObject_1 rfl (lv_at hl 1 rfl) ?_
  refine pu_Vi (rest := []) S hC (fc_Objects_has l γ Z a rw N L f x1) meObjects_has qw_2f2cb5cb5a ⟨Nat.le_of_ble_eq_true rfl, Nat.le_of_ble_eq_true rfl⟩ (va_recv hC.1 hP (ci := 4) (q0 := 0) rfl rfl) hI rfl hl.1 rfl (Nat.le_of_ble_eq_true rfl) dObjects_typeOfObject_2 ⟨Nat.zero_le _, Nat.zero_le _⟩ (fun r4 hr4 => ?_)
  obtain ⟨hr4, er4⟩ := hr4
  refine lv_if_eq (tgt := 17) hx hb dObjects_typeOfObject_5 (by decide) (fun c5 => ?_) (fun c5 => ?_)
  · refine lv_iconst (v := (-1)) hx hb dObjects_typeOfObject_17 (by decide) ?_
    exact hE _ _ _ ⟨trivial, (by subst er4; exact (hO.tr (if_pos c5)).symm)⟩ dObjects_typeOfObject_18
  · refine lv_aload_n hx hb dObjects_typeOfObject_8 rfl (lv_at hl 0 rfl) ?_
    refine va_get (D := γ.1) (ci := 4) (v := .ref b1) (C := R_Objects) (T := T_Objects) (N := 5) (Ts := bs_W0) hx hb hW in_Objects hown hC.1 hP 0 rfl rfl 1 (by decide) (hW _ qw_541217fbcc) (fun _ h9 => h9) rfl dObjects_typeOfObject_9 ?_
    refine lv_iload_n hx hb dObjects_typeOfObject_12 rfl (lv_at hl 1 rfl) ?_
    refine va_iald hx hb hC.1 hP 2 0 rfl rfl (in_has (by assumption) (by assumption) (by omega) (by omega)) dObjects_typeOfObject_13 ?_
    refine lv_topi (fun v6 ev6 => ?_)
    refine lv_goto (tgt := 18) hx hb dObjects_typeOfObject_14 (by decide) ?_
    exact hE _ _ _ ⟨trivial, (by subst ev6 er4; exact (hO.tr (if_neg c5)).symm)⟩ dObjects_typeOfObject_18
theorem f4_Objects_typeOfObject (l : Launch) (γ : gE) (A : Nat → Prop) (κ : Nat → Nat) (φ : gF) (ψ : gG) (x1 : Int32)  : PU l yObjects_typeOfObject bObjects_typeOfObject 2 (some .int) 1 21 [.ref (γ.2.2.2 4), .int x1] γ (INVF γ A κ φ ψ) (vp_Si (fun v : Int32 => (True) ∧ v = P_Objects_typeOfObject (κ 5) (κ 14) (φ 5) x1)) :=
  puf_up 5 (by decide) (by decide) (fun Z => fc_Objects_typeOfObject l γ Z (γ.2.2.2 4) (γ.2.2.2 5) (κ 5) (κ 14) (φ 5) x1)
