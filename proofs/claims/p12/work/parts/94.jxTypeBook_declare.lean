theorem qw_ba22bdaa87 : (Cond.fieldLink R_TypeBook 33 R_TypeBook "objects" "LTypeBook$Objects;") ∈ bs_W0 := bs_in (in_tables_1_2 (List.mem_of_getElem? (i := 55) rfl)) rfl
theorem qn_e6bc9a285a : (Cond.fieldLinkNest R_TypeBook 190 R_Objects "size" "I" "TypeBook") ∈ lw_tbl := in_tables_1_1 (List.mem_of_getElem? (i := 182) rfl)
theorem qw_38c6a61637 : (Cond.methodLink R_TypeBook 193 yObjects_put) ∈ bs_W0 := bs_in (in_tables_1_5 (List.mem_of_getElem? (i := 84) rfl)) rfl
theorem qw_cacfa3400d : (Cond.methodLink R_TypeBook 195 yObjects_keep) ∈ bs_W0 := bs_in (in_tables_1_5 (List.mem_of_getElem? (i := 90) rfl)) rfl
set_option maxHeartbeats 4000000 in
set_option maxRecDepth 100000 in
theorem x_declare (l : Launch) (hst : l.stackTraces = false) (γ : gE) (A : Nat → Prop) (κ : Nat → Nat) (s0 : State) (hw0 : SW s0) (hA0 : ∀ q, A q → s0.heap.size ≤ q) (H0 : Heap) (x1 : Int32) (x2 : Int32) (x3 : Int32) (x4 : Int32) : XM l yTypeBook_declare bTypeBook_declare 7 (some .int) 7 174 50000 1000000 [.ref (γ.2.2.2 0), .int x1, .int x2, .int x3, .int x4] γ A (fun U => FB s0 U U.heap ∧ U.heap = H0 ∧ INV γ A κ U.heap) (mQi (fun r H => PB γ A κ H0 (fun κ' => κ' 3 = κ 3 ∧ κ' 0 = κ 0 ∧ κ' 1 = κ 1) H) A) (fun E H => E ∈ ["java/lang/IndexOutOfBoundsException", "java/lang/IllegalArgumentException", "java/lang/IllegalStateException"] ∧ PB γ A κ H0 (fun κ' => κ' 3 = κ 3 ∧ κ' 0 = κ 0 ∧ κ' 1 = κ 1) H ∧ fr_A A H0 H) := by
  refine tx_openI (by decide) (Nat.le_of_ble_eq_true rfl) ?_
  intro p e s m args below meth c ls Q S hret hlk hX hC hA hP hQ hl
  obtain ⟨hF0, hH0, hI⟩ := hP
  subst hH0
  obtain ⟨hx, hb, hml, hown, hW⟩ := id S
  have hS : va_S A s.heap s.heap [] := va_S.rf
  have hl : lv_has ls 7 [(0, .ref (γ.2.2.2 0)), (1, .int x1), (2, .int x2), (3, .int x3), (4, .int x4)] := hl
  obtain ⟨hlen, hsz⟩ := inv_len hI
  have J212 : ∀ (ls : Array Slot) (H : Heap) (locs : List Loc) (i1 : Int32) (i2 : Int32) (i3 : Int32) (i4 : Int32) (i5 : Int32) (i6 : Int32), INV γ A (ku (ku (ku κ 14 (wl (κ 14) (κ 5 + 1))) 8 (wl (κ 8) (κ 5 + 1))) 5 (κ 5 + 1)) H → va_S A s.heap H locs → (κ 2 + 1 ≤ 3012) → (κ 5 < 2000) → lv_has ls 7 [(0, .ref (γ.2.2.2 0)), (1, .int i1), (2, .int i2), (3, .int i3), (4, .int i4), (5, .int i5), (6, .int i6)] → W p l e (bs_rm 7 50000 1000000 174) s m args below meth c H locs (0 + (0 + wc (κ 14) (κ 5 + 1) + wc (κ 14) (κ 5 + 1) + wc (κ 14) (κ 5 + 1) + wc (κ 8) (κ 5 + 1))) (0 + (0 + wm (κ 14) (κ 5 + 1) + wm (κ 14) (κ 5 + 1) + wm (κ 14) (κ 5 + 1) + 4 * wm (κ 8) (κ 5 + 1))) Q (F0 m 212 ls []) := by
    intro ls H locs i1 i2 i3 i4 i5 i6 hI hS hN2 hN5 hl
    have hwc14 := wcm (n := κ 14) (N := κ 5 + 1) (by omega) (by omega)
    have hwc8 := wcm (n := κ 8) (N := κ 5 + 1) (by omega) (by omega)
    have hwc12 := wcm (n := κ 12) (N := κ 2 + 1) (by omega) (by omega)
    refine lv_aload_n hx hb dTypeBook_declare_212 rfl (lv_at hl 0 rfl) ?_
    refine of_get S hC (of_0_1 hI) in_TypeBook rfl (by decide) qw_a088f6ef48 dTypeBook_declare_213 ?_
    refine lv_iload_n hx hb dTypeBook_declare_216 rfl (lv_at hl 2 rfl) ?_
    refine lv_iconst (v := 2) hx hb dTypeBook_declare_217 (by decide) ?_
    refine lv_iload hx hb dTypeBook_declare_218 (lv_at hl 6 rfl) ?_
    refine lv_iconst (v := 0) hx hb dTypeBook_declare_220 (by decide) ?_
    refine mu_Vv (rest := []) S hC (fun q h => hA q (Nat.le_trans hS.1 h)) (fun q h => h) hS (k2_Names_put l γ A (ku (ku (ku κ 14 (wl (κ 14) (κ 5 + 1))) 8 (wl (κ 8) (κ 5 + 1))) 5 (κ 5 + 1)) i2 2 i6 0 (by show κ 2 ≤ 4000; omega)) meNames_put qw_b1d56e075d ⟨Nat.le_of_ble_eq_true rfl, Nat.le_of_ble_eq_true rfl⟩ (rv_2 hC hI) hI rfl hl.1 rfl (Nat.le_of_ble_eq_true rfl) dTypeBook_declare_221 ⟨(by show 0 + (0 + wc (κ 14) (κ 5 + 1) + wc (κ 14) (κ 5 + 1) + wc (κ 14) (κ 5 + 1) + wc (κ 8) (κ 5 + 1)) + (0 + wc (κ 12) (κ 2 + 1) + wc (κ 12) (κ 2 + 1) + wc (κ 12) (κ 2 + 1) + wc (κ 12) (κ 2 + 1) + wc (κ 12) (κ 2 + 1)) ≤ 50000; omega), (by show 0 + (0 + wm (κ 14) (κ 5 + 1) + wm (κ 14) (κ 5 + 1) + wm (κ 14) (κ 5 + 1) + 4 * wm (κ 8) (κ 5 + 1)) + (0 + wm (κ 12) (κ 2 + 1) + wm (κ 12) (κ 2 + 1) + wm (κ 12) (κ 2 + 1) + wm (κ 12) (κ 2 + 1) + wm (κ 12) (κ 2 + 1)) ≤ 1000000; omega)⟩ (fun H locs hI hS _ _ => ?_)
    refine W.cs (cells' := 0 + (0 + wc (κ 14) (κ 5 + 1) + wc (κ 14) (κ 5 + 1) + wc (κ 14) (κ 5 + 1) + wc (κ 8) (κ 5 + 1)) + (0 + wc (κ 12) (κ 2 + 1) + wc (κ 12) (κ 2 + 1) + wc (κ 12) (κ 2 + 1) + wc (κ 12) (κ 2 + 1) + wc (κ 12) (κ 2 + 1))) (slots' := 0 + (0 + wm (κ 14) (κ 5 + 1) + wm (κ 14) (κ 5 + 1) + wm (κ 14) (κ 5 + 1) + 4 * wm (κ 8) (κ 5 + 1)) + (0 + wm (κ 12) (κ 2 + 1) + wm (κ 12) (κ 2 + 1) + wm (κ 12) (κ 2 + 1) + wm (κ 12) (κ 2 + 1) + wm (κ 12) (κ 2 + 1))) rfl rfl ?_
    have hI : INV γ A (ku (ku (ku (ku (ku κ 14 (wl (κ 14) (κ 5 + 1))) 8 (wl (κ 8) (κ 5 + 1))) 5 (κ 5 + 1)) 2 (κ 2 + 1)) 12 (wl (κ 12) (κ 2 + 1))) _ := hI
    refine lv_aload_n hx hb dTypeBook_declare_224 rfl (lv_at hl 0 rfl) ?_
    refine lv_iconst (v := (-1)) hx hb dTypeBook_declare_225 (by decide) ?_
    refine iv_fault S hC hI (fun q h => hA q (Nat.le_trans hS.1 h)) hS qw_464f80981e dTypeBook_declare_226 (fun H locs hI hS => ?_)
    refine lv_iload hx hb dTypeBook_declare_229 (lv_at hl 6 rfl) ?_
    rw [hQ]
    refine tx_endI S hret hlk hS (by show 0 + (0 + wc (κ 14) (κ 5 + 1) + wc (κ 14) (κ 5 + 1) + wc (κ 14) (κ 5 + 1) + wc (κ 8) (κ 5 + 1)) + (0 + wc (κ 12) (κ 2 + 1) + wc (κ 12) (κ 2 + 1) + wc (κ 12) (κ 2 + 1) + wc (κ 12) (κ 2 + 1) + wc (κ 12) (κ 2 + 1)) ≤ 50000; omega) (by show 0 + (0 + wm (κ 14) (κ 5 + 1) + wm (κ 14) (κ 5 + 1) + wm (κ 14) (κ 5 + 1) + 4 * wm (κ 8) (κ 5 + 1)) + (0 + wm (κ 12) (κ 2 + 1) + wm (κ 12) (κ 2 + 1) + wm (κ 12) (κ 2 + 1) + wm (κ 12) (κ 2 + 1) + wm (κ 12) (κ 2 + 1)) ≤ 1000000; omega) (fun hG => ?_) dTypeBook_declare_231
    exact (pb_of (ku (ku (ku (ku (ku κ 14 (wl (κ 14) (κ 5 + 1))) 8 (wl (κ 8) (κ 5 + 1))) 5 (κ 5 + 1)) 2 (κ 2 + 1)) 12 (wl (κ 12) (κ 2 + 1))) hI (show κ 3 = κ 3 ∧ κ 0 = κ 0 ∧ κ 1 = κ 1 from ⟨rfl, rfl, rfl⟩) hG (by show 5 * (κ 6) + 5 * (κ 7) + 4 * (κ 8) + 4 * (κ 9) + 4 * (κ 10) + 4 * (κ 11) + 5 * (κ 12) + 4 * (κ 13) + 3 * (κ 14) + 1 * (κ 15) ≤ 5 * (κ 6) + 5 * (κ 7) + 4 * (wl (κ 8) (κ 5 + 1)) + 4 * (κ 9) + 4 * (κ 10) + 4 * (κ 11) + 5 * (wl (κ 12) (κ 2 + 1)) + 4 * (κ 13) + 3 * (wl (κ 14) (κ 5 + 1)) + 1 * (κ 15); omega) (by show 0 + (0 + wc (κ 14) (κ 5 + 1) + wc (κ 14) (κ 5 + 1) + wc (κ 14) (κ 5 + 1) + wc (κ 8) (κ 5 + 1)) + (0 + wc (κ 12) (κ 2 + 1) + wc (κ 12) (κ 2 + 1) + wc (κ 12) (κ 2 + 1) + wc (κ 12) (κ 2 + 1) + wc (κ 12) (κ 2 + 1)) ≤ (5 * (κ 6) + 5 * (κ 7) + 4 * (wl (κ 8) (κ 5 + 1)) + 4 * (κ 9) + 4 * (κ 10) + 4 * (κ 11) + 5 * (wl (κ 12) (κ 2 + 1)) + 4 * (κ 13) + 3 * (wl (κ 14) (κ 5 + 1)) + 1 * (κ 15)) - (5 * (κ 6) + 5 * (κ 7) + 4 * (κ 8) + 4 * (κ 9) + 4 * (κ 10) + 4 * (κ 11) + 5 * (κ 12) + 4 * (κ 13) + 3 * (κ 14) + 1 * (κ 15)) + 1; omega) (by show 0 + (0 + wm (κ 14) (κ 5 + 1) + wm (κ 14) (κ 5 + 1) + wm (κ 14) (κ 5 + 1) + 4 * wm (κ 8) (κ 5 + 1)) + (0 + wm (κ 12) (κ 2 + 1) + wm (κ 12) (κ 2 + 1) + wm (κ 12) (κ 2 + 1) + wm (κ 12) (κ 2 + 1) + wm (κ 12) (κ 2 + 1)) ≤ 2 * ((5 * (κ 6) + 5 * (κ 7) + 4 * (wl (κ 8) (κ 5 + 1)) + 4 * (κ 9) + 4 * (κ 10) + 4 * (κ 11) + 5 * (wl (κ 12) (κ 2 + 1)) + 4 * (κ 13) + 3 * (wl (κ 14) (κ 5 + 1)) + 1 * (κ 15)) - (5 * (κ 6) + 5 * (κ 7) + 4 * (κ 8) + 4 * (κ 9) + 4 * (κ 10) + 4 * (κ 11) + 5 * (κ 12) + 4 * (κ 13) + 3 * (κ 14) + 1 * (κ 15))) + 6; omega))
  have J157 : ∀ (ls : Array Slot) (H : Heap) (locs : List Loc) (i1 : Int32) (i2 : Int32) (i3 : Int32) (i4 : Int32) (i5 : Int32), INV γ A κ H → va_S A s.heap H locs → lv_has ls 7 [(0, .ref (γ.2.2.2 0)), (1, .int i1), (2, .int i2), (3, .int i3), (4, .int i4), (5, .int i5)] → W p l e (bs_rm 7 50000 1000000 174) s m args below meth c H locs 0 0 Q (F0 m 157 ls []) := by
    intro ls H locs i1 i2 i3 i4 i5 hI hS hl
    obtain ⟨sa157, hsa157⟩ := hw0.2.2.2.1 R_TypeBook 191 "no room for an object" (in_tables_1_5 (List.mem_of_getElem? (i := 83) rfl))
    rw [hQ]
    refine tx_throw (s0 := s0) (names := ["java/lang/RuntimeException", "java/lang/Exception"]) (text := "no room for an object") (sa := sa157) S hst hX hlk (by decide +kernel) (by decide +kernel) qw_8038d8d33c qw_f529d83890 (hF0.step hA0 hS.1 hS.2.1) hsa157 (ta_ISE hW hw0) hl.1 dTypeBook_declare_157 dTypeBook_declare_160 dTypeBook_declare_161 dTypeBook_declare_163 dTypeBook_declare_166 (Nat.lt_of_lt_of_le (by decide) (Nat.le_of_ble_eq_true rfl : 6 ≤ _)) (Nat.le_of_ble_eq_true rfl) (by show 0 + 1 ≤ 50000; omega) (by show 0 + 6 ≤ 1000000; omega) (fun H1 hG hz ho => ?_) hS.2.2 (by show 0 + 1 ≤ 50000; omega) (by show 0 + 6 ≤ 1000000; omega)
    exact ⟨by decide, (pb_of κ (inv_more hI ho) (show κ 3 = κ 3 ∧ κ 0 = κ 0 ∧ κ 1 = κ 1 from ⟨rfl, rfl, rfl⟩) hG (by show 5 * (κ 6) + 5 * (κ 7) + 4 * (κ 8) + 4 * (κ 9) + 4 * (κ 10) + 4 * (κ 11) + 5 * (κ 12) + 4 * (κ 13) + 3 * (κ 14) + 1 * (κ 15) ≤ 5 * (κ 6) + 5 * (κ 7) + 4 * (κ 8) + 4 * (κ 9) + 4 * (κ 10) + 4 * (κ 11) + 5 * (κ 12) + 4 * (κ 13) + 3 * (κ 14) + 1 * (κ 15); omega) (by show 0 + 1 ≤ (5 * (κ 6) + 5 * (κ 7) + 4 * (κ 8) + 4 * (κ 9) + 4 * (κ 10) + 4 * (κ 11) + 5 * (κ 12) + 4 * (κ 13) + 3 * (κ 14) + 1 * (κ 15)) - (5 * (κ 6) + 5 * (κ 7) + 4 * (κ 8) + 4 * (κ 9) + 4 * (κ 10) + 4 * (κ 11) + 5 * (κ 12) + 4 * (κ 13) + 3 * (κ 14) + 1 * (κ 15)) + 1; omega) (by show 0 + 6 ≤ 2 * ((5 * (κ 6) + 5 * (κ 7) + 4 * (κ 8) + 4 * (κ 9) + 4 * (κ 10) + 4 * (κ 11) + 5 * (κ 12) + 4 * (κ 13) + 3 * (κ 14) + 1 * (κ 15)) - (5 * (κ 6) + 5 * (κ 7) + 4 * (κ 8) + 4 * (κ 9) + 4 * (κ 10) + 4 * (κ 11) + 5 * (κ 12) + 4 * (κ 13) + 3 * (κ 14) + 1 * (κ 15))) + 6; omega)), fr_more hS hz ho⟩
  have J93 : ∀ (ls : Array Slot) (H : Heap) (locs : List Loc) (i1 : Int32) (i2 : Int32) (i3 : Int32) (i4 : Int32) (t0 : Int32), INV γ A κ H → va_S A s.heap H locs → (i1 = 0 → (i4.toInt < 2147483647 ∧ (i4 - 1).toInt < 2147483647)) → lv_has ls 7 [(0, .ref (γ.2.2.2 0)), (1, .int i1), (2, .int i2), (3, .int i3), (4, .int i4)] → W p l e (bs_rm 7 50000 1000000 174) s m args below meth c H locs 0 0 Q (F0 m 93 ls [.int t0]) := by
    intro ls H locs i1 i2 i3 i4 t0 hI hS hq hl
    refine lv_istore (lv' := [(5, .int t0), (0, .ref (γ.2.2.2 0)), (1, .int i1), (2, .int i2), (3, .int i3), (4, .int i4)]) hx hb dTypeBook_declare_93 hl (by decide) rfl (fun ls hl => ?_)
    refine lv_iload hx hb dTypeBook_declare_95 (lv_at hl 0 rfl) ?_
    refine lv_if_eq (tgt := 114) hx hb dTypeBook_declare_97 (by decide) (fun c29 => ?_) (fun c29 => ?_)
    · refine lv_aload_n hx hb dTypeBook_declare_114 rfl (lv_at hl 1 rfl) ?_
      refine of_get S hC (of_0_1 hI) in_TypeBook rfl (by decide) qw_a088f6ef48 dTypeBook_declare_115 ?_
      refine lv_iload_n hx hb dTypeBook_declare_118 rfl (lv_at hl 3 rfl) ?_
      refine pu_Vi (rest := []) S hC (k2_Names_isTaken l γ A κ i2) meNames_isTaken qw_5bf4c88d20 ⟨Nat.le_of_ble_eq_true rfl, Nat.le_of_ble_eq_true rfl⟩ (rv_2 hC hI) hI rfl hl.1 rfl (Nat.le_of_ble_eq_true rfl) dTypeBook_declare_119 ⟨(by show _ ≤ 50000; omega), (by show _ ≤ 1000000; omega)⟩ (fun r30 hr30 => ?_)
      refine lv_if_eq (tgt := 133) hx hb dTypeBook_declare_122 (by decide) (fun c31 => ?_) (fun c31 => ?_)
      · refine lv_aload_n hx hb dTypeBook_declare_133 rfl (lv_at hl 1 rfl) ?_
        refine of_get S hC (of_0_3 hI) in_TypeBook rfl (by decide) qw_ba22bdaa87 dTypeBook_declare_134 ?_
        refine of_getN S hC (of_4_4 hI) in_Objects rfl (by decide) qn_e6bc9a285a dTypeBook_declare_137 ?_
        refine lv_topi (fun v32 ev32 => ?_)
        have ev32 : v32 = nI (κ 5) := ev32
        refine lv_sipush (v := 2000) hx hb dTypeBook_declare_140 (by decide) ?_
        refine lv_icmp_ge (tgt := 157) hx hb dTypeBook_declare_143 (by decide) (fun c33 => ?_) (fun c33 => ?_)
        · refine W.up (k := 0) (n := 0) (by show 0 ≤ _; omega) (by show 0 ≤ _; omega) ?_
          exact J157 ls _ _ i1 i2 i3 i4 t0 hI hS (lv_sub hl [1, 2, 3, 4, 5, 0] rfl)
        · refine lv_aload_n hx hb dTypeBook_declare_146 rfl (lv_at hl 1 rfl) ?_
          refine of_get S hC (of_0_1 hI) in_TypeBook rfl (by decide) qw_a088f6ef48 dTypeBook_declare_147 ?_
          refine lv_iconst (v := 1) hx hb dTypeBook_declare_150 (by decide) ?_
          refine vp_callSi (va_Run.run (va_runV (As := [.int (nI (1))]) (rest := []) S (k_haveRoom l γ A κ s0 hw0 hA0 (1) (by omega)) (bs_cwV hW meNames_haveRoom qw_bd2f27f55e rfl rfl ⟨Nat.le_of_ble_eq_true rfl, Nat.le_of_ble_eq_true rfl⟩) ⟨hr_blind, rv_2 hC hI, fun U hU hW9 => ⟨rfl, hC.warm hW9, by rw [hU]; exact (hF0.step hA0 hS.1 hS.2.1).warm hW9, by rw [hU]; exact hI⟩⟩ rfl rfl hl.1 rfl (lv_room (Nat.le_of_ble_eq_true rfl)) dTypeBook_declare_151 ⟨by show 0 + 0 ≤ 50000; omega, by show 0 + 0 ≤ 1000000; omega⟩)) (fun r34 hr34 => ?_)
          refine lv_if_ne (tgt := 167) hx hb dTypeBook_declare_154 (by decide) (fun c35 => ?_) (fun c35 => ?_)
          · have hN5 : κ 5 < 2000 := nge_ok (M := 2000) (by assumption) rfl (by assumption) (by omega) (by omega)
            have hN2 : κ 2 + 1 ≤ 3012 := Or.resolve_left (by assumption) (by assumption)
            have hwc14 := wcm (n := κ 14) (N := κ 5 + 1) (by omega) (by omega)
            have hwc8 := wcm (n := κ 8) (N := κ 5 + 1) (by omega) (by omega)
            refine lv_aload_n hx hb dTypeBook_declare_167 rfl (lv_at hl 1 rfl) ?_
            refine of_get S hC (of_0_3 hI) in_TypeBook rfl (by decide) qw_ba22bdaa87 dTypeBook_declare_168 ?_
            refine lv_iload_n hx hb dTypeBook_declare_171 rfl (lv_at hl 2 rfl) ?_
            refine lv_iload_n hx hb dTypeBook_declare_172 rfl (lv_at hl 4 rfl) ?_
            refine mu_Vi (rest := []) S hC (fun q h => hA q (Nat.le_trans hS.1 h)) (fun q h => h) hS (k_Objects_put l γ A κ i1 i3 (by show κ 5 ≤ 4000; omega)) meObjects_put qw_38c6a61637 ⟨Nat.le_of_ble_eq_true rfl, Nat.le_of_ble_eq_true rfl⟩ (rv_4 hC hI) hI rfl hl.1 rfl (Nat.le_of_ble_eq_true rfl) dTypeBook_declare_173 ⟨(by show 0 + (0 + wc (κ 14) (κ 5 + 1) + wc (κ 14) (κ 5 + 1) + wc (κ 14) (κ 5 + 1) + wc (κ 8) (κ 5 + 1)) ≤ 50000; omega), (by show 0 + (0 + wm (κ 14) (κ 5 + 1) + wm (κ 14) (κ 5 + 1) + wm (κ 14) (κ 5 + 1) + 4 * wm (κ 8) (κ 5 + 1)) ≤ 1000000; omega)⟩ (fun r36 H locs ⟨hr36, hI⟩ hS _ _ => ?_)
            refine W.cs (cells' := 0 + (0 + wc (κ 14) (κ 5 + 1) + wc (κ 14) (κ 5 + 1) + wc (κ 14) (κ 5 + 1) + wc (κ 8) (κ 5 + 1))) (slots' := 0 + (0 + wm (κ 14) (κ 5 + 1) + wm (κ 14) (κ 5 + 1) + wm (κ 14) (κ 5 + 1) + 4 * wm (κ 8) (κ 5 + 1))) rfl rfl ?_
            have hI : INV γ A (ku (ku (ku κ 14 (wl (κ 14) (κ 5 + 1))) 8 (wl (κ 8) (κ 5 + 1))) 5 (κ 5 + 1)) _ := hI
            have er36 : r36 = nI (κ 5) := hr36
            refine lv_istore (lv' := [(6, .int r36), (5, .int t0), (0, .ref (γ.2.2.2 0)), (1, .int i1), (2, .int i2), (3, .int i3), (4, .int i4)]) hx hb dTypeBook_declare_176 hl (by decide) rfl (fun ls hl => ?_)
            refine lv_iload_n hx hb dTypeBook_declare_178 rfl (lv_at hl 3 rfl) ?_
            refine lv_if_ne (tgt := 212) hx hb dTypeBook_declare_179 (by decide) (fun c37 => ?_) (fun c37 => ?_)
            · refine W.up (k := 0 + (0 + wc (κ 14) (κ 5 + 1) + wc (κ 14) (κ 5 + 1) + wc (κ 14) (κ 5 + 1) + wc (κ 8) (κ 5 + 1))) (n := 0 + (0 + wm (κ 14) (κ 5 + 1) + wm (κ 14) (κ 5 + 1) + wm (κ 14) (κ 5 + 1) + 4 * wm (κ 8) (κ 5 + 1))) (by show 0 + (0 + wc (κ 14) (κ 5 + 1) + wc (κ 14) (κ 5 + 1) + wc (κ 14) (κ 5 + 1) + wc (κ 8) (κ 5 + 1)) ≤ _; omega) (by show 0 + (0 + wm (κ 14) (κ 5 + 1) + wm (κ 14) (κ 5 + 1) + wm (κ 14) (κ 5 + 1) + 4 * wm (κ 8) (κ 5 + 1)) ≤ _; omega) ?_
              exact J212 ls _ _ i1 i2 i3 i4 t0 r36 hI hS hN2 hN5 (lv_sub hl [2, 3, 4, 5, 6, 1, 0] rfl)
            · obtain ⟨hnode, hnode2⟩ := hq (by first | assumption | exact Classical.not_not.mp (by assumption))
              refine lv_aload_n hx hb dTypeBook_declare_182 rfl (lv_at hl 2 rfl) ?_
              refine of_get S hC (of_0_5 hI) in_TypeBook rfl (by decide) qw_130a6323a2 dTypeBook_declare_183 ?_
              refine lv_aload_n hx hb dTypeBook_declare_186 rfl (lv_at hl 2 rfl) ?_
              refine of_get S hC (of_0_4 hI) in_TypeBook rfl (by decide) qw_ce6a8385d0 dTypeBook_declare_187 ?_
              refine lv_iload hx hb dTypeBook_declare_190 (lv_at hl 6 rfl) ?_
              refine lv_iload hx hb dTypeBook_declare_192 (lv_at hl 6 rfl) ?_
              refine mu_Vv (rest := []) S hC (fun q h => hA q (Nat.le_trans hS.1 h)) (fun q h => h) hS (k_Looker_tell l γ A (ku (ku (ku κ 14 (wl (κ 14) (κ 5 + 1))) 8 (wl (κ 8) (κ 5 + 1))) 5 (κ 5 + 1)) i4 i4 hnode) meLooker_tell qw_e2e3c61940 ⟨Nat.le_of_ble_eq_true rfl, Nat.le_of_ble_eq_true rfl⟩ (rv_8 hC hI) hI rfl hl.1 rfl (Nat.le_of_ble_eq_true rfl) dTypeBook_declare_194 ⟨(by show 0 + (0 + wc (κ 14) (κ 5 + 1) + wc (κ 14) (κ 5 + 1) + wc (κ 14) (κ 5 + 1) + wc (κ 8) (κ 5 + 1)) + 0 ≤ 50000; omega), (by show 0 + (0 + wm (κ 14) (κ 5 + 1) + wm (κ 14) (κ 5 + 1) + wm (κ 14) (κ 5 + 1) + 4 * wm (κ 8) (κ 5 + 1)) + 0 ≤ 1000000; omega)⟩ (fun H locs hI hS _ _ => ?_)
              refine lv_aload_n hx hb dTypeBook_declare_197 rfl (lv_at hl 2 rfl) ?_
              refine of_get S hC (of_0_3 hI) in_TypeBook rfl (by decide) qw_ba22bdaa87 dTypeBook_declare_198 ?_
              refine lv_iload hx hb dTypeBook_declare_201 (lv_at hl 0 rfl) ?_
              refine lv_aload_n hx hb dTypeBook_declare_203 rfl (lv_at hl 2 rfl) ?_
              refine of_get S hC (of_0_4 hI) in_TypeBook rfl (by decide) qw_ce6a8385d0 dTypeBook_declare_204 ?_
              refine lv_iload hx hb dTypeBook_declare_207 (lv_at hl 6 rfl) ?_
              refine mu_Vv (rest := []) S hC (fun q h => hA q (Nat.le_trans hS.1 h)) (fun q h => h) hS (k_Objects_keep l γ A (ku (ku (ku κ 14 (wl (κ 14) (κ 5 + 1))) 8 (wl (κ 8) (κ 5 + 1))) 5 (κ 5 + 1)) r36 i4) meObjects_keep qw_cacfa3400d ⟨Nat.le_of_ble_eq_true rfl, Nat.le_of_ble_eq_true rfl⟩ (rv_4 hC hI) hI rfl hl.1 rfl (Nat.le_of_ble_eq_true rfl) dTypeBook_declare_209 ⟨(by show 0 + (0 + wc (κ 14) (κ 5 + 1) + wc (κ 14) (κ 5 + 1) + wc (κ 14) (κ 5 + 1) + wc (κ 8) (κ 5 + 1)) + 0 ≤ 50000; omega), (by show 0 + (0 + wm (κ 14) (κ 5 + 1) + wm (κ 14) (κ 5 + 1) + wm (κ 14) (κ 5 + 1) + 4 * wm (κ 8) (κ 5 + 1)) + 0 ≤ 1000000; omega)⟩ (fun H locs hI hS _ _ => ?_)
              refine W.up (k := 0 + (0 + wc (κ 14) (κ 5 + 1) + wc (κ 14) (κ 5 + 1) + wc (κ 14) (κ 5 + 1) + wc (κ 8) (κ 5 + 1))) (n := 0 + (0 + wm (κ 14) (κ 5 + 1) + wm (κ 14) (κ 5 + 1) + wm (κ 14) (κ 5 + 1) + 4 * wm (κ 8) (κ 5 + 1))) (by show 0 + (0 + wc (κ 14) (κ 5 + 1) + wc (κ 14) (κ 5 + 1) + wc (κ 14) (κ 5 + 1) + wc (κ 8) (κ 5 + 1)) ≤ _; omega) (by show 0 + (0 + wm (κ 14) (κ 5 + 1) + wm (κ 14) (κ 5 + 1) + wm (κ 14) (κ 5 + 1) + 4 * wm (κ 8) (κ 5 + 1)) ≤ _; omega) ?_
              exact J212 ls _ _ i1 i2 i3 i4 t0 r36 hI hS hN2 hN5 (lv_sub hl [2, 3, 4, 5, 6, 1, 0] rfl)
          · refine W.up (k := 0) (n := 0) (by show 0 ≤ _; omega) (by show 0 ≤ _; omega) ?_
            exact J157 ls _ _ i1 i2 i3 i4 t0 hI hS (lv_sub hl [1, 2, 3, 4, 5, 0] rfl)
      · refine lv_aload_n hx hb dTypeBook_declare_125 rfl (lv_at hl 1 rfl) ?_
        refine lv_bipush (v := 7) hx hb dTypeBook_declare_126 (by decide) ?_
        refine lv_iconst (v := (-1)) hx hb dTypeBook_declare_128 (by decide) ?_
        refine mu_Vi (rest := []) S hC (fun q h => hA q (Nat.le_trans hS.1 h)) (fun q h => h) hS (k_TypeBook_refused l γ A κ 7 (-1)) meTypeBook_refused qw_fa3e8c2955 ⟨Nat.le_of_ble_eq_true rfl, Nat.le_of_ble_eq_true rfl⟩ (rv_0 hC hI) hI rfl hl.1 rfl (Nat.le_of_ble_eq_true rfl) dTypeBook_declare_129 ⟨(by show 0 + 0 ≤ 50000; omega), (by show 0 + 0 ≤ 1000000; omega)⟩ (fun r40 H locs ⟨hr40, hI⟩ hS _ _ => ?_)
        rw [hQ]
        refine tx_endI S hret hlk hS (by show 0 ≤ 50000; omega) (by show 0 ≤ 1000000; omega) (fun hG => ?_) dTypeBook_declare_132
        exact (pb_of κ hI (show κ 3 = κ 3 ∧ κ 0 = κ 0 ∧ κ 1 = κ 1 from ⟨rfl, rfl, rfl⟩) hG (by show 5 * (κ 6) + 5 * (κ 7) + 4 * (κ 8) + 4 * (κ 9) + 4 * (κ 10) + 4 * (κ 11) + 5 * (κ 12) + 4 * (κ 13) + 3 * (κ 14) + 1 * (κ 15) ≤ 5 * (κ 6) + 5 * (κ 7) + 4 * (κ 8) + 4 * (κ 9) + 4 * (κ 10) + 4 * (κ 11) + 5 * (κ 12) + 4 * (κ 13) + 3 * (κ 14) + 1 * (κ 15); omega) (by show 0 ≤ (5 * (κ 6) + 5 * (κ 7) + 4 * (κ 8) + 4 * (κ 9) + 4 * (κ 10) + 4 * (κ 11) + 5 * (κ 12) + 4 * (κ 13) + 3 * (κ 14) + 1 * (κ 15)) - (5 * (κ 6) + 5 * (κ 7) + 4 * (κ 8) + 4 * (κ 9) + 4 * (κ 10) + 4 * (κ 11) + 5 * (κ 12) + 4 * (κ 13) + 3 * (κ 14) + 1 * (κ 15)) + 1; omega) (by show 0 ≤ 2 * ((5 * (κ 6) + 5 * (κ 7) + 4 * (κ 8) + 4 * (κ 9) + 4 * (κ 10) + 4 * (κ 11) + 5 * (κ 12) + 4 * (κ 13) + 3 * (κ 14) + 1 * (κ 15)) - (5 * (κ 6) + 5 * (κ 7) + 4 * (κ 8) + 4 * (κ 9) + 4 * (κ 10) + 4 * (κ 11) + 5 * (κ 12) + 4 * (κ 13) + 3 * (κ 14) + 1 * (κ 15))) + 6; omega))
    · refine lv_aload_n hx hb dTypeBook_declare_100 rfl (lv_at hl 1 rfl) ?_
      refine lv_iload hx hb dTypeBook_declare_101 (lv_at hl 0 rfl) ?_
      refine lv_aload_n hx hb dTypeBook_declare_103 rfl (lv_at hl 1 rfl) ?_
      refine of_get S hC (of_0_5 hI) in_TypeBook rfl (by decide) qw_130a6323a2 dTypeBook_declare_104 ?_
      obtain ⟨v41, hOv41⟩ := of_8_7 hI
      refine of_getN S hC hOv41 in_Looker rfl (by decide) qn_b283086a15 dTypeBook_declare_107 ?_
      refine mu_Vi (rest := []) S hC (fun q h => hA q (Nat.le_trans hS.1 h)) (fun q h => h) hS (k_TypeBook_refused l γ A κ t0 v41) meTypeBook_refused qw_fa3e8c2955 ⟨Nat.le_of_ble_eq_true rfl, Nat.le_of_ble_eq_true rfl⟩ (rv_0 hC hI) hI rfl hl.1 rfl (Nat.le_of_ble_eq_true rfl) dTypeBook_declare_110 ⟨(by show 0 + 0 ≤ 50000; omega), (by show 0 + 0 ≤ 1000000; omega)⟩ (fun r42 H locs ⟨hr42, hI⟩ hS _ _ => ?_)
      rw [hQ]
      refine tx_endI S hret hlk hS (by show 0 ≤ 50000; omega) (by show 0 ≤ 1000000; omega) (fun hG => ?_) dTypeBook_declare_113
      exact (pb_of κ hI (show κ 3 = κ 3 ∧ κ 0 = κ 0 ∧ κ 1 = κ 1 from ⟨rfl, rfl, rfl⟩) hG (by show 5 * (κ 6) + 5 * (κ 7) + 4 * (κ 8) + 4 * (κ 9) + 4 * (κ 10) + 4 * (κ 11) + 5 * (κ 12) + 4 * (κ 13) + 3 * (κ 14) + 1 * (κ 15) ≤ 5 * (κ 6) + 5 * (κ 7) + 4 * (κ 8) + 4 * (κ 9) + 4 * (κ 10) + 4 * (κ 11) + 5 * (κ 12) + 4 * (κ 13) + 3 * (κ 14) + 1 * (κ 15); omega) (by show 0 ≤ (5 * (κ 6) + 5 * (κ 7) + 4 * (κ 8) + 4 * (κ 9) + 4 * (κ 10) + 4 * (κ 11) + 5 * (κ 12) + 4 * (κ 13) + 3 * (κ 14) + 1 * (κ 15)) - (5 * (κ 6) + 5 * (κ 7) + 4 * (κ 8) + 4 * (κ 9) + 4 * (κ 10) + 4 * (κ 11) + 5 * (κ 12) + 4 * (κ 13) + 3 * (κ 14) + 1 * (κ 15)) + 1; omega) (by show 0 ≤ 2 * ((5 * (κ 6) + 5 * (κ 7) + 4 * (κ 8) + 4 * (κ 9) + 4 * (κ 10) + 4 * (κ 11) + 5 * (κ 12) + 4 * (κ 13) + 3 * (κ 14) + 1 * (κ 15)) - (5 * (κ 6) + 5 * (κ 7) + 4 * (κ 8) + 4 * (κ 9) + 4 * (κ 10) + 4 * (κ 11) + 5 * (κ 12) + 4 * (κ 13) + 3 * (κ 14) + 1 * (κ 15))) + 6; omega))
  have J53 : ∀ (ls : Array Slot) (H : Heap) (locs : List Loc) (i1 : Int32) (i2 : Int32) (i3 : Int32) (i4 : Int32), INV γ A κ H → va_S A s.heap H locs → lv_has ls 7 [(0, .ref (γ.2.2.2 0)), (1, .int i1), (2, .int i2), (3, .int i3), (4, .int i4)] → W p l e (bs_rm 7 50000 1000000 174) s m args below meth c H locs 0 0 Q (F0 m 53 ls []) := by
    intro ls H locs i1 i2 i3 i4 hI hS hl
    obtain ⟨sa53, hsa53⟩ := hw0.2.2.2.1 R_TypeBook 184 "no such object or name" (in_tables_1_5 (List.mem_of_getElem? (i := 62) rfl))
    rw [hQ]
    refine tx_throw (s0 := s0) (names := ["java/lang/RuntimeException", "java/lang/Exception"]) (text := "no such object or name") (sa := sa53) S hst hX hlk (by decide +kernel) (by decide +kernel) qw_b17894d46b qw_ed8d893ebf (hF0.step hA0 hS.1 hS.2.1) hsa53 (ta_IAE hW hw0) hl.1 dTypeBook_declare_53 dTypeBook_declare_56 dTypeBook_declare_57 dTypeBook_declare_59 dTypeBook_declare_62 (Nat.lt_of_lt_of_le (by decide) (Nat.le_of_ble_eq_true rfl : 6 ≤ _)) (Nat.le_of_ble_eq_true rfl) (by show 0 + 1 ≤ 50000; omega) (by show 0 + 6 ≤ 1000000; omega) (fun H1 hG hz ho => ?_) hS.2.2 (by show 0 + 1 ≤ 50000; omega) (by show 0 + 6 ≤ 1000000; omega)
    exact ⟨by decide, (pb_of κ (inv_more hI ho) (show κ 3 = κ 3 ∧ κ 0 = κ 0 ∧ κ 1 = κ 1 from ⟨rfl, rfl, rfl⟩) hG (by show 5 * (κ 6) + 5 * (κ 7) + 4 * (κ 8) + 4 * (κ 9) + 4 * (κ 10) + 4 * (κ 11) + 5 * (κ 12) + 4 * (κ 13) + 3 * (κ 14) + 1 * (κ 15) ≤ 5 * (κ 6) + 5 * (κ 7) + 4 * (κ 8) + 4 * (κ 9) + 4 * (κ 10) + 4 * (κ 11) + 5 * (κ 12) + 4 * (κ 13) + 3 * (κ 14) + 1 * (κ 15); omega) (by show 0 + 1 ≤ (5 * (κ 6) + 5 * (κ 7) + 4 * (κ 8) + 4 * (κ 9) + 4 * (κ 10) + 4 * (κ 11) + 5 * (κ 12) + 4 * (κ 13) + 3 * (κ 14) + 1 * (κ 15)) - (5 * (κ 6) + 5 * (κ 7) + 4 * (κ 8) + 4 * (κ 9) + 4 * (κ 10) + 4 * (κ 11) + 5 * (κ 12) + 4 * (κ 13) + 3 * (κ 14) + 1 * (κ 15)) + 1; omega) (by show 0 + 6 ≤ 2 * ((5 * (κ 6) + 5 * (κ 7) + 4 * (κ 8) + 4 * (κ 9) + 4 * (κ 10) + 4 * (κ 11) + 5 * (κ 12) + 4 * (κ 13) + 3 * (κ 14) + 1 * (κ 15)) - (5 * (κ 6) + 5 * (κ 7) + 4 * (κ 8) + 4 * (κ 9) + 4 * (κ 10) + 4 * (κ 11) + 5 * (κ 12) + 4 * (κ 13) + 3 * (κ 14) + 1 * (κ 15))) + 6; omega)), fr_more hS hz ho⟩
  have J37 : ∀ (ls : Array Slot) (H : Heap) (locs : List Loc) (i1 : Int32) (i2 : Int32) (i3 : Int32) (i4 : Int32), INV γ A κ H → va_S A s.heap H locs → (i1 = 0 → (i4.toInt < 2147483647 ∧ (i4 - 1).toInt < 2147483647)) → lv_has ls 7 [(0, .ref (γ.2.2.2 0)), (1, .int i1), (2, .int i2), (3, .int i3), (4, .int i4)] → W p l e (bs_rm 7 50000 1000000 174) s m args below meth c H locs 0 0 Q (F0 m 37 ls []) := by
    intro ls H locs i1 i2 i3 i4 hI hS hq hl
    refine lv_iload_n hx hb dTypeBook_declare_37 rfl (lv_at hl 1 rfl) ?_
    refine lv_if_lt (tgt := 53) hx hb dTypeBook_declare_38 (by decide) (fun c43 => ?_) (fun c43 => ?_)
    · refine W.up (k := 0) (n := 0) (by show 0 ≤ _; omega) (by show 0 ≤ _; omega) ?_
      exact J53 ls _ _ i1 i2 i3 i4 hI hS (lv_sub hl [0, 1, 2, 3, 4] rfl)
    · refine lv_iload_n hx hb dTypeBook_declare_41 rfl (lv_at hl 1 rfl) ?_
      refine lv_iconst (v := 2) hx hb dTypeBook_declare_42 (by decide) ?_
      refine lv_icmp_gt (tgt := 53) hx hb dTypeBook_declare_43 (by decide) (fun c44 => ?_) (fun c44 => ?_)
      · refine W.up (k := 0) (n := 0) (by show 0 ≤ _; omega) (by show 0 ≤ _; omega) ?_
        exact J53 ls _ _ i1 i2 i3 i4 hI hS (lv_sub hl [0, 1, 2, 3, 4] rfl)
      · refine lv_iload_n hx hb dTypeBook_declare_46 rfl (lv_at hl 2 rfl) ?_
        refine pu_Si (rest := []) S hC (s_TypeBook_isName l γ (INV γ A κ) i2) meTypeBook_isName qw_87c028f095 ⟨Nat.le_of_ble_eq_true rfl, Nat.le_of_ble_eq_true rfl⟩ hI rfl hl.1 rfl (Nat.le_of_ble_eq_true rfl) dTypeBook_declare_47 ⟨(by show _ ≤ 50000; omega), (by show _ ≤ 1000000; omega)⟩ (fun r45 hr45 => ?_)
        refine lv_if_ne (tgt := 63) hx hb dTypeBook_declare_50 (by decide) (fun c46 => ?_) (fun c46 => ?_)
        · refine lv_iload_n hx hb dTypeBook_declare_63 rfl (lv_at hl 1 rfl) ?_
          refine lv_if_ne (tgt := 92) hx hb dTypeBook_declare_64 (by decide) (fun c47 => ?_) (fun c47 => ?_)
          · refine lv_iconst (v := 0) hx hb dTypeBook_declare_92 (by decide) ?_
            refine W.up (k := 0) (n := 0) (by show 0 ≤ _; omega) (by show 0 ≤ _; omega) ?_
            exact J93 ls _ _ i1 i2 i3 i4 0 hI hS hq (lv_sub hl [0, 1, 2, 3, 4] rfl)
          · obtain ⟨hnode, hnode2⟩ := hq (by first | assumption | exact Classical.not_not.mp (by assumption))
            refine lv_aload_n hx hb dTypeBook_declare_67 rfl (lv_at hl 0 rfl) ?_
            refine of_get S hC (of_0_5 hI) in_TypeBook rfl (by decide) qw_130a6323a2 dTypeBook_declare_68 ?_
            refine lv_aload_n hx hb dTypeBook_declare_71 rfl (lv_at hl 0 rfl) ?_
            refine of_get S hC (of_0_5 hI) in_TypeBook rfl (by decide) qw_130a6323a2 dTypeBook_declare_72 ?_
            refine lv_iload hx hb dTypeBook_declare_75 (lv_at hl 4 rfl) ?_
            refine lv_iload hx hb dTypeBook_declare_77 (lv_at hl 4 rfl) ?_
            refine mu_Vi (rest := [.ref (γ.2.2.2 8)]) S hC (fun q h => hA q (Nat.le_trans hS.1 h)) (fun q h => h) hS (k_Looker_look l γ A κ i4 i4 hnode) meLooker_look qw_d8c2c64b31 ⟨Nat.le_of_ble_eq_true rfl, Nat.le_of_ble_eq_true rfl⟩ (rv_8 hC hI) hI rfl hl.1 rfl (Nat.le_of_ble_eq_true rfl) dTypeBook_declare_79 ⟨(by show 0 + 0 ≤ 50000; omega), (by show 0 + 0 ≤ 1000000; omega)⟩ (fun r48 H locs ⟨hr48, hI⟩ hS _ _ => ?_)
            refine lv_iload hx hb dTypeBook_declare_82 (lv_at hl 4 rfl) ?_
            refine lv_iload_n hx hb dTypeBook_declare_84 rfl (lv_at hl 3 rfl) ?_
            refine lv_iconst (v := 1) hx hb dTypeBook_declare_85 (by decide) ?_
            refine pu_Vi (rest := []) S hC (k_Looker_judge l γ A κ r48 i4 i3 1) meLooker_judge qw_eb62b8f344 ⟨Nat.le_of_ble_eq_true rfl, Nat.le_of_ble_eq_true rfl⟩ (rv_8 hC hI) hI rfl hl.1 rfl (Nat.le_of_ble_eq_true rfl) dTypeBook_declare_86 ⟨(by show _ ≤ 50000; omega), (by show _ ≤ 1000000; omega)⟩ (fun r49 hr49 => ?_)
            refine lv_goto (tgt := 93) hx hb dTypeBook_declare_89 (by decide) ?_
            refine W.up (k := 0) (n := 0) (by show 0 ≤ _; omega) (by show 0 ≤ _; omega) ?_
            exact J93 ls _ _ i1 i2 i3 i4 r49 hI hS hq (lv_sub hl [0, 1, 2, 3, 4] rfl)
        · refine W.up (k := 0) (n := 0) (by show 0 ≤ _; omega) (by show 0 ≤ _; omega) ?_
          exact J53 ls _ _ i1 i2 i3 i4 hI hS (lv_sub hl [0, 1, 2, 3, 4] rfl)
  have J27 : ∀ (ls : Array Slot) (H : Heap) (locs : List Loc) (i1 : Int32) (i2 : Int32) (i3 : Int32) (i4 : Int32), INV γ A κ H → va_S A s.heap H locs → lv_has ls 7 [(0, .ref (γ.2.2.2 0)), (1, .int i1), (2, .int i2), (3, .int i3), (4, .int i4)] → W p l e (bs_rm 7 50000 1000000 174) s m args below meth c H locs 0 0 Q (F0 m 27 ls []) := by
    intro ls H locs i1 i2 i3 i4 hI hS hl
    obtain ⟨sa27, hsa27⟩ := hw0.2.2.2.1 R_TypeBook 182 "no such type or node" (in_tables_1_5 (List.mem_of_getElem? (i := 61) rfl))
    rw [hQ]
    refine tx_throw (s0 := s0) (names := ["java/lang/RuntimeException", "java/lang/Exception"]) (text := "no such type or node") (sa := sa27) S hst hX hlk (by decide +kernel) (by decide +kernel) qw_ae3ba0ca69 qw_d4b771d349 (hF0.step hA0 hS.1 hS.2.1) hsa27 (ta_IOB hW hw0) hl.1 dTypeBook_declare_27 dTypeBook_declare_30 dTypeBook_declare_31 dTypeBook_declare_33 dTypeBook_declare_36 (Nat.lt_of_lt_of_le (by decide) (Nat.le_of_ble_eq_true rfl : 6 ≤ _)) (Nat.le_of_ble_eq_true rfl) (by show 0 + 1 ≤ 50000; omega) (by show 0 + 6 ≤ 1000000; omega) (fun H1 hG hz ho => ?_) hS.2.2 (by show 0 + 1 ≤ 50000; omega) (by show 0 + 6 ≤ 1000000; omega)
    exact ⟨by decide, (pb_of κ (inv_more hI ho) (show κ 3 = κ 3 ∧ κ 0 = κ 0 ∧ κ 1 = κ 1 from ⟨rfl, rfl, rfl⟩) hG (by show 5 * (κ 6) + 5 * (κ 7) + 4 * (κ 8) + 4 * (κ 9) + 4 * (κ 10) + 4 * (κ 11) + 5 * (κ 12) + 4 * (κ 13) + 3 * (κ 14) + 1 * (κ 15) ≤ 5 * (κ 6) + 5 * (κ 7) + 4 * (κ 8) + 4 * (κ 9) + 4 * (κ 10) + 4 * (κ 11) + 5 * (κ 12) + 4 * (κ 13) + 3 * (κ 14) + 1 * (κ 15); omega) (by show 0 + 1 ≤ (5 * (κ 6) + 5 * (κ 7) + 4 * (κ 8) + 4 * (κ 9) + 4 * (κ 10) + 4 * (κ 11) + 5 * (κ 12) + 4 * (κ 13) + 3 * (κ 14) + 1 * (κ 15)) - (5 * (κ 6) + 5 * (κ 7) + 4 * (κ 8) + 4 * (κ 9) + 4 * (κ 10) + 4 * (κ 11) + 5 * (κ 12) + 4 * (κ 13) + 3 * (κ 14) + 1 * (κ 15)) + 1; omega) (by show 0 + 6 ≤ 2 * ((5 * (κ 6) + 5 * (κ 7) + 4 * (κ 8) + 4 * (κ 9) + 4 * (κ 10) + 4 * (κ 11) + 5 * (κ 12) + 4 * (κ 13) + 3 * (κ 14) + 1 * (κ 15)) - (5 * (κ 6) + 5 * (κ 7) + 4 * (κ 8) + 4 * (κ 9) + 4 * (κ 10) + 4 * (κ 11) + 5 * (κ 12) + 4 * (κ 13) + 3 * (κ 14) + 1 * (κ 15))) + 6; omega)), fr_more hS hz ho⟩
  refine lv_aload_n hx hb dTypeBook_declare_0 rfl (lv_at hl 0 rfl) ?_
  refine of_get S hC (of_0_2 hI) in_TypeBook rfl (by decide) qw_393f431be6 dTypeBook_declare_1 ?_
  refine lv_iload_n hx hb dTypeBook_declare_4 rfl (lv_at hl 3 rfl) ?_
  refine pu_Vi (rest := []) S hC (k3_Types_has l γ A κ x3) meTypes_has qw_438f5fc1da ⟨Nat.le_of_ble_eq_true rfl, Nat.le_of_ble_eq_true rfl⟩ (rv_3 hC hI) hI rfl hl.1 rfl (Nat.le_of_ble_eq_true rfl) dTypeBook_declare_5 ⟨(by show _ ≤ 50000; omega), (by show _ ≤ 1000000; omega)⟩ (fun r50 hr50 => ?_)
  refine lv_if_eq (tgt := 27) hx hb dTypeBook_declare_8 (by decide) (fun c51 => ?_) (fun c51 => ?_)
  · refine W.up (k := 0) (n := 0) (by show 0 ≤ _; omega) (by show 0 ≤ _; omega) ?_
    exact J27 ls _ _ x1 x2 x3 x4 hI hS (lv_sub hl [0, 1, 2, 3, 4] rfl)
  · refine lv_iload_n hx hb dTypeBook_declare_11 rfl (lv_at hl 1 rfl) ?_
    refine lv_if_ne (tgt := 37) hx hb dTypeBook_declare_12 (by decide) (fun c52 => ?_) (fun c52 => ?_)
    · refine W.up (k := 0) (n := 0) (by show 0 ≤ _; omega) (by show 0 ≤ _; omega) ?_
      exact J37 ls _ _ x1 x2 x3 x4 hI hS (by first | exact fun _ => node_ok (x := x4) (by assumption) (by assumption) (by omega) | exact fun h9 => absurd h9 (by assumption)) (lv_sub hl [0, 1, 2, 3, 4] rfl)
    · refine lv_aload_n hx hb dTypeBook_declare_15 rfl (lv_at hl 0 rfl) ?_
      refine of_get S hC (of_0_0 hI) in_TypeBook rfl (by decide) qw_6151ee7924 dTypeBook_declare_16 ?_
      refine lv_iload hx hb dTypeBook_declare_19 (lv_at hl 4 rfl) ?_
      refine pu_Vi (rest := []) S hC (k1_Trees_has l γ A κ x4) meTrees_has qw_90a02633e0 ⟨Nat.le_of_ble_eq_true rfl, Nat.le_of_ble_eq_true rfl⟩ (rv_1 hC hI) hI rfl hl.1 rfl (Nat.le_of_ble_eq_true rfl) dTypeBook_declare_21 ⟨(by show _ ≤ 50000; omega), (by show _ ≤ 1000000; omega)⟩ (fun r53 hr53 => ?_)
      refine lv_if_ne (tgt := 37) hx hb dTypeBook_declare_24 (by decide) (fun c54 => ?_) (fun c54 => ?_)
      · refine W.up (k := 0) (n := 0) (by show 0 ≤ _; omega) (by show 0 ≤ _; omega) ?_
        exact J37 ls _ _ x1 x2 x3 x4 hI hS (by first | exact fun _ => node_ok (x := x4) (by assumption) (by assumption) (by omega) | exact fun h9 => absurd h9 (by assumption)) (lv_sub hl [0, 1, 2, 3, 4] rfl)
      · refine W.up (k := 0) (n := 0) (by show 0 ≤ _; omega) (by show 0 ≤ _; omega) ?_
        exact J27 ls _ _ x1 x2 x3 x4 hI hS (lv_sub hl [0, 1, 2, 3, 4] rfl)
