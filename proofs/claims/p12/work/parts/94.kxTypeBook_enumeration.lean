theorem qw_e916332e74 : (Cond.methodLink R_TypeBook 150 yTypeBook_malformedEnumNode) ∈ bs_W0 := bs_in (in_tables_1_5 (List.mem_of_getElem? (i := 17) rfl)) rfl
theorem qw_ccf0bc88fe : (Cond.methodLink R_TypeBook 153 yTypeBook_takenEnumNode) ∈ bs_W0 := bs_in (in_tables_1_5 (List.mem_of_getElem? (i := 23) rfl)) rfl
theorem qw_90d427dfca : (Cond.methodLink R_TypeBook 164 yTypes_put) ∈ bs_W0 := bs_in (in_tables_1_5 (List.mem_of_getElem? (i := 42) rfl)) rfl
set_option maxHeartbeats 4000000 in
set_option maxRecDepth 100000 in
theorem x_enumeration (l : Launch) (hst : l.stackTraces = false) (γ : gE) (A : Nat → Prop) (κ : Nat → Nat) (s0 : State) (hw0 : SW s0) (hA0 : ∀ q, A q → s0.heap.size ≤ q) (H0 : Heap) (x1 : Int32) : XM l yTypeBook_enumeration bTypeBook_enumeration 7 (some .int) 6 128 50000 1000000 [.ref (γ.2.2.2 0), .int x1] γ A (fun U => FB s0 U U.heap ∧ U.heap = H0 ∧ INV γ A κ U.heap) (mQi (fun r H => PB γ A κ H0 (fun κ' => κ' 3 = κ 3 ∧ κ' 0 = κ 0 ∧ κ' 1 = κ 1) H) A) (fun E H => E ∈ ["java/lang/IndexOutOfBoundsException", "java/lang/IllegalStateException"] ∧ PB γ A κ H0 (fun κ' => κ' 3 = κ 3 ∧ κ' 0 = κ 0 ∧ κ' 1 = κ 1) H ∧ fr_A A H0 H) := by
  refine tx_openI (by decide) (Nat.le_of_ble_eq_true rfl) ?_
  intro p e s m args below meth c ls Q S hret hlk hX hC hA hP hQ hl
  obtain ⟨hF0, hH0, hI⟩ := hP
  subst hH0
  obtain ⟨hx, hb, hml, hown, hW⟩ := id S
  have hS : va_S A s.heap s.heap [] := va_S.rf
  have hl : lv_has ls 7 [(0, .ref (γ.2.2.2 0)), (1, .int x1)] := hl
  obtain ⟨hlen, hsz⟩ := inv_len hI
  have J145 : ∀ (N145 : Nat) (ls : Array Slot) (H : Heap) (locs : List Loc) (j : Nat) (L2 : Nat) (k4 : Nat) (i1 : Int32) (i2 : Int32) (i3 : Int32) (i4 : Int32) (i5 : Int32) (i6 : Int32), INV γ A (ku (ku (ku (ku κ 4 (κ 4 + 1)) 13 (wl (κ 13) (κ 4 + 1))) 2 (κ 2 + 1 + j)) 12 (L2)) H → va_S A s.heap H locs → (i4 = nI k4) → (i6 = nI j) → (κ 2 + (k4 + 1) ≤ 3012) → (κ 4 < 1000) → (j ≤ k4) → (κ 12 ≤ L2 ∧ L2 ≤ 8192) → (2147483647 - i6.toInt).toNat = N145 → lv_has ls 7 [(0, .ref (γ.2.2.2 0)), (1, .int i1), (2, .int i2), (3, .int i3), (4, .int i4), (5, .int i5), (6, .int i6)] → W p l e (bs_rm 6 50000 1000000 128) s m args below meth c H locs (0 + wc (κ 13) (κ 4 + 1) + wc (κ 13) (κ 4 + 1) + wc (κ 13) (κ 4 + 1) + wc (κ 13) (κ 4 + 1) + 5 * (L2 - κ 12)) (0 + wm (κ 13) (κ 4 + 1) + wm (κ 13) (κ 4 + 1) + wm (κ 13) (κ 4 + 1) + wm (κ 13) (κ 4 + 1) + 10 * (L2 - κ 12)) Q (F0 m 145 ls []) := by
    intro N145
    induction N145 using Nat.strongRecOn with
    | ind N145 ih145 =>
      intro ls H locs j L2 k4 i1 i2 i3 i4 i5 i6 hI hS ei4 ei6 hN2 hN4 hjk hL2 hm145 hl
      have hwc13 := wcm (n := κ 13) (N := κ 4 + 1) (by omega) (by omega)
      refine lv_iload hx hb dTypeBook_enumeration_145 (lv_at hl 6 rfl) ?_
      refine lv_iload hx hb dTypeBook_enumeration_147 (lv_at hl 4 rfl) ?_
      refine lv_icmp_ge (tgt := 184) hx hb dTypeBook_enumeration_149 (by decide) (fun c25 => ?_) (fun c25 => ?_)
      · refine lv_aload_n hx hb dTypeBook_enumeration_184 rfl (lv_at hl 0 rfl) ?_
        refine lv_iconst (v := (-1)) hx hb dTypeBook_enumeration_185 (by decide) ?_
        refine iv_fault S hC hI (fun q h => hA q (Nat.le_trans hS.1 h)) hS qw_464f80981e dTypeBook_enumeration_186 (fun H locs hI hS => ?_)
        refine lv_iload hx hb dTypeBook_enumeration_189 (lv_at hl 5 rfl) ?_
        rw [hQ]
        refine tx_endI S hret hlk hS (by show 0 + wc (κ 13) (κ 4 + 1) + wc (κ 13) (κ 4 + 1) + wc (κ 13) (κ 4 + 1) + wc (κ 13) (κ 4 + 1) + 5 * (L2 - κ 12) ≤ 50000; omega) (by show 0 + wm (κ 13) (κ 4 + 1) + wm (κ 13) (κ 4 + 1) + wm (κ 13) (κ 4 + 1) + wm (κ 13) (κ 4 + 1) + 10 * (L2 - κ 12) ≤ 1000000; omega) (fun hG => ?_) dTypeBook_enumeration_191
        exact (pb_of (ku (ku (ku (ku κ 4 (κ 4 + 1)) 13 (wl (κ 13) (κ 4 + 1))) 2 (κ 2 + 1 + j)) 12 (L2)) hI (show κ 3 = κ 3 ∧ κ 0 = κ 0 ∧ κ 1 = κ 1 from ⟨rfl, rfl, rfl⟩) hG (by show 5 * (κ 6) + 5 * (κ 7) + 4 * (κ 8) + 4 * (κ 9) + 4 * (κ 10) + 4 * (κ 11) + 5 * (κ 12) + 4 * (κ 13) + 3 * (κ 14) + 1 * (κ 15) ≤ 5 * (κ 6) + 5 * (κ 7) + 4 * (κ 8) + 4 * (κ 9) + 4 * (κ 10) + 4 * (κ 11) + 5 * (L2) + 4 * (wl (κ 13) (κ 4 + 1)) + 3 * (κ 14) + 1 * (κ 15); omega) (by show 0 + wc (κ 13) (κ 4 + 1) + wc (κ 13) (κ 4 + 1) + wc (κ 13) (κ 4 + 1) + wc (κ 13) (κ 4 + 1) + 5 * (L2 - κ 12) ≤ (5 * (κ 6) + 5 * (κ 7) + 4 * (κ 8) + 4 * (κ 9) + 4 * (κ 10) + 4 * (κ 11) + 5 * (L2) + 4 * (wl (κ 13) (κ 4 + 1)) + 3 * (κ 14) + 1 * (κ 15)) - (5 * (κ 6) + 5 * (κ 7) + 4 * (κ 8) + 4 * (κ 9) + 4 * (κ 10) + 4 * (κ 11) + 5 * (κ 12) + 4 * (κ 13) + 3 * (κ 14) + 1 * (κ 15)) + 1; omega) (by show 0 + wm (κ 13) (κ 4 + 1) + wm (κ 13) (κ 4 + 1) + wm (κ 13) (κ 4 + 1) + wm (κ 13) (κ 4 + 1) + 10 * (L2 - κ 12) ≤ 2 * ((5 * (κ 6) + 5 * (κ 7) + 4 * (κ 8) + 4 * (κ 9) + 4 * (κ 10) + 4 * (κ 11) + 5 * (L2) + 4 * (wl (κ 13) (κ 4 + 1)) + 3 * (κ 14) + 1 * (κ 15)) - (5 * (κ 6) + 5 * (κ 7) + 4 * (κ 8) + 4 * (κ 9) + 4 * (κ 10) + 4 * (κ 11) + 5 * (κ 12) + 4 * (κ 13) + 3 * (κ 14) + 1 * (κ 15))) + 6; omega))
      · have hjk2 : j < k4 := nge_ok (v := i6) (c := i4) (N := j) (M := k4) ei6 ei4 (by assumption) (by omega) (by omega)
        have hwcL := wcm (n := L2) (N := κ 2 + 1 + j + 1) (by omega) (by omega)
        refine lv_aload_n hx hb dTypeBook_enumeration_152 rfl (lv_at hl 0 rfl) ?_
        refine of_get S hC (of_0_1 hI) in_TypeBook rfl (by decide) qw_a088f6ef48 dTypeBook_enumeration_153 ?_
        refine lv_aload_n hx hb dTypeBook_enumeration_156 rfl (lv_at hl 0 rfl) ?_
        refine of_get S hC (of_0_0 hI) in_TypeBook rfl (by decide) qw_6151ee7924 dTypeBook_enumeration_157 ?_
        refine lv_iload_n hx hb dTypeBook_enumeration_160 rfl (lv_at hl 1 rfl) ?_
        refine lv_iload hx hb dTypeBook_enumeration_161 (lv_at hl 4 rfl) ?_
        refine lv_isub hx hb dTypeBook_enumeration_163 ?_
        refine lv_topi (fun v26 ev26 => ?_)
        refine lv_iload hx hb dTypeBook_enumeration_164 (lv_at hl 6 rfl) ?_
        refine lv_iadd hx hb dTypeBook_enumeration_166 ?_
        refine lv_topi (fun v27 ev27 => ?_)
        refine pu_Vi (rest := [.ref (γ.2.2.2 2)]) S hC (k1_Trees_valueOf l γ A (ku (ku (ku (ku κ 4 (κ 4 + 1)) 13 (wl (κ 13) (κ 4 + 1))) 2 (κ 2 + 1 + j)) 12 (L2)) v27) meTrees_valueOf qw_1062a20d6a ⟨Nat.le_of_ble_eq_true rfl, Nat.le_of_ble_eq_true rfl⟩ (rv_1 hC hI) hI rfl hl.1 rfl (Nat.le_of_ble_eq_true rfl) dTypeBook_enumeration_167 ⟨(by show _ ≤ 50000; omega), (by show _ ≤ 1000000; omega)⟩ (fun r28 hr28 => ?_)
        refine lv_iconst (v := 3) hx hb dTypeBook_enumeration_170 (by decide) ?_
        refine lv_iload hx hb dTypeBook_enumeration_171 (lv_at hl 5 rfl) ?_
        refine lv_iload hx hb dTypeBook_enumeration_173 (lv_at hl 6 rfl) ?_
        refine mu_Vv (rest := []) S hC (fun q h => hA q (Nat.le_trans hS.1 h)) (fun q h => h) hS (k2_Names_put l γ A (ku (ku (ku (ku κ 4 (κ 4 + 1)) 13 (wl (κ 13) (κ 4 + 1))) 2 (κ 2 + 1 + j)) 12 (L2)) r28 3 i5 i6 (by show κ 2 + 1 + j ≤ 4000; omega)) meNames_put qw_b1d56e075d ⟨Nat.le_of_ble_eq_true rfl, Nat.le_of_ble_eq_true rfl⟩ (rv_2 hC hI) hI rfl hl.1 rfl (Nat.le_of_ble_eq_true rfl) dTypeBook_enumeration_175 ⟨(by show 0 + wc (κ 13) (κ 4 + 1) + wc (κ 13) (κ 4 + 1) + wc (κ 13) (κ 4 + 1) + wc (κ 13) (κ 4 + 1) + 5 * (L2 - κ 12) + (0 + wc (L2) (κ 2 + 1 + j + 1) + wc (L2) (κ 2 + 1 + j + 1) + wc (L2) (κ 2 + 1 + j + 1) + wc (L2) (κ 2 + 1 + j + 1) + wc (L2) (κ 2 + 1 + j + 1)) ≤ 50000; omega), (by show 0 + wm (κ 13) (κ 4 + 1) + wm (κ 13) (κ 4 + 1) + wm (κ 13) (κ 4 + 1) + wm (κ 13) (κ 4 + 1) + 10 * (L2 - κ 12) + (0 + wm (L2) (κ 2 + 1 + j + 1) + wm (L2) (κ 2 + 1 + j + 1) + wm (L2) (κ 2 + 1 + j + 1) + wm (L2) (κ 2 + 1 + j + 1) + wm (L2) (κ 2 + 1 + j + 1)) ≤ 1000000; omega)⟩ (fun H locs hI hS _ _ => ?_)
        refine W.cs (cells' := 0 + wc (κ 13) (κ 4 + 1) + wc (κ 13) (κ 4 + 1) + wc (κ 13) (κ 4 + 1) + wc (κ 13) (κ 4 + 1) + 5 * (L2 - κ 12) + (0 + wc (L2) (κ 2 + 1 + j + 1) + wc (L2) (κ 2 + 1 + j + 1) + wc (L2) (κ 2 + 1 + j + 1) + wc (L2) (κ 2 + 1 + j + 1) + wc (L2) (κ 2 + 1 + j + 1))) (slots' := 0 + wm (κ 13) (κ 4 + 1) + wm (κ 13) (κ 4 + 1) + wm (κ 13) (κ 4 + 1) + wm (κ 13) (κ 4 + 1) + 10 * (L2 - κ 12) + (0 + wm (L2) (κ 2 + 1 + j + 1) + wm (L2) (κ 2 + 1 + j + 1) + wm (L2) (κ 2 + 1 + j + 1) + wm (L2) (κ 2 + 1 + j + 1) + wm (L2) (κ 2 + 1 + j + 1))) rfl rfl ?_
        have hI : INV γ A (ku (ku (ku (ku (ku (ku κ 4 (κ 4 + 1)) 13 (wl (κ 13) (κ 4 + 1))) 2 (κ 2 + 1 + j)) 12 (L2)) 2 (κ 2 + 1 + j + 1)) 12 (wl (L2) (κ 2 + 1 + j + 1))) _ := hI
        obtain ⟨v30, ev30⟩ : ∃ y : Int32, y = i6 + 1 := ⟨_, rfl⟩
        refine lv_iinc (v := v30) (lv' := [(6, .int v30), (0, .ref (γ.2.2.2 0)), (1, .int i1), (2, .int i2), (3, .int i3), (4, .int i4), (5, .int i5)]) hx hb dTypeBook_enumeration_178 hl (k := 6) rfl (by rw [ev30]; rfl) (by decide) rfl (fun ls hl => ?_)
        refine lv_goto (tgt := 145) hx hb dTypeBook_enumeration_181 (by decide) ?_
        refine W.up (k := 0 + wc (κ 13) (κ 4 + 1) + wc (κ 13) (κ 4 + 1) + wc (κ 13) (κ 4 + 1) + wc (κ 13) (κ 4 + 1) + 5 * ((wl (L2) (κ 2 + 1 + j + 1)) - κ 12)) (n := 0 + wm (κ 13) (κ 4 + 1) + wm (κ 13) (κ 4 + 1) + wm (κ 13) (κ 4 + 1) + wm (κ 13) (κ 4 + 1) + 10 * ((wl (L2) (κ 2 + 1 + j + 1)) - κ 12)) (by show 0 + wc (κ 13) (κ 4 + 1) + wc (κ 13) (κ 4 + 1) + wc (κ 13) (κ 4 + 1) + wc (κ 13) (κ 4 + 1) + 5 * (L2 - κ 12) + (0 + wc (L2) (κ 2 + 1 + j + 1) + wc (L2) (κ 2 + 1 + j + 1) + wc (L2) (κ 2 + 1 + j + 1) + wc (L2) (κ 2 + 1 + j + 1) + wc (L2) (κ 2 + 1 + j + 1)) ≤ _; omega) (by show 0 + wm (κ 13) (κ 4 + 1) + wm (κ 13) (κ 4 + 1) + wm (κ 13) (κ 4 + 1) + wm (κ 13) (κ 4 + 1) + 10 * (L2 - κ 12) + (0 + wm (L2) (κ 2 + 1 + j + 1) + wm (L2) (κ 2 + 1 + j + 1) + wm (L2) (κ 2 + 1 + j + 1) + wm (L2) (κ 2 + 1 + j + 1) + wm (L2) (κ 2 + 1 + j + 1)) ≤ _; omega) ?_
        have hI : INV γ A (ku (ku (ku (ku κ 4 (κ 4 + 1)) 13 (wl (κ 13) (κ 4 + 1))) 2 (κ 2 + 1 + (j + 1))) 12 ((wl (L2) (κ 2 + 1 + j + 1)))) _ := inv_ext hI rfl rfl rfl rfl rfl rfl rfl rfl rfl rfl rfl rfl rfl rfl rfl rfl
        exact ih145 _ (by have q1 : i6.toInt < 2147483647 := (by first | exact (mu_up (k := i6) (by assumption)).2 | assumption); have q2 := mu_lt q1; rw [← ev30] at q2; omega) ls _ _ (j + 1) (wl (L2) (κ 2 + 1 + j + 1)) k4 i1 i2 i3 i4 i5 v30 hI hS ei4 (by rw [ev30, ei6]; exact (nI_succ j).symm) hN2 hN4 (by omega) (by omega) rfl (lv_sub hl [1, 2, 3, 4, 5, 6, 0] rfl)
  have J96 : ∀ (ls : Array Slot) (H : Heap) (locs : List Loc) (i1 : Int32) (i2 : Int32) (i3 : Int32) (i4 : Int32), INV γ A κ H → va_S A s.heap H locs → lv_has ls 7 [(0, .ref (γ.2.2.2 0)), (1, .int i1), (2, .int i2), (3, .int i3), (4, .int i4)] → W p l e (bs_rm 6 50000 1000000 128) s m args below meth c H locs 0 0 Q (F0 m 96 ls []) := by
    intro ls H locs i1 i2 i3 i4 hI hS hl
    obtain ⟨sa96, hsa96⟩ := hw0.2.2.2.1 R_TypeBook 162 "no room for an enumeration" (in_tables_1_5 (List.mem_of_getElem? (i := 41) rfl))
    rw [hQ]
    refine tx_throw (s0 := s0) (names := ["java/lang/RuntimeException", "java/lang/Exception"]) (text := "no room for an enumeration") (sa := sa96) S hst hX hlk (by decide +kernel) (by decide +kernel) qw_8038d8d33c qw_f529d83890 (hF0.step hA0 hS.1 hS.2.1) hsa96 (ta_ISE hW hw0) hl.1 dTypeBook_enumeration_96 dTypeBook_enumeration_99 dTypeBook_enumeration_100 dTypeBook_enumeration_102 dTypeBook_enumeration_105 (Nat.lt_of_lt_of_le (by decide) (Nat.le_of_ble_eq_true rfl : 6 ≤ _)) (Nat.le_of_ble_eq_true rfl) (by show 0 + 1 ≤ 50000; omega) (by show 0 + 6 ≤ 1000000; omega) (fun H1 hG hz ho => ?_) hS.2.2 (by show 0 + 1 ≤ 50000; omega) (by show 0 + 6 ≤ 1000000; omega)
    exact ⟨by decide, (pb_of κ (inv_more hI ho) (show κ 3 = κ 3 ∧ κ 0 = κ 0 ∧ κ 1 = κ 1 from ⟨rfl, rfl, rfl⟩) hG (by show 5 * (κ 6) + 5 * (κ 7) + 4 * (κ 8) + 4 * (κ 9) + 4 * (κ 10) + 4 * (κ 11) + 5 * (κ 12) + 4 * (κ 13) + 3 * (κ 14) + 1 * (κ 15) ≤ 5 * (κ 6) + 5 * (κ 7) + 4 * (κ 8) + 4 * (κ 9) + 4 * (κ 10) + 4 * (κ 11) + 5 * (κ 12) + 4 * (κ 13) + 3 * (κ 14) + 1 * (κ 15); omega) (by show 0 + 1 ≤ (5 * (κ 6) + 5 * (κ 7) + 4 * (κ 8) + 4 * (κ 9) + 4 * (κ 10) + 4 * (κ 11) + 5 * (κ 12) + 4 * (κ 13) + 3 * (κ 14) + 1 * (κ 15)) - (5 * (κ 6) + 5 * (κ 7) + 4 * (κ 8) + 4 * (κ 9) + 4 * (κ 10) + 4 * (κ 11) + 5 * (κ 12) + 4 * (κ 13) + 3 * (κ 14) + 1 * (κ 15)) + 1; omega) (by show 0 + 6 ≤ 2 * ((5 * (κ 6) + 5 * (κ 7) + 4 * (κ 8) + 4 * (κ 9) + 4 * (κ 10) + 4 * (κ 11) + 5 * (κ 12) + 4 * (κ 13) + 3 * (κ 14) + 1 * (κ 15)) - (5 * (κ 6) + 5 * (κ 7) + 4 * (κ 8) + 4 * (κ 9) + 4 * (κ 10) + 4 * (κ 11) + 5 * (κ 12) + 4 * (κ 13) + 3 * (κ 14) + 1 * (κ 15))) + 6; omega)), fr_more hS hz ho⟩
  refine lv_aload_n hx hb dTypeBook_enumeration_0 rfl (lv_at hl 0 rfl) ?_
  refine of_get S hC (of_0_0 hI) in_TypeBook rfl (by decide) qw_6151ee7924 dTypeBook_enumeration_1 ?_
  refine lv_iload_n hx hb dTypeBook_enumeration_4 rfl (lv_at hl 1 rfl) ?_
  refine pu_Vi (rest := []) S hC (k1_Trees_has l γ A κ x1) meTrees_has qw_90a02633e0 ⟨Nat.le_of_ble_eq_true rfl, Nat.le_of_ble_eq_true rfl⟩ (rv_1 hC hI) hI rfl hl.1 rfl (Nat.le_of_ble_eq_true rfl) dTypeBook_enumeration_5 ⟨(by show _ ≤ 50000; omega), (by show _ ≤ 1000000; omega)⟩ (fun r31 hr31 => ?_)
  refine lv_if_ne (tgt := 21) hx hb dTypeBook_enumeration_8 (by decide) (fun c32 => ?_) (fun c32 => ?_)
  · refine lv_aload_n hx hb dTypeBook_enumeration_21 rfl (lv_at hl 0 rfl) ?_
    refine lv_iload_n hx hb dTypeBook_enumeration_22 rfl (lv_at hl 1 rfl) ?_
    refine pu_Vi (rest := []) S hC (k_TypeBook_malformedEnumNode l γ A κ x1) meTypeBook_malformedEnumNode qw_e916332e74 ⟨Nat.le_of_ble_eq_true rfl, Nat.le_of_ble_eq_true rfl⟩ (rv_0 hC hI) hI rfl hl.1 rfl (Nat.le_of_ble_eq_true rfl) dTypeBook_enumeration_23 ⟨(by show _ ≤ 50000; omega), (by show _ ≤ 1000000; omega)⟩ (fun r33 hr33 => ?_)
    refine lv_istore_n (lv' := [(2, .int r33), (0, .ref (γ.2.2.2 0)), (1, .int x1)]) hx hb dTypeBook_enumeration_26 rfl hl (by decide) rfl (fun ls hl => ?_)
    refine lv_iload_n hx hb dTypeBook_enumeration_27 rfl (lv_at hl 0 rfl) ?_
    refine lv_iconst (v := (-1)) hx hb dTypeBook_enumeration_28 (by decide) ?_
    refine lv_icmp_eq (tgt := 40) hx hb dTypeBook_enumeration_29 (by decide) (fun c34 => ?_) (fun c34 => ?_)
    · refine lv_aload_n hx hb dTypeBook_enumeration_40 rfl (lv_at hl 1 rfl) ?_
      refine lv_iload_n hx hb dTypeBook_enumeration_41 rfl (lv_at hl 2 rfl) ?_
      refine pu_Vi (rest := []) S hC (k_TypeBook_takenEnumNode l γ A κ x1) meTypeBook_takenEnumNode qw_ccf0bc88fe ⟨Nat.le_of_ble_eq_true rfl, Nat.le_of_ble_eq_true rfl⟩ (rv_0 hC hI) hI rfl hl.1 rfl (Nat.le_of_ble_eq_true rfl) dTypeBook_enumeration_42 ⟨(by show _ ≤ 50000; omega), (by show _ ≤ 1000000; omega)⟩ (fun r35 hr35 => ?_)
      refine lv_istore_n (lv' := [(3, .int r35), (2, .int r33), (0, .ref (γ.2.2.2 0)), (1, .int x1)]) hx hb dTypeBook_enumeration_45 rfl hl (by decide) rfl (fun ls hl => ?_)
      refine lv_iload_n hx hb dTypeBook_enumeration_46 rfl (lv_at hl 0 rfl) ?_
      refine lv_iconst (v := (-1)) hx hb dTypeBook_enumeration_47 (by decide) ?_
      refine lv_icmp_eq (tgt := 59) hx hb dTypeBook_enumeration_48 (by decide) (fun c36 => ?_) (fun c36 => ?_)
      · refine lv_aload_n hx hb dTypeBook_enumeration_59 rfl (lv_at hl 2 rfl) ?_
        refine of_get S hC (of_0_0 hI) in_TypeBook rfl (by decide) qw_6151ee7924 dTypeBook_enumeration_60 ?_
        refine lv_iload_n hx hb dTypeBook_enumeration_63 rfl (lv_at hl 3 rfl) ?_
        refine pu_Vi (rest := []) S hC (k1_Trees_countOf l γ A κ x1) meTrees_countOf qw_75eb836d1a ⟨Nat.le_of_ble_eq_true rfl, Nat.le_of_ble_eq_true rfl⟩ (rv_1 hC hI) hI rfl hl.1 rfl (Nat.le_of_ble_eq_true rfl) dTypeBook_enumeration_64 ⟨(by show _ ≤ 50000; omega), (by show _ ≤ 1000000; omega)⟩ (fun r37 hr37 => ?_)
        obtain ⟨k4, hk4, er37⟩ := hr37
        refine lv_istore (lv' := [(4, .int r37), (3, .int r35), (2, .int r33), (0, .ref (γ.2.2.2 0)), (1, .int x1)]) hx hb dTypeBook_enumeration_67 hl (by decide) rfl (fun ls hl => ?_)
        refine lv_aload_n hx hb dTypeBook_enumeration_69 rfl (lv_at hl 3 rfl) ?_
        refine of_get S hC (of_0_2 hI) in_TypeBook rfl (by decide) qw_393f431be6 dTypeBook_enumeration_70 ?_
        refine of_getN S hC (of_3_4 hI) in_Types rfl (by decide) qn_cc358838e1 dTypeBook_enumeration_73 ?_
        refine lv_topi (fun v38 ev38 => ?_)
        have ev38 : v38 = nI (κ 4) := ev38
        refine lv_sipush (v := 1000) hx hb dTypeBook_enumeration_76 (by decide) ?_
        refine lv_icmp_ge (tgt := 96) hx hb dTypeBook_enumeration_79 (by decide) (fun c39 => ?_) (fun c39 => ?_)
        · refine W.up (k := 0) (n := 0) (by show 0 ≤ _; omega) (by show 0 ≤ _; omega) ?_
          exact J96 ls _ _ x1 r33 r35 r37 hI hS (lv_sub hl [3, 4, 2, 1, 0] rfl)
        · refine lv_aload_n hx hb dTypeBook_enumeration_82 rfl (lv_at hl 3 rfl) ?_
          refine of_get S hC (of_0_1 hI) in_TypeBook rfl (by decide) qw_a088f6ef48 dTypeBook_enumeration_83 ?_
          refine lv_iload hx hb dTypeBook_enumeration_86 (lv_at hl 0 rfl) ?_
          refine lv_iconst (v := 1) hx hb dTypeBook_enumeration_88 (by decide) ?_
          refine lv_iadd hx hb dTypeBook_enumeration_89 ?_
          refine lv_topi (fun v40 ev40 => ?_)
          have ev40 : v40 = nI (k4 + 1) := by rw [ev40, er37]; exact nI_add (k4) (1)
          have ehr41 : Value.int v40 = .int (nI (k4 + 1)) := by rw [ev40]
          rw [ehr41]
          refine vp_callSi (va_Run.run (va_runV (As := [.int (nI (k4 + 1))]) (rest := []) S (k_haveRoom l γ A κ s0 hw0 hA0 (k4 + 1) (by omega)) (bs_cwV hW meNames_haveRoom qw_bd2f27f55e rfl rfl ⟨Nat.le_of_ble_eq_true rfl, Nat.le_of_ble_eq_true rfl⟩) ⟨hr_blind, rv_2 hC hI, fun U hU hW9 => ⟨rfl, hC.warm hW9, by rw [hU]; exact (hF0.step hA0 hS.1 hS.2.1).warm hW9, by rw [hU]; exact hI⟩⟩ rfl rfl hl.1 rfl (lv_room (Nat.le_of_ble_eq_true rfl)) dTypeBook_enumeration_90 ⟨by show 0 + 0 ≤ 50000; omega, by show 0 + 0 ≤ 1000000; omega⟩)) (fun r41 hr41 => ?_)
          refine lv_if_ne (tgt := 106) hx hb dTypeBook_enumeration_93 (by decide) (fun c42 => ?_) (fun c42 => ?_)
          · have hN2 : κ 2 + (k4 + 1) ≤ 3012 := Or.resolve_left (by assumption) (by assumption)
            have hN4 : κ 4 < 1000 := nge_ok (N := κ 4) (M := 1000) (by assumption) rfl (by assumption) (by omega) (by omega)
            have hwc13 := wcm (n := κ 13) (N := κ 4 + 1) (by omega) (by omega)
            have hwc12 := wcm (n := κ 12) (N := κ 2 + 1) (by omega) (by omega)
            refine lv_aload_n hx hb dTypeBook_enumeration_106 rfl (lv_at hl 3 rfl) ?_
            refine of_get S hC (of_0_2 hI) in_TypeBook rfl (by decide) qw_393f431be6 dTypeBook_enumeration_107 ?_
            refine lv_iconst (v := 4) hx hb dTypeBook_enumeration_110 (by decide) ?_
            refine lv_iconst (v := 0) hx hb dTypeBook_enumeration_111 (by decide) ?_
            refine lv_iload hx hb dTypeBook_enumeration_112 (lv_at hl 0 rfl) ?_
            refine lv_iconst (v := 1) hx hb dTypeBook_enumeration_114 (by decide) ?_
            refine lv_isub hx hb dTypeBook_enumeration_115 ?_
            refine lv_topi (fun v43 ev43 => ?_)
            refine lv_iload hx hb dTypeBook_enumeration_116 (lv_at hl 0 rfl) ?_
            refine mu_Vi (rest := []) S hC (fun q h => hA q (Nat.le_trans hS.1 h)) (fun q h => h) hS (k3_Types_put l γ A κ 4 0 v43 r37 (by show κ 4 ≤ 4000; omega)) meTypes_put qw_90d427dfca ⟨Nat.le_of_ble_eq_true rfl, Nat.le_of_ble_eq_true rfl⟩ (rv_3 hC hI) hI rfl hl.1 rfl (Nat.le_of_ble_eq_true rfl) dTypeBook_enumeration_118 ⟨(by show 0 + (0 + wc (κ 13) (κ 4 + 1) + wc (κ 13) (κ 4 + 1) + wc (κ 13) (κ 4 + 1) + wc (κ 13) (κ 4 + 1)) ≤ 50000; omega), (by show 0 + (0 + wm (κ 13) (κ 4 + 1) + wm (κ 13) (κ 4 + 1) + wm (κ 13) (κ 4 + 1) + wm (κ 13) (κ 4 + 1)) ≤ 1000000; omega)⟩ (fun r44 H locs ⟨hr44, hI⟩ hS _ _ => ?_)
            refine W.cs (cells' := 0 + (0 + wc (κ 13) (κ 4 + 1) + wc (κ 13) (κ 4 + 1) + wc (κ 13) (κ 4 + 1) + wc (κ 13) (κ 4 + 1))) (slots' := 0 + (0 + wm (κ 13) (κ 4 + 1) + wm (κ 13) (κ 4 + 1) + wm (κ 13) (κ 4 + 1) + wm (κ 13) (κ 4 + 1))) rfl rfl ?_
            have hI : INV γ A (ku (ku κ 4 (κ 4 + 1)) 13 (wl (κ 13) (κ 4 + 1))) _ := hI
            have er44 : r44 = nI (κ 4) := hr44
            refine lv_istore (lv' := [(5, .int r44), (4, .int r37), (3, .int r35), (2, .int r33), (0, .ref (γ.2.2.2 0)), (1, .int x1)]) hx hb dTypeBook_enumeration_121 hl (by decide) rfl (fun ls hl => ?_)
            refine lv_aload_n hx hb dTypeBook_enumeration_123 rfl (lv_at hl 4 rfl) ?_
            refine of_get S hC (of_0_1 hI) in_TypeBook rfl (by decide) qw_a088f6ef48 dTypeBook_enumeration_124 ?_
            refine lv_aload_n hx hb dTypeBook_enumeration_127 rfl (lv_at hl 4 rfl) ?_
            refine of_get S hC (of_0_0 hI) in_TypeBook rfl (by decide) qw_6151ee7924 dTypeBook_enumeration_128 ?_
            refine lv_iload_n hx hb dTypeBook_enumeration_131 rfl (lv_at hl 5 rfl) ?_
            refine pu_Vi (rest := [.ref (γ.2.2.2 2)]) S hC (k1_Trees_valueOf l γ A (ku (ku κ 4 (κ 4 + 1)) 13 (wl (κ 13) (κ 4 + 1))) x1) meTrees_valueOf qw_1062a20d6a ⟨Nat.le_of_ble_eq_true rfl, Nat.le_of_ble_eq_true rfl⟩ (rv_1 hC hI) hI rfl hl.1 rfl (Nat.le_of_ble_eq_true rfl) dTypeBook_enumeration_132 ⟨(by show _ ≤ 50000; omega), (by show _ ≤ 1000000; omega)⟩ (fun r45 hr45 => ?_)
            refine lv_iconst (v := 1) hx hb dTypeBook_enumeration_135 (by decide) ?_
            refine lv_iload hx hb dTypeBook_enumeration_136 (lv_at hl 0 rfl) ?_
            refine lv_iconst (v := 0) hx hb dTypeBook_enumeration_138 (by decide) ?_
            refine mu_Vv (rest := []) S hC (fun q h => hA q (Nat.le_trans hS.1 h)) (fun q h => h) hS (k2_Names_put l γ A (ku (ku κ 4 (κ 4 + 1)) 13 (wl (κ 13) (κ 4 + 1))) r45 1 r44 0 (by show κ 2 ≤ 4000; omega)) meNames_put qw_b1d56e075d ⟨Nat.le_of_ble_eq_true rfl, Nat.le_of_ble_eq_true rfl⟩ (rv_2 hC hI) hI rfl hl.1 rfl (Nat.le_of_ble_eq_true rfl) dTypeBook_enumeration_139 ⟨(by show 0 + (0 + wc (κ 13) (κ 4 + 1) + wc (κ 13) (κ 4 + 1) + wc (κ 13) (κ 4 + 1) + wc (κ 13) (κ 4 + 1)) + (0 + wc (κ 12) (κ 2 + 1) + wc (κ 12) (κ 2 + 1) + wc (κ 12) (κ 2 + 1) + wc (κ 12) (κ 2 + 1) + wc (κ 12) (κ 2 + 1)) ≤ 50000; omega), (by show 0 + (0 + wm (κ 13) (κ 4 + 1) + wm (κ 13) (κ 4 + 1) + wm (κ 13) (κ 4 + 1) + wm (κ 13) (κ 4 + 1)) + (0 + wm (κ 12) (κ 2 + 1) + wm (κ 12) (κ 2 + 1) + wm (κ 12) (κ 2 + 1) + wm (κ 12) (κ 2 + 1) + wm (κ 12) (κ 2 + 1)) ≤ 1000000; omega)⟩ (fun H locs hI hS _ _ => ?_)
            refine W.cs (cells' := 0 + (0 + wc (κ 13) (κ 4 + 1) + wc (κ 13) (κ 4 + 1) + wc (κ 13) (κ 4 + 1) + wc (κ 13) (κ 4 + 1)) + (0 + wc (κ 12) (κ 2 + 1) + wc (κ 12) (κ 2 + 1) + wc (κ 12) (κ 2 + 1) + wc (κ 12) (κ 2 + 1) + wc (κ 12) (κ 2 + 1))) (slots' := 0 + (0 + wm (κ 13) (κ 4 + 1) + wm (κ 13) (κ 4 + 1) + wm (κ 13) (κ 4 + 1) + wm (κ 13) (κ 4 + 1)) + (0 + wm (κ 12) (κ 2 + 1) + wm (κ 12) (κ 2 + 1) + wm (κ 12) (κ 2 + 1) + wm (κ 12) (κ 2 + 1) + wm (κ 12) (κ 2 + 1))) rfl rfl ?_
            have hI : INV γ A (ku (ku (ku (ku κ 4 (κ 4 + 1)) 13 (wl (κ 13) (κ 4 + 1))) 2 (κ 2 + 1)) 12 (wl (κ 12) (κ 2 + 1))) _ := hI
            refine lv_iconst (v := 0) hx hb dTypeBook_enumeration_142 (by decide) ?_
            refine lv_istore (lv' := [(6, .int 0), (5, .int r44), (4, .int r37), (3, .int r35), (2, .int r33), (0, .ref (γ.2.2.2 0)), (1, .int x1)]) hx hb dTypeBook_enumeration_143 hl (by decide) rfl (fun ls hl => ?_)
            refine W.up (k := 0 + wc (κ 13) (κ 4 + 1) + wc (κ 13) (κ 4 + 1) + wc (κ 13) (κ 4 + 1) + wc (κ 13) (κ 4 + 1) + 5 * ((wl (κ 12) (κ 2 + 1)) - κ 12)) (n := 0 + wm (κ 13) (κ 4 + 1) + wm (κ 13) (κ 4 + 1) + wm (κ 13) (κ 4 + 1) + wm (κ 13) (κ 4 + 1) + 10 * ((wl (κ 12) (κ 2 + 1)) - κ 12)) (by show 0 + (0 + wc (κ 13) (κ 4 + 1) + wc (κ 13) (κ 4 + 1) + wc (κ 13) (κ 4 + 1) + wc (κ 13) (κ 4 + 1)) + (0 + wc (κ 12) (κ 2 + 1) + wc (κ 12) (κ 2 + 1) + wc (κ 12) (κ 2 + 1) + wc (κ 12) (κ 2 + 1) + wc (κ 12) (κ 2 + 1)) ≤ _; omega) (by show 0 + (0 + wm (κ 13) (κ 4 + 1) + wm (κ 13) (κ 4 + 1) + wm (κ 13) (κ 4 + 1) + wm (κ 13) (κ 4 + 1)) + (0 + wm (κ 12) (κ 2 + 1) + wm (κ 12) (κ 2 + 1) + wm (κ 12) (κ 2 + 1) + wm (κ 12) (κ 2 + 1) + wm (κ 12) (κ 2 + 1)) ≤ _; omega) ?_
            have hI : INV γ A (ku (ku (ku (ku κ 4 (κ 4 + 1)) 13 (wl (κ 13) (κ 4 + 1))) 2 (κ 2 + 1 + 0)) 12 ((wl (κ 12) (κ 2 + 1)))) _ := inv_ext hI rfl rfl rfl rfl rfl rfl rfl rfl rfl rfl rfl rfl rfl rfl rfl rfl
            exact J145 _ ls _ _ 0 (wl (κ 12) (κ 2 + 1)) k4 x1 r33 r35 r37 r44 0 hI hS (by assumption) rfl hN2 hN4 (by omega) (by omega) rfl (lv_sub hl [5, 6, 4, 3, 2, 1, 0] rfl)
          · refine W.up (k := 0) (n := 0) (by show 0 ≤ _; omega) (by show 0 ≤ _; omega) ?_
            exact J96 ls _ _ x1 r33 r35 r37 hI hS (lv_sub hl [3, 4, 2, 1, 0] rfl)
      · refine lv_aload_n hx hb dTypeBook_enumeration_51 rfl (lv_at hl 2 rfl) ?_
        refine lv_bipush (v := 7) hx hb dTypeBook_enumeration_52 (by decide) ?_
        refine lv_iload_n hx hb dTypeBook_enumeration_54 rfl (lv_at hl 0 rfl) ?_
        refine mu_Vi (rest := []) S hC (fun q h => hA q (Nat.le_trans hS.1 h)) (fun q h => h) hS (k_TypeBook_refused l γ A κ 7 r35) meTypeBook_refused qw_fa3e8c2955 ⟨Nat.le_of_ble_eq_true rfl, Nat.le_of_ble_eq_true rfl⟩ (rv_0 hC hI) hI rfl hl.1 rfl (Nat.le_of_ble_eq_true rfl) dTypeBook_enumeration_55 ⟨(by show 0 + 0 ≤ 50000; omega), (by show 0 + 0 ≤ 1000000; omega)⟩ (fun r47 H locs ⟨hr47, hI⟩ hS _ _ => ?_)
        rw [hQ]
        refine tx_endI S hret hlk hS (by show 0 ≤ 50000; omega) (by show 0 ≤ 1000000; omega) (fun hG => ?_) dTypeBook_enumeration_58
        exact (pb_of κ hI (show κ 3 = κ 3 ∧ κ 0 = κ 0 ∧ κ 1 = κ 1 from ⟨rfl, rfl, rfl⟩) hG (by show 5 * (κ 6) + 5 * (κ 7) + 4 * (κ 8) + 4 * (κ 9) + 4 * (κ 10) + 4 * (κ 11) + 5 * (κ 12) + 4 * (κ 13) + 3 * (κ 14) + 1 * (κ 15) ≤ 5 * (κ 6) + 5 * (κ 7) + 4 * (κ 8) + 4 * (κ 9) + 4 * (κ 10) + 4 * (κ 11) + 5 * (κ 12) + 4 * (κ 13) + 3 * (κ 14) + 1 * (κ 15); omega) (by show 0 ≤ (5 * (κ 6) + 5 * (κ 7) + 4 * (κ 8) + 4 * (κ 9) + 4 * (κ 10) + 4 * (κ 11) + 5 * (κ 12) + 4 * (κ 13) + 3 * (κ 14) + 1 * (κ 15)) - (5 * (κ 6) + 5 * (κ 7) + 4 * (κ 8) + 4 * (κ 9) + 4 * (κ 10) + 4 * (κ 11) + 5 * (κ 12) + 4 * (κ 13) + 3 * (κ 14) + 1 * (κ 15)) + 1; omega) (by show 0 ≤ 2 * ((5 * (κ 6) + 5 * (κ 7) + 4 * (κ 8) + 4 * (κ 9) + 4 * (κ 10) + 4 * (κ 11) + 5 * (κ 12) + 4 * (κ 13) + 3 * (κ 14) + 1 * (κ 15)) - (5 * (κ 6) + 5 * (κ 7) + 4 * (κ 8) + 4 * (κ 9) + 4 * (κ 10) + 4 * (κ 11) + 5 * (κ 12) + 4 * (κ 13) + 3 * (κ 14) + 1 * (κ 15))) + 6; omega))
    · refine lv_aload_n hx hb dTypeBook_enumeration_32 rfl (lv_at hl 1 rfl) ?_
      refine lv_bipush (v := 11) hx hb dTypeBook_enumeration_33 (by decide) ?_
      refine lv_iload_n hx hb dTypeBook_enumeration_35 rfl (lv_at hl 0 rfl) ?_
      refine mu_Vi (rest := []) S hC (fun q h => hA q (Nat.le_trans hS.1 h)) (fun q h => h) hS (k_TypeBook_refused l γ A κ 11 r33) meTypeBook_refused qw_fa3e8c2955 ⟨Nat.le_of_ble_eq_true rfl, Nat.le_of_ble_eq_true rfl⟩ (rv_0 hC hI) hI rfl hl.1 rfl (Nat.le_of_ble_eq_true rfl) dTypeBook_enumeration_36 ⟨(by show 0 + 0 ≤ 50000; omega), (by show 0 + 0 ≤ 1000000; omega)⟩ (fun r48 H locs ⟨hr48, hI⟩ hS _ _ => ?_)
      rw [hQ]
      refine tx_endI S hret hlk hS (by show 0 ≤ 50000; omega) (by show 0 ≤ 1000000; omega) (fun hG => ?_) dTypeBook_enumeration_39
      exact (pb_of κ hI (show κ 3 = κ 3 ∧ κ 0 = κ 0 ∧ κ 1 = κ 1 from ⟨rfl, rfl, rfl⟩) hG (by show 5 * (κ 6) + 5 * (κ 7) + 4 * (κ 8) + 4 * (κ 9) + 4 * (κ 10) + 4 * (κ 11) + 5 * (κ 12) + 4 * (κ 13) + 3 * (κ 14) + 1 * (κ 15) ≤ 5 * (κ 6) + 5 * (κ 7) + 4 * (κ 8) + 4 * (κ 9) + 4 * (κ 10) + 4 * (κ 11) + 5 * (κ 12) + 4 * (κ 13) + 3 * (κ 14) + 1 * (κ 15); omega) (by show 0 ≤ (5 * (κ 6) + 5 * (κ 7) + 4 * (κ 8) + 4 * (κ 9) + 4 * (κ 10) + 4 * (κ 11) + 5 * (κ 12) + 4 * (κ 13) + 3 * (κ 14) + 1 * (κ 15)) - (5 * (κ 6) + 5 * (κ 7) + 4 * (κ 8) + 4 * (κ 9) + 4 * (κ 10) + 4 * (κ 11) + 5 * (κ 12) + 4 * (κ 13) + 3 * (κ 14) + 1 * (κ 15)) + 1; omega) (by show 0 ≤ 2 * ((5 * (κ 6) + 5 * (κ 7) + 4 * (κ 8) + 4 * (κ 9) + 4 * (κ 10) + 4 * (κ 11) + 5 * (κ 12) + 4 * (κ 13) + 3 * (κ 14) + 1 * (κ 15)) - (5 * (κ 6) + 5 * (κ 7) + 4 * (κ 8) + 4 * (κ 9) + 4 * (κ 10) + 4 * (κ 11) + 5 * (κ 12) + 4 * (κ 13) + 3 * (κ 14) + 1 * (κ 15))) + 6; omega))
  · obtain ⟨sa11, hsa11⟩ := hw0.2.2.2.1 R_TypeBook 117 "no such node" (in_tables_1_3 (List.mem_of_getElem? (i := 32) rfl))
    rw [hQ]
    refine tx_throw (s0 := s0) (names := ["java/lang/RuntimeException", "java/lang/Exception"]) (text := "no such node") (sa := sa11) S hst hX hlk (by decide +kernel) (by decide +kernel) qw_ae3ba0ca69 qw_d4b771d349 (hF0.step hA0 hS.1 hS.2.1) hsa11 (ta_IOB hW hw0) hl.1 dTypeBook_enumeration_11 dTypeBook_enumeration_14 dTypeBook_enumeration_15 dTypeBook_enumeration_17 dTypeBook_enumeration_20 (Nat.lt_of_lt_of_le (by decide) (Nat.le_of_ble_eq_true rfl : 6 ≤ _)) (Nat.le_of_ble_eq_true rfl) (by show 0 + 1 ≤ 50000; omega) (by show 0 + 6 ≤ 1000000; omega) (fun H1 hG hz ho => ?_) hS.2.2 (by show 0 + 1 ≤ 50000; omega) (by show 0 + 6 ≤ 1000000; omega)
    exact ⟨by decide, (pb_of κ (inv_more hI ho) (show κ 3 = κ 3 ∧ κ 0 = κ 0 ∧ κ 1 = κ 1 from ⟨rfl, rfl, rfl⟩) hG (by show 5 * (κ 6) + 5 * (κ 7) + 4 * (κ 8) + 4 * (κ 9) + 4 * (κ 10) + 4 * (κ 11) + 5 * (κ 12) + 4 * (κ 13) + 3 * (κ 14) + 1 * (κ 15) ≤ 5 * (κ 6) + 5 * (κ 7) + 4 * (κ 8) + 4 * (κ 9) + 4 * (κ 10) + 4 * (κ 11) + 5 * (κ 12) + 4 * (κ 13) + 3 * (κ 14) + 1 * (κ 15); omega) (by show 0 + 1 ≤ (5 * (κ 6) + 5 * (κ 7) + 4 * (κ 8) + 4 * (κ 9) + 4 * (κ 10) + 4 * (κ 11) + 5 * (κ 12) + 4 * (κ 13) + 3 * (κ 14) + 1 * (κ 15)) - (5 * (κ 6) + 5 * (κ 7) + 4 * (κ 8) + 4 * (κ 9) + 4 * (κ 10) + 4 * (κ 11) + 5 * (κ 12) + 4 * (κ 13) + 3 * (κ 14) + 1 * (κ 15)) + 1; omega) (by show 0 + 6 ≤ 2 * ((5 * (κ 6) + 5 * (κ 7) + 4 * (κ 8) + 4 * (κ 9) + 4 * (κ 10) + 4 * (κ 11) + 5 * (κ 12) + 4 * (κ 13) + 3 * (κ 14) + 1 * (κ 15)) - (5 * (κ 6) + 5 * (κ 7) + 4 * (κ 8) + 4 * (κ 9) + 4 * (κ 10) + 4 * (κ 11) + 5 * (κ 12) + 4 * (κ 13) + 3 * (κ 14) + 1 * (κ 15))) + 6; omega)), fr_more hS hz ho⟩
