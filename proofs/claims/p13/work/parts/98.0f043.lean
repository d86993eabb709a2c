def P_TypeBook_type_116 (κ : Nat → Nat) (φ : gF) (ψ : gG) (i1 : Int32) (i2 : Int32) (i3 : Int32) : XR := (if i3 = 0 then (0, (P_Looker_namedType κ (up ((P_Looker_tell κ φ ψ i1 (i1 - 1)).1) 1 (Au (((P_Looker_tell κ φ ψ i1 (i1 - 1)).1) 1) 1 0 (-1))) ((P_Looker_tell κ φ ψ i1 (i1 - 1)).2) i1), κ, (up ((P_Looker_tell κ φ ψ i1 (i1 - 1)).1) 1 (Au (((P_Looker_tell κ φ ψ i1 (i1 - 1)).1) 1) 1 0 (-1))), ((P_Looker_tell κ φ ψ i1 (i1 - 1)).2)) else (0, (P_Looker_newType κ (up ((P_Looker_tell κ φ ψ i1 (i1 - 1)).1) 1 (Au (((P_Looker_tell κ φ ψ i1 (i1 - 1)).1) 1) 1 0 (-1))) ((P_Looker_tell κ φ ψ i1 (i1 - 1)).2) i1).1, (ku (ku κ 4 (κ 4 + 1)) 13 (wl (κ 13) (κ 4 + 1))), ((P_Looker_newType κ (up ((P_Looker_tell κ φ ψ i1 (i1 - 1)).1) 1 (Au (((P_Looker_tell κ φ ψ i1 (i1 - 1)).1) 1) 1 0 (-1))) ((P_Looker_tell κ φ ψ i1 (i1 - 1)).2) i1).2.1), ((P_Looker_newType κ (up ((P_Looker_tell κ φ ψ i1 (i1 - 1)).1) 1 (Au (((P_Looker_tell κ φ ψ i1 (i1 - 1)).1) 1) 1 0 (-1))) ((P_Looker_tell κ φ ψ i1 (i1 - 1)).2) i1).2.2)))
def P_TypeBook_type_88 (κ : Nat → Nat) (φ : gF) (ψ : gG) (i1 : Int32) (i2 : Int32) (t0 : Int32) : XR := (if t0 = 0 then (P_TypeBook_type_116 κ  φ ψ i1 i2 t0) else (if (nI (κ 4)) < 1000 then (P_TypeBook_type_116 κ  φ ψ i1 i2 t0) else (3, 0, κ, φ, ψ)))
def P_TypeBook_type (κ : Nat → Nat) (φ : gF) (ψ : gG) (x1 : Int32) : XR := (if (P_Trees_has ((κ 0)) ((κ 1)) ((κ 11)) (φ 2) x1) = 0 then (1, 0, κ, φ, ψ) else (if ((P_Looker_look κ φ ψ x1 (x1 - 1)).1) = 0 then (if (P_Looker_typeFault κ ((P_Looker_look κ φ ψ x1 (x1 - 1)).2.1) ((P_Looker_look κ φ ψ x1 (x1 - 1)).2.2) x1) = 0 then (if (P_Trees_kindOf ((κ 0)) ((κ 1)) ((κ 11)) (((P_Looker_look κ φ ψ x1 (x1 - 1)).2.1) 2) x1) = 10 then (P_TypeBook_type_88 κ  ((P_Looker_look κ φ ψ x1 (x1 - 1)).2.1) ((P_Looker_look κ φ ψ x1 (x1 - 1)).2.2) x1 (P_Looker_typeFault κ ((P_Looker_look κ φ ψ x1 (x1 - 1)).2.1) ((P_Looker_look κ φ ψ x1 (x1 - 1)).2.2) x1) 0) else (P_TypeBook_type_88 κ  ((P_Looker_look κ φ ψ x1 (x1 - 1)).2.1) ((P_Looker_look κ φ ψ x1 (x1 - 1)).2.2) x1 (P_Looker_typeFault κ ((P_Looker_look κ φ ψ x1 (x1 - 1)).2.1) ((P_Looker_look κ φ ψ x1 (x1 - 1)).2.2) x1) 1)) else (0, (P_TypeBook_refused κ ((P_Looker_look κ φ ψ x1 (x1 - 1)).2.1) ((P_Looker_look κ φ ψ x1 (x1 - 1)).2.2) (P_Looker_typeFault κ ((P_Looker_look κ φ ψ x1 (x1 - 1)).2.1) ((P_Looker_look κ φ ψ x1 (x1 - 1)).2.2) x1) x1).1, κ, ((P_TypeBook_refused κ ((P_Looker_look κ φ ψ x1 (x1 - 1)).2.1) ((P_Looker_look κ φ ψ x1 (x1 - 1)).2.2) (P_Looker_typeFault κ ((P_Looker_look κ φ ψ x1 (x1 - 1)).2.1) ((P_Looker_look κ φ ψ x1 (x1 - 1)).2.2) x1) x1).2.1), ((P_TypeBook_refused κ ((P_Looker_look κ φ ψ x1 (x1 - 1)).2.1) ((P_Looker_look κ φ ψ x1 (x1 - 1)).2.2) (P_Looker_typeFault κ ((P_Looker_look κ φ ψ x1 (x1 - 1)).2.1) ((P_Looker_look κ φ ψ x1 (x1 - 1)).2.2) x1) x1).2.2))) else (0, (P_TypeBook_refused κ ((P_Looker_look κ φ ψ x1 (x1 - 1)).2.1) ((P_Looker_look κ φ ψ x1 (x1 - 1)).2.2) ((P_Looker_look κ φ ψ x1 (x1 - 1)).1) (((P_Looker_look κ φ ψ x1 (x1 - 1)).2.1) 1 2 0)).1, κ, ((P_TypeBook_refused κ ((P_Looker_look κ φ ψ x1 (x1 - 1)).2.1) ((P_Looker_look κ φ ψ x1 (x1 - 1)).2.2) ((P_Looker_look κ φ ψ x1 (x1 - 1)).1) (((P_Looker_look κ φ ψ x1 (x1 - 1)).2.1) 1 2 0)).2.1), ((P_TypeBook_refused κ ((P_Looker_look κ φ ψ x1 (x1 - 1)).2.1) ((P_Looker_look κ φ ψ x1 (x1 - 1)).2.2) ((P_Looker_look κ φ ψ x1 (x1 - 1)).1) (((P_Looker_look κ φ ψ x1 (x1 - 1)).2.1) 1 2 0)).2.2))))
set_option maxHeartbeats 4000000 in
set_option maxRecDepth 100000 in
theorem xf_type (l : Launch) (hst : l.stackTraces = false) (γ : gE) (A : Nat → Prop) (κ : Nat → Nat) (φ : gF) (ψ : gG) (s0 : State) (hw0 : SW s0) (hA0 : ∀ q, A q → s0.heap.size ≤ q) (H0 : Heap) (x1 : Int32) : XM l yTypeBook_type bTypeBook_type 4 (some .int) 7 174 50000 1000000 [.ref (γ.2.2.2 0), .int x1] γ A (fun U => FB s0 U U.heap ∧ U.heap = H0 ∧ INVF γ A κ φ ψ U.heap) (mQi (fun r H => PBF γ A κ H0 (P_TypeBook_type κ φ ψ x1) 0 r H) A) (fun E H => XCF γ A κ H0 (P_TypeBook_type κ φ ψ x1) E H) := by
  refine tx_openI (by decide) (Nat.le_of_ble_eq_true rfl) ?_
  intro p e s m args below meth c ls Q S hret hlk hX hC hA hP hQ hl
  obtain ⟨hF0, hH0, hG⟩ := hP
  subst hH0
  have hI := inv_of hG
  obtain ⟨hx, hb, hml, hown, hW⟩ := id S
  have hS : va_S A s.heap s.heap [] := va_S.rf
  have hl : lv_has ls 4 [(0, .ref (γ.2.2.2 0)), (1, .int x1)] := hl
  obtain ⟨hlen, hsz⟩ := inv_len hI
  obtain ⟨OUT, hQ9, hO⟩ : ∃ z, (z = P_TypeBook_type κ φ ψ x1) ∧ Oq z (P_TypeBook_type κ φ ψ x1) := ⟨_, rfl, rfl⟩
  rw [← hQ9] at hQ
  clear hQ9
  have J116 : ∀ (ls : Array Slot) (H : Heap) (locs : List Loc) (φ : gF) (ψ : gG) (i1 : Int32) (i2 : Int32) (i3 : Int32), INVF γ A κ φ ψ H → va_S A s.heap H locs → (i1.toInt < 2147483647 ∧ (i1 - 1).toInt < 2147483647) → (i3 = 0 ∨ κ 4 < 1000) → (Oq OUT (P_TypeBook_type_116 κ   φ ψ i1 i2 i3)) → lv_has ls 4 [(0, .ref (γ.2.2.2 0)), (1, .int i1), (2, .int i2), (3, .int i3)] → W p l e (bs_rm 7 50000 1000000 174) s m args below meth c H locs 0 0 Q (F0 m 116 ls []) := by
    intro ls H locs φ ψ i1 i2 i3 hG hS ⟨hnode, hnode2⟩ hq4 hO hl
    have hI := inv_of hG
    refine lv_aload_n hx hb dTypeBook_type_116 rfl (lv_at hl 0 rfl) ?_
    refine of_get S hC (of_0_5 hI) in_TypeBook rfl (by decide) qw_130a6323a2 dTypeBook_type_117 ?_
    refine lv_aload_n hx hb dTypeBook_type_120 rfl (lv_at hl 0 rfl) ?_
    refine of_get S hC (of_0_4 hI) in_TypeBook rfl (by decide) qw_ce6a8385d0 dTypeBook_type_121 ?_
    refine lv_iload_n hx hb dTypeBook_type_124 rfl (lv_at hl 1 rfl) ?_
    refine lv_iload_n hx hb dTypeBook_type_125 rfl (lv_at hl 1 rfl) ?_
    refine lv_iconst (v := 1) hx hb dTypeBook_type_126 (by decide) ?_
    refine lv_isub hx hb dTypeBook_type_127 ?_
    refine lv_topi (fun v32 ev32 => ?_)
    refine mu_Vv (rest := []) S hC (fun q h => hA q (Nat.le_trans hS.1 h)) (fun q h => h) hS (f_Looker_tell l γ A κ φ ψ i1 v32 (by rw [ev32]; exact hnode2)) meLooker_tell qw_e2e3c61940 ⟨Nat.le_of_ble_eq_true rfl, Nat.le_of_ble_eq_true rfl⟩ (rv_8 hC hI) hG rfl hl.1 rfl (Nat.le_of_ble_eq_true rfl) dTypeBook_type_128 ⟨(by show 0 + 0 ≤ 50000; omega), (by show 0 + 0 ≤ 1000000; omega)⟩ (fun H locs hG hS _ _ => ?_)
    have hG : INVF γ A κ (P_Looker_tell κ φ ψ i1 v32).1 (P_Looker_tell κ φ ψ i1 v32).2 _ := hG
    obtain ⟨φ34, eφ34⟩ : ∃ z : gF, z = (P_Looker_tell κ φ ψ i1 v32).1 := ⟨_, rfl⟩
    rw [← eφ34] at hG
    obtain ⟨ψ35, eψ35⟩ : ∃ z : gG, z = (P_Looker_tell κ φ ψ i1 v32).2 := ⟨_, rfl⟩
    rw [← eψ35] at hG
    have hI := inv_of hG
    refine lv_aload_n hx hb dTypeBook_type_131 rfl (lv_at hl 0 rfl) ?_
    refine lv_iconst (v := (-1)) hx hb dTypeBook_type_132 (by decide) ?_
    refine ig_fault S hC hG (fun q h => hA q (Nat.le_trans hS.1 h)) hS qw_464f80981e dTypeBook_type_133 (fun H locs hG hS => ?_)
    obtain ⟨φ36, eφ36⟩ : ∃ z : gF, z = up φ34 1 (Au (φ34 1) 1 0 (-1)) := ⟨_, rfl⟩
    rw [← eφ36] at hG
    have hI := inv_of hG
    refine lv_iload_n hx hb dTypeBook_type_136 rfl (lv_at hl 3 rfl) ?_
    refine lv_if_eq (tgt := 151) hx hb dTypeBook_type_137 (by decide) (fun c37 => ?_) (fun c37 => ?_)
    · refine lv_aload_n hx hb dTypeBook_type_151 rfl (lv_at hl 0 rfl) ?_
      refine of_get S hC (of_0_5 hI) in_TypeBook rfl (by decide) qw_130a6323a2 dTypeBook_type_152 ?_
      refine lv_iload_n hx hb dTypeBook_type_155 rfl (lv_at hl 1 rfl) ?_
      refine pu_Vi (rest := []) S hC (f_Looker_namedType l γ A κ φ36 ψ35 i1) meLooker_namedType qw_b73ec2bf69 ⟨Nat.le_of_ble_eq_true rfl, Nat.le_of_ble_eq_true rfl⟩ (rv_8 hC hI) hG rfl hl.1 rfl (Nat.le_of_ble_eq_true rfl) dTypeBook_type_156 ⟨(by show _ ≤ 50000; omega), (by show _ ≤ 1000000; omega)⟩ (fun r38 hr38 => ?_)
      obtain ⟨hr38, er38⟩ := hr38
      rw [hQ]
      refine tx_endI S hret hlk hS (by show 0 ≤ 50000; omega) (by show 0 ≤ 1000000; omega) (fun hGR => ?_) dTypeBook_type_159
      have hO2 : Oq OUT (0, r38, κ, φ36, ψ35) := (by subst er38 eφ36 eψ35 eφ34 ev32; exact hO.tr (if_pos c37))
      rw [hO2.eq]
      exact pbf_of hG hGR (by show 5 * (κ 6) + 5 * (κ 7) + 4 * (κ 8) + 4 * (κ 9) + 4 * (κ 10) + 4 * (κ 11) + 5 * (κ 12) + 4 * (κ 13) + 3 * (κ 14) + 1 * (κ 15) ≤ 5 * (κ 6) + 5 * (κ 7) + 4 * (κ 8) + 4 * (κ 9) + 4 * (κ 10) + 4 * (κ 11) + 5 * (κ 12) + 4 * (κ 13) + 3 * (κ 14) + 1 * (κ 15); omega) (by show 0 ≤ (5 * (κ 6) + 5 * (κ 7) + 4 * (κ 8) + 4 * (κ 9) + 4 * (κ 10) + 4 * (κ 11) + 5 * (κ 12) + 4 * (κ 13) + 3 * (κ 14) + 1 * (κ 15)) - (5 * (κ 6) + 5 * (κ 7) + 4 * (κ 8) + 4 * (κ 9) + 4 * (κ 10) + 4 * (κ 11) + 5 * (κ 12) + 4 * (κ 13) + 3 * (κ 14) + 1 * (κ 15)) + 1; omega) (by show 0 ≤ 2 * ((5 * (κ 6) + 5 * (κ 7) + 4 * (κ 8) + 4 * (κ 9) + 4 * (κ 10) + 4 * (κ 11) + 5 * (κ 12) + 4 * (κ 13) + 3 * (κ 14) + 1 * (κ 15)) - (5 * (κ 6) + 5 * (κ 7) + 4 * (κ 8) + 4 * (κ 9) + 4 * (κ 10) + 4 * (κ 11) + 5 * (κ 12) + 4 * (κ 13) + 3 * (κ 14) + 1 * (κ 15))) + 6; omega)
    · have hN : κ 4 < 1000 := hq4.resolve_left (by assumption)
      have hwc13 := wcm (n := κ 13) (N := κ 4 + 1) (by omega) (by omega)
      refine lv_aload_n hx hb dTypeBook_type_140 rfl (lv_at hl 0 rfl) ?_
      refine of_get S hC (of_0_5 hI) in_TypeBook rfl (by decide) qw_130a6323a2 dTypeBook_type_141 ?_
      refine lv_iload_n hx hb dTypeBook_type_144 rfl (lv_at hl 1 rfl) ?_
      refine mu_Vi (rest := []) S hC (fun q h => hA q (Nat.le_trans hS.1 h)) (fun q h => h) hS (f_Looker_newType l γ A κ φ36 ψ35 i1 (by show κ 4 ≤ 4000; omega)) meLooker_newType qw_2a88b5adf9 ⟨Nat.le_of_ble_eq_true rfl, Nat.le_of_ble_eq_true rfl⟩ (rv_8 hC hI) hG rfl hl.1 rfl (Nat.le_of_ble_eq_true rfl) dTypeBook_type_145 ⟨(by show 0 + (0 + (0 + wc (κ 13) (κ 4 + 1) + wc (κ 13) (κ 4 + 1) + wc (κ 13) (κ 4 + 1) + wc (κ 13) (κ 4 + 1))) ≤ 50000; omega), (by show 0 + (0 + (0 + wm (κ 13) (κ 4 + 1) + wm (κ 13) (κ 4 + 1) + wm (κ 13) (κ 4 + 1) + wm (κ 13) (κ 4 + 1))) ≤ 1000000; omega)⟩ (fun r39 H locs ⟨er39, hG⟩ hS _ _ => ?_)
      refine W.cs (cells' := 0 + (0 + (0 + wc (κ 13) (κ 4 + 1) + wc (κ 13) (κ 4 + 1) + wc (κ 13) (κ 4 + 1) + wc (κ 13) (κ 4 + 1)))) (slots' := 0 + (0 + (0 + wm (κ 13) (κ 4 + 1) + wm (κ 13) (κ 4 + 1) + wm (κ 13) (κ 4 + 1) + wm (κ 13) (κ 4 + 1)))) rfl rfl ?_
      have hG : INVF γ A (ku (ku κ 4 (κ 4 + 1)) 13 (wl (κ 13) (κ 4 + 1))) (P_Looker_newType κ φ36 ψ35 i1).2.1 (P_Looker_newType κ φ36 ψ35 i1).2.2 _ := hG
      obtain ⟨φ40, eφ40⟩ : ∃ z : gF, z = (P_Looker_newType κ φ36 ψ35 i1).2.1 := ⟨_, rfl⟩
      rw [← eφ40] at hG
      obtain ⟨ψ41, eψ41⟩ : ∃ z : gG, z = (P_Looker_newType κ φ36 ψ35 i1).2.2 := ⟨_, rfl⟩
      rw [← eψ41] at hG
      have hI := inv_of hG
      refine lv_goto (tgt := 159) hx hb dTypeBook_type_148 (by decide) ?_
      rw [hQ]
      refine tx_endI S hret hlk hS (by show 0 + (0 + (0 + wc (κ 13) (κ 4 + 1) + wc (κ 13) (κ 4 + 1) + wc (κ 13) (κ 4 + 1) + wc (κ 13) (κ 4 + 1))) ≤ 50000; omega) (by show 0 + (0 + (0 + wm (κ 13) (κ 4 + 1) + wm (κ 13) (κ 4 + 1) + wm (κ 13) (κ 4 + 1) + wm (κ 13) (κ 4 + 1))) ≤ 1000000; omega) (fun hGR => ?_) dTypeBook_type_159
      have hO2 : Oq OUT (0, r39, (ku (ku κ 4 (κ 4 + 1)) 13 (wl (κ 13) (κ 4 + 1))), φ40, ψ41) := (by subst eψ41 eφ40 er39 eφ36 eψ35 eφ34 ev32; exact hO.tr (if_neg c37))
      rw [hO2.eq]
      exact pbf_of hG hGR (by show 5 * (κ 6) + 5 * (κ 7) + 4 * (κ 8) + 4 * (κ 9) + 4 * (κ 10) + 4 * (κ 11) + 5 * (κ 12) + 4 * (κ 13) + 3 * (κ 14) + 1 * (κ 15) ≤ 5 * (κ 6) + 5 * (κ 7) + 4 * (κ 8) + 4 * (κ 9) + 4 * (κ 10) + 4 * (κ 11) + 5 * (κ 12) + 4 * (wl (κ 13) (κ 4 + 1)) + 3 * (κ 14) + 1 * (κ 15); omega) (by show 0 + (0 + (0 + wc (κ 13) (κ 4 + 1) + wc (κ 13) (κ 4 + 1) + wc (κ 13) (κ 4 + 1) + wc (κ 13) (κ 4 + 1))) ≤ (5 * (κ 6) + 5 * (κ 7) + 4 * (κ 8) + 4 * (κ 9) + 4 * (κ 10) + 4 * (κ 11) + 5 * (κ 12) + 4 * (wl (κ 13) (κ 4 + 1)) + 3 * (κ 14) + 1 * (κ 15)) - (5 * (κ 6) + 5 * (κ 7) + 4 * (κ 8) + 4 * (κ 9) + 4 * (κ 10) + 4 * (κ 11) + 5 * (κ 12) + 4 * (κ 13) + 3 * (κ 14) + 1 * (κ 15)) + 1; omega) (by show 0 + (0 + (0 + wm (κ 13) (κ 4 + 1) + wm (κ 13) (κ 4 + 1) + wm (κ 13) (κ 4 + 1) + wm (κ 13) (κ 4 + 1))) ≤ 2 * ((5 * (κ 6) + 5 * (κ 7) + 4 * (κ 8) + 4 * (κ 9) + 4 * (κ 10) + 4 * (κ 11) + 5 * (κ 12) + 4 * (wl (κ 13) (κ 4 + 1)) + 3 * (κ 14) + 1 * (κ 15)) - (5 * (κ 6) + 5 * (κ 7) + 4 * (κ 8) + 4 * (κ 9) + 4 * (κ 10) + 4 * (κ 11) + 5 * (κ 12) + 4 * (κ 13) + 3 * (κ 14) + 1 * (κ 15))) + 6; omega)
  have J88 : ∀ (ls : Array Slot) (H : Heap) (locs : List Loc) (φ : gF) (ψ : gG) (i1 : Int32) (i2 : Int32) (t0 : Int32), INVF γ A κ φ ψ H → va_S A s.heap H locs → (i1.toInt < 2147483647 ∧ (i1 - 1).toInt < 2147483647) → (Oq OUT (P_TypeBook_type_88 κ   φ ψ i1 i2 t0)) → lv_has ls 4 [(0, .ref (γ.2.2.2 0)), (1, .int i1), (2, .int i2)] → W p l e (bs_rm 7 50000 1000000 174) s m args below meth c H locs 0 0 Q (F0 m 88 ls [.int t0]) := by
    intro ls H locs φ ψ i1 i2 t0 hG hS ⟨hnode, hnode2⟩ hO hl
    have hI := inv_of hG
    refine lv_istore_n (lv' := [(3, .int t0), (0, .ref (γ.2.2.2 0)), (1, .int i1), (2, .int i2)]) hx hb dTypeBook_type_88 rfl hl (by decide) rfl (fun ls hl => ?_)
    refine lv_iload_n hx hb dTypeBook_type_89 rfl (lv_at hl 0 rfl) ?_
    refine lv_if_eq (tgt := 116) hx hb dTypeBook_type_90 (by decide) (fun c42 => ?_) (fun c42 => ?_)
    · refine W.up (k := 0) (n := 0) (by show 0 ≤ _; omega) (by show 0 ≤ _; omega) ?_
      exact J116 ls _ _ φ ψ i1 i2 t0 hG hS (by first | exact ⟨hnode, hnode2⟩ | exact node_ok (x := i1) (by assumption) (by assumption) (by omega)) (by first | exact Or.inl (by assumption) | exact Or.inr (lt_ok (N := κ 4) (M := 1000) (by assumption) rfl (by assumption) (by omega) (by omega))) (by exact hO.tr (if_pos c42)) (lv_sub hl [1, 2, 3, 0] rfl)
    · refine lv_aload_n hx hb dTypeBook_type_93 rfl (lv_at hl 1 rfl) ?_
      refine of_get S hC (of_0_2 hI) in_TypeBook rfl (by decide) qw_393f431be6 dTypeBook_type_94 ?_
      refine of_getN S hC (of_3_4 hI) in_Types rfl (by decide) qn_cc358838e1 dTypeBook_type_97 ?_
      refine lv_topi (fun v43 ev43 => ?_)
      have ev43 : v43 = nI (κ 4) := ev43
      refine lv_sipush (v := 1000) hx hb dTypeBook_type_100 (by decide) ?_
      refine lv_icmp_lt (tgt := 116) hx hb dTypeBook_type_103 (by decide) (fun c44 => ?_) (fun c44 => ?_)
      · refine W.up (k := 0) (n := 0) (by show 0 ≤ _; omega) (by show 0 ≤ _; omega) ?_
        exact J116 ls _ _ φ ψ i1 i2 t0 hG hS (by first | exact ⟨hnode, hnode2⟩ | exact node_ok (x := i1) (by assumption) (by assumption) (by omega)) (by first | exact Or.inl (by assumption) | exact Or.inr (lt_ok (N := κ 4) (M := 1000) (by assumption) rfl (by assumption) (by omega) (by omega))) (by subst ev43; exact hO.tr ((if_neg c42).trans (if_pos c44))) (lv_sub hl [1, 2, 3, 0] rfl)
      · obtain ⟨sa106, hsa106⟩ := hw0.2.2.2.1 R_TypeBook 138 "no room for a type" (in_tables_1_4 (List.mem_of_getElem? (i := 222) rfl))
        rw [hQ]
        refine tx_throw (s0 := s0) (names := ["java/lang/RuntimeException", "java/lang/Exception"]) (text := "no room for a type") (sa := sa106) S hst hX hlk (by decide +kernel) (by decide +kernel) qw_8038d8d33c qw_f529d83890 (hF0.step hA0 hS.1 hS.2.1) hsa106 (ta_ISE hW hw0) hl.1 dTypeBook_type_106 dTypeBook_type_109 dTypeBook_type_110 dTypeBook_type_112 dTypeBook_type_115 (Nat.lt_of_lt_of_le (by decide) (Nat.le_of_ble_eq_true rfl : 6 ≤ _)) (Nat.le_of_ble_eq_true rfl) (by show 0 + 1 ≤ 50000; omega) (by show 0 + 6 ≤ 1000000; omega) (fun H1 hGR hz ho => ?_) hS.2.2 (by show 0 + 1 ≤ 50000; omega) (by show 0 + 6 ≤ 1000000; omega)
        have hO2 : Oq OUT (3, 0, κ, φ, ψ) := (by subst ev43; exact hO.tr ((if_neg c42).trans (if_neg c44)))
        rw [hO2.eq]
        exact ⟨⟨3, by decide, pbf_of (invf_more hG ho) hGR (by show 5 * (κ 6) + 5 * (κ 7) + 4 * (κ 8) + 4 * (κ 9) + 4 * (κ 10) + 4 * (κ 11) + 5 * (κ 12) + 4 * (κ 13) + 3 * (κ 14) + 1 * (κ 15) ≤ 5 * (κ 6) + 5 * (κ 7) + 4 * (κ 8) + 4 * (κ 9) + 4 * (κ 10) + 4 * (κ 11) + 5 * (κ 12) + 4 * (κ 13) + 3 * (κ 14) + 1 * (κ 15); omega) (by show 0 + 1 ≤ (5 * (κ 6) + 5 * (κ 7) + 4 * (κ 8) + 4 * (κ 9) + 4 * (κ 10) + 4 * (κ 11) + 5 * (κ 12) + 4 * (κ 13) + 3 * (κ 14) + 1 * (κ 15)) - (5 * (κ 6) + 5 * (κ 7) + 4 * (κ 8) + 4 * (κ 9) + 4 * (κ 10) + 4 * (κ 11) + 5 * (κ 12) + 4 * (κ 13) + 3 * (κ 14) + 1 * (κ 15)) + 1; omega) (by show 0 + 6 ≤ 2 * ((5 * (κ 6) + 5 * (κ 7) + 4 * (κ 8) + 4 * (κ 9) + 4 * (κ 10) + 4 * (κ 11) + 5 * (κ 12) + 4 * (κ 13) + 3 * (κ 14) + 1 * (κ 15)) - (5 * (κ 6) + 5 * (κ 7) + 4 * (κ 8) + 4 * (κ 9) + 4 * (κ 10) + 4 * (κ 11) + 5 * (κ 12) + 4 * (κ 13) + 3 * (κ 14) + 1 * (κ 15))) + 6; omega)⟩, fr_more hS hz ho⟩
  refine lv_aload_n hx hb dTypeBook_type_0 rfl (lv_at hl 0 rfl) ?_
  refine of_get S hC (of_0_0 hI) in_TypeBook rfl (by decide) qw_6151ee7924 dTypeBook_type_1 ?_
  refine lv_iload_n hx hb dTypeBook_type_4 rfl (lv_at hl 1 rfl) ?_
  refine pu_Vi (rest := []) S hC (f1_Trees_has l γ A κ φ ψ x1) meTrees_has qw_90a02633e0 ⟨Nat.le_of_ble_eq_true rfl, Nat.le_of_ble_eq_true rfl⟩ (rv_1 hC hI) hG rfl hl.1 rfl (Nat.le_of_ble_eq_true rfl) dTypeBook_type_5 ⟨(by show _ ≤ 50000; omega), (by show _ ≤ 1000000; omega)⟩ (fun r45 hr45 => ?_)
  obtain ⟨hr45, er45⟩ := hr45
  refine lv_if_ne (tgt := 21) hx hb dTypeBook_type_8 (by decide) (fun c46 => ?_) (fun c46 => ?_)
  · obtain ⟨hnode, hnode2⟩ := node_ok (x := x1) (by assumption) (by assumption) (by omega)
    refine lv_aload_n hx hb dTypeBook_type_21 rfl (lv_at hl 0 rfl) ?_
    refine of_get S hC (of_0_5 hI) in_TypeBook rfl (by decide) qw_130a6323a2 dTypeBook_type_22 ?_
    refine lv_iload_n hx hb dTypeBook_type_25 rfl (lv_at hl 1 rfl) ?_
    refine lv_iload_n hx hb dTypeBook_type_26 rfl (lv_at hl 1 rfl) ?_
    refine lv_iconst (v := 1) hx hb dTypeBook_type_27 (by decide) ?_
    refine lv_isub hx hb dTypeBook_type_28 ?_
    refine lv_topi (fun v47 ev47 => ?_)
    refine mu_Vi (rest := []) S hC (fun q h => hA q (Nat.le_trans hS.1 h)) (fun q h => h) hS (f_Looker_look l γ A κ φ ψ x1 v47 (by rw [ev47]; exact hnode2)) meLooker_look qw_d8c2c64b31 ⟨Nat.le_of_ble_eq_true rfl, Nat.le_of_ble_eq_true rfl⟩ (rv_8 hC hI) hG rfl hl.1 rfl (Nat.le_of_ble_eq_true rfl) dTypeBook_type_29 ⟨(by show 0 + 0 ≤ 50000; omega), (by show 0 + 0 ≤ 1000000; omega)⟩ (fun r48 H locs ⟨er48, hG⟩ hS _ _ => ?_)
    have hG : INVF γ A κ (P_Looker_look κ φ ψ x1 v47).2.1 (P_Looker_look κ φ ψ x1 v47).2.2 _ := hG
    obtain ⟨φ49, eφ49⟩ : ∃ z : gF, z = (P_Looker_look κ φ ψ x1 v47).2.1 := ⟨_, rfl⟩
    rw [← eφ49] at hG
    obtain ⟨ψ50, eψ50⟩ : ∃ z : gG, z = (P_Looker_look κ φ ψ x1 v47).2.2 := ⟨_, rfl⟩
    rw [← eψ50] at hG
    have hI := inv_of hG
    refine lv_istore_n (lv' := [(2, .int r48), (0, .ref (γ.2.2.2 0)), (1, .int x1)]) hx hb dTypeBook_type_32 rfl hl (by decide) rfl (fun ls hl => ?_)
    refine lv_iload_n hx hb dTypeBook_type_33 rfl (lv_at hl 0 rfl) ?_
    refine lv_if_eq (tgt := 50) hx hb dTypeBook_type_34 (by decide) (fun c51 => ?_) (fun c51 => ?_)
    · refine lv_aload_n hx hb dTypeBook_type_50 rfl (lv_at hl 1 rfl) ?_
      refine of_get S hC (of_0_5 hI) in_TypeBook rfl (by decide) qw_130a6323a2 dTypeBook_type_51 ?_
      refine lv_iload_n hx hb dTypeBook_type_54 rfl (lv_at hl 2 rfl) ?_
      refine pu_Vi (rest := []) S hC (f_Looker_typeFault l γ A κ φ49 ψ50 x1) meLooker_typeFault qw_03b670d8a8 ⟨Nat.le_of_ble_eq_true rfl, Nat.le_of_ble_eq_true rfl⟩ (rv_8 hC hI) hG rfl hl.1 rfl (Nat.le_of_ble_eq_true rfl) dTypeBook_type_55 ⟨(by show _ ≤ 50000; omega), (by show _ ≤ 1000000; omega)⟩ (fun r52 hr52 => ?_)
      obtain ⟨hr52, er52⟩ := hr52
      refine lv_istore_n (lv' := [(2, .int r52), (0, .ref (γ.2.2.2 0)), (1, .int x1)]) hx hb dTypeBook_type_58 rfl hl (by decide) rfl (fun ls hl => ?_)
      refine lv_iload_n hx hb dTypeBook_type_59 rfl (lv_at hl 0 rfl) ?_
      refine lv_if_eq (tgt := 70) hx hb dTypeBook_type_60 (by decide) (fun c53 => ?_) (fun c53 => ?_)
      · refine lv_aload_n hx hb dTypeBook_type_70 rfl (lv_at hl 1 rfl) ?_
        refine of_get S hC (of_0_0 hI) in_TypeBook rfl (by decide) qw_6151ee7924 dTypeBook_type_71 ?_
        refine lv_iload_n hx hb dTypeBook_type_74 rfl (lv_at hl 2 rfl) ?_
        refine pu_Vi (rest := []) S hC (f1_Trees_kindOf l γ A κ φ49 ψ50 x1) meTrees_kindOf qw_920bbe1ee1 ⟨Nat.le_of_ble_eq_true rfl, Nat.le_of_ble_eq_true rfl⟩ (rv_1 hC hI) hG rfl hl.1 rfl (Nat.le_of_ble_eq_true rfl) dTypeBook_type_75 ⟨(by show _ ≤ 50000; omega), (by show _ ≤ 1000000; omega)⟩ (fun r54 hr54 => ?_)
        obtain ⟨hr54, er54⟩ := hr54
        refine lv_bipush (v := 10) hx hb dTypeBook_type_78 (by decide) ?_
        refine lv_icmp_eq (tgt := 87) hx hb dTypeBook_type_80 (by decide) (fun c55 => ?_) (fun c55 => ?_)
        · refine lv_iconst (v := 0) hx hb dTypeBook_type_87 (by decide) ?_
          refine W.up (k := 0) (n := 0) (by show 0 ≤ _; omega) (by show 0 ≤ _; omega) ?_
          exact J88 ls _ _ φ49 ψ50 x1 r52 0 hG hS (by first | exact ⟨hnode, hnode2⟩ | exact node_ok (x := x1) (by assumption) (by assumption) (by omega)) (by subst er54 er52 eψ50 eφ49 er48 ev47 er45; exact hO.tr ((if_neg c46).trans ((if_pos c51).trans ((if_pos c53).trans (if_pos c55))))) (lv_sub hl [1, 2, 0] rfl)
        · refine lv_iconst (v := 1) hx hb dTypeBook_type_83 (by decide) ?_
          refine lv_goto (tgt := 88) hx hb dTypeBook_type_84 (by decide) ?_
          refine W.up (k := 0) (n := 0) (by show 0 ≤ _; omega) (by show 0 ≤ _; omega) ?_
          exact J88 ls _ _ φ49 ψ50 x1 r52 1 hG hS (by first | exact ⟨hnode, hnode2⟩ | exact node_ok (x := x1) (by assumption) (by assumption) (by omega)) (by subst er54 er52 eψ50 eφ49 er48 ev47 er45; exact hO.tr ((if_neg c46).trans ((if_pos c51).trans ((if_pos c53).trans (if_neg c55))))) (lv_sub hl [1, 2, 0] rfl)
      · refine lv_aload_n hx hb dTypeBook_type_63 rfl (lv_at hl 1 rfl) ?_
        refine lv_iload_n hx hb dTypeBook_type_64 rfl (lv_at hl 0 rfl) ?_
        refine lv_iload_n hx hb dTypeBook_type_65 rfl (lv_at hl 2 rfl) ?_
        refine mu_Vi (rest := []) S hC (fun q h => hA q (Nat.le_trans hS.1 h)) (fun q h => h) hS (f_TypeBook_refused l γ A κ φ49 ψ50 r52 x1) meTypeBook_refused qw_fa3e8c2955 ⟨Nat.le_of_ble_eq_true rfl, Nat.le_of_ble_eq_true rfl⟩ (rv_0 hC hI) hG rfl hl.1 rfl (Nat.le_of_ble_eq_true rfl) dTypeBook_type_66 ⟨(by show 0 + 0 ≤ 50000; omega), (by show 0 + 0 ≤ 1000000; omega)⟩ (fun r56 H locs ⟨er56, hG⟩ hS _ _ => ?_)
        have hG : INVF γ A κ (P_TypeBook_refused κ φ49 ψ50 r52 x1).2.1 (P_TypeBook_refused κ φ49 ψ50 r52 x1).2.2 _ := hG
        obtain ⟨φ57, eφ57⟩ : ∃ z : gF, z = (P_TypeBook_refused κ φ49 ψ50 r52 x1).2.1 := ⟨_, rfl⟩
        rw [← eφ57] at hG
        obtain ⟨ψ58, eψ58⟩ : ∃ z : gG, z = (P_TypeBook_refused κ φ49 ψ50 r52 x1).2.2 := ⟨_, rfl⟩
        rw [← eψ58] at hG
        have hI := inv_of hG
        rw [hQ]
        refine tx_endI S hret hlk hS (by show 0 ≤ 50000; omega) (by show 0 ≤ 1000000; omega) (fun hGR => ?_) dTypeBook_type_69
        have hO2 : Oq OUT (0, r56, κ, φ57, ψ58) := (by subst eψ58 eφ57 er56 er52 eψ50 eφ49 er48 ev47 er45; exact hO.tr ((if_neg c46).trans ((if_pos c51).trans (if_neg c53))))
        rw [hO2.eq]
        exact pbf_of hG hGR (by show 5 * (κ 6) + 5 * (κ 7) + 4 * (κ 8) + 4 * (κ 9) + 4 * (κ 10) + 4 * (κ 11) + 5 * (κ 12) + 4 * (κ 13) + 3 * (κ 14) + 1 * (κ 15) ≤ 5 * (κ 6) + 5 * (κ 7) + 4 * (κ 8) + 4 * (κ 9) + 4 * (κ 10) + 4 * (κ 11) + 5 * (κ 12) + 4 * (κ 13) + 3 * (κ 14) + 1 * (κ 15); omega) (by show 0 ≤ (5 * (κ 6) + 5 * (κ 7) + 4 * (κ 8) + 4 * (κ 9) + 4 * (κ 10) + 4 * (κ 11) + 5 * (κ 12) + 4 * (κ 13) + 3 * (κ 14) + 1 * (κ 15)) - (5 * (κ 6) + 5 * (κ 7) + 4 * (κ 8) + 4 * (κ 9) + 4 * (κ 10) + 4 * (κ 11) + 5 * (κ 12) + 4 * (κ 13) + 3 * (κ 14) + 1 * (κ 15)) + 1; omega) (by show 0 ≤ 2 * ((5 * (κ 6) + 5 * (κ 7) + 4 * (κ 8) + 4 * (κ 9) + 4 * (κ 10) + 4 * (κ 11) + 5 * (κ 12) + 4 * (κ 13) + 3 * (κ 14) + 1 * (κ 15)) - (5 * (κ 6) + 5 * (κ 7) + 4 * (κ 8) + 4 * (κ 9) + 4 * (κ 10) + 4 * (κ 11) + 5 * (κ 12) + 4 * (κ 13) + 3 * (κ 14) + 1 * (κ 15))) + 6; omega)
    · refine lv_aload_n hx hb dTypeBook_type_37 rfl (lv_at hl 1 rfl) ?_
      refine lv_iload_n hx hb dTypeBook_type_38 rfl (lv_at hl 0 rfl) ?_
      refine lv_aload_n hx hb dTypeBook_type_39 rfl (lv_at hl 1 rfl) ?_
      refine of_get S hC (of_0_5 hI) in_TypeBook rfl (by decide) qw_130a6323a2 dTypeBook_type_40 ?_
      refine of_getN S hC (og_8 hG) in_Looker rfl (by decide) qn_b283086a15 dTypeBook_type_43 ?_
      refine lv_topi (fun v59 ev59 => ?_)
      refine mu_Vi (rest := []) S hC (fun q h => hA q (Nat.le_trans hS.1 h)) (fun q h => h) hS (f_TypeBook_refused l γ A κ φ49 ψ50 r48 v59) meTypeBook_refused qw_fa3e8c2955 ⟨Nat.le_of_ble_eq_true rfl, Nat.le_of_ble_eq_true rfl⟩ (rv_0 hC hI) hG rfl hl.1 rfl (Nat.le_of_ble_eq_true rfl) dTypeBook_type_46 ⟨(by show 0 + 0 ≤ 50000; omega), (by show 0 + 0 ≤ 1000000; omega)⟩ (fun r60 H locs ⟨er60, hG⟩ hS _ _ => ?_)
      have hG : INVF γ A κ (P_TypeBook_refused κ φ49 ψ50 r48 v59).2.1 (P_TypeBook_refused κ φ49 ψ50 r48 v59).2.2 _ := hG
      obtain ⟨φ61, eφ61⟩ : ∃ z : gF, z = (P_TypeBook_refused κ φ49 ψ50 r48 v59).2.1 := ⟨_, rfl⟩
      rw [← eφ61] at hG
      obtain ⟨ψ62, eψ62⟩ : ∃ z : gG, z = (P_TypeBook_refused κ φ49 ψ50 r48 v59).2.2 := ⟨_, rfl⟩
      rw [← eψ62] at hG
      have hI := inv_of hG
      rw [hQ]
      refine tx_endI S hret hlk hS (by show 0 ≤ 50000; omega) (by show 0 ≤ 1000000; omega) (fun hGR => ?_) dTypeBook_type_49
      have hO2 : Oq OUT (0, r60, κ, φ61, ψ62) := (by subst eψ62 eφ61 er60 ev59 eψ50 eφ49 er48 ev47 er45; exact hO.tr ((if_neg c46).trans (if_neg c51)))
      rw [hO2.eq]
      exact pbf_of hG hGR (by show 5 * (κ 6) + 5 * (κ 7) + 4 * (κ 8) + 4 * (κ 9) + 4 * (κ 10) + 4 * (κ 11) + 5 * (κ 12) + 4 * (κ 13) + 3 * (κ 14) + 1 * (κ 15) ≤ 5 * (κ 6) + 5 * (κ 7) + 4 * (κ 8) + 4 * (κ 9) + 4 * (κ 10) + 4 * (κ 11) + 5 * (κ 12) + 4 * (κ 13) + 3 * (κ 14) + 1 * (κ 15); omega) (by show 0 ≤ (5 * (κ 6) + 5 * (κ 7) + 4 * (κ 8) + 4 * (κ 9) + 4 * (κ 10) + 4 * (κ 11) + 5 * (κ 12) + 4 * (κ 13) + 3 * (κ 14) + 1 * (κ 15)) - (5 * (κ 6) + 5 * (κ 7) + 4 * (κ 8) + 4 * (κ 9) + 4 * (κ 10) + 4 * (κ 11) + 5 * (κ 12) + 4 * (κ 13) + 3 * (κ 14) + 1 * (κ 15)) + 1; omega) (by show 0 ≤ 2 * ((5 * (κ 6) + 5 * (κ 7) + 4 * (κ 8) + 4 * (κ 9) + 4 * (κ 10) + 4 * (κ 11) + 5 * (κ 12) + 4 * (κ 13) + 3 * (κ 14) + 1 * (κ 15)) - (5 * (κ 6) + 5 * (κ 7) + 4 * (κ 8) + 4 * (κ 9) + 4 * (κ 10) + 4 * (κ 11) + 5 * (κ 12) + 4 * (κ 13) + 3 * (κ 14) + 1 * (κ 15))) + 6; omega)
  · obtain ⟨sa11, hsa11⟩ := hw0.2.2.2.1 R_TypeBook 117 "no such node" (in_tables_1_3 (List.mem_of_getElem? (i := 32) rfl))
    rw [hQ]
    refine tx_throw (s0 := s0) (names := ["java/lang/RuntimeException", "java/lang/Exception"]) (text := "no such node") (sa := sa11) S hst hX hlk (by decide +kernel) (by decide +kernel) qw_ae3ba0ca69 qw_d4b771d349 (hF0.step hA0 hS.1 hS.2.1) hsa11 (ta_IOB hW hw0) hl.1 dTypeBook_type_11 dTypeBook_type_14 dTypeBook_type_15 dTypeBook_type_17 dTypeBook_type_20 (Nat.lt_of_lt_of_le (by decide) (Nat.le_of_ble_eq_true rfl : 6 ≤ _)) (Nat.le_of_ble_eq_true rfl) (by show 0 + 1 ≤ 50000; omega) (by show 0 + 6 ≤ 1000000; omega) (fun H1 hGR hz ho => ?_) hS.2.2 (by show 0 + 1 ≤ 50000; omega) (by show 0 + 6 ≤ 1000000; omega)
    have hO2 : Oq OUT (1, 0, κ, φ, ψ) := (by subst er45; exact hO.tr (if_pos c46))
    rw [hO2.eq]
    exact ⟨⟨1, by decide, pbf_of (invf_more hG ho) hGR (by show 5 * (κ 6) + 5 * (κ 7) + 4 * (κ 8) + 4 * (κ 9) + 4 * (κ 10) + 4 * (κ 11) + 5 * (κ 12) + 4 * (κ 13) + 3 * (κ 14) + 1 * (κ 15) ≤ 5 * (κ 6) + 5 * (κ 7) + 4 * (κ 8) + 4 * (κ 9) + 4 * (κ 10) + 4 * (κ 11) + 5 * (κ 12) + 4 * (κ 13) + 3 * (κ 14) + 1 * (κ 15); omega) (by show 0 + 1 ≤ (5 * (κ 6) + 5 * (κ 7) + 4 * (κ 8) + 4 * (κ 9) + 4 * (κ 10) + 4 * (κ 11) + 5 * (κ 12) + 4 * (κ 13) + 3 * (κ 14) + 1 * (κ 15)) - (5 * (κ 6) + 5 * (κ 7) + 4 * (κ 8) + 4 * (κ 9) + 4 * (κ 10) + 4 * (κ 11) + 5 * (κ 12) + 4 * (κ 13) + 3 * (κ 14) + 1 * (κ 15)) + 1; omega) (by show 0 + 6 ≤ 2 * ((5 * (κ 6) + 5 * (κ 7) + 4 * (κ 8) + 4 * (κ 9) + 4 * (κ 10) + 4 * (κ 11) + 5 * (κ 12) + 4 * (κ 13) + 3 * (κ 14) + 1 * (κ 15)) - (5 * (κ 6) + 5 * (κ 7) + 4 * (κ 8) + 4 * (κ 9) + 4 * (κ 10) + 4 * (κ 11) + 5 * (κ 12) + 4 * (κ 13) + 3 * (κ 14) + 1 * (κ 15))) + 6; omega)⟩, fr_more hS hz ho⟩
def P_TypeBook_leave (κ : Nat → Nat) (φ : gF) (ψ : gG) : XR := (if 1 < (nI (κ 3)) then (0, (nI (κ 3 - 1)), (ku (ku κ 2 ((φ 3 6 (κ 3 - 1)).toNatClampNeg)) 3 (κ 3 - 1)), (up φ 3 (P_Names_close ((κ 2)) ((κ 3)) ((κ 12)) (φ 3) (κ 3 - 1))), ψ) else (3, 0, κ, φ, ψ))
set_option maxHeartbeats 4000000 in
set_option maxRecDepth 100000 in
theorem xf_leave (l : Launch) (hst : l.stackTraces = false) (γ : gE) (A : Nat → Prop) (κ : Nat → Nat) (φ : gF) (ψ : gG) (s0 : State) (hw0 : SW s0) (hA0 : ∀ q, A q → s0.heap.size ≤ q) (H0 : Heap)  : XM l yTypeBook_leave bTypeBook_leave 1 (some .int) 6 82 50000 1000000 [.ref (γ.2.2.2 0)] γ A (fun U => FB s0 U U.heap ∧ U.heap = H0 ∧ INVF γ A κ φ ψ U.heap) (mQi (fun r H => PBF γ A κ H0 (P_TypeBook_leave κ φ ψ ) 0 r H) A) (fun E H => XCF γ A κ H0 (P_TypeBook_leave κ φ ψ ) E H) := by
  refine tx_openI (by decide) (Nat.le_of_ble_eq_true rfl) ?_
  intro p e s m args below meth c ls Q S hret hlk hX hC hA hP hQ hl
  obtain ⟨hF0, hH0, hG⟩ := hP
  subst hH0
  have hI := inv_of hG
  obtain ⟨hx, hb, hml, hown, hW⟩ := id S
  have hS : va_S A s.heap s.heap [] := va_S.rf
  have hl : lv_has ls 1 [(0, .ref (γ.2.2.2 0))] := hl
  obtain ⟨hlen, hsz⟩ := inv_len hI
  obtain ⟨OUT, hQ9, hO⟩ : ∃ z, (z = P_TypeBook_leave κ φ ψ ) ∧ Oq z (P_TypeBook_leave κ φ ψ ) := ⟨_, rfl, rfl⟩
  rw [← hQ9] at hQ
  clear hQ9
  refine lv_aload_n hx hb dTypeBook_leave_0 rfl (lv_at hl 0 rfl) ?_
  refine of_get S hC (of_0_1 hI) in_TypeBook rfl (by decide) qw_a088f6ef48 dTypeBook_leave_1 ?_
  refine of_getN S hC (of_2_8 hI) in_Names rfl (by decide) qn_75616f261a dTypeBook_leave_4 ?_
  refine lv_topi (fun v6 ev6 => ?_)
  have ev6 : v6 = nI (κ 3) := ev6
  refine lv_iconst (v := 1) hx hb dTypeBook_leave_7 (by decide) ?_
  refine lv_icmp_gt (tgt := 21) hx hb dTypeBook_leave_8 (by decide) (fun c7 => ?_) (fun c7 => ?_)
  · have hN : 1 < κ 3 := gt_ok (M := 1) (by assumption) rfl (by assumption) (by omega) (by omega)
    refine lv_aload_n hx hb dTypeBook_leave_21 rfl (lv_at hl 0 rfl) ?_
    refine of_get S hC (of_0_1 hI) in_TypeBook rfl (by decide) qw_a088f6ef48 dTypeBook_leave_22 ?_
    refine mu_Vv (rest := []) S hC (fun q h => hA q (Nat.le_trans hS.1 h)) (fun q h => h) hS (f2_Names_close l γ A κ φ ψ (κ 3 - 1) (by omega) (by omega)) meNames_close qw_323c2e74ae ⟨Nat.le_of_ble_eq_true rfl, Nat.le_of_ble_eq_true rfl⟩ (rv_2 hC hI) hG rfl hl.1 rfl (Nat.le_of_ble_eq_true rfl) dTypeBook_leave_25 ⟨(by show 0 + 0 ≤ 50000; omega), (by show 0 + 0 ≤ 1000000; omega)⟩ (fun H locs hG hS _ _ => ?_)
    have hG : INVF γ A (ku (ku κ 2 ((φ 3 6 (κ 3 - 1)).toNatClampNeg)) 3 (κ 3 - 1)) (up φ 3 (P_Names_close ((κ 2)) ((κ 3)) ((κ 12)) (φ 3) (κ 3 - 1))) ψ _ := hG
    obtain ⟨φ9, eφ9⟩ : ∃ z : gF, z = up φ 3 (P_Names_close ((κ 2)) ((κ 3)) ((κ 12)) (φ 3) (κ 3 - 1)) := ⟨_, rfl⟩
    rw [← eφ9] at hG
    have hI := inv_of hG
    refine lv_aload_n hx hb dTypeBook_leave_28 rfl (lv_at hl 0 rfl) ?_
    refine of_get S hC (of_0_1 hI) in_TypeBook rfl (by decide) qw_a088f6ef48 dTypeBook_leave_29 ?_
    refine of_getN S hC (of_2_8 hI) in_Names rfl (by decide) qn_75616f261a dTypeBook_leave_32 ?_
    refine lv_topi (fun v10 ev10 => ?_)
    have ev10 : v10 = nI (κ 3 - 1) := ev10
    rw [hQ]
    refine tx_endI S hret hlk hS (by show 0 ≤ 50000; omega) (by show 0 ≤ 1000000; omega) (fun hGR => ?_) dTypeBook_leave_35
    have hO2 : Oq OUT (0, v10, (ku (ku κ 2 ((φ 3 6 (κ 3 - 1)).toNatClampNeg)) 3 (κ 3 - 1)), φ9, ψ) := (by subst ev10 eφ9 ev6; exact hO.tr (if_pos c7))
    rw [hO2.eq]
    exact pbf_of hG hGR (by show 5 * (κ 6) + 5 * (κ 7) + 4 * (κ 8) + 4 * (κ 9) + 4 * (κ 10) + 4 * (κ 11) + 5 * (κ 12) + 4 * (κ 13) + 3 * (κ 14) + 1 * (κ 15) ≤ 5 * (κ 6) + 5 * (κ 7) + 4 * (κ 8) + 4 * (κ 9) + 4 * (κ 10) + 4 * (κ 11) + 5 * (κ 12) + 4 * (κ 13) + 3 * (κ 14) + 1 * (κ 15); omega) (by show 0 ≤ (5 * (κ 6) + 5 * (κ 7) + 4 * (κ 8) + 4 * (κ 9) + 4 * (κ 10) + 4 * (κ 11) + 5 * (κ 12) + 4 * (κ 13) + 3 * (κ 14) + 1 * (κ 15)) - (5 * (κ 6) + 5 * (κ 7) + 4 * (κ 8) + 4 * (κ 9) + 4 * (κ 10) + 4 * (κ 11) + 5 * (κ 12) + 4 * (κ 13) + 3 * (κ 14) + 1 * (κ 15)) + 1; omega) (by show 0 ≤ 2 * ((5 * (κ 6) + 5 * (κ 7) + 4 * (κ 8) + 4 * (κ 9) + 4 * (κ 10) + 4 * (κ 11) + 5 * (κ 12) + 4 * (κ 13) + 3 * (κ 14) + 1 * (κ 15)) - (5 * (κ 6) + 5 * (κ 7) + 4 * (κ 8) + 4 * (κ 9) + 4 * (κ 10) + 4 * (κ 11) + 5 * (κ 12) + 4 * (κ 13) + 3 * (κ 14) + 1 * (κ 15))) + 6; omega)
  · obtain ⟨sa11, hsa11⟩ := hw0.2.2.2.1 R_TypeBook 107 "the outermost scope stays" (in_tables_1_3 (List.mem_of_getElem? (i := 9) rfl))
    rw [hQ]
    refine tx_throw (s0 := s0) (names := ["java/lang/RuntimeException", "java/lang/Exception"]) (text := "the outermost scope stays") (sa := sa11) S hst hX hlk (by decide +kernel) (by decide +kernel) qw_8038d8d33c qw_f529d83890 (hF0.step hA0 hS.1 hS.2.1) hsa11 (ta_ISE hW hw0) hl.1 dTypeBook_leave_11 dTypeBook_leave_14 dTypeBook_leave_15 dTypeBook_leave_17 dTypeBook_leave_20 (Nat.lt_of_lt_of_le (by decide) (Nat.le_of_ble_eq_true rfl : 6 ≤ _)) (Nat.le_of_ble_eq_true rfl) (by show 0 + 1 ≤ 50000; omega) (by show 0 + 6 ≤ 1000000; omega) (fun H1 hGR hz ho => ?_) hS.2.2 (by show 0 + 1 ≤ 50000; omega) (by show 0 + 6 ≤ 1000000; omega)
    have hO2 : Oq OUT (3, 0, κ, φ, ψ) := (by subst ev6; exact hO.tr (if_neg c7))
    rw [hO2.eq]
    exact ⟨⟨3, by decide, pbf_of (invf_more hG ho) hGR (by show 5 * (κ 6) + 5 * (κ 7) + 4 * (κ 8) + 4 * (κ 9) + 4 * (κ 10) + 4 * (κ 11) + 5 * (κ 12) + 4 * (κ 13) + 3 * (κ 14) + 1 * (κ 15) ≤ 5 * (κ 6) + 5 * (κ 7) + 4 * (κ 8) + 4 * (κ 9) + 4 * (κ 10) + 4 * (κ 11) + 5 * (κ 12) + 4 * (κ 13) + 3 * (κ 14) + 1 * (κ 15); omega) (by show 0 + 1 ≤ (5 * (κ 6) + 5 * (κ 7) + 4 * (κ 8) + 4 * (κ 9) + 4 * (κ 10) + 4 * (κ 11) + 5 * (κ 12) + 4 * (κ 13) + 3 * (κ 14) + 1 * (κ 15)) - (5 * (κ 6) + 5 * (κ 7) + 4 * (κ 8) + 4 * (κ 9) + 4 * (κ 10) + 4 * (κ 11) + 5 * (κ 12) + 4 * (κ 13) + 3 * (κ 14) + 1 * (κ 15)) + 1; omega) (by show 0 + 6 ≤ 2 * ((5 * (κ 6) + 5 * (κ 7) + 4 * (κ 8) + 4 * (κ 9) + 4 * (κ 10) + 4 * (κ 11) + 5 * (κ 12) + 4 * (κ 13) + 3 * (κ 14) + 1 * (κ 15)) - (5 * (κ 6) + 5 * (κ 7) + 4 * (κ 8) + 4 * (κ 9) + 4 * (κ 10) + 4 * (κ 11) + 5 * (κ 12) + 4 * (κ 13) + 3 * (κ 14) + 1 * (κ 15))) + 6; omega)⟩, fr_more hS hz ho⟩
def P_TypeBook_subtype (κ : Nat → Nat) (φ : gF) (ψ : gG) (x1 : Int32) (x2 : Int32) : XR := (if (P_Types_has ((κ 4)) ((κ 13)) (φ 4) x2) = 0 then (1, 0, κ, φ, ψ) else (if (P_TypeBook_isName x1) = 0 then (2, 0, κ, φ, ψ) else (if (P_Names_isTaken ((κ 2)) ((κ 3)) ((κ 12)) (φ 3) x1) = 0 then (if (P_Names_haveRoom (κ 2) (1)) = 0 then (3, 0, κ, φ, ψ) else (0, 0, (ku (ku κ 2 (κ 2 + 1)) 12 (wl (κ 12) (κ 2 + 1))), (up (up φ 3 (P_Names_put ((κ 2)) ((κ 3)) ((κ 12)) (φ 3) x1 1 x2 0)) 1 (Au ((up φ 3 (P_Names_put ((κ 2)) ((κ 3)) ((κ 12)) (φ 3) x1 1 x2 0)) 1) 1 0 (-1))), ψ)) else (0, (P_TypeBook_refused κ φ ψ 7 (-1)).1, κ, ((P_TypeBook_refused κ φ ψ 7 (-1)).2.1), ((P_TypeBook_refused κ φ ψ 7 (-1)).2.2)))))
set_option maxHeartbeats 4000000 in
set_option maxRecDepth 100000 in
theorem xf_subtype (l : Launch) (hst : l.stackTraces = false) (γ : gE) (A : Nat → Prop) (κ : Nat → Nat) (φ : gF) (ψ : gG) (s0 : State) (hw0 : SW s0) (hA0 : ∀ q, A q → s0.heap.size ≤ q) (H0 : Heap) (x1 : Int32) (x2 : Int32) : XM l yTypeBook_subtype bTypeBook_subtype 3 (some .int) 6 128 50000 1000000 [.ref (γ.2.2.2 0), .int x1, .int x2] γ A (fun U => FB s0 U U.heap ∧ U.heap = H0 ∧ INVF γ A κ φ ψ U.heap) (mQi (fun r H => PBF γ A κ H0 (P_TypeBook_subtype κ φ ψ x1 x2) 0 r H) A) (fun E H => XCF γ A κ H0 (P_TypeBook_subtype κ φ ψ x1 x2) E H) := by
  refine tx_openI (by decide) (Nat.le_of_ble_eq_true rfl) ?_
  intro p e s m args below meth c ls Q S hret hlk hX hC hA hP hQ hl
  obtain ⟨hF0, hH0, hG⟩ := hP
  subst hH0
  have hI := inv_of hG
  obtain ⟨hx, hb, hml, hown, hW⟩ := id S
  have hS : va_S A s.heap s.heap [] := va_S.rf
  have hl : lv_has ls 3 [(0, .ref (γ.2.2.2 0)), (1, .int x1), (2, .int x2)] := hl
  obtain ⟨hlen, hsz⟩ := inv_len hI
  obtain ⟨OUT, hQ9, hO⟩ : ∃ z, (z = P_TypeBook_subtype κ φ ψ x1 x2) ∧ Oq z (P_TypeBook_subtype κ φ ψ x1 x2) := ⟨_, rfl, rfl⟩
  rw [← hQ9] at hQ
  clear hQ9
  refine lv_aload_n hx hb dTypeBook_subtype_0 rfl (lv_at hl 0 rfl) ?_
  refine of_get S hC (of_0_2 hI) in_TypeBook rfl (by decide) qw_393f431be6 dTypeBook_subtype_1 ?_
  refine lv_iload_n hx hb dTypeBook_subtype_4 rfl (lv_at hl 2 rfl) ?_
  refine pu_Vi (rest := []) S hC (f3_Types_has l γ A κ φ ψ x2) meTypes_has qw_438f5fc1da ⟨Nat.le_of_ble_eq_true rfl, Nat.le_of_ble_eq_true rfl⟩ (rv_3 hC hI) hG rfl hl.1 rfl (Nat.le_of_ble_eq_true rfl) dTypeBook_subtype_5 ⟨(by show _ ≤ 50000; omega), (by show _ ≤ 1000000; omega)⟩ (fun r15 hr15 => ?_)
  obtain ⟨hr15, er15⟩ := hr15
  refine lv_if_ne (tgt := 21) hx hb dTypeBook_subtype_8 (by decide) (fun c16 => ?_) (fun c16 => ?_)
  · refine lv_iload_n hx hb dTypeBook_subtype_21 rfl (lv_at hl 1 rfl) ?_
    refine pu_Si (rest := []) S hC (f_TypeBook_isName l γ (INVF γ A κ φ ψ) x1) meTypeBook_isName qw_87c028f095 ⟨Nat.le_of_ble_eq_true rfl, Nat.le_of_ble_eq_true rfl⟩ hG rfl hl.1 rfl (Nat.le_of_ble_eq_true rfl) dTypeBook_subtype_22 ⟨(by show _ ≤ 50000; omega), (by show _ ≤ 1000000; omega)⟩ (fun r17 hr17 => ?_)
    obtain ⟨hr17, er17⟩ := hr17
    refine lv_if_ne (tgt := 38) hx hb dTypeBook_subtype_25 (by decide) (fun c18 => ?_) (fun c18 => ?_)
    · refine lv_aload_n hx hb dTypeBook_subtype_38 rfl (lv_at hl 0 rfl) ?_
      refine of_get S hC (of_0_1 hI) in_TypeBook rfl (by decide) qw_a088f6ef48 dTypeBook_subtype_39 ?_
      refine lv_iload_n hx hb dTypeBook_subtype_42 rfl (lv_at hl 1 rfl) ?_
      refine pu_Vi (rest := []) S hC (f2_Names_isTaken l γ A κ φ ψ x1) meNames_isTaken qw_5bf4c88d20 ⟨Nat.le_of_ble_eq_true rfl, Nat.le_of_ble_eq_true rfl⟩ (rv_2 hC hI) hG rfl hl.1 rfl (Nat.le_of_ble_eq_true rfl) dTypeBook_subtype_43 ⟨(by show _ ≤ 50000; omega), (by show _ ≤ 1000000; omega)⟩ (fun r19 hr19 => ?_)
      obtain ⟨hr19, er19⟩ := hr19
      refine lv_if_eq (tgt := 57) hx hb dTypeBook_subtype_46 (by decide) (fun c20 => ?_) (fun c20 => ?_)
      · refine lv_aload_n hx hb dTypeBook_subtype_57 rfl (lv_at hl 0 rfl) ?_
        refine of_get S hC (of_0_1 hI) in_TypeBook rfl (by decide) qw_a088f6ef48 dTypeBook_subtype_58 ?_
        refine lv_iconst (v := 1) hx hb dTypeBook_subtype_61 (by decide) ?_
        refine vp_callSi (va_Run.run (va_runV (As := [.int (nI (1))]) (rest := []) S (fk_haveRoom l γ A κ s0 hw0 hA0 (1) (by omega)) (bs_cwV hW meNames_haveRoom qw_bd2f27f55e rfl rfl ⟨Nat.le_of_ble_eq_true rfl, Nat.le_of_ble_eq_true rfl⟩) ⟨hr_blind, rv_2 hC hI, fun U hU hW9 => ⟨rfl, hC.warm hW9, by rw [hU]; exact (hF0.step hA0 hS.1 hS.2.1).warm hW9, by rw [hU]; exact hI⟩⟩ rfl rfl hl.1 rfl (lv_room (Nat.le_of_ble_eq_true rfl)) dTypeBook_subtype_62 ⟨by show 0 + 0 ≤ 50000; omega, by show 0 + 0 ≤ 1000000; omega⟩)) (fun r21 hr21 => ?_)
        obtain ⟨hr21, er21⟩ := hr21
        refine lv_if_ne (tgt := 78) hx hb dTypeBook_subtype_65 (by decide) (fun c22 => ?_) (fun c22 => ?_)
        · have hN2 : κ 2 + 1 ≤ 3012 := Or.resolve_left (by assumption) (by assumption)
          have hwc12 := wcm (n := κ 12) (N := κ 2 + 1) (by omega) (by omega)
          refine lv_aload_n hx hb dTypeBook_subtype_78 rfl (lv_at hl 0 rfl) ?_
          refine of_get S hC (of_0_1 hI) in_TypeBook rfl (by decide) qw_a088f6ef48 dTypeBook_subtype_79 ?_
          refine lv_iload_n hx hb dTypeBook_subtype_82 rfl (lv_at hl 1 rfl) ?_
          refine lv_iconst (v := 1) hx hb dTypeBook_subtype_83 (by decide) ?_
          refine lv_iload_n hx hb dTypeBook_subtype_84 rfl (lv_at hl 2 rfl) ?_
          refine lv_iconst (v := 0) hx hb dTypeBook_subtype_85 (by decide) ?_
          refine mu_Vv (rest := []) S hC (fun q h => hA q (Nat.le_trans hS.1 h)) (fun q h => h) hS (f2_Names_put l γ A κ φ ψ x1 1 x2 0 (by show κ 2 ≤ 4000; omega)) meNames_put qw_b1d56e075d ⟨Nat.le_of_ble_eq_true rfl, Nat.le_of_ble_eq_true rfl⟩ (rv_2 hC hI) hG rfl hl.1 rfl (Nat.le_of_ble_eq_true rfl) dTypeBook_subtype_86 ⟨(by show 0 + (0 + wc (κ 12) (κ 2 + 1) + wc (κ 12) (κ 2 + 1) + wc (κ 12) (κ 2 + 1) + wc (κ 12) (κ 2 + 1) + wc (κ 12) (κ 2 + 1)) ≤ 50000; omega), (by show 0 + (0 + wm (κ 12) (κ 2 + 1) + wm (κ 12) (κ 2 + 1) + wm (κ 12) (κ 2 + 1) + wm (κ 12) (κ 2 + 1) + wm (κ 12) (κ 2 + 1)) ≤ 1000000; omega)⟩ (fun H locs hG hS _ _ => ?_)
          refine W.cs (cells' := 0 + (0 + wc (κ 12) (κ 2 + 1) + wc (κ 12) (κ 2 + 1) + wc (κ 12) (κ 2 + 1) + wc (κ 12) (κ 2 + 1) + wc (κ 12) (κ 2 + 1))) (slots' := 0 + (0 + wm (κ 12) (κ 2 + 1) + wm (κ 12) (κ 2 + 1) + wm (κ 12) (κ 2 + 1) + wm (κ 12) (κ 2 + 1) + wm (κ 12) (κ 2 + 1))) rfl rfl ?_
          have hG : INVF γ A (ku (ku κ 2 (κ 2 + 1)) 12 (wl (κ 12) (κ 2 + 1))) (up φ 3 (P_Names_put ((κ 2)) ((κ 3)) ((κ 12)) (φ 3) x1 1 x2 0)) ψ _ := hG
          obtain ⟨φ24, eφ24⟩ : ∃ z : gF, z = up φ 3 (P_Names_put ((κ 2)) ((κ 3)) ((κ 12)) (φ 3) x1 1 x2 0) := ⟨_, rfl⟩
          rw [← eφ24] at hG
          have hI := inv_of hG
          refine lv_aload_n hx hb dTypeBook_subtype_89 rfl (lv_at hl 0 rfl) ?_
          refine lv_iconst (v := (-1)) hx hb dTypeBook_subtype_90 (by decide) ?_
          refine ig_fault S hC hG (fun q h => hA q (Nat.le_trans hS.1 h)) hS qw_464f80981e dTypeBook_subtype_91 (fun H locs hG hS => ?_)
          obtain ⟨φ25, eφ25⟩ : ∃ z : gF, z = up φ24 1 (Au (φ24 1) 1 0 (-1)) := ⟨_, rfl⟩
          rw [← eφ25] at hG
          have hI := inv_of hG
          refine lv_iconst (v := 0) hx hb dTypeBook_subtype_94 (by decide) ?_
          rw [hQ]
          refine tx_endI S hret hlk hS (by show 0 + (0 + wc (κ 12) (κ 2 + 1) + wc (κ 12) (κ 2 + 1) + wc (κ 12) (κ 2 + 1) + wc (κ 12) (κ 2 + 1) + wc (κ 12) (κ 2 + 1)) ≤ 50000; omega) (by show 0 + (0 + wm (κ 12) (κ 2 + 1) + wm (κ 12) (κ 2 + 1) + wm (κ 12) (κ 2 + 1) + wm (κ 12) (κ 2 + 1) + wm (κ 12) (κ 2 + 1)) ≤ 1000000; omega) (fun hGR => ?_) dTypeBook_subtype_95
          have hO2 : Oq OUT (0, 0, (ku (ku κ 2 (κ 2 + 1)) 12 (wl (κ 12) (κ 2 + 1))), φ25, ψ) := (by subst eφ25 eφ24 er21 er19 er17 er15; exact hO.tr ((if_neg c16).trans ((if_neg c18).trans ((if_pos c20).trans (if_neg c22)))))
          rw [hO2.eq]
          exact pbf_of hG hGR (by show 5 * (κ 6) + 5 * (κ 7) + 4 * (κ 8) + 4 * (κ 9) + 4 * (κ 10) + 4 * (κ 11) + 5 * (κ 12) + 4 * (κ 13) + 3 * (κ 14) + 1 * (κ 15) ≤ 5 * (κ 6) + 5 * (κ 7) + 4 * (κ 8) + 4 * (κ 9) + 4 * (κ 10) + 4 * (κ 11) + 5 * (wl (κ 12) (κ 2 + 1)) + 4 * (κ 13) + 3 * (κ 14) + 1 * (κ 15); omega) (by show 0 + (0 + wc (κ 12) (κ 2 + 1) + wc (κ 12) (κ 2 + 1) + wc (κ 12) (κ 2 + 1) + wc (κ 12) (κ 2 + 1) + wc (κ 12) (κ 2 + 1)) ≤ (5 * (κ 6) + 5 * (κ 7) + 4 * (κ 8) + 4 * (κ 9) + 4 * (κ 10) + 4 * (κ 11) + 5 * (wl (κ 12) (κ 2 + 1)) + 4 * (κ 13) + 3 * (κ 14) + 1 * (κ 15)) - (5 * (κ 6) + 5 * (κ 7) + 4 * (κ 8) + 4 * (κ 9) + 4 * (κ 10) + 4 * (κ 11) + 5 * (κ 12) + 4 * (κ 13) + 3 * (κ 14) + 1 * (κ 15)) + 1; omega) (by show 0 + (0 + wm (κ 12) (κ 2 + 1) + wm (κ 12) (κ 2 + 1) + wm (κ 12) (κ 2 + 1) + wm (κ 12) (κ 2 + 1) + wm (κ 12) (κ 2 + 1)) ≤ 2 * ((5 * (κ 6) + 5 * (κ 7) + 4 * (κ 8) + 4 * (κ 9) + 4 * (κ 10) + 4 * (κ 11) + 5 * (wl (κ 12) (κ 2 + 1)) + 4 * (κ 13) + 3 * (κ 14) + 1 * (κ 15)) - (5 * (κ 6) + 5 * (κ 7) + 4 * (κ 8) + 4 * (κ 9) + 4 * (κ 10) + 4 * (κ 11) + 5 * (κ 12) + 4 * (κ 13) + 3 * (κ 14) + 1 * (κ 15))) + 6; omega)
        · obtain ⟨sa68, hsa68⟩ := hw0.2.2.2.1 R_TypeBook 180 "no room for a name" (in_tables_1_5 (List.mem_of_getElem? (i := 53) rfl))
          rw [hQ]
          refine tx_throw (s0 := s0) (names := ["java/lang/RuntimeException", "java/lang/Exception"]) (text := "no room for a name") (sa := sa68) S hst hX hlk (by decide +kernel) (by decide +kernel) qw_8038d8d33c qw_f529d83890 (hF0.step hA0 hS.1 hS.2.1) hsa68 (ta_ISE hW hw0) hl.1 dTypeBook_subtype_68 dTypeBook_subtype_71 dTypeBook_subtype_72 dTypeBook_subtype_74 dTypeBook_subtype_77 (Nat.lt_of_lt_of_le (by decide) (Nat.le_of_ble_eq_true rfl : 6 ≤ _)) (Nat.le_of_ble_eq_true rfl) (by show 0 + 1 ≤ 50000; omega) (by show 0 + 6 ≤ 1000000; omega) (fun H1 hGR hz ho => ?_) hS.2.2 (by show 0 + 1 ≤ 50000; omega) (by show 0 + 6 ≤ 1000000; omega)
          have hO2 : Oq OUT (3, 0, κ, φ, ψ) := (by subst er21 er19 er17 er15; exact hO.tr ((if_neg c16).trans ((if_neg c18).trans ((if_pos c20).trans (if_pos c22)))))
          rw [hO2.eq]
          exact ⟨⟨3, by decide, pbf_of (invf_more hG ho) hGR (by show 5 * (κ 6) + 5 * (κ 7) + 4 * (κ 8) + 4 * (κ 9) + 4 * (κ 10) + 4 * (κ 11) + 5 * (κ 12) + 4 * (κ 13) + 3 * (κ 14) + 1 * (κ 15) ≤ 5 * (κ 6) + 5 * (κ 7) + 4 * (κ 8) + 4 * (κ 9) + 4 * (κ 10) + 4 * (κ 11) + 5 * (κ 12) + 4 * (κ 13) + 3 * (κ 14) + 1 * (κ 15); omega) (by show 0 + 1 ≤ (5 * (κ 6) + 5 * (κ 7) + 4 * (κ 8) + 4 * (κ 9) + 4 * (κ 10) + 4 * (κ 11) + 5 * (κ 12) + 4 * (κ 13) + 3 * (κ 14) + 1 * (κ 15)) - (5 * (κ 6) + 5 * (κ 7) + 4 * (κ 8) + 4 * (κ 9) + 4 * (κ 10) + 4 * (κ 11) + 5 * (κ 12) + 4 * (κ 13) + 3 * (κ 14) + 1 * (κ 15)) + 1; omega) (by show 0 + 6 ≤ 2 * ((5 * (κ 6) + 5 * (κ 7) + 4 * (κ 8) + 4 * (κ 9) + 4 * (κ 10) + 4 * (κ 11) + 5 * (κ 12) + 4 * (κ 13) + 3 * (κ 14) + 1 * (κ 15)) - (5 * (κ 6) + 5 * (κ 7) + 4 * (κ 8) + 4 * (κ 9) + 4 * (κ 10) + 4 * (κ 11) + 5 * (κ 12) + 4 * (κ 13) + 3 * (κ 14) + 1 * (κ 15))) + 6; omega)⟩, fr_more hS hz ho⟩
      · refine lv_aload_n hx hb dTypeBook_subtype_49 rfl (lv_at hl 0 rfl) ?_
        refine lv_bipush (v := 7) hx hb dTypeBook_subtype_50 (by decide) ?_
        refine lv_iconst (v := (-1)) hx hb dTypeBook_subtype_52 (by decide) ?_
        refine mu_Vi (rest := []) S hC (fun q h => hA q (Nat.le_trans hS.1 h)) (fun q h => h) hS (f_TypeBook_refused l γ A κ φ ψ 7 (-1)) meTypeBook_refused qw_fa3e8c2955 ⟨Nat.le_of_ble_eq_true rfl, Nat.le_of_ble_eq_true rfl⟩ (rv_0 hC hI) hG rfl hl.1 rfl (Nat.le_of_ble_eq_true rfl) dTypeBook_subtype_53 ⟨(by show 0 + 0 ≤ 50000; omega), (by show 0 + 0 ≤ 1000000; omega)⟩ (fun r26 H locs ⟨er26, hG⟩ hS _ _ => ?_)
        have hG : INVF γ A κ (P_TypeBook_refused κ φ ψ 7 (-1)).2.1 (P_TypeBook_refused κ φ ψ 7 (-1)).2.2 _ := hG
        obtain ⟨φ27, eφ27⟩ : ∃ z : gF, z = (P_TypeBook_refused κ φ ψ 7 (-1)).2.1 := ⟨_, rfl⟩
        rw [← eφ27] at hG
        obtain ⟨ψ28, eψ28⟩ : ∃ z : gG, z = (P_TypeBook_refused κ φ ψ 7 (-1)).2.2 := ⟨_, rfl⟩
        rw [← eψ28] at hG
        have hI := inv_of hG
        rw [hQ]
        refine tx_endI S hret hlk hS (by show 0 ≤ 50000; omega) (by show 0 ≤ 1000000; omega) (fun hGR => ?_) dTypeBook_subtype_56
        have hO2 : Oq OUT (0, r26, κ, φ27, ψ28) := (by subst eψ28 eφ27 er26 er19 er17 er15; exact hO.tr ((if_neg c16).trans ((if_neg c18).trans (if_neg c20))))
        rw [hO2.eq]
        exact pbf_of hG hGR (by show 5 * (κ 6) + 5 * (κ 7) + 4 * (κ 8) + 4 * (κ 9) + 4 * (κ 10) + 4 * (κ 11) + 5 * (κ 12) + 4 * (κ 13) + 3 * (κ 14) + 1 * (κ 15) ≤ 5 * (κ 6) + 5 * (κ 7) + 4 * (κ 8) + 4 * (κ 9) + 4 * (κ 10) + 4 * (κ 11) + 5 * (κ 12) + 4 * (κ 13) + 3 * (κ 14) + 1 * (κ 15); omega) (by show 0 ≤ (5 * (κ 6) + 5 * (κ 7) + 4 * (κ 8) + 4 * (κ 9) + 4 * (κ 10) + 4 * (κ 11) + 5 * (κ 12) + 4 * (κ 13) + 3 * (κ 14) + 1 * (κ 15)) - (5 * (κ 6) + 5 * (κ 7) + 4 * (κ 8) + 4 * (κ 9) + 4 * (κ 10) + 4 * (κ 11) + 5 * (κ 12) + 4 * (κ 13) + 3 * (κ 14) + 1 * (κ 15)) + 1; omega) (by show 0 ≤ 2 * ((5 * (κ 6) + 5 * (κ 7) + 4 * (κ 8) + 4 * (κ 9) + 4 * (κ 10) + 4 * (κ 11) + 5 * (κ 12) + 4 * (κ 13) + 3 * (κ 14) + 1 * (κ 15)) - (5 * (κ 6) + 5 * (κ 7) + 4 * (κ 8) + 4 * (κ 9) + 4 * (κ 10) + 4 * (κ 11) + 5 * (κ 12) + 4 * (κ 13) + 3 * (κ 14) + 1 * (κ 15))) + 6; omega)
    · obtain ⟨sa28, hsa28⟩ := hw0.2.2.2.1 R_TypeBook 74 "no such name" (in_tables_1_2 (List.mem_of_getElem? (i := 169) rfl))
      rw [hQ]
      refine tx_throw (s0 := s0) (names := ["java/lang/RuntimeException", "java/lang/Exception"]) (text := "no such name") (sa := sa28) S hst hX hlk (by decide +kernel) (by decide +kernel) qw_b17894d46b qw_ed8d893ebf (hF0.step hA0 hS.1 hS.2.1) hsa28 (ta_IAE hW hw0) hl.1 dTypeBook_subtype_28 dTypeBook_subtype_31 dTypeBook_subtype_32 dTypeBook_subtype_34 dTypeBook_subtype_37 (Nat.lt_of_lt_of_le (by decide) (Nat.le_of_ble_eq_true rfl : 6 ≤ _)) (Nat.le_of_ble_eq_true rfl) (by show 0 + 1 ≤ 50000; omega) (by show 0 + 6 ≤ 1000000; omega) (fun H1 hGR hz ho => ?_) hS.2.2 (by show 0 + 1 ≤ 50000; omega) (by show 0 + 6 ≤ 1000000; omega)
      have hO2 : Oq OUT (2, 0, κ, φ, ψ) := (by subst er17 er15; exact hO.tr ((if_neg c16).trans (if_pos c18)))
      rw [hO2.eq]
      exact ⟨⟨2, by decide, pbf_of (invf_more hG ho) hGR (by show 5 * (κ 6) + 5 * (κ 7) + 4 * (κ 8) + 4 * (κ 9) + 4 * (κ 10) + 4 * (κ 11) + 5 * (κ 12) + 4 * (κ 13) + 3 * (κ 14) + 1 * (κ 15) ≤ 5 * (κ 6) + 5 * (κ 7) + 4 * (κ 8) + 4 * (κ 9) + 4 * (κ 10) + 4 * (κ 11) + 5 * (κ 12) + 4 * (κ 13) + 3 * (κ 14) + 1 * (κ 15); omega) (by show 0 + 1 ≤ (5 * (κ 6) + 5 * (κ 7) + 4 * (κ 8) + 4 * (κ 9) + 4 * (κ 10) + 4 * (κ 11) + 5 * (κ 12) + 4 * (κ 13) + 3 * (κ 14) + 1 * (κ 15)) - (5 * (κ 6) + 5 * (κ 7) + 4 * (κ 8) + 4 * (κ 9) + 4 * (κ 10) + 4 * (κ 11) + 5 * (κ 12) + 4 * (κ 13) + 3 * (κ 14) + 1 * (κ 15)) + 1; omega) (by show 0 + 6 ≤ 2 * ((5 * (κ 6) + 5 * (κ 7) + 4 * (κ 8) + 4 * (κ 9) + 4 * (κ 10) + 4 * (κ 11) + 5 * (κ 12) + 4 * (κ 13) + 3 * (κ 14) + 1 * (κ 15)) - (5 * (κ 6) + 5 * (κ 7) + 4 * (κ 8) + 4 * (κ 9) + 4 * (κ 10) + 4 * (κ 11) + 5 * (κ 12) + 4 * (κ 13) + 3 * (κ 14) + 1 * (κ 15))) + 6; omega)⟩, fr_more hS hz ho⟩
  · obtain ⟨sa11, hsa11⟩ := hw0.2.2.2.1 R_TypeBook 175 "no such type" (in_tables_1_5 (List.mem_of_getElem? (i := 52) rfl))
    rw [hQ]
    refine tx_throw (s0 := s0) (names := ["java/lang/RuntimeException", "java/lang/Exception"]) (text := "no such type") (sa := sa11) S hst hX hlk (by decide +kernel) (by decide +kernel) qw_ae3ba0ca69 qw_d4b771d349 (hF0.step hA0 hS.1 hS.2.1) hsa11 (ta_IOB hW hw0) hl.1 dTypeBook_subtype_11 dTypeBook_subtype_14 dTypeBook_subtype_15 dTypeBook_subtype_17 dTypeBook_subtype_20 (Nat.lt_of_lt_of_le (by decide) (Nat.le_of_ble_eq_true rfl : 6 ≤ _)) (Nat.le_of_ble_eq_true rfl) (by show 0 + 1 ≤ 50000; omega) (by show 0 + 6 ≤ 1000000; omega) (fun H1 hGR hz ho => ?_) hS.2.2 (by show 0 + 1 ≤ 50000; omega) (by show 0 + 6 ≤ 1000000; omega)
    have hO2 : Oq OUT (1, 0, κ, φ, ψ) := (by subst er15; exact hO.tr (if_pos c16))
    rw [hO2.eq]
    exact ⟨⟨1, by decide, pbf_of (invf_more hG ho) hGR (by show 5 * (κ 6) + 5 * (κ 7) + 4 * (κ 8) + 4 * (κ 9) + 4 * (κ 10) + 4 * (κ 11) + 5 * (κ 12) + 4 * (κ 13) + 3 * (κ 14) + 1 * (κ 15) ≤ 5 * (κ 6) + 5 * (κ 7) + 4 * (κ 8) + 4 * (κ 9) + 4 * (κ 10) + 4 * (κ 11) + 5 * (κ 12) + 4 * (κ 13) + 3 * (κ 14) + 1 * (κ 15); omega) (by show 0 + 1 ≤ (5 * (κ 6) + 5 * (κ 7) + 4 * (κ 8) + 4 * (κ 9) + 4 * (κ 10) + 4 * (κ 11) + 5 * (κ 12) + 4 * (κ 13) + 3 * (κ 14) + 1 * (κ 15)) - (5 * (κ 6) + 5 * (κ 7) + 4 * (κ 8) + 4 * (κ 9) + 4 * (κ 10) + 4 * (κ 11) + 5 * (κ 12) + 4 * (κ 13) + 3 * (κ 14) + 1 * (κ 15)) + 1; omega) (by show 0 + 6 ≤ 2 * ((5 * (κ 6) + 5 * (κ 7) + 4 * (κ 8) + 4 * (κ 9) + 4 * (κ 10) + 4 * (κ 11) + 5 * (κ 12) + 4 * (κ 13) + 3 * (κ 14) + 1 * (κ 15)) - (5 * (κ 6) + 5 * (κ 7) + 4 * (κ 8) + 4 * (κ 9) + 4 * (κ 10) + 4 * (κ 11) + 5 * (κ 12) + 4 * (κ 13) + 3 * (κ 14) + 1 * (κ 15))) + 6; omega)⟩, fr_more hS hz ho⟩
def P_TypeBook_declare_27 (κ : Nat → Nat) (φ : gF) (ψ : gG) (i1 : Int32) (i2 : Int32) (i3 : Int32) (i4 : Int32) : XR := (1, 0, κ, φ, ψ)
def P_TypeBook_declare_53 (κ : Nat → Nat) (φ : gF) (ψ : gG) (i1 : Int32) (i2 : Int32) (i3 : Int32) (i4 : Int32) : XR := (2, 0, κ, φ, ψ)
def P_TypeBook_declare_157 (κ : Nat → Nat) (φ : gF) (ψ : gG) (i1 : Int32) (i2 : Int32) (i3 : Int32) (i4 : Int32) (i5 : Int32) : XR := (3, 0, κ, φ, ψ)
def P_TypeBook_declare_212 (κ : Nat → Nat) (φ : gF) (ψ : gG) (i1 : Int32) (i2 : Int32) (i3 : Int32) (i4 : Int32) (i5 : Int32) (i6 : Int32) : XR := (0, i6, (ku (ku (ku (ku (ku κ 14 (wl (κ 14) (κ 5 + 1))) 8 (wl (κ 8) (κ 5 + 1))) 5 (κ 5 + 1)) 2 (κ 2 + 1)) 12 (wl (κ 12) (κ 2 + 1))), (up (up φ 3 (P_Names_put ((κ 2)) ((κ 3)) ((κ 12)) (φ 3) i2 2 i6 0)) 1 (Au ((up φ 3 (P_Names_put ((κ 2)) ((κ 3)) ((κ 12)) (φ 3) i2 2 i6 0)) 1) 1 0 (-1))), ψ)
def P_TypeBook_declare_93 (κ : Nat → Nat) (φ : gF) (ψ : gG) (i1 : Int32) (i2 : Int32) (i3 : Int32) (i4 : Int32) (t0 : Int32) : XR := (if t0 = 0 then (if (P_Names_isTaken ((κ 2)) ((κ 3)) ((κ 12)) (φ 3) i2) = 0 then (if 2000 ≤ (nI (κ 5)) then (P_TypeBook_declare_157 κ  φ ψ i1 i2 i3 i4 t0) else (if (P_Names_haveRoom (κ 2) (1)) = 0 then (P_TypeBook_declare_157 κ  φ ψ i1 i2 i3 i4 t0) else (if i1 = 0 then (P_TypeBook_declare_212 κ  ((P_Objects_keep (ku (ku (ku κ 14 (wl (κ 14) (κ 5 + 1))) 8 (wl (κ 8) (κ 5 + 1))) 5 (κ 5 + 1)) ((P_Looker_tell (ku (ku (ku κ 14 (wl (κ 14) (κ 5 + 1))) 8 (wl (κ 8) (κ 5 + 1))) 5 (κ 5 + 1)) ((P_Objects_put κ φ ψ i1 i3).2.1) ((P_Objects_put κ φ ψ i1 i3).2.2) i4 i4).1) ((P_Looker_tell (ku (ku (ku κ 14 (wl (κ 14) (κ 5 + 1))) 8 (wl (κ 8) (κ 5 + 1))) 5 (κ 5 + 1)) ((P_Objects_put κ φ ψ i1 i3).2.1) ((P_Objects_put κ φ ψ i1 i3).2.2) i4 i4).2) ((P_Objects_put κ φ ψ i1 i3).1) i4).1) ((P_Objects_keep (ku (ku (ku κ 14 (wl (κ 14) (κ 5 + 1))) 8 (wl (κ 8) (κ 5 + 1))) 5 (κ 5 + 1)) ((P_Looker_tell (ku (ku (ku κ 14 (wl (κ 14) (κ 5 + 1))) 8 (wl (κ 8) (κ 5 + 1))) 5 (κ 5 + 1)) ((P_Objects_put κ φ ψ i1 i3).2.1) ((P_Objects_put κ φ ψ i1 i3).2.2) i4 i4).1) ((P_Looker_tell (ku (ku (ku κ 14 (wl (κ 14) (κ 5 + 1))) 8 (wl (κ 8) (κ 5 + 1))) 5 (κ 5 + 1)) ((P_Objects_put κ φ ψ i1 i3).2.1) ((P_Objects_put κ φ ψ i1 i3).2.2) i4 i4).2) ((P_Objects_put κ φ ψ i1 i3).1) i4).2) i1 i2 i3 i4 t0 ((P_Objects_put κ φ ψ i1 i3).1)) else (P_TypeBook_declare_212 κ  ((P_Objects_put κ φ ψ i1 i3).2.1) ((P_Objects_put κ φ ψ i1 i3).2.2) i1 i2 i3 i4 t0 ((P_Objects_put κ φ ψ i1 i3).1))))) else (0, (P_TypeBook_refused κ φ ψ 7 (-1)).1, κ, ((P_TypeBook_refused κ φ ψ 7 (-1)).2.1), ((P_TypeBook_refused κ φ ψ 7 (-1)).2.2))) else (0, (P_TypeBook_refused κ φ ψ t0 (φ 1 2 0)).1, κ, ((P_TypeBook_refused κ φ ψ t0 (φ 1 2 0)).2.1), ((P_TypeBook_refused κ φ ψ t0 (φ 1 2 0)).2.2)))
def P_TypeBook_declare_37 (κ : Nat → Nat) (φ : gF) (ψ : gG) (i1 : Int32) (i2 : Int32) (i3 : Int32) (i4 : Int32) : XR := (if i1 < 0 then (P_TypeBook_declare_53 κ  φ ψ i1 i2 i3 i4) else (if 2 < i1 then (P_TypeBook_declare_53 κ  φ ψ i1 i2 i3 i4) else (if (P_TypeBook_isName i2) = 0 then (P_TypeBook_declare_53 κ  φ ψ i1 i2 i3 i4) else (if i1 = 0 then (P_TypeBook_declare_93 κ  ((P_Looker_look κ φ ψ i4 i4).2.1) ((P_Looker_look κ φ ψ i4 i4).2.2) i1 i2 i3 i4 (P_Looker_judge κ ((P_Looker_look κ φ ψ i4 i4).2.1) ((P_Looker_look κ φ ψ i4 i4).2.2) ((P_Looker_look κ φ ψ i4 i4).1) i4 i3 1)) else (P_TypeBook_declare_93 κ  φ ψ i1 i2 i3 i4 0)))))
def P_TypeBook_declare (κ : Nat → Nat) (φ : gF) (ψ : gG) (x1 : Int32) (x2 : Int32) (x3 : Int32) (x4 : Int32) : XR := (if (P_Types_has ((κ 4)) ((κ 13)) (φ 4) x3) = 0 then (P_TypeBook_declare_27 κ  φ ψ x1 x2 x3 x4) else (if x1 = 0 then (if (P_Trees_has ((κ 0)) ((κ 1)) ((κ 11)) (φ 2) x4) = 0 then (P_TypeBook_declare_27 κ  φ ψ x1 x2 x3 x4) else (P_TypeBook_declare_37 κ  φ ψ x1 x2 x3 x4)) else (P_TypeBook_declare_37 κ  φ ψ x1 x2 x3 x4)))
set_option maxHeartbeats 4000000 in
set_option maxRecDepth 100000 in
theorem xf_declare (l : Launch) (hst : l.stackTraces = false) (γ : gE) (A : Nat → Prop) (κ : Nat → Nat) (φ : gF) (ψ : gG) (s0 : State) (hw0 : SW s0) (hA0 : ∀ q, A q → s0.heap.size ≤ q) (H0 : Heap) (x1 : Int32) (x2 : Int32) (x3 : Int32) (x4 : Int32) : XM l yTypeBook_declare bTypeBook_declare 7 (some .int) 7 174 50000 1000000 [.ref (γ.2.2.2 0), .int x1, .int x2, .int x3, .int x4] γ A (fun U => FB s0 U U.heap ∧ U.heap = H0 ∧ INVF γ A κ φ ψ U.heap) (mQi (fun r H => PBF γ A κ H0 (P_TypeBook_declare κ φ ψ x1 x2 x3 x4) 0 r H) A) (fun E H => XCF γ A κ H0 (P_TypeBook_declare κ φ ψ x1 x2 x3 x4) E H) := by
  refine tx_openI (by decide) (Nat.le_of_ble_eq_true rfl) ?_
  intro p e s m args below meth c ls Q S hret hlk hX hC hA hP hQ hl
  obtain ⟨hF0, hH0, hG⟩ := hP
  subst hH0
  have hI := inv_of hG
  obtain ⟨hx, hb, hml, hown, hW⟩ := id S
  have hS : va_S A s.heap s.heap [] := va_S.rf
  have hl : lv_has ls 7 [(0, .ref (γ.2.2.2 0)), (1, .int x1), (2, .int x2), (3, .int x3), (4, .int x4)] := hl
  obtain ⟨hlen, hsz⟩ := inv_len hI
  obtain ⟨OUT, hQ9, hO⟩ : ∃ z, (z = P_TypeBook_declare κ φ ψ x1 x2 x3 x4) ∧ Oq z (P_TypeBook_declare κ φ ψ x1 x2 x3 x4) := ⟨_, rfl, rfl⟩
  rw [← hQ9] at hQ
  clear hQ9
  have J212 : ∀ (ls : Array Slot) (H : Heap) (locs : List Loc) (φ : gF) (ψ : gG) (i1 : Int32) (i2 : Int32) (i3 : Int32) (i4 : Int32) (i5 : Int32) (i6 : Int32), INVF γ A (ku (ku (ku κ 14 (wl (κ 14) (κ 5 + 1))) 8 (wl (κ 8) (κ 5 + 1))) 5 (κ 5 + 1)) φ ψ H → va_S A s.heap H locs → (κ 2 + 1 ≤ 3012) → (κ 5 < 2000) → (Oq OUT (P_TypeBook_declare_212 κ   φ ψ i1 i2 i3 i4 i5 i6)) → lv_has ls 7 [(0, .ref (γ.2.2.2 0)), (1, .int i1), (2, .int i2), (3, .int i3), (4, .int i4), (5, .int i5), (6, .int i6)] → W p l e (bs_rm 7 50000 1000000 174) s m args below meth c H locs (0 + (0 + wc (κ 14) (κ 5 + 1) + wc (κ 14) (κ 5 + 1) + wc (κ 14) (κ 5 + 1) + wc (κ 8) (κ 5 + 1))) (0 + (0 + wm (κ 14) (κ 5 + 1) + wm (κ 14) (κ 5 + 1) + wm (κ 14) (κ 5 + 1) + 4 * wm (κ 8) (κ 5 + 1))) Q (F0 m 212 ls []) := by
    intro ls H locs φ ψ i1 i2 i3 i4 i5 i6 hG hS hN2 hN5 hO hl
    have hI := inv_of hG
    have hwc14 := wcm (n := κ 14) (N := κ 5 + 1) (by omega) (by omega)
    have hwc8 := wcm (n := κ 8) (N := κ 5 + 1) (by omega) (by omega)
    have hwc12 := wcm (n := κ 12) (N := κ 2 + 1) (by omega) (by omega)
    refine lv_aload_n hx hb dTypeBook_declare_212 rfl (lv_at hl 0 rfl) ?_
    refine of_get S hC (of_0_1 hI) in_TypeBook rfl (by decide) qw_a088f6ef48 dTypeBook_declare_213 ?_
    refine lv_iload_n hx hb dTypeBook_declare_216 rfl (lv_at hl 2 rfl) ?_
    refine lv_iconst (v := 2) hx hb dTypeBook_declare_217 (by decide) ?_
    refine lv_iload hx hb dTypeBook_declare_218 (lv_at hl 6 rfl) ?_
    refine lv_iconst (v := 0) hx hb dTypeBook_declare_220 (by decide) ?_
    refine mu_Vv (rest := []) S hC (fun q h => hA q (Nat.le_trans hS.1 h)) (fun q h => h) hS (f2_Names_put l γ A (ku (ku (ku κ 14 (wl (κ 14) (κ 5 + 1))) 8 (wl (κ 8) (κ 5 + 1))) 5 (κ 5 + 1)) φ ψ i2 2 i6 0 (by show κ 2 ≤ 4000; omega)) meNames_put qw_b1d56e075d ⟨Nat.le_of_ble_eq_true rfl, Nat.le_of_ble_eq_true rfl⟩ (rv_2 hC hI) hG rfl hl.1 rfl (Nat.le_of_ble_eq_true rfl) dTypeBook_declare_221 ⟨(by show 0 + (0 + wc (κ 14) (κ 5 + 1) + wc (κ 14) (κ 5 + 1) + wc (κ 14) (κ 5 + 1) + wc (κ 8) (κ 5 + 1)) + (0 + wc (κ 12) (κ 2 + 1) + wc (κ 12) (κ 2 + 1) + wc (κ 12) (κ 2 + 1) + wc (κ 12) (κ 2 + 1) + wc (κ 12) (κ 2 + 1)) ≤ 50000; omega), (by show 0 + (0 + wm (κ 14) (κ 5 + 1) + wm (κ 14) (κ 5 + 1) + wm (κ 14) (κ 5 + 1) + 4 * wm (κ 8) (κ 5 + 1)) + (0 + wm (κ 12) (κ 2 + 1) + wm (κ 12) (κ 2 + 1) + wm (κ 12) (κ 2 + 1) + wm (κ 12) (κ 2 + 1) + wm (κ 12) (κ 2 + 1)) ≤ 1000000; omega)⟩ (fun H locs hG hS _ _ => ?_)
    refine W.cs (cells' := 0 + (0 + wc (κ 14) (κ 5 + 1) + wc (κ 14) (κ 5 + 1) + wc (κ 14) (κ 5 + 1) + wc (κ 8) (κ 5 + 1)) + (0 + wc (κ 12) (κ 2 + 1) + wc (κ 12) (κ 2 + 1) + wc (κ 12) (κ 2 + 1) + wc (κ 12) (κ 2 + 1) + wc (κ 12) (κ 2 + 1))) (slots' := 0 + (0 + wm (κ 14) (κ 5 + 1) + wm (κ 14) (κ 5 + 1) + wm (κ 14) (κ 5 + 1) + 4 * wm (κ 8) (κ 5 + 1)) + (0 + wm (κ 12) (κ 2 + 1) + wm (κ 12) (κ 2 + 1) + wm (κ 12) (κ 2 + 1) + wm (κ 12) (κ 2 + 1) + wm (κ 12) (κ 2 + 1))) rfl rfl ?_
    have hG : INVF γ A (ku (ku (ku (ku (ku κ 14 (wl (κ 14) (κ 5 + 1))) 8 (wl (κ 8) (κ 5 + 1))) 5 (κ 5 + 1)) 2 (κ 2 + 1)) 12 (wl (κ 12) (κ 2 + 1))) (up φ 3 (P_Names_put ((κ 2)) ((κ 3)) ((κ 12)) (φ 3) i2 2 i6 0)) ψ _ := hG
    obtain ⟨φ43, eφ43⟩ : ∃ z : gF, z = up φ 3 (P_Names_put ((κ 2)) ((κ 3)) ((κ 12)) (φ 3) i2 2 i6 0) := ⟨_, rfl⟩
    rw [← eφ43] at hG
    have hI := inv_of hG
    refine lv_aload_n hx hb dTypeBook_declare_224 rfl (lv_at hl 0 rfl) ?_
    refine lv_iconst (v := (-1)) hx hb dTypeBook_declare_225 (by decide) ?_
    refine ig_fault S hC hG (fun q h => hA q (Nat.le_trans hS.1 h)) hS qw_464f80981e dTypeBook_declare_226 (fun H locs hG hS => ?_)
    obtain ⟨φ44, eφ44⟩ : ∃ z : gF, z = up φ43 1 (Au (φ43 1) 1 0 (-1)) := ⟨_, rfl⟩
    rw [← eφ44] at hG
    have hI := inv_of hG
    refine lv_iload hx hb dTypeBook_declare_229 (lv_at hl 6 rfl) ?_
    rw [hQ]
    refine tx_endI S hret hlk hS (by show 0 + (0 + wc (κ 14) (κ 5 + 1) + wc (κ 14) (κ 5 + 1) + wc (κ 14) (κ 5 + 1) + wc (κ 8) (κ 5 + 1)) + (0 + wc (κ 12) (κ 2 + 1) + wc (κ 12) (κ 2 + 1) + wc (κ 12) (κ 2 + 1) + wc (κ 12) (κ 2 + 1) + wc (κ 12) (κ 2 + 1)) ≤ 50000; omega) (by show 0 + (0 + wm (κ 14) (κ 5 + 1) + wm (κ 14) (κ 5 + 1) + wm (κ 14) (κ 5 + 1) + 4 * wm (κ 8) (κ 5 + 1)) + (0 + wm (κ 12) (κ 2 + 1) + wm (κ 12) (κ 2 + 1) + wm (κ 12) (κ 2 + 1) + wm (κ 12) (κ 2 + 1) + wm (κ 12) (κ 2 + 1)) ≤ 1000000; omega) (fun hGR => ?_) dTypeBook_declare_231
    have hO2 : Oq OUT (0, i6, (ku (ku (ku (ku (ku κ 14 (wl (κ 14) (κ 5 + 1))) 8 (wl (κ 8) (κ 5 + 1))) 5 (κ 5 + 1)) 2 (κ 2 + 1)) 12 (wl (κ 12) (κ 2 + 1))), φ44, ψ) := (by subst eφ44 eφ43; exact hO.tr rfl)
    rw [hO2.eq]
    exact pbf_of hG hGR (by show 5 * (κ 6) + 5 * (κ 7) + 4 * (κ 8) + 4 * (κ 9) + 4 * (κ 10) + 4 * (κ 11) + 5 * (κ 12) + 4 * (κ 13) + 3 * (κ 14) + 1 * (κ 15) ≤ 5 * (κ 6) + 5 * (κ 7) + 4 * (wl (κ 8) (κ 5 + 1)) + 4 * (κ 9) + 4 * (κ 10) + 4 * (κ 11) + 5 * (wl (κ 12) (κ 2 + 1)) + 4 * (κ 13) + 3 * (wl (κ 14) (κ 5 + 1)) + 1 * (κ 15); omega) (by show 0 + (0 + wc (κ 14) (κ 5 + 1) + wc (κ 14) (κ 5 + 1) + wc (κ 14) (κ 5 + 1) + wc (κ 8) (κ 5 + 1)) + (0 + wc (κ 12) (κ 2 + 1) + wc (κ 12) (κ 2 + 1) + wc (κ 12) (κ 2 + 1) + wc (κ 12) (κ 2 + 1) + wc (κ 12) (κ 2 + 1)) ≤ (5 * (κ 6) + 5 * (κ 7) + 4 * (wl (κ 8) (κ 5 + 1)) + 4 * (κ 9) + 4 * (κ 10) + 4 * (κ 11) + 5 * (wl (κ 12) (κ 2 + 1)) + 4 * (κ 13) + 3 * (wl (κ 14) (κ 5 + 1)) + 1 * (κ 15)) - (5 * (κ 6) + 5 * (κ 7) + 4 * (κ 8) + 4 * (κ 9) + 4 * (κ 10) + 4 * (κ 11) + 5 * (κ 12) + 4 * (κ 13) + 3 * (κ 14) + 1 * (κ 15)) + 1; omega) (by show 0 + (0 + wm (κ 14) (κ 5 + 1) + wm (κ 14) (κ 5 + 1) + wm (κ 14) (κ 5 + 1) + 4 * wm (κ 8) (κ 5 + 1)) + (0 + wm (κ 12) (κ 2 + 1) + wm (κ 12) (κ 2 + 1) + wm (κ 12) (κ 2 + 1) + wm (κ 12) (κ 2 + 1) + wm (κ 12) (κ 2 + 1)) ≤ 2 * ((5 * (κ 6) + 5 * (κ 7) + 4 * (wl (κ 8) (κ 5 + 1)) + 4 * (κ 9) + 4 * (κ 10) + 4 * (κ 11) + 5 * (wl (κ 12) (κ 2 + 1)) + 4 * (κ 13) + 3 * (wl (κ 14) (κ 5 + 1)) + 1 * (κ 15)) - (5 * (κ 6) + 5 * (κ 7) + 4 * (κ 8) + 4 * (κ 9) + 4 * (κ 10) + 4 * (κ 11) + 5 * (κ 12) + 4 * (κ 13) + 3 * (κ 14) + 1 * (κ 15))) + 6; omega)
  have J157 : ∀ (ls : Array Slot) (H : Heap) (locs : List Loc) (φ : gF) (ψ : gG) (i1 : Int32) (i2 : Int32) (i3 : Int32) (i4 : Int32) (i5 : Int32), INVF γ A κ φ ψ H → va_S A s.heap H locs → (Oq OUT (P_TypeBook_declare_157 κ   φ ψ i1 i2 i3 i4 i5)) → lv_has ls 7 [(0, .ref (γ.2.2.2 0)), (1, .int i1), (2, .int i2), (3, .int i3), (4, .int i4), (5, .int i5)] → W p l e (bs_rm 7 50000 1000000 174) s m args below meth c H locs 0 0 Q (F0 m 157 ls []) := by
    intro ls H locs φ ψ i1 i2 i3 i4 i5 hG hS hO hl
    have hI := inv_of hG
    obtain ⟨sa157, hsa157⟩ := hw0.2.2.2.1 R_TypeBook 191 "no room for an object" (in_tables_1_5 (List.mem_of_getElem? (i := 83) rfl))
    rw [hQ]
    refine tx_throw (s0 := s0) (names := ["java/lang/RuntimeException", "java/lang/Exception"]) (text := "no room for an object") (sa := sa157) S hst hX hlk (by decide +kernel) (by decide +kernel) qw_8038d8d33c qw_f529d83890 (hF0.step hA0 hS.1 hS.2.1) hsa157 (ta_ISE hW hw0) hl.1 dTypeBook_declare_157 dTypeBook_declare_160 dTypeBook_declare_161 dTypeBook_declare_163 dTypeBook_declare_166 (Nat.lt_of_lt_of_le (by decide) (Nat.le_of_ble_eq_true rfl : 6 ≤ _)) (Nat.le_of_ble_eq_true rfl) (by show 0 + 1 ≤ 50000; omega) (by show 0 + 6 ≤ 1000000; omega) (fun H1 hGR hz ho => ?_) hS.2.2 (by show 0 + 1 ≤ 50000; omega) (by show 0 + 6 ≤ 1000000; omega)
    have hO2 : Oq OUT (3, 0, κ, φ, ψ) := (by exact hO.tr rfl)
    rw [hO2.eq]
    exact ⟨⟨3, by decide, pbf_of (invf_more hG ho) hGR (by show 5 * (κ 6) + 5 * (κ 7) + 4 * (κ 8) + 4 * (κ 9) + 4 * (κ 10) + 4 * (κ 11) + 5 * (κ 12) + 4 * (κ 13) + 3 * (κ 14) + 1 * (κ 15) ≤ 5 * (κ 6) + 5 * (κ 7) + 4 * (κ 8) + 4 * (κ 9) + 4 * (κ 10) + 4 * (κ 11) + 5 * (κ 12) + 4 * (κ 13) + 3 * (κ 14) + 1 * (κ 15); omega) (by show 0 + 1 ≤ (5 * (κ 6) + 5 * (κ 7) + 4 * (κ 8) + 4 * (κ 9) + 4 * (κ 10) + 4 * (κ 11) + 5 * (κ 12) + 4 * (κ 13) + 3 * (κ 14) + 1 * (κ 15)) - (5 * (κ 6) + 5 * (κ 7) + 4 * (κ 8) + 4 * (κ 9) + 4 * (κ 10) + 4 * (κ 11) + 5 * (κ 12) + 4 * (κ 13) + 3 * (κ 14) + 1 * (κ 15)) + 1; omega) (by show 0 + 6 ≤ 2 * ((5 * (κ 6) + 5 * (κ 7) + 4 * (κ 8) + 4 * (κ 9) + 4 * (κ 10) + 4 * (κ 11) + 5 * (κ 12) + 4 * (κ 13) + 3 * (κ 14) + 1 * (κ 15)) - (5 * (κ 6) + 5 * (κ 7) + 4 * (κ 8) + 4 * (κ 9) + 4 * (κ 10) + 4 * (κ 11) + 5 * (κ 12) + 4 * (κ 13) + 3 * (κ 14) + 1 * (κ 15))) + 6; omega)⟩, fr_more hS hz ho⟩
  have J93 : ∀ (ls : Array Slot) (H : Heap) (locs : List Loc) (φ : gF) (ψ : gG) (i1 : Int32) (i2 : Int32) (i3 : Int32) (i4 : Int32) (t0 : Int32), INVF γ A κ φ ψ H → va_S A s.heap H locs → (i1 = 0 → (i4.toInt < 2147483647 ∧ (i4 - 1).toInt < 2147483647)) → (Oq OUT (P_TypeBook_declare_93 κ   φ ψ i1 i2 i3 i4 t0)) → lv_has ls 7 [(0, .ref (γ.2.2.2 0)), (1, .int i1), (2, .int i2), (3, .int i3), (4, .int i4)] → W p l e (bs_rm 7 50000 1000000 174) s m args below meth c H locs 0 0 Q (F0 m 93 ls [.int t0]) := by
    intro ls H locs φ ψ i1 i2 i3 i4 t0 hG hS hq hO hl
    have hI := inv_of hG
    refine lv_istore (lv' := [(5, .int t0), (0, .ref (γ.2.2.2 0)), (1, .int i1), (2, .int i2), (3, .int i3), (4, .int i4)]) hx hb dTypeBook_declare_93 hl (by decide) rfl (fun ls hl => ?_)
    refine lv_iload hx hb dTypeBook_declare_95 (lv_at hl 0 rfl) ?_
    refine lv_if_eq (tgt := 114) hx hb dTypeBook_declare_97 (by decide) (fun c45 => ?_) (fun c45 => ?_)
    · refine lv_aload_n hx hb dTypeBook_declare_114 rfl (lv_at hl 1 rfl) ?_
      refine of_get S hC (of_0_1 hI) in_TypeBook rfl (by decide) qw_a088f6ef48 dTypeBook_declare_115 ?_
      refine lv_iload_n hx hb dTypeBook_declare_118 rfl (lv_at hl 3 rfl) ?_
      refine pu_Vi (rest := []) S hC (f2_Names_isTaken l γ A κ φ ψ i2) meNames_isTaken qw_5bf4c88d20 ⟨Nat.le_of_ble_eq_true rfl, Nat.le_of_ble_eq_true rfl⟩ (rv_2 hC hI) hG rfl hl.1 rfl (Nat.le_of_ble_eq_true rfl) dTypeBook_declare_119 ⟨(by show _ ≤ 50000; omega), (by show _ ≤ 1000000; omega)⟩ (fun r46 hr46 => ?_)
      obtain ⟨hr46, er46⟩ := hr46
      refine lv_if_eq (tgt := 133) hx hb dTypeBook_declare_122 (by decide) (fun c47 => ?_) (fun c47 => ?_)
      · refine lv_aload_n hx hb dTypeBook_declare_133 rfl (lv_at hl 1 rfl) ?_
        refine of_get S hC (of_0_3 hI) in_TypeBook rfl (by decide) qw_ba22bdaa87 dTypeBook_declare_134 ?_
        refine of_getN S hC (of_4_4 hI) in_Objects rfl (by decide) qn_e6bc9a285a dTypeBook_declare_137 ?_
        refine lv_topi (fun v48 ev48 => ?_)
        have ev48 : v48 = nI (κ 5) := ev48
        refine lv_sipush (v := 2000) hx hb dTypeBook_declare_140 (by decide) ?_
        refine lv_icmp_ge (tgt := 157) hx hb dTypeBook_declare_143 (by decide) (fun c49 => ?_) (fun c49 => ?_)
        · refine W.up (k := 0) (n := 0) (by show 0 ≤ _; omega) (by show 0 ≤ _; omega) ?_
          exact J157 ls _ _ φ ψ i1 i2 i3 i4 t0 hG hS (by subst ev48 er46; exact hO.tr ((if_pos c45).trans ((if_pos c47).trans (if_pos c49)))) (lv_sub hl [1, 2, 3, 4, 5, 0] rfl)
        · refine lv_aload_n hx hb dTypeBook_declare_146 rfl (lv_at hl 1 rfl) ?_
          refine of_get S hC (of_0_1 hI) in_TypeBook rfl (by decide) qw_a088f6ef48 dTypeBook_declare_147 ?_
          refine lv_iconst (v := 1) hx hb dTypeBook_declare_150 (by decide) ?_
          refine vp_callSi (va_Run.run (va_runV (As := [.int (nI (1))]) (rest := []) S (fk_haveRoom l γ A κ s0 hw0 hA0 (1) (by omega)) (bs_cwV hW meNames_haveRoom qw_bd2f27f55e rfl rfl ⟨Nat.le_of_ble_eq_true rfl, Nat.le_of_ble_eq_true rfl⟩) ⟨hr_blind, rv_2 hC hI, fun U hU hW9 => ⟨rfl, hC.warm hW9, by rw [hU]; exact (hF0.step hA0 hS.1 hS.2.1).warm hW9, by rw [hU]; exact hI⟩⟩ rfl rfl hl.1 rfl (lv_room (Nat.le_of_ble_eq_true rfl)) dTypeBook_declare_151 ⟨by show 0 + 0 ≤ 50000; omega, by show 0 + 0 ≤ 1000000; omega⟩)) (fun r50 hr50 => ?_)
          obtain ⟨hr50, er50⟩ := hr50
          refine lv_if_ne (tgt := 167) hx hb dTypeBook_declare_154 (by decide) (fun c51 => ?_) (fun c51 => ?_)
          · have hN5 : κ 5 < 2000 := nge_ok (M := 2000) (by assumption) rfl (by assumption) (by omega) (by omega)
            have hN2 : κ 2 + 1 ≤ 3012 := Or.resolve_left (by assumption) (by assumption)
            have hwc14 := wcm (n := κ 14) (N := κ 5 + 1) (by omega) (by omega)
            have hwc8 := wcm (n := κ 8) (N := κ 5 + 1) (by omega) (by omega)
            refine lv_aload_n hx hb dTypeBook_declare_167 rfl (lv_at hl 1 rfl) ?_
            refine of_get S hC (of_0_3 hI) in_TypeBook rfl (by decide) qw_ba22bdaa87 dTypeBook_declare_168 ?_
            refine lv_iload_n hx hb dTypeBook_declare_171 rfl (lv_at hl 2 rfl) ?_
            refine lv_iload_n hx hb dTypeBook_declare_172 rfl (lv_at hl 4 rfl) ?_
            refine mu_Vi (rest := []) S hC (fun q h => hA q (Nat.le_trans hS.1 h)) (fun q h => h) hS (f_Objects_put l γ A κ φ ψ i1 i3 (by show κ 5 ≤ 4000; omega)) meObjects_put qw_38c6a61637 ⟨Nat.le_of_ble_eq_true rfl, Nat.le_of_ble_eq_true rfl⟩ (rv_4 hC hI) hG rfl hl.1 rfl (Nat.le_of_ble_eq_true rfl) dTypeBook_declare_173 ⟨(by show 0 + (0 + wc (κ 14) (κ 5 + 1) + wc (κ 14) (κ 5 + 1) + wc (κ 14) (κ 5 + 1) + wc (κ 8) (κ 5 + 1)) ≤ 50000; omega), (by show 0 + (0 + wm (κ 14) (κ 5 + 1) + wm (κ 14) (κ 5 + 1) + wm (κ 14) (κ 5 + 1) + 4 * wm (κ 8) (κ 5 + 1)) ≤ 1000000; omega)⟩ (fun r52 H locs ⟨er52, hG⟩ hS _ _ => ?_)
            refine W.cs (cells' := 0 + (0 + wc (κ 14) (κ 5 + 1) + wc (κ 14) (κ 5 + 1) + wc (κ 14) (κ 5 + 1) + wc (κ 8) (κ 5 + 1))) (slots' := 0 + (0 + wm (κ 14) (κ 5 + 1) + wm (κ 14) (κ 5 + 1) + wm (κ 14) (κ 5 + 1) + 4 * wm (κ 8) (κ 5 + 1))) rfl rfl ?_
            have hG : INVF γ A (ku (ku (ku κ 14 (wl (κ 14) (κ 5 + 1))) 8 (wl (κ 8) (κ 5 + 1))) 5 (κ 5 + 1)) (P_Objects_put κ φ ψ i1 i3).2.1 (P_Objects_put κ φ ψ i1 i3).2.2 _ := hG
            obtain ⟨φ53, eφ53⟩ : ∃ z : gF, z = (P_Objects_put κ φ ψ i1 i3).2.1 := ⟨_, rfl⟩
            rw [← eφ53] at hG
            obtain ⟨ψ54, eψ54⟩ : ∃ z : gG, z = (P_Objects_put κ φ ψ i1 i3).2.2 := ⟨_, rfl⟩
            rw [← eψ54] at hG
            have hI := inv_of hG
            refine lv_istore (lv' := [(6, .int r52), (5, .int t0), (0, .ref (γ.2.2.2 0)), (1, .int i1), (2, .int i2), (3, .int i3), (4, .int i4)]) hx hb dTypeBook_declare_176 hl (by decide) rfl (fun ls hl => ?_)
            refine lv_iload_n hx hb dTypeBook_declare_178 rfl (lv_at hl 3 rfl) ?_
            refine lv_if_ne (tgt := 212) hx hb dTypeBook_declare_179 (by decide) (fun c55 => ?_) (fun c55 => ?_)
            · refine W.up (k := 0 + (0 + wc (κ 14) (κ 5 + 1) + wc (κ 14) (κ 5 + 1) + wc (κ 14) (κ 5 + 1) + wc (κ 8) (κ 5 + 1))) (n := 0 + (0 + wm (κ 14) (κ 5 + 1) + wm (κ 14) (κ 5 + 1) + wm (κ 14) (κ 5 + 1) + 4 * wm (κ 8) (κ 5 + 1))) (by show 0 + (0 + wc (κ 14) (κ 5 + 1) + wc (κ 14) (κ 5 + 1) + wc (κ 14) (κ 5 + 1) + wc (κ 8) (κ 5 + 1)) ≤ _; omega) (by show 0 + (0 + wm (κ 14) (κ 5 + 1) + wm (κ 14) (κ 5 + 1) + wm (κ 14) (κ 5 + 1) + 4 * wm (κ 8) (κ 5 + 1)) ≤ _; omega) ?_
              exact J212 ls _ _ φ53 ψ54 i1 i2 i3 i4 t0 r52 hG hS hN2 hN5 (by subst eψ54 eφ53 er52 er50 ev48 er46; exact hO.tr ((if_pos c45).trans ((if_pos c47).trans ((if_neg c49).trans ((if_neg c51).trans (if_neg c55)))))) (lv_sub hl [2, 3, 4, 5, 6, 1, 0] rfl)
            · obtain ⟨hnode, hnode2⟩ := hq (by first | assumption | exact Classical.not_not.mp (by assumption))
              refine lv_aload_n hx hb dTypeBook_declare_182 rfl (lv_at hl 2 rfl) ?_
              refine of_get S hC (of_0_5 hI) in_TypeBook rfl (by decide) qw_130a6323a2 dTypeBook_declare_183 ?_
              refine lv_aload_n hx hb dTypeBook_declare_186 rfl (lv_at hl 2 rfl) ?_
              refine of_get S hC (of_0_4 hI) in_TypeBook rfl (by decide) qw_ce6a8385d0 dTypeBook_declare_187 ?_
              refine lv_iload hx hb dTypeBook_declare_190 (lv_at hl 6 rfl) ?_
              refine lv_iload hx hb dTypeBook_declare_192 (lv_at hl 6 rfl) ?_
              refine mu_Vv (rest := []) S hC (fun q h => hA q (Nat.le_trans hS.1 h)) (fun q h => h) hS (f_Looker_tell l γ A (ku (ku (ku κ 14 (wl (κ 14) (κ 5 + 1))) 8 (wl (κ 8) (κ 5 + 1))) 5 (κ 5 + 1)) φ53 ψ54 i4 i4 hnode) meLooker_tell qw_e2e3c61940 ⟨Nat.le_of_ble_eq_true rfl, Nat.le_of_ble_eq_true rfl⟩ (rv_8 hC hI) hG rfl hl.1 rfl (Nat.le_of_ble_eq_true rfl) dTypeBook_declare_194 ⟨(by show 0 + (0 + wc (κ 14) (κ 5 + 1) + wc (κ 14) (κ 5 + 1) + wc (κ 14) (κ 5 + 1) + wc (κ 8) (κ 5 + 1)) + 0 ≤ 50000; omega), (by show 0 + (0 + wm (κ 14) (κ 5 + 1) + wm (κ 14) (κ 5 + 1) + wm (κ 14) (κ 5 + 1) + 4 * wm (κ 8) (κ 5 + 1)) + 0 ≤ 1000000; omega)⟩ (fun H locs hG hS _ _ => ?_)
              have hG : INVF γ A (ku (ku (ku κ 14 (wl (κ 14) (κ 5 + 1))) 8 (wl (κ 8) (κ 5 + 1))) 5 (κ 5 + 1)) (P_Looker_tell (ku (ku (ku κ 14 (wl (κ 14) (κ 5 + 1))) 8 (wl (κ 8) (κ 5 + 1))) 5 (κ 5 + 1)) φ53 ψ54 i4 i4).1 (P_Looker_tell (ku (ku (ku κ 14 (wl (κ 14) (κ 5 + 1))) 8 (wl (κ 8) (κ 5 + 1))) 5 (κ 5 + 1)) φ53 ψ54 i4 i4).2 _ := hG
              obtain ⟨φ57, eφ57⟩ : ∃ z : gF, z = (P_Looker_tell (ku (ku (ku κ 14 (wl (κ 14) (κ 5 + 1))) 8 (wl (κ 8) (κ 5 + 1))) 5 (κ 5 + 1)) φ53 ψ54 i4 i4).1 := ⟨_, rfl⟩
              rw [← eφ57] at hG
              obtain ⟨ψ58, eψ58⟩ : ∃ z : gG, z = (P_Looker_tell (ku (ku (ku κ 14 (wl (κ 14) (κ 5 + 1))) 8 (wl (κ 8) (κ 5 + 1))) 5 (κ 5 + 1)) φ53 ψ54 i4 i4).2 := ⟨_, rfl⟩
              rw [← eψ58] at hG
              have hI := inv_of hG
              refine lv_aload_n hx hb dTypeBook_declare_197 rfl (lv_at hl 2 rfl) ?_
              refine of_get S hC (of_0_3 hI) in_TypeBook rfl (by decide) qw_ba22bdaa87 dTypeBook_declare_198 ?_
              refine lv_iload hx hb dTypeBook_declare_201 (lv_at hl 0 rfl) ?_
              refine lv_aload_n hx hb dTypeBook_declare_203 rfl (lv_at hl 2 rfl) ?_
              refine of_get S hC (of_0_4 hI) in_TypeBook rfl (by decide) qw_ce6a8385d0 dTypeBook_declare_204 ?_
              refine lv_iload hx hb dTypeBook_declare_207 (lv_at hl 6 rfl) ?_
              refine mu_Vv (rest := []) S hC (fun q h => hA q (Nat.le_trans hS.1 h)) (fun q h => h) hS (f_Objects_keep l γ A (ku (ku (ku κ 14 (wl (κ 14) (κ 5 + 1))) 8 (wl (κ 8) (κ 5 + 1))) 5 (κ 5 + 1)) φ57 ψ58 r52 i4) meObjects_keep qw_cacfa3400d ⟨Nat.le_of_ble_eq_true rfl, Nat.le_of_ble_eq_true rfl⟩ (rv_4 hC hI) hG rfl hl.1 rfl (Nat.le_of_ble_eq_true rfl) dTypeBook_declare_209 ⟨(by show 0 + (0 + wc (κ 14) (κ 5 + 1) + wc (κ 14) (κ 5 + 1) + wc (κ 14) (κ 5 + 1) + wc (κ 8) (κ 5 + 1)) + 0 ≤ 50000; omega), (by show 0 + (0 + wm (κ 14) (κ 5 + 1) + wm (κ 14) (κ 5 + 1) + wm (κ 14) (κ 5 + 1) + 4 * wm (κ 8) (κ 5 + 1)) + 0 ≤ 1000000; omega)⟩ (fun H locs hG hS _ _ => ?_)
              have hG : INVF γ A (ku (ku (ku κ 14 (wl (κ 14) (κ 5 + 1))) 8 (wl (κ 8) (κ 5 + 1))) 5 (κ 5 + 1)) (P_Objects_keep (ku (ku (ku κ 14 (wl (κ 14) (κ 5 + 1))) 8 (wl (κ 8) (κ 5 + 1))) 5 (κ 5 + 1)) φ57 ψ58 r52 i4).1 (P_Objects_keep (ku (ku (ku κ 14 (wl (κ 14) (κ 5 + 1))) 8 (wl (κ 8) (κ 5 + 1))) 5 (κ 5 + 1)) φ57 ψ58 r52 i4).2 _ := hG
              obtain ⟨φ60, eφ60⟩ : ∃ z : gF, z = (P_Objects_keep (ku (ku (ku κ 14 (wl (κ 14) (κ 5 + 1))) 8 (wl (κ 8) (κ 5 + 1))) 5 (κ 5 + 1)) φ57 ψ58 r52 i4).1 := ⟨_, rfl⟩
              rw [← eφ60] at hG
              obtain ⟨ψ61, eψ61⟩ : ∃ z : gG, z = (P_Objects_keep (ku (ku (ku κ 14 (wl (κ 14) (κ 5 + 1))) 8 (wl (κ 8) (κ 5 + 1))) 5 (κ 5 + 1)) φ57 ψ58 r52 i4).2 := ⟨_, rfl⟩
              rw [← eψ61] at hG
              have hI := inv_of hG
              refine W.up (k := 0 + (0 + wc (κ 14) (κ 5 + 1) + wc (κ 14) (κ 5 + 1) + wc (κ 14) (κ 5 + 1) + wc (κ 8) (κ 5 + 1))) (n := 0 + (0 + wm (κ 14) (κ 5 + 1) + wm (κ 14) (κ 5 + 1) + wm (κ 14) (κ 5 + 1) + 4 * wm (κ 8) (κ 5 + 1))) (by show 0 + (0 + wc (κ 14) (κ 5 + 1) + wc (κ 14) (κ 5 + 1) + wc (κ 14) (κ 5 + 1) + wc (κ 8) (κ 5 + 1)) ≤ _; omega) (by show 0 + (0 + wm (κ 14) (κ 5 + 1) + wm (κ 14) (κ 5 + 1) + wm (κ 14) (κ 5 + 1) + 4 * wm (κ 8) (κ 5 + 1)) ≤ _; omega) ?_
              exact J212 ls _ _ φ60 ψ61 i1 i2 i3 i4 t0 r52 hG hS hN2 hN5 (by subst eψ61 eφ60 eψ58 eφ57 eψ54 eφ53 er52 er50 ev48 er46; exact hO.tr ((if_pos c45).trans ((if_pos c47).trans ((if_neg c49).trans ((if_neg c51).trans (if_pos c55)))))) (lv_sub hl [2, 3, 4, 5, 6, 1, 0] rfl)
          · refine W.up (k := 0) (n := 0) (by show 0 ≤ _; omega) (by show 0 ≤ _; omega) ?_
            exact J157 ls _ _ φ ψ i1 i2 i3 i4 t0 hG hS (by subst er50 ev48 er46; exact hO.tr ((if_pos c45).trans ((if_pos c47).trans ((if_neg c49).trans (if_pos c51))))) (lv_sub hl [1, 2, 3, 4, 5, 0] rfl)
      · refine lv_aload_n hx hb dTypeBook_declare_125 rfl (lv_at hl 1 rfl) ?_
        refine lv_bipush (v := 7) hx hb dTypeBook_declare_126 (by decide) ?_
        refine lv_iconst (v := (-1)) hx hb dTypeBook_declare_128 (by decide) ?_
        refine mu_Vi (rest := []) S hC (fun q h => hA q (Nat.le_trans hS.1 h)) (fun q h => h) hS (f_TypeBook_refused l γ A κ φ ψ 7 (-1)) meTypeBook_refused qw_fa3e8c2955 ⟨Nat.le_of_ble_eq_true rfl, Nat.le_of_ble_eq_true rfl⟩ (rv_0 hC hI) hG rfl hl.1 rfl (Nat.le_of_ble_eq_true rfl) dTypeBook_declare_129 ⟨(by show 0 + 0 ≤ 50000; omega), (by show 0 + 0 ≤ 1000000; omega)⟩ (fun r62 H locs ⟨er62, hG⟩ hS _ _ => ?_)
        have hG : INVF γ A κ (P_TypeBook_refused κ φ ψ 7 (-1)).2.1 (P_TypeBook_refused κ φ ψ 7 (-1)).2.2 _ := hG
        obtain ⟨φ63, eφ63⟩ : ∃ z : gF, z = (P_TypeBook_refused κ φ ψ 7 (-1)).2.1 := ⟨_, rfl⟩
        rw [← eφ63] at hG
        obtain ⟨ψ64, eψ64⟩ : ∃ z : gG, z = (P_TypeBook_refused κ φ ψ 7 (-1)).2.2 := ⟨_, rfl⟩
        rw [← eψ64] at hG
        have hI := inv_of hG
        rw [hQ]
        refine tx_endI S hret hlk hS (by show 0 ≤ 50000; omega) (by show 0 ≤ 1000000; omega) (fun hGR => ?_) dTypeBook_declare_132
        have hO2 : Oq OUT (0, r62, κ, φ63, ψ64) := (by subst eψ64 eφ63 er62 er46; exact hO.tr ((if_pos c45).trans (if_neg c47)))
        rw [hO2.eq]
        exact pbf_of hG hGR (by show 5 * (κ 6) + 5 * (κ 7) + 4 * (κ 8) + 4 * (κ 9) + 4 * (κ 10) + 4 * (κ 11) + 5 * (κ 12) + 4 * (κ 13) + 3 * (κ 14) + 1 * (κ 15) ≤ 5 * (κ 6) + 5 * (κ 7) + 4 * (κ 8) + 4 * (κ 9) + 4 * (κ 10) + 4 * (κ 11) + 5 * (κ 12) + 4 * (κ 13) + 3 * (κ 14) + 1 * (κ 15); omega) (by show 0 ≤ (5 * (κ 6) + 5 * (κ 7) + 4 * (κ 8) + 4 * (κ 9) + 4 * (κ 10) + 4 * (κ 11) + 5 * (κ 12) + 4 * (κ 13) + 3 * (κ 14) + 1 * (κ 15)) - (5 * (κ 6) + 5 * (κ 7) + 4 * (κ 8) + 4 * (κ 9) + 4 * (κ 10) + 4 * (κ 11) + 5 * (κ 12) + 4 * (κ 13) + 3 * (κ 14) + 1 * (κ 15)) + 1; omega) (by show 0 ≤ 2 * ((5 * (κ 6) + 5 * (κ 7) + 4 * (κ 8) + 4 * (κ 9) + 4 * (κ 10) + 4 * (κ 11) + 5 * (κ 12) + 4 * (κ 13) + 3 * (κ 14) + 1 * (κ 15)) - (5 * (κ 6) + 5 * (κ 7) + 4 * (κ 8) + 4 * (κ 9) + 4 * (κ 10) + 4 * (κ 11) + 5 * (κ 12) + 4 * (κ 13) + 3 * (κ 14) + 1 * (κ 15))) + 6; omega)
    · refine lv_aload_n hx hb dTypeBook_declare_100 rfl (lv_at hl 1 rfl) ?_
      refine lv_iload hx hb dTypeBook_declare_101 (lv_at hl 0 rfl) ?_
      refine lv_aload_n hx hb dTypeBook_declare_103 rfl (lv_at hl 1 rfl) ?_
      refine of_get S hC (of_0_5 hI) in_TypeBook rfl (by decide) qw_130a6323a2 dTypeBook_declare_104 ?_
      refine of_getN S hC (og_8 hG) in_Looker rfl (by decide) qn_b283086a15 dTypeBook_declare_107 ?_
      refine lv_topi (fun v65 ev65 => ?_)
      refine mu_Vi (rest := []) S hC (fun q h => hA q (Nat.le_trans hS.1 h)) (fun q h => h) hS (f_TypeBook_refused l γ A κ φ ψ t0 v65) meTypeBook_refused qw_fa3e8c2955 ⟨Nat.le_of_ble_eq_true rfl, Nat.le_of_ble_eq_true rfl⟩ (rv_0 hC hI) hG rfl hl.1 rfl (Nat.le_of_ble_eq_true rfl) dTypeBook_declare_110 ⟨(by show 0 + 0 ≤ 50000; omega), (by show 0 + 0 ≤ 1000000; omega)⟩ (fun r66 H locs ⟨er66, hG⟩ hS _ _ => ?_)
      have hG : INVF γ A κ (P_TypeBook_refused κ φ ψ t0 v65).2.1 (P_TypeBook_refused κ φ ψ t0 v65).2.2 _ := hG
      obtain ⟨φ67, eφ67⟩ : ∃ z : gF, z = (P_TypeBook_refused κ φ ψ t0 v65).2.1 := ⟨_, rfl⟩
      rw [← eφ67] at hG
      obtain ⟨ψ68, eψ68⟩ : ∃ z : gG, z = (P_TypeBook_refused κ φ ψ t0 v65).2.2 := ⟨_, rfl⟩
      rw [← eψ68] at hG
      have hI := inv_of hG
      rw [hQ]
      refine tx_endI S hret hlk hS (by show 0 ≤ 50000; omega) (by show 0 ≤ 1000000; omega) (fun hGR => ?_) dTypeBook_declare_113
      have hO2 : Oq OUT (0, r66, κ, φ67, ψ68) := (by subst eψ68 eφ67 er66 ev65; exact hO.tr (if_neg c45))
      rw [hO2.eq]
      exact pbf_of hG hGR (by show 5 * (κ 6) + 5 * (κ 7) + 4 * (κ 8) + 4 * (κ 9) + 4 * (κ 10) + 4 * (κ 11) + 5 * (κ 12) + 4 * (κ 13) + 3 * (κ 14) + 1 * (κ 15) ≤ 5 * (κ 6) + 5 * (κ 7) + 4 * (κ 8) + 4 * (κ 9) + 4 * (κ 10) + 4 * (κ 11) + 5 * (κ 12) + 4 * (κ 13) + 3 * (κ 14) + 1 * (κ 15); omega) (by show 0 ≤ (5 * (κ 6) + 5 * (κ 7) + 4 * (κ 8) + 4 * (κ 9) + 4 * (κ 10) + 4 * (κ 11) + 5 * (κ 12) + 4 * (κ 13) + 3 * (κ 14) + 1 * (κ 15)) - (5 * (κ 6) + 5 * (κ 7) + 4 * (κ 8) + 4 * (κ 9) + 4 * (κ 10) + 4 * (κ 11) + 5 * (κ 12) + 4 * (κ 13) + 3 * (κ 14) + 1 * (κ 15)) + 1; omega) (by show 0 ≤ 2 * ((5 * (κ 6) + 5 * (κ 7) + 4 * (κ 8) + 4 * (κ 9) + 4 * (κ 10) + 4 * (κ 11) + 5 * (κ 12) + 4 * (κ 13) + 3 * (κ 14) + 1 * (κ 15)) - (5 * (κ 6) + 5 * (κ 7) + 4 * (κ 8) + 4 * (κ 9) + 4 * (κ 10) + 4 * (κ 11) + 5 * (κ 12) + 4 * (κ 13) + 3 * (κ 14) + 1 * (κ 15))) + 6; omega)
  have J53 : ∀ (ls : Array Slot) (H : Heap) (locs : List Loc) (φ : gF) (ψ : gG) (i1 : Int32) (i2 : Int32) (i3 : Int32) (i4 : Int32), INVF γ A κ φ ψ H → va_S A s.heap H locs → (Oq OUT (P_TypeBook_declare_53 κ   φ ψ i1 i2 i3 i4)) → lv_has ls 7 [(0, .ref (γ.2.2.2 0)), (1, .int i1), (2, .int i2), (3, .int i3), (4, .int i4)] → W p l e (bs_rm 7 50000 1000000 174) s m args below meth c H locs 0 0 Q (F0 m 53 ls []) := by
    intro ls H locs φ ψ i1 i2 i3 i4 hG hS hO hl
    have hI := inv_of hG
    obtain ⟨sa53, hsa53⟩ := hw0.2.2.2.1 R_TypeBook 184 "no such object or name" (in_tables_1_5 (List.mem_of_getElem? (i := 62) rfl))
    rw [hQ]
    refine tx_throw (s0 := s0) (names := ["java/lang/RuntimeException", "java/lang/Exception"]) (text := "no such object or name") (sa := sa53) S hst hX hlk (by decide +kernel) (by decide +kernel) qw_b17894d46b qw_ed8d893ebf (hF0.step hA0 hS.1 hS.2.1) hsa53 (ta_IAE hW hw0) hl.1 dTypeBook_declare_53 dTypeBook_declare_56 dTypeBook_declare_57 dTypeBook_declare_59 dTypeBook_declare_62 (Nat.lt_of_lt_of_le (by decide) (Nat.le_of_ble_eq_true rfl : 6 ≤ _)) (Nat.le_of_ble_eq_true rfl) (by show 0 + 1 ≤ 50000; omega) (by show 0 + 6 ≤ 1000000; omega) (fun H1 hGR hz ho => ?_) hS.2.2 (by show 0 + 1 ≤ 50000; omega) (by show 0 + 6 ≤ 1000000; omega)
    have hO2 : Oq OUT (2, 0, κ, φ, ψ) := (by exact hO.tr rfl)
    rw [hO2.eq]
    exact ⟨⟨2, by decide, pbf_of (invf_more hG ho) hGR (by show 5 * (κ 6) + 5 * (κ 7) + 4 * (κ 8) + 4 * (κ 9) + 4 * (κ 10) + 4 * (κ 11) + 5 * (κ 12) + 4 * (κ 13) + 3 * (κ 14) + 1 * (κ 15) ≤ 5 * (κ 6) + 5 * (κ 7) + 4 * (κ 8) + 4 * (κ 9) + 4 * (κ 10) + 4 * (κ 11) + 5 * (κ 12) + 4 * (κ 13) + 3 * (κ 14) + 1 * (κ 15); omega) (by show 0 + 1 ≤ (5 * (κ 6) + 5 * (κ 7) + 4 * (κ 8) + 4 * (κ 9) + 4 * (κ 10) + 4 * (κ 11) + 5 * (κ 12) + 4 * (κ 13) + 3 * (κ 14) + 1 * (κ 15)) - (5 * (κ 6) + 5 * (κ 7) + 4 * (κ 8) + 4 * (κ 9) + 4 * (κ 10) + 4 * (κ 11) + 5 * (κ 12) + 4 * (κ 13) + 3 * (κ 14) + 1 * (κ 15)) + 1; omega) (by show 0 + 6 ≤ 2 * ((5 * (κ 6) + 5 * (κ 7) + 4 * (κ 8) + 4 * (κ 9) + 4 * (κ 10) + 4 * (κ 11) + 5 * (κ 12) + 4 * (κ 13) + 3 * (κ 14) + 1 * (κ 15)) - (5 * (κ 6) + 5 * (κ 7) + 4 * (κ 8) + 4 * (κ 9) + 4 * (κ 10) + 4 * (κ 11) + 5 * (κ 12) + 4 * (κ 13) + 3 * (κ 14) + 1 * (κ 15))) + 6; omega)⟩, fr_more hS hz ho⟩
  have J37 : ∀ (ls : Array Slot) (H : Heap) (locs : List Loc) (φ : gF) (ψ : gG) (i1 : Int32) (i2 : Int32) (i3 : Int32) (i4 : Int32), INVF γ A κ φ ψ H → va_S A s.heap H locs → (i1 = 0 → (i4.toInt < 2147483647 ∧ (i4 - 1).toInt < 2147483647)) → (Oq OUT (P_TypeBook_declare_37 κ   φ ψ i1 i2 i3 i4)) → lv_has ls 7 [(0, .ref (γ.2.2.2 0)), (1, .int i1), (2, .int i2), (3, .int i3), (4, .int i4)] → W p l e (bs_rm 7 50000 1000000 174) s m args below meth c H locs 0 0 Q (F0 m 37 ls []) := by
    intro ls H locs φ ψ i1 i2 i3 i4 hG hS hq hO hl
    have hI := inv_of hG
    refine lv_iload_n hx hb dTypeBook_declare_37 rfl (lv_at hl 1 rfl) ?_
    refine lv_if_lt (tgt := 53) hx hb dTypeBook_declare_38 (by decide) (fun c69 => ?_) (fun c69 => ?_)
    · refine W.up (k := 0) (n := 0) (by show 0 ≤ _; omega) (by show 0 ≤ _; omega) ?_
      exact J53 ls _ _ φ ψ i1 i2 i3 i4 hG hS (by exact hO.tr (if_pos c69)) (lv_sub hl [0, 1, 2, 3, 4] rfl)
    · refine lv_iload_n hx hb dTypeBook_declare_41 rfl (lv_at hl 1 rfl) ?_
      refine lv_iconst (v := 2) hx hb dTypeBook_declare_42 (by decide) ?_
      refine lv_icmp_gt (tgt := 53) hx hb dTypeBook_declare_43 (by decide) (fun c70 => ?_) (fun c70 => ?_)
      · refine W.up (k := 0) (n := 0) (by show 0 ≤ _; omega) (by show 0 ≤ _; omega) ?_
        exact J53 ls _ _ φ ψ i1 i2 i3 i4 hG hS (by exact hO.tr ((if_neg c69).trans (if_pos c70))) (lv_sub hl [0, 1, 2, 3, 4] rfl)
      · refine lv_iload_n hx hb dTypeBook_declare_46 rfl (lv_at hl 2 rfl) ?_
        refine pu_Si (rest := []) S hC (f_TypeBook_isName l γ (INVF γ A κ φ ψ) i2) meTypeBook_isName qw_87c028f095 ⟨Nat.le_of_ble_eq_true rfl, Nat.le_of_ble_eq_true rfl⟩ hG rfl hl.1 rfl (Nat.le_of_ble_eq_true rfl) dTypeBook_declare_47 ⟨(by show _ ≤ 50000; omega), (by show _ ≤ 1000000; omega)⟩ (fun r71 hr71 => ?_)
        obtain ⟨hr71, er71⟩ := hr71
        refine lv_if_ne (tgt := 63) hx hb dTypeBook_declare_50 (by decide) (fun c72 => ?_) (fun c72 => ?_)
        · refine lv_iload_n hx hb dTypeBook_declare_63 rfl (lv_at hl 1 rfl) ?_
          refine lv_if_ne (tgt := 92) hx hb dTypeBook_declare_64 (by decide) (fun c73 => ?_) (fun c73 => ?_)
          · refine lv_iconst (v := 0) hx hb dTypeBook_declare_92 (by decide) ?_
            refine W.up (k := 0) (n := 0) (by show 0 ≤ _; omega) (by show 0 ≤ _; omega) ?_
            exact J93 ls _ _ φ ψ i1 i2 i3 i4 0 hG hS hq (by subst er71; exact hO.tr ((if_neg c69).trans ((if_neg c70).trans ((if_neg c72).trans (if_neg c73))))) (lv_sub hl [0, 1, 2, 3, 4] rfl)
          · obtain ⟨hnode, hnode2⟩ := hq (by first | assumption | exact Classical.not_not.mp (by assumption))
            refine lv_aload_n hx hb dTypeBook_declare_67 rfl (lv_at hl 0 rfl) ?_
            refine of_get S hC (of_0_5 hI) in_TypeBook rfl (by decide) qw_130a6323a2 dTypeBook_declare_68 ?_
            refine lv_aload_n hx hb dTypeBook_declare_71 rfl (lv_at hl 0 rfl) ?_
            refine of_get S hC (of_0_5 hI) in_TypeBook rfl (by decide) qw_130a6323a2 dTypeBook_declare_72 ?_
            refine lv_iload hx hb dTypeBook_declare_75 (lv_at hl 4 rfl) ?_
            refine lv_iload hx hb dTypeBook_declare_77 (lv_at hl 4 rfl) ?_
            refine mu_Vi (rest := [.ref (γ.2.2.2 8)]) S hC (fun q h => hA q (Nat.le_trans hS.1 h)) (fun q h => h) hS (f_Looker_look l γ A κ φ ψ i4 i4 hnode) meLooker_look qw_d8c2c64b31 ⟨Nat.le_of_ble_eq_true rfl, Nat.le_of_ble_eq_true rfl⟩ (rv_8 hC hI) hG rfl hl.1 rfl (Nat.le_of_ble_eq_true rfl) dTypeBook_declare_79 ⟨(by show 0 + 0 ≤ 50000; omega), (by show 0 + 0 ≤ 1000000; omega)⟩ (fun r74 H locs ⟨er74, hG⟩ hS _ _ => ?_)
            have hG : INVF γ A κ (P_Looker_look κ φ ψ i4 i4).2.1 (P_Looker_look κ φ ψ i4 i4).2.2 _ := hG
            obtain ⟨φ75, eφ75⟩ : ∃ z : gF, z = (P_Looker_look κ φ ψ i4 i4).2.1 := ⟨_, rfl⟩
            rw [← eφ75] at hG
            obtain ⟨ψ76, eψ76⟩ : ∃ z : gG, z = (P_Looker_look κ φ ψ i4 i4).2.2 := ⟨_, rfl⟩
            rw [← eψ76] at hG
            have hI := inv_of hG
            refine lv_iload hx hb dTypeBook_declare_82 (lv_at hl 4 rfl) ?_
            refine lv_iload_n hx hb dTypeBook_declare_84 rfl (lv_at hl 3 rfl) ?_
            refine lv_iconst (v := 1) hx hb dTypeBook_declare_85 (by decide) ?_
            refine pu_Vi (rest := []) S hC (f_Looker_judge l γ A κ φ75 ψ76 r74 i4 i3 1) meLooker_judge qw_eb62b8f344 ⟨Nat.le_of_ble_eq_true rfl, Nat.le_of_ble_eq_true rfl⟩ (rv_8 hC hI) hG rfl hl.1 rfl (Nat.le_of_ble_eq_true rfl) dTypeBook_declare_86 ⟨(by show _ ≤ 50000; omega), (by show _ ≤ 1000000; omega)⟩ (fun r77 hr77 => ?_)
            obtain ⟨hr77, er77⟩ := hr77
            refine lv_goto (tgt := 93) hx hb dTypeBook_declare_89 (by decide) ?_
            refine W.up (k := 0) (n := 0) (by show 0 ≤ _; omega) (by show 0 ≤ _; omega) ?_
            exact J93 ls _ _ φ75 ψ76 i1 i2 i3 i4 r77 hG hS hq (by subst er77 eψ76 eφ75 er74 er71; exact hO.tr ((if_neg c69).trans ((if_neg c70).trans ((if_neg c72).trans (if_pos c73))))) (lv_sub hl [0, 1, 2, 3, 4] rfl)
        · refine W.up (k := 0) (n := 0) (by show 0 ≤ _; omega) (by show 0 ≤ _; omega) ?_
          exact J53 ls _ _ φ ψ i1 i2 i3 i4 hG hS (by subst er71; exact hO.tr ((if_neg c69).trans ((if_neg c70).trans (if_pos c72)))) (lv_sub hl [0, 1, 2, 3, 4] rfl)
  have J27 : ∀ (ls : Array Slot) (H : Heap) (locs : List Loc) (φ : gF) (ψ : gG) (i1 : Int32) (i2 : Int32) (i3 : Int32) (i4 : Int32), INVF γ A κ φ ψ H → va_S A s.heap H locs → (Oq OUT (P_TypeBook_declare_27 κ   φ ψ i1 i2 i3 i4)) → lv_has ls 7 [(0, .ref (γ.2.2.2 0)), (1, .int i1), (2, .int i2), (3, .int i3), (4, .int i4)] → W p l e (bs_rm 7 50000 1000000 174) s m args below meth c H locs 0 0 Q (F0 m 27 ls []) := by
    intro ls H locs φ ψ i1 i2 i3 i4 hG hS hO hl
    have hI := inv_of hG
    obtain ⟨sa27, hsa27⟩ := hw0.2.2.2.1 R_TypeBook 182 "no such type or node" (in_tables_1_5 (List.mem_of_getElem? (i := 61) rfl))
    rw [hQ]
    refine tx_throw (s0 := s0) (names := ["java/lang/RuntimeException", "java/lang/Exception"]) (text := "no such type or node") (sa := sa27) S hst hX hlk (by decide +kernel) (by decide +kernel) qw_ae3ba0ca69 qw_d4b771d349 (hF0.step hA0 hS.1 hS.2.1) hsa27 (ta_IOB hW hw0) hl.1 dTypeBook_declare_27 dTypeBook_declare_30 dTypeBook_declare_31 dTypeBook_declare_33 dTypeBook_declare_36 (Nat.lt_of_lt_of_le (by decide) (Nat.le_of_ble_eq_true rfl : 6 ≤ _)) (Nat.le_of_ble_eq_true rfl) (by show 0 + 1 ≤ 50000; omega) (by show 0 + 6 ≤ 1000000; omega) (fun H1 hGR hz ho => ?_) hS.2.2 (by show 0 + 1 ≤ 50000; omega) (by show 0 + 6 ≤ 1000000; omega)
    have hO2 : Oq OUT (1, 0, κ, φ, ψ) := (by exact hO.tr rfl)
    rw [hO2.eq]
    exact ⟨⟨1, by decide, pbf_of (invf_more hG ho) hGR (by show 5 * (κ 6) + 5 * (κ 7) + 4 * (κ 8) + 4 * (κ 9) + 4 * (κ 10) + 4 * (κ 11) + 5 * (κ 12) + 4 * (κ 13) + 3 * (κ 14) + 1 * (κ 15) ≤ 5 * (κ 6) + 5 * (κ 7) + 4 * (κ 8) + 4 * (κ 9) + 4 * (κ 10) + 4 * (κ 11) + 5 * (κ 12) + 4 * (κ 13) + 3 * (κ 14) + 1 * (κ 15); omega) (by show 0 + 1 ≤ (5 * (κ 6) + 5 * (κ 7) + 4 * (κ 8) + 4 * (κ 9) + 4 * (κ 10) + 4 * (κ 11) + 5 * (κ 12) + 4 * (κ 13) + 3 * (κ 14) + 1 * (κ 15)) - (5 * (κ 6) + 5 * (κ 7) + 4 * (κ 8) + 4 * (κ 9) + 4 * (κ 10) + 4 * (κ 11) + 5 * (κ 12) + 4 * (κ 13) + 3 * (κ 14) + 1 * (κ 15)) + 1; omega) (by show 0 + 6 ≤ 2 * ((5 * (κ 6) + 5 * (κ 7) + 4 * (κ 8) + 4 * (κ 9) + 4 * (κ 10) + 4 * (κ 11) + 5 * (κ 12) + 4 * (κ 13) + 3 * (κ 14) + 1 * (κ 15)) - (5 * (κ 6) + 5 * (κ 7) + 4 * (κ 8) + 4 * (κ 9) + 4 * (κ 10) + 4 * (κ 11) + 5 * (κ 12) + 4 * (κ 13) + 3 * (κ 14) + 1 * (κ 15))) + 6; omega)⟩, fr_more hS hz ho⟩
  refine lv_aload_n hx hb dTypeBook_declare_0 rfl (lv_at hl 0 rfl) ?_
  refine of_get S hC (of_0_2 hI) in_TypeBook rfl (by decide) qw_393f431be6 dTypeBook_declare_1 ?_
  refine lv_iload_n hx hb dTypeBook_declare_4 rfl (lv_at hl 3 rfl) ?_
  refine pu_Vi (rest := []) S hC (f3_Types_has l γ A κ φ ψ x3) meTypes_has qw_438f5fc1da ⟨Nat.le_of_ble_eq_true rfl, Nat.le_of_ble_eq_true rfl⟩ (rv_3 hC hI) hG rfl hl.1 rfl (Nat.le_of_ble_eq_true rfl) dTypeBook_declare_5 ⟨(by show _ ≤ 50000; omega), (by show _ ≤ 1000000; omega)⟩ (fun r78 hr78 => ?_)
  obtain ⟨hr78, er78⟩ := hr78
  refine lv_if_eq (tgt := 27) hx hb dTypeBook_declare_8 (by decide) (fun c79 => ?_) (fun c79 => ?_)
  · refine W.up (k := 0) (n := 0) (by show 0 ≤ _; omega) (by show 0 ≤ _; omega) ?_
    exact J27 ls _ _ φ ψ x1 x2 x3 x4 hG hS (by subst er78; exact hO.tr (if_pos c79)) (lv_sub hl [0, 1, 2, 3, 4] rfl)
  · refine lv_iload_n hx hb dTypeBook_declare_11 rfl (lv_at hl 1 rfl) ?_
    refine lv_if_ne (tgt := 37) hx hb dTypeBook_declare_12 (by decide) (fun c80 => ?_) (fun c80 => ?_)
    · refine W.up (k := 0) (n := 0) (by show 0 ≤ _; omega) (by show 0 ≤ _; omega) ?_
      exact J37 ls _ _ φ ψ x1 x2 x3 x4 hG hS (by first | exact fun _ => node_ok (x := x4) (by assumption) (by assumption) (by omega) | exact fun h9 => absurd h9 (by assumption)) (by subst er78; exact hO.tr ((if_neg c79).trans (if_neg c80))) (lv_sub hl [0, 1, 2, 3, 4] rfl)
    · refine lv_aload_n hx hb dTypeBook_declare_15 rfl (lv_at hl 0 rfl) ?_
      refine of_get S hC (of_0_0 hI) in_TypeBook rfl (by decide) qw_6151ee7924 dTypeBook_declare_16 ?_
      refine lv_iload hx hb dTypeBook_declare_19 (lv_at hl 4 rfl) ?_
      refine pu_Vi (rest := []) S hC (f1_Trees_has l γ A κ φ ψ x4) meTrees_has qw_90a02633e0 ⟨Nat.le_of_ble_eq_true rfl, Nat.le_of_ble_eq_true rfl⟩ (rv_1 hC hI) hG rfl hl.1 rfl (Nat.le_of_ble_eq_true rfl) dTypeBook_declare_21 ⟨(by show _ ≤ 50000; omega), (by show _ ≤ 1000000; omega)⟩ (fun r81 hr81 => ?_)
      obtain ⟨hr81, er81⟩ := hr81
      refine lv_if_ne (tgt := 37) hx hb dTypeBook_declare_24 (by decide) (fun c82 => ?_) (fun c82 => ?_)
      · refine W.up (k := 0) (n := 0) (by show 0 ≤ _; omega) (by show 0 ≤ _; omega) ?_
        exact J37 ls _ _ φ ψ x1 x2 x3 x4 hG hS (by first | exact fun _ => node_ok (x := x4) (by assumption) (by assumption) (by omega) | exact fun h9 => absurd h9 (by assumption)) (by subst er81 er78; exact hO.tr ((if_neg c79).trans ((if_pos c80).trans (if_neg c82)))) (lv_sub hl [0, 1, 2, 3, 4] rfl)
      · refine W.up (k := 0) (n := 0) (by show 0 ≤ _; omega) (by show 0 ≤ _; omega) ?_
        exact J27 ls _ _ φ ψ x1 x2 x3 x4 hG hS (by subst er81 er78; exact hO.tr ((if_neg c79).trans ((if_pos c80).trans (if_pos c82)))) (lv_sub hl [0, 1, 2, 3, 4] rfl)
def P_TypeBook_enumeration_96 (κ : Nat → Nat) (φ : gF) (ψ : gG) (i1 : Int32) (i2 : Int32) (i3 : Int32) (i4 : Int32) : XR := (3, 0, κ, φ, ψ)
def P_TypeBook_enumeration_145 (κ : Nat → Nat) : Nat → gF → gG → Int32 → Int32 → Int32 → Int32 → Int32 → Int32 → XR
  | 0, _, _, _, _, _, _, _, _ => default
  | n + 1, φ, ψ, i1, i2, i3, i4, i5, i6 => (if i4 ≤ i6 then (0, i5, (ku (ku (ku (ku κ 4 (κ 4 + 1)) 13 (wl (κ 13) (κ 4 + 1))) 2 (κ 2 + 1 + i6.toNatClampNeg)) 12 (LLn (κ 12) (κ 2) i6.toNatClampNeg)), (up φ 1 (Au (φ 1) 1 0 (-1))), ψ) else (P_TypeBook_enumeration_145 κ n (up φ 3 (P_Names_put ((κ 2 + 1 + i6.toNatClampNeg)) ((κ 3)) ((LLn (κ 12) (κ 2) i6.toNatClampNeg)) (φ 3) (P_Trees_valueOf ((κ 0)) ((κ 1)) ((κ 11)) (φ 2) ((i1 - i4) + i6)) 3 i5 i6)) ψ i1 i2 i3 i4 i5 (i6 + 1)))
def P_TypeBook_enumeration (κ : Nat → Nat) (φ : gF) (ψ : gG) (x1 : Int32) : XR := (if (P_Trees_has ((κ 0)) ((κ 1)) ((κ 11)) (φ 2) x1) = 0 then (1, 0, κ, φ, ψ) else (if (P_TypeBook_malformedEnumNode κ φ ψ x1) = (-1) then (if (P_TypeBook_takenEnumNode κ φ ψ x1) = (-1) then (if 1000 ≤ (nI (κ 4)) then (P_TypeBook_enumeration_96 κ  φ ψ x1 (P_TypeBook_malformedEnumNode κ φ ψ x1) (P_TypeBook_takenEnumNode κ φ ψ x1) (P_Trees_countOf ((κ 0)) ((κ 1)) ((κ 11)) (φ 2) x1)) else (if (P_Names_haveRoom (κ 2) ((P_Trees_countOf ((κ 0)) ((κ 1)) ((κ 11)) (φ 2) x1).toNatClampNeg + 1)) = 0 then (P_TypeBook_enumeration_96 κ  φ ψ x1 (P_TypeBook_malformedEnumNode κ φ ψ x1) (P_TypeBook_takenEnumNode κ φ ψ x1) (P_Trees_countOf ((κ 0)) ((κ 1)) ((κ 11)) (φ 2) x1)) else (P_TypeBook_enumeration_145 κ  ((2147483647 - (0 : Int32).toInt).toNat + 1) (up (up φ 4 (P_Types_put ((κ 4)) ((κ 13)) (φ 4) 4 0 ((P_Trees_countOf ((κ 0)) ((κ 1)) ((κ 11)) (φ 2) x1) - 1) (P_Trees_countOf ((κ 0)) ((κ 1)) ((κ 11)) (φ 2) x1)).2) 3 (P_Names_put ((κ 2)) ((κ 3)) ((κ 12)) ((up φ 4 (P_Types_put ((κ 4)) ((κ 13)) (φ 4) 4 0 ((P_Trees_countOf ((κ 0)) ((κ 1)) ((κ 11)) (φ 2) x1) - 1) (P_Trees_countOf ((κ 0)) ((κ 1)) ((κ 11)) (φ 2) x1)).2) 3) (P_Trees_valueOf ((κ 0)) ((κ 1)) ((κ 11)) ((up φ 4 (P_Types_put ((κ 4)) ((κ 13)) (φ 4) 4 0 ((P_Trees_countOf ((κ 0)) ((κ 1)) ((κ 11)) (φ 2) x1) - 1) (P_Trees_countOf ((κ 0)) ((κ 1)) ((κ 11)) (φ 2) x1)).2) 2) x1) 1 ((P_Types_put ((κ 4)) ((κ 13)) (φ 4) 4 0 ((P_Trees_countOf ((κ 0)) ((κ 1)) ((κ 11)) (φ 2) x1) - 1) (P_Trees_countOf ((κ 0)) ((κ 1)) ((κ 11)) (φ 2) x1)).1) 0)) ψ x1 (P_TypeBook_malformedEnumNode κ φ ψ x1) (P_TypeBook_takenEnumNode κ φ ψ x1) (P_Trees_countOf ((κ 0)) ((κ 1)) ((κ 11)) (φ 2) x1) ((P_Types_put ((κ 4)) ((κ 13)) (φ 4) 4 0 ((P_Trees_countOf ((κ 0)) ((κ 1)) ((κ 11)) (φ 2) x1) - 1) (P_Trees_countOf ((κ 0)) ((κ 1)) ((κ 11)) (φ 2) x1)).1) 0))) else (0, (P_TypeBook_refused κ φ ψ 7 (P_TypeBook_takenEnumNode κ φ ψ x1)).1, κ, ((P_TypeBook_refused κ φ ψ 7 (P_TypeBook_takenEnumNode κ φ ψ x1)).2.1), ((P_TypeBook_refused κ φ ψ 7 (P_TypeBook_takenEnumNode κ φ ψ x1)).2.2))) else (0, (P_TypeBook_refused κ φ ψ 11 (P_TypeBook_malformedEnumNode κ φ ψ x1)).1, κ, ((P_TypeBook_refused κ φ ψ 11 (P_TypeBook_malformedEnumNode κ φ ψ x1)).2.1), ((P_TypeBook_refused κ φ ψ 11 (P_TypeBook_malformedEnumNode κ φ ψ x1)).2.2))))
set_option maxHeartbeats 4000000 in
set_option maxRecDepth 100000 in
theorem xf_enumeration (l : Launch) (hst : l.stackTraces = false) (γ : gE) (A : Nat → Prop) (κ : Nat → Nat) (φ : gF) (ψ : gG) (s0 : State) (hw0 : SW s0) (hA0 : ∀ q, A q → s0.heap.size ≤ q) (H0 : Heap) (x1 : Int32) : XM l yTypeBook_enumeration bTypeBook_enumeration 7 (some .int) 6 128 50000 1000000 [.ref (γ.2.2.2 0), .int x1] γ A (fun U => FB s0 U U.heap ∧ U.heap = H0 ∧ INVF γ A κ φ ψ U.heap) (mQi (fun r H => PBF γ A κ H0 (P_TypeBook_enumeration κ φ ψ x1) 0 r H) A) (fun E H => XCF γ A κ H0 (P_TypeBook_enumeration κ φ ψ x1) E H) := by
  refine tx_openI (by decide) (Nat.le_of_ble_eq_true rfl) ?_
  intro p e s m args below meth c ls Q S hret hlk hX hC hA hP hQ hl
  obtain ⟨hF0, hH0, hG⟩ := hP
  subst hH0
  have hI := inv_of hG
  obtain ⟨hx, hb, hml, hown, hW⟩ := id S
  have hS : va_S A s.heap s.heap [] := va_S.rf
  have hl : lv_has ls 7 [(0, .ref (γ.2.2.2 0)), (1, .int x1)] := hl
  obtain ⟨hlen, hsz⟩ := inv_len hI
  obtain ⟨OUT, hQ9, hO⟩ : ∃ z, (z = P_TypeBook_enumeration κ φ ψ x1) ∧ Oq z (P_TypeBook_enumeration κ φ ψ x1) := ⟨_, rfl, rfl⟩
  rw [← hQ9] at hQ
  clear hQ9
  have J145 : ∀ (N145 : Nat) (ls : Array Slot) (H : Heap) (locs : List Loc) (φ : gF) (ψ : gG) (i1 : Int32) (i2 : Int32) (i3 : Int32) (i4 : Int32) (i5 : Int32) (i6 : Int32), INVF γ A (ku (ku (ku (ku κ 4 (κ 4 + 1)) 13 (wl (κ 13) (κ 4 + 1))) 2 (κ 2 + 1 + i6.toNatClampNeg)) 12 (LLn (κ 12) (κ 2) i6.toNatClampNeg)) φ ψ H → va_S A s.heap H locs → (i4 = nI i4.toNatClampNeg) → (i6 = nI i6.toNatClampNeg) → (κ 2 + (i4.toNatClampNeg + 1) ≤ 3012) → (κ 4 < 1000) → (i6.toNatClampNeg ≤ i4.toNatClampNeg) → (κ 12 ≤ LLn (κ 12) (κ 2) i6.toNatClampNeg ∧ LLn (κ 12) (κ 2) i6.toNatClampNeg ≤ 8192) → (Oq OUT (P_TypeBook_enumeration_145 κ  (N145 + 1) φ ψ i1 i2 i3 i4 i5 i6)) → (2147483647 - i6.toInt).toNat = N145 → lv_has ls 7 [(0, .ref (γ.2.2.2 0)), (1, .int i1), (2, .int i2), (3, .int i3), (4, .int i4), (5, .int i5), (6, .int i6)] → W p l e (bs_rm 6 50000 1000000 128) s m args below meth c H locs (0 + wc (κ 13) (κ 4 + 1) + wc (κ 13) (κ 4 + 1) + wc (κ 13) (κ 4 + 1) + wc (κ 13) (κ 4 + 1) + 5 * (LLn (κ 12) (κ 2) i6.toNatClampNeg - κ 12)) (0 + wm (κ 13) (κ 4 + 1) + wm (κ 13) (κ 4 + 1) + wm (κ 13) (κ 4 + 1) + wm (κ 13) (κ 4 + 1) + 10 * (LLn (κ 12) (κ 2) i6.toNatClampNeg - κ 12)) Q (F0 m 145 ls []) := by
    intro N145
    induction N145 using Nat.strongRecOn with
    | ind N145 ih145 =>
      intro ls H locs φ ψ i1 i2 i3 i4 i5 i6 hG hS ei4 ei6 hN2 hN4 hjk hL2 hO hm145 hl
      have hI := inv_of hG
      have hwc13 := wcm (n := κ 13) (N := κ 4 + 1) (by omega) (by omega)
      refine lv_iload hx hb dTypeBook_enumeration_145 (lv_at hl 6 rfl) ?_
      refine lv_iload hx hb dTypeBook_enumeration_147 (lv_at hl 4 rfl) ?_
      refine lv_icmp_ge (tgt := 184) hx hb dTypeBook_enumeration_149 (by decide) (fun c33 => ?_) (fun c33 => ?_)
      · refine lv_aload_n hx hb dTypeBook_enumeration_184 rfl (lv_at hl 0 rfl) ?_
        refine lv_iconst (v := (-1)) hx hb dTypeBook_enumeration_185 (by decide) ?_
        refine ig_fault S hC hG (fun q h => hA q (Nat.le_trans hS.1 h)) hS qw_464f80981e dTypeBook_enumeration_186 (fun H locs hG hS => ?_)
        obtain ⟨φ34, eφ34⟩ : ∃ z : gF, z = up φ 1 (Au (φ 1) 1 0 (-1)) := ⟨_, rfl⟩
        rw [← eφ34] at hG
        have hI := inv_of hG
        refine lv_iload hx hb dTypeBook_enumeration_189 (lv_at hl 5 rfl) ?_
        rw [hQ]
        refine tx_endI S hret hlk hS (by show 0 + wc (κ 13) (κ 4 + 1) + wc (κ 13) (κ 4 + 1) + wc (κ 13) (κ 4 + 1) + wc (κ 13) (κ 4 + 1) + 5 * (LLn (κ 12) (κ 2) i6.toNatClampNeg - κ 12) ≤ 50000; omega) (by show 0 + wm (κ 13) (κ 4 + 1) + wm (κ 13) (κ 4 + 1) + wm (κ 13) (κ 4 + 1) + wm (κ 13) (κ 4 + 1) + 10 * (LLn (κ 12) (κ 2) i6.toNatClampNeg - κ 12) ≤ 1000000; omega) (fun hGR => ?_) dTypeBook_enumeration_191
        have hO2 : Oq OUT (0, i5, (ku (ku (ku (ku κ 4 (κ 4 + 1)) 13 (wl (κ 13) (κ 4 + 1))) 2 (κ 2 + 1 + i6.toNatClampNeg)) 12 (LLn (κ 12) (κ 2) i6.toNatClampNeg)), φ34, ψ) := (by subst eφ34; exact hO.tr (if_pos c33))
        rw [hO2.eq]
        exact pbf_of hG hGR (by show 5 * (κ 6) + 5 * (κ 7) + 4 * (κ 8) + 4 * (κ 9) + 4 * (κ 10) + 4 * (κ 11) + 5 * (κ 12) + 4 * (κ 13) + 3 * (κ 14) + 1 * (κ 15) ≤ 5 * (κ 6) + 5 * (κ 7) + 4 * (κ 8) + 4 * (κ 9) + 4 * (κ 10) + 4 * (κ 11) + 5 * (LLn (κ 12) (κ 2) i6.toNatClampNeg) + 4 * (wl (κ 13) (κ 4 + 1)) + 3 * (κ 14) + 1 * (κ 15); omega) (by show 0 + wc (κ 13) (κ 4 + 1) + wc (κ 13) (κ 4 + 1) + wc (κ 13) (κ 4 + 1) + wc (κ 13) (κ 4 + 1) + 5 * (LLn (κ 12) (κ 2) i6.toNatClampNeg - κ 12) ≤ (5 * (κ 6) + 5 * (κ 7) + 4 * (κ 8) + 4 * (κ 9) + 4 * (κ 10) + 4 * (κ 11) + 5 * (LLn (κ 12) (κ 2) i6.toNatClampNeg) + 4 * (wl (κ 13) (κ 4 + 1)) + 3 * (κ 14) + 1 * (κ 15)) - (5 * (κ 6) + 5 * (κ 7) + 4 * (κ 8) + 4 * (κ 9) + 4 * (κ 10) + 4 * (κ 11) + 5 * (κ 12) + 4 * (κ 13) + 3 * (κ 14) + 1 * (κ 15)) + 1; omega) (by show 0 + wm (κ 13) (κ 4 + 1) + wm (κ 13) (κ 4 + 1) + wm (κ 13) (κ 4 + 1) + wm (κ 13) (κ 4 + 1) + 10 * (LLn (κ 12) (κ 2) i6.toNatClampNeg - κ 12) ≤ 2 * ((5 * (κ 6) + 5 * (κ 7) + 4 * (κ 8) + 4 * (κ 9) + 4 * (κ 10) + 4 * (κ 11) + 5 * (LLn (κ 12) (κ 2) i6.toNatClampNeg) + 4 * (wl (κ 13) (κ 4 + 1)) + 3 * (κ 14) + 1 * (κ 15)) - (5 * (κ 6) + 5 * (κ 7) + 4 * (κ 8) + 4 * (κ 9) + 4 * (κ 10) + 4 * (κ 11) + 5 * (κ 12) + 4 * (κ 13) + 3 * (κ 14) + 1 * (κ 15))) + 6; omega)
      · have hjk2 : i6.toNatClampNeg < i4.toNatClampNeg := nge_ok (v := i6) (c := i4) (N := i6.toNatClampNeg) (M := i4.toNatClampNeg) ei6 ei4 (by assumption) (by omega) (by omega)
        have hwcL := wcm (n := LLn (κ 12) (κ 2) i6.toNatClampNeg) (N := κ 2 + 1 + i6.toNatClampNeg + 1) (by omega) (by omega)
        refine lv_aload_n hx hb dTypeBook_enumeration_152 rfl (lv_at hl 0 rfl) ?_
        refine of_get S hC (of_0_1 hI) in_TypeBook rfl (by decide) qw_a088f6ef48 dTypeBook_enumeration_153 ?_
        refine lv_aload_n hx hb dTypeBook_enumeration_156 rfl (lv_at hl 0 rfl) ?_
        refine of_get S hC (of_0_0 hI) in_TypeBook rfl (by decide) qw_6151ee7924 dTypeBook_enumeration_157 ?_
        refine lv_iload_n hx hb dTypeBook_enumeration_160 rfl (lv_at hl 1 rfl) ?_
        refine lv_iload hx hb dTypeBook_enumeration_161 (lv_at hl 4 rfl) ?_
        refine lv_isub hx hb dTypeBook_enumeration_163 ?_
        refine lv_topi (fun v35 ev35 => ?_)
        refine lv_iload hx hb dTypeBook_enumeration_164 (lv_at hl 6 rfl) ?_
        refine lv_iadd hx hb dTypeBook_enumeration_166 ?_
        refine lv_topi (fun v36 ev36 => ?_)
        refine pu_Vi (rest := [.ref (γ.2.2.2 2)]) S hC (f1_Trees_valueOf l γ A (ku (ku (ku (ku κ 4 (κ 4 + 1)) 13 (wl (κ 13) (κ 4 + 1))) 2 (κ 2 + 1 + i6.toNatClampNeg)) 12 (LLn (κ 12) (κ 2) i6.toNatClampNeg)) φ ψ v36) meTrees_valueOf qw_1062a20d6a ⟨Nat.le_of_ble_eq_true rfl, Nat.le_of_ble_eq_true rfl⟩ (rv_1 hC hI) hG rfl hl.1 rfl (Nat.le_of_ble_eq_true rfl) dTypeBook_enumeration_167 ⟨(by show _ ≤ 50000; omega), (by show _ ≤ 1000000; omega)⟩ (fun r37 hr37 => ?_)
        obtain ⟨hr37, er37⟩ := hr37
        refine lv_iconst (v := 3) hx hb dTypeBook_enumeration_170 (by decide) ?_
        refine lv_iload hx hb dTypeBook_enumeration_171 (lv_at hl 5 rfl) ?_
        refine lv_iload hx hb dTypeBook_enumeration_173 (lv_at hl 6 rfl) ?_
        refine mu_Vv (rest := []) S hC (fun q h => hA q (Nat.le_trans hS.1 h)) (fun q h => h) hS (f2_Names_put l γ A (ku (ku (ku (ku κ 4 (κ 4 + 1)) 13 (wl (κ 13) (κ 4 + 1))) 2 (κ 2 + 1 + i6.toNatClampNeg)) 12 (LLn (κ 12) (κ 2) i6.toNatClampNeg)) φ ψ r37 3 i5 i6 (by show κ 2 + 1 + i6.toNatClampNeg ≤ 4000; omega)) meNames_put qw_b1d56e075d ⟨Nat.le_of_ble_eq_true rfl, Nat.le_of_ble_eq_true rfl⟩ (rv_2 hC hI) hG rfl hl.1 rfl (Nat.le_of_ble_eq_true rfl) dTypeBook_enumeration_175 ⟨(by show 0 + wc (κ 13) (κ 4 + 1) + wc (κ 13) (κ 4 + 1) + wc (κ 13) (κ 4 + 1) + wc (κ 13) (κ 4 + 1) + 5 * (LLn (κ 12) (κ 2) i6.toNatClampNeg - κ 12) + (0 + wc (LLn (κ 12) (κ 2) i6.toNatClampNeg) (κ 2 + 1 + i6.toNatClampNeg + 1) + wc (LLn (κ 12) (κ 2) i6.toNatClampNeg) (κ 2 + 1 + i6.toNatClampNeg + 1) + wc (LLn (κ 12) (κ 2) i6.toNatClampNeg) (κ 2 + 1 + i6.toNatClampNeg + 1) + wc (LLn (κ 12) (κ 2) i6.toNatClampNeg) (κ 2 + 1 + i6.toNatClampNeg + 1) + wc (LLn (κ 12) (κ 2) i6.toNatClampNeg) (κ 2 + 1 + i6.toNatClampNeg + 1)) ≤ 50000; omega), (by show 0 + wm (κ 13) (κ 4 + 1) + wm (κ 13) (κ 4 + 1) + wm (κ 13) (κ 4 + 1) + wm (κ 13) (κ 4 + 1) + 10 * (LLn (κ 12) (κ 2) i6.toNatClampNeg - κ 12) + (0 + wm (LLn (κ 12) (κ 2) i6.toNatClampNeg) (κ 2 + 1 + i6.toNatClampNeg + 1) + wm (LLn (κ 12) (κ 2) i6.toNatClampNeg) (κ 2 + 1 + i6.toNatClampNeg + 1) + wm (LLn (κ 12) (κ 2) i6.toNatClampNeg) (κ 2 + 1 + i6.toNatClampNeg + 1) + wm (LLn (κ 12) (κ 2) i6.toNatClampNeg) (κ 2 + 1 + i6.toNatClampNeg + 1) + wm (LLn (κ 12) (κ 2) i6.toNatClampNeg) (κ 2 + 1 + i6.toNatClampNeg + 1)) ≤ 1000000; omega)⟩ (fun H locs hG hS _ _ => ?_)
        refine W.cs (cells' := 0 + wc (κ 13) (κ 4 + 1) + wc (κ 13) (κ 4 + 1) + wc (κ 13) (κ 4 + 1) + wc (κ 13) (κ 4 + 1) + 5 * (LLn (κ 12) (κ 2) i6.toNatClampNeg - κ 12) + (0 + wc (LLn (κ 12) (κ 2) i6.toNatClampNeg) (κ 2 + 1 + i6.toNatClampNeg + 1) + wc (LLn (κ 12) (κ 2) i6.toNatClampNeg) (κ 2 + 1 + i6.toNatClampNeg + 1) + wc (LLn (κ 12) (κ 2) i6.toNatClampNeg) (κ 2 + 1 + i6.toNatClampNeg + 1) + wc (LLn (κ 12) (κ 2) i6.toNatClampNeg) (κ 2 + 1 + i6.toNatClampNeg + 1) + wc (LLn (κ 12) (κ 2) i6.toNatClampNeg) (κ 2 + 1 + i6.toNatClampNeg + 1))) (slots' := 0 + wm (κ 13) (κ 4 + 1) + wm (κ 13) (κ 4 + 1) + wm (κ 13) (κ 4 + 1) + wm (κ 13) (κ 4 + 1) + 10 * (LLn (κ 12) (κ 2) i6.toNatClampNeg - κ 12) + (0 + wm (LLn (κ 12) (κ 2) i6.toNatClampNeg) (κ 2 + 1 + i6.toNatClampNeg + 1) + wm (LLn (κ 12) (κ 2) i6.toNatClampNeg) (κ 2 + 1 + i6.toNatClampNeg + 1) + wm (LLn (κ 12) (κ 2) i6.toNatClampNeg) (κ 2 + 1 + i6.toNatClampNeg + 1) + wm (LLn (κ 12) (κ 2) i6.toNatClampNeg) (κ 2 + 1 + i6.toNatClampNeg + 1) + wm (LLn (κ 12) (κ 2) i6.toNatClampNeg) (κ 2 + 1 + i6.toNatClampNeg + 1))) rfl rfl ?_
        have hG : INVF γ A (ku (ku (ku (ku (ku (ku κ 4 (κ 4 + 1)) 13 (wl (κ 13) (κ 4 + 1))) 2 (κ 2 + 1 + i6.toNatClampNeg)) 12 (LLn (κ 12) (κ 2) i6.toNatClampNeg)) 2 (κ 2 + 1 + i6.toNatClampNeg + 1)) 12 (wl (LLn (κ 12) (κ 2) i6.toNatClampNeg) (κ 2 + 1 + i6.toNatClampNeg + 1))) (up φ 3 (P_Names_put ((κ 2 + 1 + i6.toNatClampNeg)) ((κ 3)) ((LLn (κ 12) (κ 2) i6.toNatClampNeg)) (φ 3) r37 3 i5 i6)) ψ _ := hG
        obtain ⟨φ39, eφ39⟩ : ∃ z : gF, z = up φ 3 (P_Names_put ((κ 2 + 1 + i6.toNatClampNeg)) ((κ 3)) ((LLn (κ 12) (κ 2) i6.toNatClampNeg)) (φ 3) r37 3 i5 i6) := ⟨_, rfl⟩
        rw [← eφ39] at hG
        have hI := inv_of hG
        obtain ⟨v40, ev40⟩ : ∃ y : Int32, y = i6 + 1 := ⟨_, rfl⟩
        refine lv_iinc (v := v40) (lv' := [(6, .int v40), (0, .ref (γ.2.2.2 0)), (1, .int i1), (2, .int i2), (3, .int i3), (4, .int i4), (5, .int i5)]) hx hb dTypeBook_enumeration_178 hl (k := 6) rfl (by rw [ev40]; rfl) (by decide) rfl (fun ls hl => ?_)
        refine lv_goto (tgt := 145) hx hb dTypeBook_enumeration_181 (by decide) ?_
        have hv6 := cl_succ ei6 hjk (by omega) ev40
        have hLv : LLn (κ 12) (κ 2) (v40).toNatClampNeg = wl (LLn (κ 12) (κ 2) i6.toNatClampNeg) (κ 2 + 1 + i6.toNatClampNeg + 1) := (by rw [hv6.1]; rfl)
        refine W.up (k := 0 + wc (κ 13) (κ 4 + 1) + wc (κ 13) (κ 4 + 1) + wc (κ 13) (κ 4 + 1) + wc (κ 13) (κ 4 + 1) + 5 * (LLn (κ 12) (κ 2) v40.toNatClampNeg - κ 12)) (n := 0 + wm (κ 13) (κ 4 + 1) + wm (κ 13) (κ 4 + 1) + wm (κ 13) (κ 4 + 1) + wm (κ 13) (κ 4 + 1) + 10 * (LLn (κ 12) (κ 2) v40.toNatClampNeg - κ 12)) (by show 0 + wc (κ 13) (κ 4 + 1) + wc (κ 13) (κ 4 + 1) + wc (κ 13) (κ 4 + 1) + wc (κ 13) (κ 4 + 1) + 5 * (LLn (κ 12) (κ 2) i6.toNatClampNeg - κ 12) + (0 + wc (LLn (κ 12) (κ 2) i6.toNatClampNeg) (κ 2 + 1 + i6.toNatClampNeg + 1) + wc (LLn (κ 12) (κ 2) i6.toNatClampNeg) (κ 2 + 1 + i6.toNatClampNeg + 1) + wc (LLn (κ 12) (κ 2) i6.toNatClampNeg) (κ 2 + 1 + i6.toNatClampNeg + 1) + wc (LLn (κ 12) (κ 2) i6.toNatClampNeg) (κ 2 + 1 + i6.toNatClampNeg + 1) + wc (LLn (κ 12) (κ 2) i6.toNatClampNeg) (κ 2 + 1 + i6.toNatClampNeg + 1)) ≤ _; omega) (by show 0 + wm (κ 13) (κ 4 + 1) + wm (κ 13) (κ 4 + 1) + wm (κ 13) (κ 4 + 1) + wm (κ 13) (κ 4 + 1) + 10 * (LLn (κ 12) (κ 2) i6.toNatClampNeg - κ 12) + (0 + wm (LLn (κ 12) (κ 2) i6.toNatClampNeg) (κ 2 + 1 + i6.toNatClampNeg + 1) + wm (LLn (κ 12) (κ 2) i6.toNatClampNeg) (κ 2 + 1 + i6.toNatClampNeg + 1) + wm (LLn (κ 12) (κ 2) i6.toNatClampNeg) (κ 2 + 1 + i6.toNatClampNeg + 1) + wm (LLn (κ 12) (κ 2) i6.toNatClampNeg) (κ 2 + 1 + i6.toNatClampNeg + 1) + wm (LLn (κ 12) (κ 2) i6.toNatClampNeg) (κ 2 + 1 + i6.toNatClampNeg + 1)) ≤ _; omega) ?_
        have hG : INVF γ A (ku (ku (ku (ku κ 4 (κ 4 + 1)) 13 (wl (κ 13) (κ 4 + 1))) 2 (κ 2 + 1 + v40.toNatClampNeg)) 12 (LLn (κ 12) (κ 2) v40.toNatClampNeg)) φ39 ψ _ := (by rw [hv6.1]; exact hG)
        exact ih145 _ (by have q1 : i6.toInt < 2147483647 := (by first | exact (mu_up (k := i6) (by assumption)).2 | assumption); have q2 := mu_lt q1; rw [← ev40] at q2; omega) ls _ _ φ39 ψ i1 i2 i3 i4 i5 v40 hG hS ei4 hv6.2 hN2 hN4 (by rw [hv6.1]; omega) (by rw [hLv]; omega) (by have hN : N145 = (2147483647 - v40.toInt).toNat + 1 := (by have q1 : i6.toInt < 2147483647 := (by first | exact (mu_up (k := i6) (by assumption)).2 | assumption); have q2 := mu_lt q1; rw [← ev40] at q2; omega); rw [← hN]; clear hN; subst ev40 eφ39 er37 ev36 ev35; exact hO.tr (if_neg c33)) rfl (lv_sub hl [1, 2, 3, 4, 5, 6, 0] rfl)
  have J96 : ∀ (ls : Array Slot) (H : Heap) (locs : List Loc) (φ : gF) (ψ : gG) (i1 : Int32) (i2 : Int32) (i3 : Int32) (i4 : Int32), INVF γ A κ φ ψ H → va_S A s.heap H locs → (Oq OUT (P_TypeBook_enumeration_96 κ   φ ψ i1 i2 i3 i4)) → lv_has ls 7 [(0, .ref (γ.2.2.2 0)), (1, .int i1), (2, .int i2), (3, .int i3), (4, .int i4)] → W p l e (bs_rm 6 50000 1000000 128) s m args below meth c H locs 0 0 Q (F0 m 96 ls []) := by
    intro ls H locs φ ψ i1 i2 i3 i4 hG hS hO hl
    have hI := inv_of hG
    obtain ⟨sa96, hsa96⟩ := hw0.2.2.2.1 R_TypeBook 162 "no room for an enumeration" (in_tables_1_5 (List.mem_of_getElem? (i := 41) rfl))
    rw [hQ]
    refine tx_throw (s0 := s0) (names := ["java/lang/RuntimeException", "java/lang/Exception"]) (text := "no room for an enumeration") (sa := sa96) S hst hX hlk (by decide +kernel) (by decide +kernel) qw_8038d8d33c qw_f529d83890 (hF0.step hA0 hS.1 hS.2.1) hsa96 (ta_ISE hW hw0) hl.1 dTypeBook_enumeration_96 dTypeBook_enumeration_99 dTypeBook_enumeration_100 dTypeBook_enumeration_102 dTypeBook_enumeration_105 (Nat.lt_of_lt_of_le (by decide) (Nat.le_of_ble_eq_true rfl : 6 ≤ _)) (Nat.le_of_ble_eq_true rfl) (by show 0 + 1 ≤ 50000; omega) (by show 0 + 6 ≤ 1000000; omega) (fun H1 hGR hz ho => ?_) hS.2.2 (by show 0 + 1 ≤ 50000; omega) (by show 0 + 6 ≤ 1000000; omega)
    have hO2 : Oq OUT (3, 0, κ, φ, ψ) := (by exact hO.tr rfl)
    rw [hO2.eq]
    exact ⟨⟨3, by decide, pbf_of (invf_more hG ho) hGR (by show 5 * (κ 6) + 5 * (κ 7) + 4 * (κ 8) + 4 * (κ 9) + 4 * (κ 10) + 4 * (κ 11) + 5 * (κ 12) + 4 * (κ 13) + 3 * (κ 14) + 1 * (κ 15) ≤ 5 * (κ 6) + 5 * (κ 7) + 4 * (κ 8) + 4 * (κ 9) + 4 * (κ 10) + 4 * (κ 11) + 5 * (κ 12) + 4 * (κ 13) + 3 * (κ 14) + 1 * (κ 15); omega) (by show 0 + 1 ≤ (5 * (κ 6) + 5 * (κ 7) + 4 * (κ 8) + 4 * (κ 9) + 4 * (κ 10) + 4 * (κ 11) + 5 * (κ 12) + 4 * (κ 13) + 3 * (κ 14) + 1 * (κ 15)) - (5 * (κ 6) + 5 * (κ 7) + 4 * (κ 8) + 4 * (κ 9) + 4 * (κ 10) + 4 * (κ 11) + 5 * (κ 12) + 4 * (κ 13) + 3 * (κ 14) + 1 * (κ 15)) + 1; omega) (by show 0 + 6 ≤ 2 * ((5 * (κ 6) + 5 * (κ 7) + 4 * (κ 8) + 4 * (κ 9) + 4 * (κ 10) + 4 * (κ 11) + 5 * (κ 12) + 4 * (κ 13) + 3 * (κ 14) + 1 * (κ 15)) - (5 * (κ 6) + 5 * (κ 7) + 4 * (κ 8) + 4 * (κ 9) + 4 * (κ 10) + 4 * (κ 11) + 5 * (κ 12) + 4 * (κ 13) + 3 * (κ 14) + 1 * (κ 15))) + 6; omega)⟩, fr_more hS hz ho⟩
  refine lv_aload_n hx hb dTypeBook_enumeration_0 rfl (lv_at hl 0 rfl) ?_
  refine of_get S hC (of_0_0 hI) in_TypeBook rfl (by decide) qw_6151ee7924 dTypeBook_enumeration_1 ?_
  refine lv_iload_n hx hb dTypeBook_enumeration_4 rfl (lv_at hl 1 rfl) ?_
  refine pu_Vi (rest := []) S hC (f1_Trees_has l γ A κ φ ψ x1) meTrees_has qw_90a02633e0 ⟨Nat.le_of_ble_eq_true rfl, Nat.le_of_ble_eq_true rfl⟩ (rv_1 hC hI) hG rfl hl.1 rfl (Nat.le_of_ble_eq_true rfl) dTypeBook_enumeration_5 ⟨(by show _ ≤ 50000; omega), (by show _ ≤ 1000000; omega)⟩ (fun r41 hr41 => ?_)
  obtain ⟨hr41, er41⟩ := hr41
  refine lv_if_ne (tgt := 21) hx hb dTypeBook_enumeration_8 (by decide) (fun c42 => ?_) (fun c42 => ?_)
  · refine lv_aload_n hx hb dTypeBook_enumeration_21 rfl (lv_at hl 0 rfl) ?_
    refine lv_iload_n hx hb dTypeBook_enumeration_22 rfl (lv_at hl 1 rfl) ?_
    refine pu_Vi (rest := []) S hC (f_TypeBook_malformedEnumNode l γ A κ φ ψ x1) meTypeBook_malformedEnumNode qw_e916332e74 ⟨Nat.le_of_ble_eq_true rfl, Nat.le_of_ble_eq_true rfl⟩ (rv_0 hC hI) hG rfl hl.1 rfl (Nat.le_of_ble_eq_true rfl) dTypeBook_enumeration_23 ⟨(by show _ ≤ 50000; omega), (by show _ ≤ 1000000; omega)⟩ (fun r43 hr43 => ?_)
    obtain ⟨hr43, er43⟩ := hr43
    refine lv_istore_n (lv' := [(2, .int r43), (0, .ref (γ.2.2.2 0)), (1, .int x1)]) hx hb dTypeBook_enumeration_26 rfl hl (by decide) rfl (fun ls hl => ?_)
    refine lv_iload_n hx hb dTypeBook_enumeration_27 rfl (lv_at hl 0 rfl) ?_
    refine lv_iconst (v := (-1)) hx hb dTypeBook_enumeration_28 (by decide) ?_
    refine lv_icmp_eq (tgt := 40) hx hb dTypeBook_enumeration_29 (by decide) (fun c44 => ?_) (fun c44 => ?_)
    · refine lv_aload_n hx hb dTypeBook_enumeration_40 rfl (lv_at hl 1 rfl) ?_
      refine lv_iload_n hx hb dTypeBook_enumeration_41 rfl (lv_at hl 2 rfl) ?_
      refine pu_Vi (rest := []) S hC (f_TypeBook_takenEnumNode l γ A κ φ ψ x1) meTypeBook_takenEnumNode qw_ccf0bc88fe ⟨Nat.le_of_ble_eq_true rfl, Nat.le_of_ble_eq_true rfl⟩ (rv_0 hC hI) hG rfl hl.1 rfl (Nat.le_of_ble_eq_true rfl) dTypeBook_enumeration_42 ⟨(by show _ ≤ 50000; omega), (by show _ ≤ 1000000; omega)⟩ (fun r45 hr45 => ?_)
      obtain ⟨hr45, er45⟩ := hr45
      refine lv_istore_n (lv' := [(3, .int r45), (2, .int r43), (0, .ref (γ.2.2.2 0)), (1, .int x1)]) hx hb dTypeBook_enumeration_45 rfl hl (by decide) rfl (fun ls hl => ?_)
      refine lv_iload_n hx hb dTypeBook_enumeration_46 rfl (lv_at hl 0 rfl) ?_
      refine lv_iconst (v := (-1)) hx hb dTypeBook_enumeration_47 (by decide) ?_
      refine lv_icmp_eq (tgt := 59) hx hb dTypeBook_enumeration_48 (by decide) (fun c46 => ?_) (fun c46 => ?_)
      · refine lv_aload_n hx hb dTypeBook_enumeration_59 rfl (lv_at hl 2 rfl) ?_
        refine of_get S hC (of_0_0 hI) in_TypeBook rfl (by decide) qw_6151ee7924 dTypeBook_enumeration_60 ?_
        refine lv_iload_n hx hb dTypeBook_enumeration_63 rfl (lv_at hl 3 rfl) ?_
        refine pu_Vi (rest := []) S hC (f1_Trees_countOf l γ A κ φ ψ x1) meTrees_countOf qw_75eb836d1a ⟨Nat.le_of_ble_eq_true rfl, Nat.le_of_ble_eq_true rfl⟩ (rv_1 hC hI) hG rfl hl.1 rfl (Nat.le_of_ble_eq_true rfl) dTypeBook_enumeration_64 ⟨(by show _ ≤ 50000; omega), (by show _ ≤ 1000000; omega)⟩ (fun r47 hr47 => ?_)
        obtain ⟨hr47, er47⟩ := hr47
        obtain ⟨hkr47, hnr47⟩ := le_ok2 hr47 (by omega)
        refine lv_istore (lv' := [(4, .int r47), (3, .int r45), (2, .int r43), (0, .ref (γ.2.2.2 0)), (1, .int x1)]) hx hb dTypeBook_enumeration_67 hl (by decide) rfl (fun ls hl => ?_)
        refine lv_aload_n hx hb dTypeBook_enumeration_69 rfl (lv_at hl 3 rfl) ?_
        refine of_get S hC (of_0_2 hI) in_TypeBook rfl (by decide) qw_393f431be6 dTypeBook_enumeration_70 ?_
        refine of_getN S hC (of_3_4 hI) in_Types rfl (by decide) qn_cc358838e1 dTypeBook_enumeration_73 ?_
        refine lv_topi (fun v48 ev48 => ?_)
        have ev48 : v48 = nI (κ 4) := ev48
        refine lv_sipush (v := 1000) hx hb dTypeBook_enumeration_76 (by decide) ?_
        refine lv_icmp_ge (tgt := 96) hx hb dTypeBook_enumeration_79 (by decide) (fun c49 => ?_) (fun c49 => ?_)
        · refine W.up (k := 0) (n := 0) (by show 0 ≤ _; omega) (by show 0 ≤ _; omega) ?_
          exact J96 ls _ _ φ ψ x1 r43 r45 r47 hG hS (by subst ev48 er47 er45 er43 er41; exact hO.tr ((if_neg c42).trans ((if_pos c44).trans ((if_pos c46).trans (if_pos c49))))) (lv_sub hl [3, 4, 2, 1, 0] rfl)
        · refine lv_aload_n hx hb dTypeBook_enumeration_82 rfl (lv_at hl 3 rfl) ?_
          refine of_get S hC (of_0_1 hI) in_TypeBook rfl (by decide) qw_a088f6ef48 dTypeBook_enumeration_83 ?_
          refine lv_iload hx hb dTypeBook_enumeration_86 (lv_at hl 0 rfl) ?_
          refine lv_iconst (v := 1) hx hb dTypeBook_enumeration_88 (by decide) ?_
          refine lv_iadd hx hb dTypeBook_enumeration_89 ?_
          refine lv_topi (fun v50 ev50 => ?_)
          have hv50 := cnt_s hnr47 ev50
          have ehr51 : Value.int v50 = .int (nI (r47.toNatClampNeg + 1)) := by rw [hv50]
          rw [ehr51]
          refine vp_callSi (va_Run.run (va_runV (As := [.int (nI (r47.toNatClampNeg + 1))]) (rest := []) S (fk_haveRoom l γ A κ s0 hw0 hA0 (r47.toNatClampNeg + 1) (by omega)) (bs_cwV hW meNames_haveRoom qw_bd2f27f55e rfl rfl ⟨Nat.le_of_ble_eq_true rfl, Nat.le_of_ble_eq_true rfl⟩) ⟨hr_blind, rv_2 hC hI, fun U hU hW9 => ⟨rfl, hC.warm hW9, by rw [hU]; exact (hF0.step hA0 hS.1 hS.2.1).warm hW9, by rw [hU]; exact hI⟩⟩ rfl rfl hl.1 rfl (lv_room (Nat.le_of_ble_eq_true rfl)) dTypeBook_enumeration_90 ⟨by show 0 + 0 ≤ 50000; omega, by show 0 + 0 ≤ 1000000; omega⟩)) (fun r51 hr51 => ?_)
          obtain ⟨hr51, er51⟩ := hr51
          refine lv_if_ne (tgt := 106) hx hb dTypeBook_enumeration_93 (by decide) (fun c52 => ?_) (fun c52 => ?_)
          · have hN2 : κ 2 + (r47.toNatClampNeg + 1) ≤ 3012 := Or.resolve_left (by assumption) (by assumption)
            have hN4 : κ 4 < 1000 := nge_ok (N := κ 4) (M := 1000) (by assumption) rfl (by assumption) (by omega) (by omega)
            have hwc13 := wcm (n := κ 13) (N := κ 4 + 1) (by omega) (by omega)
            have hwc12 := wcm (n := κ 12) (N := κ 2 + 1) (by omega) (by omega)
            refine lv_aload_n hx hb dTypeBook_enumeration_106 rfl (lv_at hl 3 rfl) ?_
            refine of_get S hC (of_0_2 hI) in_TypeBook rfl (by decide) qw_393f431be6 dTypeBook_enumeration_107 ?_
            refine lv_iconst (v := 4) hx hb dTypeBook_enumeration_110 (by decide) ?_
            refine lv_iconst (v := 0) hx hb dTypeBook_enumeration_111 (by decide) ?_
            refine lv_iload hx hb dTypeBook_enumeration_112 (lv_at hl 0 rfl) ?_
            refine lv_iconst (v := 1) hx hb dTypeBook_enumeration_114 (by decide) ?_
            refine lv_isub hx hb dTypeBook_enumeration_115 ?_
            refine lv_topi (fun v53 ev53 => ?_)
            refine lv_iload hx hb dTypeBook_enumeration_116 (lv_at hl 0 rfl) ?_
            refine mu_Vi (rest := []) S hC (fun q h => hA q (Nat.le_trans hS.1 h)) (fun q h => h) hS (f3_Types_put l γ A κ φ ψ 4 0 v53 r47 (by show κ 4 ≤ 4000; omega)) meTypes_put qw_90d427dfca ⟨Nat.le_of_ble_eq_true rfl, Nat.le_of_ble_eq_true rfl⟩ (rv_3 hC hI) hG rfl hl.1 rfl (Nat.le_of_ble_eq_true rfl) dTypeBook_enumeration_118 ⟨(by show 0 + (0 + wc (κ 13) (κ 4 + 1) + wc (κ 13) (κ 4 + 1) + wc (κ 13) (κ 4 + 1) + wc (κ 13) (κ 4 + 1)) ≤ 50000; omega), (by show 0 + (0 + wm (κ 13) (κ 4 + 1) + wm (κ 13) (κ 4 + 1) + wm (κ 13) (κ 4 + 1) + wm (κ 13) (κ 4 + 1)) ≤ 1000000; omega)⟩ (fun r54 H locs ⟨er54, hG⟩ hS _ _ => ?_)
            refine W.cs (cells' := 0 + (0 + wc (κ 13) (κ 4 + 1) + wc (κ 13) (κ 4 + 1) + wc (κ 13) (κ 4 + 1) + wc (κ 13) (κ 4 + 1))) (slots' := 0 + (0 + wm (κ 13) (κ 4 + 1) + wm (κ 13) (κ 4 + 1) + wm (κ 13) (κ 4 + 1) + wm (κ 13) (κ 4 + 1))) rfl rfl ?_
            have er54 : r54 = (P_Types_put ((κ 4)) ((κ 13)) (φ 4) 4 0 v53 r47).1 := er54
            have hG : INVF γ A (ku (ku κ 4 (κ 4 + 1)) 13 (wl (κ 13) (κ 4 + 1))) (up φ 4 (P_Types_put ((κ 4)) ((κ 13)) (φ 4) 4 0 v53 r47).2) ψ _ := hG
            obtain ⟨φ55, eφ55⟩ : ∃ z : gF, z = up φ 4 (P_Types_put ((κ 4)) ((κ 13)) (φ 4) 4 0 v53 r47).2 := ⟨_, rfl⟩
            rw [← eφ55] at hG
            have hI := inv_of hG
            refine lv_istore (lv' := [(5, .int r54), (4, .int r47), (3, .int r45), (2, .int r43), (0, .ref (γ.2.2.2 0)), (1, .int x1)]) hx hb dTypeBook_enumeration_121 hl (by decide) rfl (fun ls hl => ?_)
            refine lv_aload_n hx hb dTypeBook_enumeration_123 rfl (lv_at hl 4 rfl) ?_
            refine of_get S hC (of_0_1 hI) in_TypeBook rfl (by decide) qw_a088f6ef48 dTypeBook_enumeration_124 ?_
            refine lv_aload_n hx hb dTypeBook_enumeration_127 rfl (lv_at hl 4 rfl) ?_
            refine of_get S hC (of_0_0 hI) in_TypeBook rfl (by decide) qw_6151ee7924 dTypeBook_enumeration_128 ?_
            refine lv_iload_n hx hb dTypeBook_enumeration_131 rfl (lv_at hl 5 rfl) ?_
            refine pu_Vi (rest := [.ref (γ.2.2.2 2)]) S hC (f1_Trees_valueOf l γ A (ku (ku κ 4 (κ 4 + 1)) 13 (wl (κ 13) (κ 4 + 1))) φ55 ψ x1) meTrees_valueOf qw_1062a20d6a ⟨Nat.le_of_ble_eq_true rfl, Nat.le_of_ble_eq_true rfl⟩ (rv_1 hC hI) hG rfl hl.1 rfl (Nat.le_of_ble_eq_true rfl) dTypeBook_enumeration_132 ⟨(by show _ ≤ 50000; omega), (by show _ ≤ 1000000; omega)⟩ (fun r56 hr56 => ?_)
            obtain ⟨hr56, er56⟩ := hr56
            refine lv_iconst (v := 1) hx hb dTypeBook_enumeration_135 (by decide) ?_
            refine lv_iload hx hb dTypeBook_enumeration_136 (lv_at hl 0 rfl) ?_
            refine lv_iconst (v := 0) hx hb dTypeBook_enumeration_138 (by decide) ?_
            refine mu_Vv (rest := []) S hC (fun q h => hA q (Nat.le_trans hS.1 h)) (fun q h => h) hS (f2_Names_put l γ A (ku (ku κ 4 (κ 4 + 1)) 13 (wl (κ 13) (κ 4 + 1))) φ55 ψ r56 1 r54 0 (by show κ 2 ≤ 4000; omega)) meNames_put qw_b1d56e075d ⟨Nat.le_of_ble_eq_true rfl, Nat.le_of_ble_eq_true rfl⟩ (rv_2 hC hI) hG rfl hl.1 rfl (Nat.le_of_ble_eq_true rfl) dTypeBook_enumeration_139 ⟨(by show 0 + (0 + wc (κ 13) (κ 4 + 1) + wc (κ 13) (κ 4 + 1) + wc (κ 13) (κ 4 + 1) + wc (κ 13) (κ 4 + 1)) + (0 + wc (κ 12) (κ 2 + 1) + wc (κ 12) (κ 2 + 1) + wc (κ 12) (κ 2 + 1) + wc (κ 12) (κ 2 + 1) + wc (κ 12) (κ 2 + 1)) ≤ 50000; omega), (by show 0 + (0 + wm (κ 13) (κ 4 + 1) + wm (κ 13) (κ 4 + 1) + wm (κ 13) (κ 4 + 1) + wm (κ 13) (κ 4 + 1)) + (0 + wm (κ 12) (κ 2 + 1) + wm (κ 12) (κ 2 + 1) + wm (κ 12) (κ 2 + 1) + wm (κ 12) (κ 2 + 1) + wm (κ 12) (κ 2 + 1)) ≤ 1000000; omega)⟩ (fun H locs hG hS _ _ => ?_)
            refine W.cs (cells' := 0 + (0 + wc (κ 13) (κ 4 + 1) + wc (κ 13) (κ 4 + 1) + wc (κ 13) (κ 4 + 1) + wc (κ 13) (κ 4 + 1)) + (0 + wc (κ 12) (κ 2 + 1) + wc (κ 12) (κ 2 + 1) + wc (κ 12) (κ 2 + 1) + wc (κ 12) (κ 2 + 1) + wc (κ 12) (κ 2 + 1))) (slots' := 0 + (0 + wm (κ 13) (κ 4 + 1) + wm (κ 13) (κ 4 + 1) + wm (κ 13) (κ 4 + 1) + wm (κ 13) (κ 4 + 1)) + (0 + wm (κ 12) (κ 2 + 1) + wm (κ 12) (κ 2 + 1) + wm (κ 12) (κ 2 + 1) + wm (κ 12) (κ 2 + 1) + wm (κ 12) (κ 2 + 1))) rfl rfl ?_
            have hG : INVF γ A (ku (ku (ku (ku κ 4 (κ 4 + 1)) 13 (wl (κ 13) (κ 4 + 1))) 2 (κ 2 + 1)) 12 (wl (κ 12) (κ 2 + 1))) (up φ55 3 (P_Names_put ((κ 2)) ((κ 3)) ((κ 12)) (φ55 3) r56 1 r54 0)) ψ _ := hG
            obtain ⟨φ58, eφ58⟩ : ∃ z : gF, z = up φ55 3 (P_Names_put ((κ 2)) ((κ 3)) ((κ 12)) (φ55 3) r56 1 r54 0) := ⟨_, rfl⟩
            rw [← eφ58] at hG
            have hI := inv_of hG
            refine lv_iconst (v := 0) hx hb dTypeBook_enumeration_142 (by decide) ?_
            refine lv_istore (lv' := [(6, .int 0), (5, .int r54), (4, .int r47), (3, .int r45), (2, .int r43), (0, .ref (γ.2.2.2 0)), (1, .int x1)]) hx hb dTypeBook_enumeration_143 hl (by decide) rfl (fun ls hl => ?_)
            have hLv : LLn (κ 12) (κ 2) (0 : Int32).toNatClampNeg = wl (κ 12) (κ 2 + 1) := rfl
            refine W.up (k := 0 + wc (κ 13) (κ 4 + 1) + wc (κ 13) (κ 4 + 1) + wc (κ 13) (κ 4 + 1) + wc (κ 13) (κ 4 + 1) + 5 * (LLn (κ 12) (κ 2) (0 : Int32).toNatClampNeg - κ 12)) (n := 0 + wm (κ 13) (κ 4 + 1) + wm (κ 13) (κ 4 + 1) + wm (κ 13) (κ 4 + 1) + wm (κ 13) (κ 4 + 1) + 10 * (LLn (κ 12) (κ 2) (0 : Int32).toNatClampNeg - κ 12)) (by show 0 + (0 + wc (κ 13) (κ 4 + 1) + wc (κ 13) (κ 4 + 1) + wc (κ 13) (κ 4 + 1) + wc (κ 13) (κ 4 + 1)) + (0 + wc (κ 12) (κ 2 + 1) + wc (κ 12) (κ 2 + 1) + wc (κ 12) (κ 2 + 1) + wc (κ 12) (κ 2 + 1) + wc (κ 12) (κ 2 + 1)) ≤ _; omega) (by show 0 + (0 + wm (κ 13) (κ 4 + 1) + wm (κ 13) (κ 4 + 1) + wm (κ 13) (κ 4 + 1) + wm (κ 13) (κ 4 + 1)) + (0 + wm (κ 12) (κ 2 + 1) + wm (κ 12) (κ 2 + 1) + wm (κ 12) (κ 2 + 1) + wm (κ 12) (κ 2 + 1) + wm (κ 12) (κ 2 + 1)) ≤ _; omega) ?_
            have hG : INVF γ A (ku (ku (ku (ku κ 4 (κ 4 + 1)) 13 (wl (κ 13) (κ 4 + 1))) 2 (κ 2 + 1 + (0 : Int32).toNatClampNeg)) 12 (LLn (κ 12) (κ 2) (0 : Int32).toNatClampNeg)) φ58 ψ _ := hG
            exact J145 _ ls _ _ φ58 ψ x1 r43 r45 r47 r54 0 hG hS (by assumption) rfl hN2 hN4 (Nat.zero_le _) (by rw [hLv]; omega) (by subst eφ58 er56 eφ55 er54 ev53 er51 ev50 ev48 er47 er45 er43 er41; exact hO.tr ((if_neg c42).trans ((if_pos c44).trans ((if_pos c46).trans ((if_neg c49).trans (if_neg c52)))))) rfl (lv_sub hl [5, 6, 4, 3, 2, 1, 0] rfl)
          · refine W.up (k := 0) (n := 0) (by show 0 ≤ _; omega) (by show 0 ≤ _; omega) ?_
            exact J96 ls _ _ φ ψ x1 r43 r45 r47 hG hS (by subst er51 ev50 ev48 er47 er45 er43 er41; exact hO.tr ((if_neg c42).trans ((if_pos c44).trans ((if_pos c46).trans ((if_neg c49).trans (if_pos c52)))))) (lv_sub hl [3, 4, 2, 1, 0] rfl)
      · refine lv_aload_n hx hb dTypeBook_enumeration_51 rfl (lv_at hl 2 rfl) ?_
        refine lv_bipush (v := 7) hx hb dTypeBook_enumeration_52 (by decide) ?_
        refine lv_iload_n hx hb dTypeBook_enumeration_54 rfl (lv_at hl 0 rfl) ?_
        refine mu_Vi (rest := []) S hC (fun q h => hA q (Nat.le_trans hS.1 h)) (fun q h => h) hS (f_TypeBook_refused l γ A κ φ ψ 7 r45) meTypeBook_refused qw_fa3e8c2955 ⟨Nat.le_of_ble_eq_true rfl, Nat.le_of_ble_eq_true rfl⟩ (rv_0 hC hI) hG rfl hl.1 rfl (Nat.le_of_ble_eq_true rfl) dTypeBook_enumeration_55 ⟨(by show 0 + 0 ≤ 50000; omega), (by show 0 + 0 ≤ 1000000; omega)⟩ (fun r59 H locs ⟨er59, hG⟩ hS _ _ => ?_)
        have hG : INVF γ A κ (P_TypeBook_refused κ φ ψ 7 r45).2.1 (P_TypeBook_refused κ φ ψ 7 r45).2.2 _ := hG
        obtain ⟨φ60, eφ60⟩ : ∃ z : gF, z = (P_TypeBook_refused κ φ ψ 7 r45).2.1 := ⟨_, rfl⟩
        rw [← eφ60] at hG
        obtain ⟨ψ61, eψ61⟩ : ∃ z : gG, z = (P_TypeBook_refused κ φ ψ 7 r45).2.2 := ⟨_, rfl⟩
        rw [← eψ61] at hG
        have hI := inv_of hG
        rw [hQ]
        refine tx_endI S hret hlk hS (by show 0 ≤ 50000; omega) (by show 0 ≤ 1000000; omega) (fun hGR => ?_) dTypeBook_enumeration_58
        have hO2 : Oq OUT (0, r59, κ, φ60, ψ61) := (by subst eψ61 eφ60 er59 er45 er43 er41; exact hO.tr ((if_neg c42).trans ((if_pos c44).trans (if_neg c46))))
        rw [hO2.eq]
        exact pbf_of hG hGR (by show 5 * (κ 6) + 5 * (κ 7) + 4 * (κ 8) + 4 * (κ 9) + 4 * (κ 10) + 4 * (κ 11) + 5 * (κ 12) + 4 * (κ 13) + 3 * (κ 14) + 1 * (κ 15) ≤ 5 * (κ 6) + 5 * (κ 7) + 4 * (κ 8) + 4 * (κ 9) + 4 * (κ 10) + 4 * (κ 11) + 5 * (κ 12) + 4 * (κ 13) + 3 * (κ 14) + 1 * (κ 15); omega) (by show 0 ≤ (5 * (κ 6) + 5 * (κ 7) + 4 * (κ 8) + 4 * (κ 9) + 4 * (κ 10) + 4 * (κ 11) + 5 * (κ 12) + 4 * (κ 13) + 3 * (κ 14) + 1 * (κ 15)) - (5 * (κ 6) + 5 * (κ 7) + 4 * (κ 8) + 4 * (κ 9) + 4 * (κ 10) + 4 * (κ 11) + 5 * (κ 12) + 4 * (κ 13) + 3 * (κ 14) + 1 * (κ 15)) + 1; omega) (by show 0 ≤ 2 * ((5 * (κ 6) + 5 * (κ 7) + 4 * (κ 8) + 4 * (κ 9) + 4 * (κ 10) + 4 * (κ 11) + 5 * (κ 12) + 4 * (κ 13) + 3 * (κ 14) + 1 * (κ 15)) - (5 * (κ 6) + 5 * (κ 7) + 4 * (κ 8) + 4 * (κ 9) + 4 * (κ 10) + 4 * (κ 11) + 5 * (κ 12) + 4 * (κ 13) + 3 * (κ 14) + 1 * (κ 15))) + 6; omega)
    · refine lv_aload_n hx hb dTypeBook_enumeration_32 rfl (lv_at hl 1 rfl) ?_
      refine lv_bipush (v := 11) hx hb dTypeBook_enumeration_33 (by decide) ?_
      refine lv_iload_n hx hb dTypeBook_enumeration_35 rfl (lv_at hl 0 rfl) ?_
      refine mu_Vi (rest := []) S hC (fun q h => hA q (Nat.le_trans hS.1 h)) (fun q h => h) hS (f_TypeBook_refused l γ A κ φ ψ 11 r43) meTypeBook_refused qw_fa3e8c2955 ⟨Nat.le_of_ble_eq_true rfl, Nat.le_of_ble_eq_true rfl⟩ (rv_0 hC hI) hG rfl hl.1 rfl (Nat.le_of_ble_eq_true rfl) dTypeBook_enumeration_36 ⟨(by show 0 + 0 ≤ 50000; omega), (by show 0 + 0 ≤ 1000000; omega)⟩ (fun r62 H locs ⟨er62, hG⟩ hS _ _ => ?_)
      have hG : INVF γ A κ (P_TypeBook_refused κ φ ψ 11 r43).2.1 (P_TypeBook_refused κ φ ψ 11 r43).2.2 _ := hG
      obtain ⟨φ63, eφ63⟩ : ∃ z : gF, z = (P_TypeBook_refused κ φ ψ 11 r43).2.1 := ⟨_, rfl⟩
      rw [← eφ63] at hG
      obtain ⟨ψ64, eψ64⟩ : ∃ z : gG, z = (P_TypeBook_refused κ φ ψ 11 r43).2.2 := ⟨_, rfl⟩
      rw [← eψ64] at hG
      have hI := inv_of hG
      rw [hQ]
      refine tx_endI S hret hlk hS (by show 0 ≤ 50000; omega) (by show 0 ≤ 1000000; omega) (fun hGR => ?_) dTypeBook_enumeration_39
      have hO2 : Oq OUT (0, r62, κ, φ63, ψ64) := (by subst eψ64 eφ63 er62 er43 er41; exact hO.tr ((if_neg c42).trans (if_neg c44)))
      rw [hO2.eq]
      exact pbf_of hG hGR (by show 5 * (κ 6) + 5 * (κ 7) + 4 * (κ 8) + 4 * (κ 9) + 4 * (κ 10) + 4 * (κ 11) + 5 * (κ 12) + 4 * (κ 13) + 3 * (κ 14) + 1 * (κ 15) ≤ 5 * (κ 6) + 5 * (κ 7) + 4 * (κ 8) + 4 * (κ 9) + 4 * (κ 10) + 4 * (κ 11) + 5 * (κ 12) + 4 * (κ 13) + 3 * (κ 14) + 1 * (κ 15); omega) (by show 0 ≤ (5 * (κ 6) + 5 * (κ 7) + 4 * (κ 8) + 4 * (κ 9) + 4 * (κ 10) + 4 * (κ 11) + 5 * (κ 12) + 4 * (κ 13) + 3 * (κ 14) + 1 * (κ 15)) - (5 * (κ 6) + 5 * (κ 7) + 4 * (κ 8) + 4 * (κ 9) + 4 * (κ 10) + 4 * (κ 11) + 5 * (κ 12) + 4 * (κ 13) + 3 * (κ 14) + 1 * (κ 15)) + 1; omega) (by show 0 ≤ 2 * ((5 * (κ 6) + 5 * (κ 7) + 4 * (κ 8) + 4 * (κ 9) + 4 * (κ 10) + 4 * (κ 11) + 5 * (κ 12) + 4 * (κ 13) + 3 * (κ 14) + 1 * (κ 15)) - (5 * (κ 6) + 5 * (κ 7) + 4 * (κ 8) + 4 * (κ 9) + 4 * (κ 10) + 4 * (κ 11) + 5 * (κ 12) + 4 * (κ 13) + 3 * (κ 14) + 1 * (κ 15))) + 6; omega)
  · obtain ⟨sa11, hsa11⟩ := hw0.2.2.2.1 R_TypeBook 117 "no such node" (in_tables_1_3 (List.mem_of_getElem? (i := 32) rfl))
    rw [hQ]
    refine tx_throw (s0 := s0) (names := ["java/lang/RuntimeException", "java/lang/Exception"]) (text := "no such node") (sa := sa11) S hst hX hlk (by decide +kernel) (by decide +kernel) qw_ae3ba0ca69 qw_d4b771d349 (hF0.step hA0 hS.1 hS.2.1) hsa11 (ta_IOB hW hw0) hl.1 dTypeBook_enumeration_11 dTypeBook_enumeration_14 dTypeBook_enumeration_15 dTypeBook_enumeration_17 dTypeBook_enumeration_20 (Nat.lt_of_lt_of_le (by decide) (Nat.le_of_ble_eq_true rfl : 6 ≤ _)) (Nat.le_of_ble_eq_true rfl) (by show 0 + 1 ≤ 50000; omega) (by show 0 + 6 ≤ 1000000; omega) (fun H1 hGR hz ho => ?_) hS.2.2 (by show 0 + 1 ≤ 50000; omega) (by show 0 + 6 ≤ 1000000; omega)
    have hO2 : Oq OUT (1, 0, κ, φ, ψ) := (by subst er41; exact hO.tr (if_pos c42))
    rw [hO2.eq]
    exact ⟨⟨1, by decide, pbf_of (invf_more hG ho) hGR (by show 5 * (κ 6) + 5 * (κ 7) + 4 * (κ 8) + 4 * (κ 9) + 4 * (κ 10) + 4 * (κ 11) + 5 * (κ 12) + 4 * (κ 13) + 3 * (κ 14) + 1 * (κ 15) ≤ 5 * (κ 6) + 5 * (κ 7) + 4 * (κ 8) + 4 * (κ 9) + 4 * (κ 10) + 4 * (κ 11) + 5 * (κ 12) + 4 * (κ 13) + 3 * (κ 14) + 1 * (κ 15); omega) (by show 0 + 1 ≤ (5 * (κ 6) + 5 * (κ 7) + 4 * (κ 8) + 4 * (κ 9) + 4 * (κ 10) + 4 * (κ 11) + 5 * (κ 12) + 4 * (κ 13) + 3 * (κ 14) + 1 * (κ 15)) - (5 * (κ 6) + 5 * (κ 7) + 4 * (κ 8) + 4 * (κ 9) + 4 * (κ 10) + 4 * (κ 11) + 5 * (κ 12) + 4 * (κ 13) + 3 * (κ 14) + 1 * (κ 15)) + 1; omega) (by show 0 + 6 ≤ 2 * ((5 * (κ 6) + 5 * (κ 7) + 4 * (κ 8) + 4 * (κ 9) + 4 * (κ 10) + 4 * (κ 11) + 5 * (κ 12) + 4 * (κ 13) + 3 * (κ 14) + 1 * (κ 15)) - (5 * (κ 6) + 5 * (κ 7) + 4 * (κ 8) + 4 * (κ 9) + 4 * (κ 10) + 4 * (κ 11) + 5 * (κ 12) + 4 * (κ 13) + 3 * (κ 14) + 1 * (κ 15))) + 6; omega)⟩, fr_more hS hz ho⟩
