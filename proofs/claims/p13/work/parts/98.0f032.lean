def P_Looker_makeRoom (κ : Nat → Nat) (φ : gF) (ψ : gG) (N : Nat) : gF × gG := (up ((P_Looks_makeRoom9 κ φ ψ N).1) 1 (up (((P_Looks_makeRoom9 κ φ ψ N).1) 1) 0 (P_wr (κ 15) (N) ((((P_Looks_makeRoom9 κ φ ψ N).1) 1) 0))), ((P_Looks_makeRoom9 κ φ ψ N).2))
set_option maxHeartbeats 4000000 in
set_option maxRecDepth 100000 in
theorem f_Looker_makeRoom (l : Launch) (γ : gE) (A : Nat → Prop) (κ : Nat → Nat) (φ : gF) (ψ : gG) (N : Nat) (hN : N ≤ 4096): MU l yLooker_makeRoom bLooker_makeRoom 2 (none) 4 124 (0 + (0 + wc (κ 7) (N) + wc (κ 7) (N) + wc (κ 7) (N) + wc (κ 7) (N) + wc (κ 7) (N) + wc (κ 10) N) + wc (κ 15) (N)) (0 + (0 + wm (κ 7) (N) + wm (κ 7) (N) + wm (κ 7) (N) + wm (κ 7) (N) + wm (κ 7) (N) + 4 * wm (κ 10) N) + wm (κ 15) (N)) [.ref (γ.2.2.2 8), .int (nI N)] γ A (INVF γ A κ φ ψ) (mQv (fun H => INVF γ A (ku (ku (ku κ 7 (wl (κ 7) (N))) 10 (wl (κ 10) N)) 15 (wl (κ 15) (N))) (P_Looker_makeRoom κ φ ψ N).1 (P_Looker_makeRoom κ φ ψ N).2 H) A) := by
  refine mu_openV (by decide) (Nat.le_of_ble_eq_true rfl) ?_
  intro p e s m args below meth c ls Q S hnm hC hA hG hE hl
  obtain ⟨hx, hb, hml, hown, hW⟩ := id S
  have hI := inv_of hG
  have hS : va_S A s.heap s.heap [] := va_S.rf
  have hl : lv_has ls 2 [(0, .ref (γ.2.2.2 8)), (1, .int (nI N))] := hl
  have hb9 : κ 15 ≤ 8192 ∧ 64 ≤ κ 15 := (by obtain ⟨_, w9, ⟨_, _, _, _, _, h1, h2⟩, _, _⟩ := inv_c hI 1 (by decide) (by decide); exact ⟨h1, h2⟩)
  have hwl := wl_ok (n := κ 15) (N := N) (by omega) (by omega)
  obtain ⟨OUT, hQ, hO⟩ : ∃ z, (z = P_Looker_makeRoom κ φ ψ N) ∧ Oq z (P_Looker_makeRoom κ φ ψ N) := ⟨_, rfl, rfl⟩
  rw [← hQ] at hE
  clear hQ
  refine lv_aload_n hx hb dLooker_makeRoom_0 rfl (lv_at hl 0 rfl) ?_
  refine of_get S hC (of_8_3 hI) in_Looker rfl (by decide) qw_77aeadf252 dLooker_makeRoom_1 ?_
  refine lv_iload_n hx hb dLooker_makeRoom_4 rfl (lv_at hl 1 rfl) ?_
  refine mu_Vv (rest := []) S hC (fun q h => hA q (Nat.le_trans hS.1 h)) (fun q h => h) hS (f9_Looks_makeRoom l γ A κ φ ψ N (by omega)) meLooks_makeRoom qw_7bace46e86 ⟨Nat.le_of_ble_eq_true rfl, Nat.le_of_ble_eq_true rfl⟩ (rv_9 hC hI) hG rfl hl.1 rfl (Nat.le_of_ble_eq_true rfl) dLooker_makeRoom_5 ⟨(by show 0 + (0 + wc (κ 7) (N) + wc (κ 7) (N) + wc (κ 7) (N) + wc (κ 7) (N) + wc (κ 7) (N) + wc (κ 10) N) ≤ 0 + (0 + wc (κ 7) (N) + wc (κ 7) (N) + wc (κ 7) (N) + wc (κ 7) (N) + wc (κ 7) (N) + wc (κ 10) N) + wc (κ 15) (N); omega), (by show 0 + (0 + wm (κ 7) (N) + wm (κ 7) (N) + wm (κ 7) (N) + wm (κ 7) (N) + wm (κ 7) (N) + 4 * wm (κ 10) N) ≤ 0 + (0 + wm (κ 7) (N) + wm (κ 7) (N) + wm (κ 7) (N) + wm (κ 7) (N) + wm (κ 7) (N) + 4 * wm (κ 10) N) + wm (κ 15) (N); omega)⟩ (fun H locs hG hS _ _ => ?_)
  refine W.cs (cells' := 0 + (0 + wc (κ 7) (N) + wc (κ 7) (N) + wc (κ 7) (N) + wc (κ 7) (N) + wc (κ 7) (N) + wc (κ 10) N)) (slots' := 0 + (0 + wm (κ 7) (N) + wm (κ 7) (N) + wm (κ 7) (N) + wm (κ 7) (N) + wm (κ 7) (N) + 4 * wm (κ 10) N)) rfl rfl ?_
  have hG : INVF γ A (ku (ku κ 7 (wl (κ 7) (N))) 10 (wl (κ 10) N)) (P_Looks_makeRoom9 κ φ ψ N).1 (P_Looks_makeRoom9 κ φ ψ N).2 _ := hG
  obtain ⟨φ8, eφ8⟩ : ∃ z : gF, z = (P_Looks_makeRoom9 κ φ ψ N).1 := ⟨_, rfl⟩
  rw [← eφ8] at hG
  obtain ⟨ψ9, eψ9⟩ : ∃ z : gG, z = (P_Looks_makeRoom9 κ φ ψ N).2 := ⟨_, rfl⟩
  rw [← eψ9] at hG
  have hI := inv_of hG
  refine lv_aload_n hx hb dLooker_makeRoom_8 rfl (lv_at hl 0 rfl) ?_
  refine lv_aload_n hx hb dLooker_makeRoom_9 rfl (lv_at hl 0 rfl) ?_
  obtain ⟨Z_2, ⟨ws_2, ⟨b0_2, rfl, h1_2, h2_2⟩, hP, hD⟩, hZn, hZA, hback⟩ := ing_lift hG (fun q h => hA q (Nat.le_trans hS.1 h)) 1 (by decide) (by decide)
  have hP : va_P γ.1 vwCl [(γ.2.2.2 0, .inr (0, [.ref (γ.2.2.2 1), .ref (γ.2.2.2 2), .ref (γ.2.2.2 3), .ref (γ.2.2.2 4), .ref (γ.2.2.2 6), .ref (γ.2.2.2 8), .int ((φ8 1) 1 0)])), (γ.2.2.2 8, .inr (7, [.ref (γ.2.2.2 1), .ref (γ.2.2.2 2), .ref (γ.2.2.2 3), .ref (γ.2.2.2 9), .ref (γ.2.2.2 11), .ref (γ.2.2.2 12), .ref b0_2, .int ((φ8 1) 2 0)])), (γ.2.2.2 11, .inr (8, [.ref (γ.2.2.2 9)])), (γ.2.2.2 12, .inr (9, [.ref (γ.2.2.2 1), .ref (γ.2.2.2 2), .ref (γ.2.2.2 3), .ref (γ.2.2.2 4), .ref (γ.2.2.2 9)])), (b0_2, .inl (γ.2.1, κ 15, .inl ((φ8 1) 0)))] _ := hP
  have hD : va_D Z_2 [(γ.2.2.2 0, .inr (0, [.ref (γ.2.2.2 1), .ref (γ.2.2.2 2), .ref (γ.2.2.2 3), .ref (γ.2.2.2 4), .ref (γ.2.2.2 6), .ref (γ.2.2.2 8), .int ((φ8 1) 1 0)])), (γ.2.2.2 8, .inr (7, [.ref (γ.2.2.2 1), .ref (γ.2.2.2 2), .ref (γ.2.2.2 3), .ref (γ.2.2.2 9), .ref (γ.2.2.2 11), .ref (γ.2.2.2 12), .ref b0_2, .int ((φ8 1) 2 0)])), (γ.2.2.2 11, .inr (8, [.ref (γ.2.2.2 9)])), (γ.2.2.2 12, .inr (9, [.ref (γ.2.2.2 1), .ref (γ.2.2.2 2), .ref (γ.2.2.2 3), .ref (γ.2.2.2 4), .ref (γ.2.2.2 9)])), (b0_2, .inl (γ.2.1, κ 15, .inl ((φ8 1) 0)))] := hD
  have hfz := fz.rf Z_2 (H := _) hP
  refine va_get (D := γ.1) (ci := 7) (v := .ref b0_2) (C := R_Looker) (T := T_Looker) (N := 8) (Ts := bs_W0) hx hb hW in_Looker hown hC.1 hP 1 rfl rfl 6 (by decide) (hW _ qw_899a0812ea) (fun _ h9 => h9) rfl dLooker_makeRoom_10 ?_
  refine lv_iload_n hx hb dLooker_makeRoom_13 rfl (lv_at hl 1 rfl) ?_
  refine mu_Tr (rest := [.ref (γ.2.2.2 8)]) S hC (fun q h => hZn q (Nat.le_trans hfz.1 h)) hZA hS (cx_withRoom l γ Z_2 b0_2 (κ 15) (N) ((φ8 1) 0) _ (by omega) (by omega)) meTypeBook_withRoom (hC.2 _ qn_96bc77af43 rfl) ⟨Nat.le_of_ble_eq_true rfl, Nat.le_of_ble_eq_true rfl⟩ ⟨rfl, hD.2 4 _ rfl, hP 4 _ rfl⟩ rfl hl.1 rfl (Nat.le_of_ble_eq_true rfl) dLooker_makeRoom_14 ⟨(by show _ ≤ 0 + (0 + wc (κ 7) (N) + wc (κ 7) (N) + wc (κ 7) (N) + wc (κ 7) (N) + wc (κ 7) (N) + wc (κ 10) N) + wc (κ 15) (N); omega), (by show _ ≤ 0 + (0 + wm (κ 7) (N) + wm (κ 7) (N) + wm (κ 7) (N) + wm (κ 7) (N) + wm (κ 7) (N) + 4 * wm (κ 10) N) + wm (κ 15) (N); omega)⟩ (fun r10 Hr10 locs hPO hS _ _ => ?_)
  obtain ⟨g1r10, g2r10, g3r10, g4r10, g5r10⟩ := hPO
  have hfz := hfz.step g3r10 (fun q h _ => g4r10 q h)
  obtain ⟨hP, hD⟩ := wr_join (i := 4) hP hD rfl g4r10 g5r10 g1r10 g2r10
  obtain ⟨fc11, efc11⟩ : ∃ z : gf, z = up (φ8 1) 0 (P_wr (κ 15) (N) ((φ8 1) 0)) := ⟨_, rfl⟩
  have hP : va_P γ.1 vwCl [(γ.2.2.2 0, .inr (0, [.ref (γ.2.2.2 1), .ref (γ.2.2.2 2), .ref (γ.2.2.2 3), .ref (γ.2.2.2 4), .ref (γ.2.2.2 6), .ref (γ.2.2.2 8), .int (fc11 1 0)])), (γ.2.2.2 8, .inr (7, [.ref (γ.2.2.2 1), .ref (γ.2.2.2 2), .ref (γ.2.2.2 3), .ref (γ.2.2.2 9), .ref (γ.2.2.2 11), .ref (γ.2.2.2 12), .ref b0_2, .int (fc11 2 0)])), (γ.2.2.2 11, .inr (8, [.ref (γ.2.2.2 9)])), (γ.2.2.2 12, .inr (9, [.ref (γ.2.2.2 1), .ref (γ.2.2.2 2), .ref (γ.2.2.2 3), .ref (γ.2.2.2 4), .ref (γ.2.2.2 9)])), (r10, .inl (γ.2.1, wl (κ 15) (N), .inl (fc11 0)))] _ := (by rw [efc11]; exact hP)
  have hD : va_D Z_2 [(γ.2.2.2 0, .inr (0, [.ref (γ.2.2.2 1), .ref (γ.2.2.2 2), .ref (γ.2.2.2 3), .ref (γ.2.2.2 4), .ref (γ.2.2.2 6), .ref (γ.2.2.2 8), .int (fc11 1 0)])), (γ.2.2.2 8, .inr (7, [.ref (γ.2.2.2 1), .ref (γ.2.2.2 2), .ref (γ.2.2.2 3), .ref (γ.2.2.2 9), .ref (γ.2.2.2 11), .ref (γ.2.2.2 12), .ref b0_2, .int (fc11 2 0)])), (γ.2.2.2 11, .inr (8, [.ref (γ.2.2.2 9)])), (γ.2.2.2 12, .inr (9, [.ref (γ.2.2.2 1), .ref (γ.2.2.2 2), .ref (γ.2.2.2 3), .ref (γ.2.2.2 4), .ref (γ.2.2.2 9)])), (r10, .inl (γ.2.1, wl (κ 15) (N), .inl (fc11 0)))] := (by rw [efc11]; exact hD)
  refine st_put (D := γ.1) (ci := 7) (v := .ref r10) (ty := .array .int) (C := R_Looker) (T := T_Looker) (N := 8) (Ts := bs_W0) hx hb hW in_Looker t_Looker t_Looker_ok n_Looker hown hC.1 hP hD hZA hS 1 rfl rfl 6 (by decide) (hW _ qw_899a0812ea) (fun _ h9 => h9) rfl (by decide +kernel) rfl rfl (Nat.le_of_ble_eq_true rfl) dLooker_makeRoom_17 (fun H locs hP1 hD1 hS hz ho => ?_)
  have hfz := hfz.put hz ho (hD.2 1 _ rfl)
  have hP := hP1
  have hD := hD1
  have hP : va_P γ.1 vwCl [(γ.2.2.2 0, .inr (0, [.ref (γ.2.2.2 1), .ref (γ.2.2.2 2), .ref (γ.2.2.2 3), .ref (γ.2.2.2 4), .ref (γ.2.2.2 6), .ref (γ.2.2.2 8), .int (fc11 1 0)])), (γ.2.2.2 8, .inr (7, [.ref (γ.2.2.2 1), .ref (γ.2.2.2 2), .ref (γ.2.2.2 3), .ref (γ.2.2.2 9), .ref (γ.2.2.2 11), .ref (γ.2.2.2 12), .ref r10, .int (fc11 2 0)])), (γ.2.2.2 11, .inr (8, [.ref (γ.2.2.2 9)])), (γ.2.2.2 12, .inr (9, [.ref (γ.2.2.2 1), .ref (γ.2.2.2 2), .ref (γ.2.2.2 3), .ref (γ.2.2.2 4), .ref (γ.2.2.2 9)])), (r10, .inl (γ.2.1, wl (κ 15) (N), .inl (fc11 0)))] _ := hP
  have hD : va_D Z_2 [(γ.2.2.2 0, .inr (0, [.ref (γ.2.2.2 1), .ref (γ.2.2.2 2), .ref (γ.2.2.2 3), .ref (γ.2.2.2 4), .ref (γ.2.2.2 6), .ref (γ.2.2.2 8), .int (fc11 1 0)])), (γ.2.2.2 8, .inr (7, [.ref (γ.2.2.2 1), .ref (γ.2.2.2 2), .ref (γ.2.2.2 3), .ref (γ.2.2.2 9), .ref (γ.2.2.2 11), .ref (γ.2.2.2 12), .ref r10, .int (fc11 2 0)])), (γ.2.2.2 11, .inr (8, [.ref (γ.2.2.2 9)])), (γ.2.2.2 12, .inr (9, [.ref (γ.2.2.2 1), .ref (γ.2.2.2 2), .ref (γ.2.2.2 3), .ref (γ.2.2.2 4), .ref (γ.2.2.2 9)])), (r10, .inl (γ.2.1, wl (κ 15) (N), .inl (fc11 0)))] := hD
  have hG : INVF γ A (ku (ku (ku κ 7 (wl (κ 7) (N))) 10 (wl (κ 10) N)) 15 (wl (κ 15) (N))) (up φ8 1 fc11) ψ9 _ := (by have h9 := hback (ku (ku (ku κ 7 (wl (κ 7) (N))) 10 (wl (κ 10) N)) 15 (wl (κ 15) (N))) fc11 (ψ9 1) _ (fun j h1 h2 h3 f g => by rcases (show j = 1 ∨ j = 2 ∨ j = 3 ∨ j = 4 ∨ j = 5 ∨ j = 6 ∨ j = 7 ∨ j = 8 ∨ j = 9 ∨ j = 10 by omega) with h | h | h | h | h | h | h | h | h | h <;> subst h <;> first | rfl | exact absurd rfl h1) ⟨_, ⟨r10, rfl, (show (wl (κ 15) (N)) ≤ 8192 by omega), (show 64 ≤ (wl (κ 15) (N)) by omega)⟩, hP, hD⟩ hfz.1 hfz.2; rw [up_id ψ9 1] at h9; exact h9)
  obtain ⟨φ12, eφ12⟩ : ∃ z : gF, z = up φ8 1 fc11 := ⟨_, rfl⟩
  rw [← eφ12] at hG
  have hI := inv_of hG
  have hG : INVF γ A (ku (ku (ku κ 7 (wl (κ 7) (N))) 10 (wl (κ 10) N)) 15 (wl (κ 15) (N))) φ12 ψ9 _ := hG
  have hQ := hE _ _ 20 ls hS (by have hO2 : Oq OUT (φ12, ψ9) := (by subst eφ12 efc11 eψ9 eφ8; exact hO.tr rfl); rw [hO2.eq]; exact hG) dLooker_makeRoom_20
  refine W.cs (cells' := 0 + (0 + wc (κ 7) (N) + wc (κ 7) (N) + wc (κ 7) (N) + wc (κ 7) (N) + wc (κ 7) (N) + wc (κ 10) N) + wc (κ 15) (N)) (slots' := 0 + (0 + wm (κ 7) (N) + wm (κ 7) (N) + wm (κ 7) (N) + wm (κ 7) (N) + wm (κ 7) (N) + 4 * wm (κ 10) N) + wm (κ 15) (N)) (by omega) (by omega) ?_
  exact hQ
def P_Looker_newType_90 (κ : Nat → Nat) (φ : gF) (ψ : gG) (i1 : Int32) (i2 : Int32) (i3 : Int32) (i4 : Int32) (i5 : Int32) (t0 : Int32) (t1 : Int32) (t2 : Int32) (t3 : Int32) : Int32 × gF × gG := ((P_Types_put ((κ 4)) ((κ 13)) (φ 4) t3 t2 t1 t0).1, (up φ 4 (P_Types_put ((κ 4)) ((κ 13)) (φ 4) t3 t2 t1 t0).2), ψ)
def P_Looker_newType (κ : Nat → Nat) (φ : gF) (ψ : gG) (x1 : Int32) : Int32 × gF × gG := (if (P_Trees_kindOf ((κ 0)) ((κ 1)) ((κ 11)) (φ 2) x1) = 11 then ((P_Types_put ((κ 4)) ((κ 13)) (φ 4) 2 (P_Looks_numberOf ((κ 7)) (φ 9) (P_Trees_leftOfTwo ((κ 0)) ((κ 1)) ((κ 11)) (φ 2) x1)) (P_Looks_numberOf ((κ 7)) (φ 9) (x1 - 1)) 0).1, (up φ 4 (P_Types_put ((κ 4)) ((κ 13)) (φ 4) 2 (P_Looks_numberOf ((κ 7)) (φ 9) (P_Trees_leftOfTwo ((κ 0)) ((κ 1)) ((κ 11)) (φ 2) x1)) (P_Looks_numberOf ((κ 7)) (φ 9) (x1 - 1)) 0).2), ψ) else (if (P_Trees_kindOf ((κ 0)) ((κ 1)) ((κ 11)) (φ 2) x1) = 13 then (P_Looker_newType_90 κ  φ ψ x1 (P_Trees_kindOf ((κ 0)) ((κ 1)) ((κ 11)) (φ 2) x1) (P_Looks_numberOf ((κ 7)) (φ 9) (P_Trees_leftOfTwo ((κ 0)) ((κ 1)) ((κ 11)) (φ 2) x1)) (P_Looks_numberOf ((κ 7)) (φ 9) (x1 - 1)) ((P_Looker_elementsOf (P_Trees_kindOf ((κ 0)) ((κ 1)) ((κ 11)) (φ 2) x1) ((P_Looks_numberOf ((κ 7)) (φ 9) (P_Trees_leftOfTwo ((κ 0)) ((κ 1)) ((κ 11)) (φ 2) x1)).toInt64) ((P_Looks_numberOf ((κ 7)) (φ 9) (x1 - 1)).toInt64)).toInt32) (-((P_Looker_elementsOf (P_Trees_kindOf ((κ 0)) ((κ 1)) ((κ 11)) (φ 2) x1) ((P_Looks_numberOf ((κ 7)) (φ 9) (P_Trees_leftOfTwo ((κ 0)) ((κ 1)) ((κ 11)) (φ 2) x1)).toInt64) ((P_Looks_numberOf ((κ 7)) (φ 9) (x1 - 1)).toInt64)).toInt32)) (P_Looks_numberOf ((κ 7)) (φ 9) (x1 - 1)) (P_Looks_numberOf ((κ 7)) (φ 9) (P_Trees_leftOfTwo ((κ 0)) ((κ 1)) ((κ 11)) (φ 2) x1)) 3) else (P_Looker_newType_90 κ  φ ψ x1 (P_Trees_kindOf ((κ 0)) ((κ 1)) ((κ 11)) (φ 2) x1) (P_Looks_numberOf ((κ 7)) (φ 9) (P_Trees_leftOfTwo ((κ 0)) ((κ 1)) ((κ 11)) (φ 2) x1)) (P_Looks_numberOf ((κ 7)) (φ 9) (x1 - 1)) ((P_Looker_elementsOf (P_Trees_kindOf ((κ 0)) ((κ 1)) ((κ 11)) (φ 2) x1) ((P_Looks_numberOf ((κ 7)) (φ 9) (P_Trees_leftOfTwo ((κ 0)) ((κ 1)) ((κ 11)) (φ 2) x1)).toInt64) ((P_Looks_numberOf ((κ 7)) (φ 9) (x1 - 1)).toInt64)).toInt32) ((P_Looker_elementsOf (P_Trees_kindOf ((κ 0)) ((κ 1)) ((κ 11)) (φ 2) x1) ((P_Looks_numberOf ((κ 7)) (φ 9) (P_Trees_leftOfTwo ((κ 0)) ((κ 1)) ((κ 11)) (φ 2) x1)).toInt64) ((P_Looks_numberOf ((κ 7)) (φ 9) (x1 - 1)).toInt64)).toInt32) (P_Looks_numberOf ((κ 7)) (φ 9) (x1 - 1)) (P_Looks_numberOf ((κ 7)) (φ 9) (P_Trees_leftOfTwo ((κ 0)) ((κ 1)) ((κ 11)) (φ 2) x1)) 3)))
set_option maxHeartbeats 4000000 in
set_option maxRecDepth 100000 in
theorem f_Looker_newType (l : Launch) (γ : gE) (A : Nat → Prop) (κ : Nat → Nat) (φ : gF) (ψ : gG) (x1 : Int32) (hN : κ 4 ≤ 4000): MU l yLooker_newType bLooker_newType 6 (some .int) 4 127 (0 + (0 + wc (κ 13) (κ 4 + 1) + wc (κ 13) (κ 4 + 1) + wc (κ 13) (κ 4 + 1) + wc (κ 13) (κ 4 + 1))) (0 + (0 + wm (κ 13) (κ 4 + 1) + wm (κ 13) (κ 4 + 1) + wm (κ 13) (κ 4 + 1) + wm (κ 13) (κ 4 + 1))) [.ref (γ.2.2.2 8), .int x1] γ A (INVF γ A κ φ ψ) (mQi (fun r H => r = (P_Looker_newType κ φ ψ x1).1 ∧ INVF γ A (ku (ku κ 4 (κ 4 + 1)) 13 (wl (κ 13) (κ 4 + 1))) (P_Looker_newType κ φ ψ x1).2.1 (P_Looker_newType κ φ ψ x1).2.2 H) A) := by
  refine mu_openI (by decide) (Nat.le_of_ble_eq_true rfl) ?_
  intro p e s m args below meth c ls Q S hnm hC hA hG hE hl
  obtain ⟨hx, hb, hml, hown, hW⟩ := id S
  have hI := inv_of hG
  have hS : va_S A s.heap s.heap [] := va_S.rf
  have hl : lv_has ls 6 [(0, .ref (γ.2.2.2 8)), (1, .int x1)] := hl
  obtain ⟨OUT, hQ, hO⟩ : ∃ z, (z = P_Looker_newType κ φ ψ x1) ∧ Oq z (P_Looker_newType κ φ ψ x1) := ⟨_, rfl, rfl⟩
  rw [← hQ] at hE
  clear hQ
  have J90 : ∀ (ls : Array Slot) (H : Heap) (locs : List Loc) (φ : gF) (ψ : gG) (i1 : Int32) (i2 : Int32) (i3 : Int32) (i4 : Int32) (i5 : Int32) (t0 : Int32) (t1 : Int32) (t2 : Int32) (t3 : Int32), INVF γ A κ φ ψ H → va_S A s.heap H locs → (Oq OUT (P_Looker_newType_90 κ   φ ψ i1 i2 i3 i4 i5 t0 t1 t2 t3)) → lv_has ls 6 [(0, .ref (γ.2.2.2 8)), (1, .int i1), (2, .int i2), (3, .int i3), (4, .int i4), (5, .int i5)] → W p l e (bs_rm 4 (0 + (0 + wc (κ 13) (κ 4 + 1) + wc (κ 13) (κ 4 + 1) + wc (κ 13) (κ 4 + 1) + wc (κ 13) (κ 4 + 1))) (0 + (0 + wm (κ 13) (κ 4 + 1) + wm (κ 13) (κ 4 + 1) + wm (κ 13) (κ 4 + 1) + wm (κ 13) (κ 4 + 1))) 127) s m args below meth c H locs 0 0 Q (F0 m 90 ls [.int t0, .int t1, .int t2, .int t3, .ref (γ.2.2.2 3)]) := by
    intro ls H locs φ ψ i1 i2 i3 i4 i5 t0 t1 t2 t3 hG hS hO hl
    have hI := inv_of hG
    refine mu_Vi (rest := []) S hC (fun q h => hA q (Nat.le_trans hS.1 h)) (fun q h => h) hS (f3_Types_put l γ A κ φ ψ t3 t2 t1 t0 (by show κ 4 ≤ 4000; omega)) meTypes_put qw_14b8232d09 ⟨Nat.le_of_ble_eq_true rfl, Nat.le_of_ble_eq_true rfl⟩ (rv_3 hC hI) hG rfl hl.1 rfl (Nat.le_of_ble_eq_true rfl) dLooker_newType_90 ⟨(by show 0 + (0 + wc (κ 13) (κ 4 + 1) + wc (κ 13) (κ 4 + 1) + wc (κ 13) (κ 4 + 1) + wc (κ 13) (κ 4 + 1)) ≤ 0 + (0 + wc (κ 13) (κ 4 + 1) + wc (κ 13) (κ 4 + 1) + wc (κ 13) (κ 4 + 1) + wc (κ 13) (κ 4 + 1)); omega), (by show 0 + (0 + wm (κ 13) (κ 4 + 1) + wm (κ 13) (κ 4 + 1) + wm (κ 13) (κ 4 + 1) + wm (κ 13) (κ 4 + 1)) ≤ 0 + (0 + wm (κ 13) (κ 4 + 1) + wm (κ 13) (κ 4 + 1) + wm (κ 13) (κ 4 + 1) + wm (κ 13) (κ 4 + 1)); omega)⟩ (fun r17 H locs ⟨er17, hG⟩ hS _ _ => ?_)
    refine W.cs (cells' := 0 + (0 + wc (κ 13) (κ 4 + 1) + wc (κ 13) (κ 4 + 1) + wc (κ 13) (κ 4 + 1) + wc (κ 13) (κ 4 + 1))) (slots' := 0 + (0 + wm (κ 13) (κ 4 + 1) + wm (κ 13) (κ 4 + 1) + wm (κ 13) (κ 4 + 1) + wm (κ 13) (κ 4 + 1))) rfl rfl ?_
    have er17 : r17 = (P_Types_put ((κ 4)) ((κ 13)) (φ 4) t3 t2 t1 t0).1 := er17
    have hG : INVF γ A (ku (ku κ 4 (κ 4 + 1)) 13 (wl (κ 13) (κ 4 + 1))) (up φ 4 (P_Types_put ((κ 4)) ((κ 13)) (φ 4) t3 t2 t1 t0).2) ψ _ := hG
    obtain ⟨φ18, eφ18⟩ : ∃ z : gF, z = up φ 4 (P_Types_put ((κ 4)) ((κ 13)) (φ 4) t3 t2 t1 t0).2 := ⟨_, rfl⟩
    rw [← eφ18] at hG
    have hI := inv_of hG
    have hG : INVF γ A (ku (ku κ 4 (κ 4 + 1)) 13 (wl (κ 13) (κ 4 + 1))) φ18 ψ _ := hG
    have hQ := hE _ _ _ 93 ls hS (by have hO2 : Oq OUT (r17, φ18, ψ) := (by subst eφ18 er17; exact hO.tr rfl); rw [hO2.eq]; exact ⟨rfl, hG⟩) dLooker_newType_93
    refine W.cs (cells' := 0 + (0 + wc (κ 13) (κ 4 + 1) + wc (κ 13) (κ 4 + 1) + wc (κ 13) (κ 4 + 1) + wc (κ 13) (κ 4 + 1))) (slots' := 0 + (0 + wm (κ 13) (κ 4 + 1) + wm (κ 13) (κ 4 + 1) + wm (κ 13) (κ 4 + 1) + wm (κ 13) (κ 4 + 1))) (by omega) (by omega) ?_
    exact hQ
  refine lv_aload_n hx hb dLooker_newType_0 rfl (lv_at hl 0 rfl) ?_
  refine of_get S hC (of_8_0 hI) in_Looker rfl (by decide) qw_22d2793f25 dLooker_newType_1 ?_
  refine lv_iload_n hx hb dLooker_newType_4 rfl (lv_at hl 1 rfl) ?_
  refine pu_Vi (rest := []) S hC (f1_Trees_kindOf l γ A κ φ ψ x1) meTrees_kindOf qw_f48a4a6aed ⟨Nat.le_of_ble_eq_true rfl, Nat.le_of_ble_eq_true rfl⟩ (rv_1 hC hI) hG rfl hl.1 rfl (Nat.le_of_ble_eq_true rfl) dLooker_newType_5 ⟨(by show _ ≤ 0 + (0 + wc (κ 13) (κ 4 + 1) + wc (κ 13) (κ 4 + 1) + wc (κ 13) (κ 4 + 1) + wc (κ 13) (κ 4 + 1)); omega), (by show _ ≤ 0 + (0 + wm (κ 13) (κ 4 + 1) + wm (κ 13) (κ 4 + 1) + wm (κ 13) (κ 4 + 1) + wm (κ 13) (κ 4 + 1)); omega)⟩ (fun r19 hr19 => ?_)
  obtain ⟨hr19, er19⟩ := hr19
  refine lv_istore_n (lv' := [(2, .int r19), (0, .ref (γ.2.2.2 8)), (1, .int x1)]) hx hb dLooker_newType_8 rfl hl (by decide) rfl (fun ls hl => ?_)
  refine lv_aload_n hx hb dLooker_newType_9 rfl (lv_at hl 1 rfl) ?_
  refine of_get S hC (of_8_3 hI) in_Looker rfl (by decide) qw_77aeadf252 dLooker_newType_10 ?_
  refine lv_aload_n hx hb dLooker_newType_13 rfl (lv_at hl 1 rfl) ?_
  refine of_get S hC (of_8_0 hI) in_Looker rfl (by decide) qw_22d2793f25 dLooker_newType_14 ?_
  refine lv_iload_n hx hb dLooker_newType_17 rfl (lv_at hl 2 rfl) ?_
  refine pu_Vi (rest := [.ref (γ.2.2.2 9)]) S hC (f1_Trees_leftOfTwo l γ A κ φ ψ x1) meTrees_leftOfTwo qw_844ff72d87 ⟨Nat.le_of_ble_eq_true rfl, Nat.le_of_ble_eq_true rfl⟩ (rv_1 hC hI) hG rfl hl.1 rfl (Nat.le_of_ble_eq_true rfl) dLooker_newType_18 ⟨(by show _ ≤ 0 + (0 + wc (κ 13) (κ 4 + 1) + wc (κ 13) (κ 4 + 1) + wc (κ 13) (κ 4 + 1) + wc (κ 13) (κ 4 + 1)); omega), (by show _ ≤ 0 + (0 + wm (κ 13) (κ 4 + 1) + wm (κ 13) (κ 4 + 1) + wm (κ 13) (κ 4 + 1) + wm (κ 13) (κ 4 + 1)); omega)⟩ (fun r20 hr20 => ?_)
  obtain ⟨hr20, er20⟩ := hr20
  refine pu_Vi (rest := []) S hC (f9_Looks_numberOf l γ A κ φ ψ r20) meLooks_numberOf qw_7e695d47da ⟨Nat.le_of_ble_eq_true rfl, Nat.le_of_ble_eq_true rfl⟩ (rv_9 hC hI) hG rfl hl.1 rfl (Nat.le_of_ble_eq_true rfl) dLooker_newType_21 ⟨(by show _ ≤ 0 + (0 + wc (κ 13) (κ 4 + 1) + wc (κ 13) (κ 4 + 1) + wc (κ 13) (κ 4 + 1) + wc (κ 13) (κ 4 + 1)); omega), (by show _ ≤ 0 + (0 + wm (κ 13) (κ 4 + 1) + wm (κ 13) (κ 4 + 1) + wm (κ 13) (κ 4 + 1) + wm (κ 13) (κ 4 + 1)); omega)⟩ (fun r21 hr21 => ?_)
  obtain ⟨hr21, er21⟩ := hr21
  refine lv_istore_n (lv' := [(3, .int r21), (2, .int r19), (0, .ref (γ.2.2.2 8)), (1, .int x1)]) hx hb dLooker_newType_24 rfl hl (by decide) rfl (fun ls hl => ?_)
  refine lv_aload_n hx hb dLooker_newType_25 rfl (lv_at hl 2 rfl) ?_
  refine of_get S hC (of_8_3 hI) in_Looker rfl (by decide) qw_77aeadf252 dLooker_newType_26 ?_
  refine lv_iload_n hx hb dLooker_newType_29 rfl (lv_at hl 3 rfl) ?_
  refine lv_iconst (v := 1) hx hb dLooker_newType_30 (by decide) ?_
  refine lv_isub hx hb dLooker_newType_31 ?_
  refine lv_topi (fun v22 ev22 => ?_)
  refine pu_Vi (rest := []) S hC (f9_Looks_numberOf l γ A κ φ ψ v22) meLooks_numberOf qw_7e695d47da ⟨Nat.le_of_ble_eq_true rfl, Nat.le_of_ble_eq_true rfl⟩ (rv_9 hC hI) hG rfl hl.1 rfl (Nat.le_of_ble_eq_true rfl) dLooker_newType_32 ⟨(by show _ ≤ 0 + (0 + wc (κ 13) (κ 4 + 1) + wc (κ 13) (κ 4 + 1) + wc (κ 13) (κ 4 + 1) + wc (κ 13) (κ 4 + 1)); omega), (by show _ ≤ 0 + (0 + wm (κ 13) (κ 4 + 1) + wm (κ 13) (κ 4 + 1) + wm (κ 13) (κ 4 + 1) + wm (κ 13) (κ 4 + 1)); omega)⟩ (fun r23 hr23 => ?_)
  obtain ⟨hr23, er23⟩ := hr23
  refine lv_istore (lv' := [(4, .int r23), (3, .int r21), (2, .int r19), (0, .ref (γ.2.2.2 8)), (1, .int x1)]) hx hb dLooker_newType_35 hl (by decide) rfl (fun ls hl => ?_)
  refine lv_iload_n hx hb dLooker_newType_37 rfl (lv_at hl 2 rfl) ?_
  refine lv_bipush (v := 11) hx hb dLooker_newType_38 (by decide) ?_
  refine lv_icmp_ne (tgt := 56) hx hb dLooker_newType_40 (by decide) (fun c24 => ?_) (fun c24 => ?_)
  · refine lv_iload_n hx hb dLooker_newType_56 rfl (lv_at hl 2 rfl) ?_
    refine lv_iload_n hx hb dLooker_newType_57 rfl (lv_at hl 1 rfl) ?_
    refine lv_i2l hx hb dLooker_newType_58 rfl ?_
    refine lv_topl (fun v25 ev25 => ?_)
    refine lv_iload hx hb dLooker_newType_59 (lv_at hl 0 rfl) ?_
    refine lv_i2l hx hb dLooker_newType_61 rfl ?_
    refine lv_topl (fun v26 ev26 => ?_)
    refine pu_Sl (rest := []) S hC (f_Looker_elementsOf l γ (INVF γ A κ φ ψ) r19 v25 v26) meLooker_elementsOf qw_b544f0cdd0 ⟨Nat.le_of_ble_eq_true rfl, Nat.le_of_ble_eq_true rfl⟩ hG rfl hl.1 rfl (Nat.le_of_ble_eq_true rfl) dLooker_newType_62 ⟨(by show _ ≤ 0 + (0 + wc (κ 13) (κ 4 + 1) + wc (κ 13) (κ 4 + 1) + wc (κ 13) (κ 4 + 1) + wc (κ 13) (κ 4 + 1)); omega), (by show _ ≤ 0 + (0 + wm (κ 13) (κ 4 + 1) + wm (κ 13) (κ 4 + 1) + wm (κ 13) (κ 4 + 1) + wm (κ 13) (κ 4 + 1)); omega)⟩ (fun r27 hr27 => ?_)
    obtain ⟨hr27, er27⟩ := hr27
    refine lv_l2i hx hb dLooker_newType_65 rfl ?_
    refine lv_topi (fun v28 ev28 => ?_)
    refine lv_istore (lv' := [(5, .int v28), (4, .int r23), (3, .int r21), (2, .int r19), (0, .ref (γ.2.2.2 8)), (1, .int x1)]) hx hb dLooker_newType_66 hl (by decide) rfl (fun ls hl => ?_)
    refine lv_aload_n hx hb dLooker_newType_68 rfl (lv_at hl 4 rfl) ?_
    refine of_get S hC (of_8_2 hI) in_Looker rfl (by decide) qw_abb87946e7 dLooker_newType_69 ?_
    refine lv_iconst (v := 3) hx hb dLooker_newType_72 (by decide) ?_
    refine lv_iload_n hx hb dLooker_newType_73 rfl (lv_at hl 2 rfl) ?_
    refine lv_iload hx hb dLooker_newType_74 (lv_at hl 1 rfl) ?_
    refine lv_iload_n hx hb dLooker_newType_76 rfl (lv_at hl 3 rfl) ?_
    refine lv_bipush (v := 13) hx hb dLooker_newType_77 (by decide) ?_
    refine lv_icmp_ne (tgt := 88) hx hb dLooker_newType_79 (by decide) (fun c29 => ?_) (fun c29 => ?_)
    · refine lv_iload hx hb dLooker_newType_88 (lv_at hl 0 rfl) ?_
      refine W.cs (cells' := 0) (slots' := 0) (by omega) (by omega) ?_
      exact J90 ls _ _ φ ψ x1 r19 r21 r23 v28 v28 r23 r21 3 hG hS (by subst ev28 er27 ev26 ev25 er23 ev22 er21 er20 er19; exact hO.tr ((if_neg c24).trans (if_neg c29))) (lv_sub hl [4, 5, 3, 2, 1, 0] rfl)
    · refine lv_iload hx hb dLooker_newType_82 (lv_at hl 0 rfl) ?_
      refine lv_ineg hx hb dLooker_newType_84 ?_
      refine lv_topi (fun v30 ev30 => ?_)
      refine lv_goto (tgt := 90) hx hb dLooker_newType_85 (by decide) ?_
      refine W.cs (cells' := 0) (slots' := 0) (by omega) (by omega) ?_
      exact J90 ls _ _ φ ψ x1 r19 r21 r23 v28 v30 r23 r21 3 hG hS (by subst ev30 ev28 er27 ev26 ev25 er23 ev22 er21 er20 er19; exact hO.tr ((if_neg c24).trans (if_pos c29))) (lv_sub hl [4, 5, 3, 2, 1, 0] rfl)
  · refine lv_aload_n hx hb dLooker_newType_43 rfl (lv_at hl 3 rfl) ?_
    refine of_get S hC (of_8_2 hI) in_Looker rfl (by decide) qw_abb87946e7 dLooker_newType_44 ?_
    refine lv_iconst (v := 2) hx hb dLooker_newType_47 (by decide) ?_
    refine lv_iload_n hx hb dLooker_newType_48 rfl (lv_at hl 1 rfl) ?_
    refine lv_iload hx hb dLooker_newType_49 (lv_at hl 0 rfl) ?_
    refine lv_iconst (v := 0) hx hb dLooker_newType_51 (by decide) ?_
    refine mu_Vi (rest := []) S hC (fun q h => hA q (Nat.le_trans hS.1 h)) (fun q h => h) hS (f3_Types_put l γ A κ φ ψ 2 r21 r23 0 (by show κ 4 ≤ 4000; omega)) meTypes_put qw_14b8232d09 ⟨Nat.le_of_ble_eq_true rfl, Nat.le_of_ble_eq_true rfl⟩ (rv_3 hC hI) hG rfl hl.1 rfl (Nat.le_of_ble_eq_true rfl) dLooker_newType_52 ⟨(by show 0 + (0 + wc (κ 13) (κ 4 + 1) + wc (κ 13) (κ 4 + 1) + wc (κ 13) (κ 4 + 1) + wc (κ 13) (κ 4 + 1)) ≤ 0 + (0 + wc (κ 13) (κ 4 + 1) + wc (κ 13) (κ 4 + 1) + wc (κ 13) (κ 4 + 1) + wc (κ 13) (κ 4 + 1)); omega), (by show 0 + (0 + wm (κ 13) (κ 4 + 1) + wm (κ 13) (κ 4 + 1) + wm (κ 13) (κ 4 + 1) + wm (κ 13) (κ 4 + 1)) ≤ 0 + (0 + wm (κ 13) (κ 4 + 1) + wm (κ 13) (κ 4 + 1) + wm (κ 13) (κ 4 + 1) + wm (κ 13) (κ 4 + 1)); omega)⟩ (fun r31 H locs ⟨er31, hG⟩ hS _ _ => ?_)
    refine W.cs (cells' := 0 + (0 + wc (κ 13) (κ 4 + 1) + wc (κ 13) (κ 4 + 1) + wc (κ 13) (κ 4 + 1) + wc (κ 13) (κ 4 + 1))) (slots' := 0 + (0 + wm (κ 13) (κ 4 + 1) + wm (κ 13) (κ 4 + 1) + wm (κ 13) (κ 4 + 1) + wm (κ 13) (κ 4 + 1))) rfl rfl ?_
    have er31 : r31 = (P_Types_put ((κ 4)) ((κ 13)) (φ 4) 2 r21 r23 0).1 := er31
    have hG : INVF γ A (ku (ku κ 4 (κ 4 + 1)) 13 (wl (κ 13) (κ 4 + 1))) (up φ 4 (P_Types_put ((κ 4)) ((κ 13)) (φ 4) 2 r21 r23 0).2) ψ _ := hG
    obtain ⟨φ32, eφ32⟩ : ∃ z : gF, z = up φ 4 (P_Types_put ((κ 4)) ((κ 13)) (φ 4) 2 r21 r23 0).2 := ⟨_, rfl⟩
    rw [← eφ32] at hG
    have hI := inv_of hG
    have hG : INVF γ A (ku (ku κ 4 (κ 4 + 1)) 13 (wl (κ 13) (κ 4 + 1))) φ32 ψ _ := hG
    have hQ := hE _ _ _ 55 ls hS (by have hO2 : Oq OUT (r31, φ32, ψ) := (by subst eφ32 er31 er23 ev22 er21 er20 er19; exact hO.tr (if_pos c24)); rw [hO2.eq]; exact ⟨rfl, hG⟩) dLooker_newType_55
    refine W.cs (cells' := 0 + (0 + wc (κ 13) (κ 4 + 1) + wc (κ 13) (κ 4 + 1) + wc (κ 13) (κ 4 + 1) + wc (κ 13) (κ 4 + 1))) (slots' := 0 + (0 + wm (κ 13) (κ 4 + 1) + wm (κ 13) (κ 4 + 1) + wm (κ 13) (κ 4 + 1) + wm (κ 13) (κ 4 + 1))) (by omega) (by omega) ?_
    exact hQ
def P_TypeBook_clear (κ : Nat → Nat) (φ : gF) (ψ : gG) : Int32 × gF × gG := ((nI (κ 0)), (up φ 2 (P_Trees_fell ((κ 0)) ((κ 1)) ((κ 11)) (φ 2) )), ψ)
set_option maxHeartbeats 4000000 in
set_option maxRecDepth 100000 in
theorem f_TypeBook_clear (l : Launch) (γ : gE) (A : Nat → Prop) (κ : Nat → Nat) (φ : gF) (ψ : gG)  : MU l yTypeBook_clear bTypeBook_clear 2 (some .int) 1 20 0 0 [.ref (γ.2.2.2 0)] γ A (INVF γ A κ φ ψ) (mQi (fun r H => r = (P_TypeBook_clear κ φ ψ ).1 ∧ INVF γ A (ku (ku κ 0 (0)) 1 (0)) (P_TypeBook_clear κ φ ψ ).2.1 (P_TypeBook_clear κ φ ψ ).2.2 H) A) := by
  refine mu_openI (by decide) (Nat.le_of_ble_eq_true rfl) ?_
  intro p e s m args below meth c ls Q S hnm hC hA hG hE hl
  obtain ⟨hx, hb, hml, hown, hW⟩ := id S
  have hI := inv_of hG
  have hS : va_S A s.heap s.heap [] := va_S.rf
  have hl : lv_has ls 2 [(0, .ref (γ.2.2.2 0))] := hl
  obtain ⟨OUT, hQ, hO⟩ : ∃ z, (z = P_TypeBook_clear κ φ ψ ) ∧ Oq z (P_TypeBook_clear κ φ ψ ) := ⟨_, rfl, rfl⟩
  rw [← hQ] at hE
  clear hQ
  refine lv_aload_n hx hb dTypeBook_clear_0 rfl (lv_at hl 0 rfl) ?_
  refine of_get S hC (of_0_0 hI) in_TypeBook rfl (by decide) qw_6151ee7924 dTypeBook_clear_1 ?_
  refine of_getN S hC (of_1_4 hI) in_Trees rfl (by decide) qn_307125c060 dTypeBook_clear_4 ?_
  refine lv_topi (fun v4 ev4 => ?_)
  have ev4 : v4 = nI (κ 0) := ev4
  refine lv_istore_n (lv' := [(1, .int v4), (0, .ref (γ.2.2.2 0))]) hx hb dTypeBook_clear_7 rfl hl (by decide) rfl (fun ls hl => ?_)
  refine lv_aload_n hx hb dTypeBook_clear_8 rfl (lv_at hl 1 rfl) ?_
  refine of_get S hC (of_0_0 hI) in_TypeBook rfl (by decide) qw_6151ee7924 dTypeBook_clear_9 ?_
  refine mu_Vv (rest := []) S hC (fun q h => hA q (Nat.le_trans hS.1 h)) (fun q h => h) hS (f1_Trees_fell l γ A κ φ ψ ) meTrees_fell qw_a8607651af ⟨Nat.le_of_ble_eq_true rfl, Nat.le_of_ble_eq_true rfl⟩ (rv_1 hC hI) hG rfl hl.1 rfl (Nat.le_of_ble_eq_true rfl) dTypeBook_clear_12 ⟨(by show 0 + 0 ≤ 0; omega), (by show 0 + 0 ≤ 0; omega)⟩ (fun H locs hG hS _ _ => ?_)
  have hG : INVF γ A (ku (ku κ 0 (0)) 1 (0)) (up φ 2 (P_Trees_fell ((κ 0)) ((κ 1)) ((κ 11)) (φ 2) )) ψ _ := hG
  obtain ⟨φ6, eφ6⟩ : ∃ z : gF, z = up φ 2 (P_Trees_fell ((κ 0)) ((κ 1)) ((κ 11)) (φ 2) ) := ⟨_, rfl⟩
  rw [← eφ6] at hG
  have hI := inv_of hG
  refine lv_iload_n hx hb dTypeBook_clear_15 rfl (lv_at hl 0 rfl) ?_
  have hG : INVF γ A (ku (ku κ 0 (0)) 1 (0)) φ6 ψ _ := hG
  exact hE _ _ _ 16 ls hS (by have hO2 : Oq OUT (v4, φ6, ψ) := (by subst eφ6 ev4; exact hO.tr rfl); rw [hO2.eq]; exact ⟨rfl, hG⟩) dTypeBook_clear_16
abbrev XR := Int32 × Int32 × (Nat → Nat) × gF × gG
/-- what a public call leaves, told exactly: o is what it answers (0: returned, 1: IndexOutOfBounds, 2: IllegalArgument, 3: IllegalState) -/
def PBF (γ : gE) (A : Nat → Prop) (κ : Nat → Nat) (H0 : Heap) (o : XR) (t r : Int32) (H : Heap) : Prop := o.1 = t ∧ o.2.1 = r ∧ INVF γ A o.2.2.1 o.2.2.2.1 o.2.2.2.2 H ∧ Ph κ ≤ Ph o.2.2.1 ∧ GR H0 H (Ph o.2.2.1 - Ph κ + 1) (2 * (Ph o.2.2.1 - Ph κ) + 6)
def XCF (γ : gE) (A : Nat → Prop) (κ : Nat → Nat) (H0 : Heap) (o : XR) (E : String) (H : Heap) : Prop := (∃ t : Int32, (t = 1 ∧ E = "java/lang/IndexOutOfBoundsException" ∨ t = 2 ∧ E = "java/lang/IllegalArgumentException" ∨ t = 3 ∧ E = "java/lang/IllegalStateException") ∧ PBF γ A κ H0 o t 0 H) ∧ fr_A A H0 H
theorem pbf_of {γ : gE} {A : Nat → Prop} {κ κ' : Nat → Nat} {φ' : gF} {ψ' : gG} {H0 H : Heap} {t r : Int32} {k n : Nat} (hI : INVF γ A κ' φ' ψ' H) (hG : GR H0 H k n) (h1 : Ph κ ≤ Ph κ') (h2 : k ≤ Ph κ' - Ph κ + 1) (h3 : n ≤ 2 * (Ph κ' - Ph κ) + 6) : PBF γ A κ H0 (t, r, κ', φ', ψ') t r H := ⟨rfl, rfl, hI, h1, hG.mono h2 h3⟩
theorem invf_more {γ : gE} {A : Nat → Prop} {κ : Nat → Nat} {φ : gF} {ψ : gG} {H H1 : Heap} (hI : INVF γ A κ φ ψ H) (hk : ∀ q : Nat, q < H.size → H1[q]? = H[q]?) : INVF γ A κ φ ψ H1 := by
  obtain ⟨ρ, hρ, hc⟩ := hI
  exact ⟨ρ, hρ, fun i h1 h2 => cmp_kept (hc i h1 h2) (fun q _ h => hk q h) (fun q h _ => h)⟩
theorem le_ok2 {x : Int32} {N : Nat} (h : ∃ k, k ≤ N ∧ x = nI k) (hN : N < 2 ^ 31) : x.toNatClampNeg ≤ N ∧ x = nI x.toNatClampNeg := by
  obtain ⟨k, h1, rfl⟩ := h
  rw [nI_clamp (by omega)]; exact ⟨h1, rfl⟩
theorem cnt_s {x v : Int32} (h : x = nI x.toNatClampNeg) (ev : v = x + 1) : v = nI (x.toNatClampNeg + 1) := by
  rw [ev]; conv => lhs; rw [h]
  exact (nI_succ _).symm
theorem cl_succ {x v : Int32} {N : Nat} (h : x = nI x.toNatClampNeg) (hx : x.toNatClampNeg ≤ N) (hN : N ≤ 8192) (ev : v = x + 1) : v.toNatClampNeg = x.toNatClampNeg + 1 ∧ v = nI v.toNatClampNeg := by
  have h1 := cnt_s h ev
  have h2 : v.toNatClampNeg = x.toNatClampNeg + 1 := by conv => lhs; rw [h1]
                                                        exact nI_clamp (by omega)
  exact ⟨h2, by rw [h2]; exact h1⟩
def P_Names_haveRoom (K N : Nat) : Int32 := if 3000 < nI K - nI 12 + nI N then 0 else 1
def LLn (L K : Nat) : Nat → Nat
  | 0 => wl L (K + 1)
  | j + 1 => wl (LLn L K j) (K + 1 + j + 1)
theorem f1x_Trees_grow (l : Launch) (γ : gE) (A : Nat → Prop) (κ : Nat → Nat) (φ : gF) (ψ : gG) (x1 x2 x3 : Int32) (hN : κ 0 ≤ 4000) (hk3 : x3.toNatClampNeg ≤ κ 1) (h3 : x3 = nI x3.toNatClampNeg) : MU l yTrees_grow bTrees_grow 7 (some .int) 3 103 (0 + wc (κ 11) (κ 0 + 1) + wc (κ 11) (κ 0 + 1) + wc (κ 11) (κ 0 + 1) + wc (κ 11) (κ 0 + 1)) (0 + wm (κ 11) (κ 0 + 1) + wm (κ 11) (κ 0 + 1) + wm (κ 11) (κ 0 + 1) + wm (κ 11) (κ 0 + 1)) [.ref (γ.2.2.2 1), .int x1, .int x2, .int x3] γ A (INVF γ A κ φ ψ) (mQi (fun r H => r = (P_Trees_grow (κ 0) (κ 1) (κ 11) (φ 2) x1 x2 x3.toNatClampNeg).1 ∧ INVF γ A (ku (ku (ku κ 0 (κ 0 + 1)) 1 (κ 1 + 1 - x3.toNatClampNeg)) 11 (wl (κ 11) (κ 0 + 1))) (up φ 2 (P_Trees_grow (κ 0) (κ 1) (κ 11) (φ 2) x1 x2 x3.toNatClampNeg).2) ψ H) A) := by
  have h9 := f1_Trees_grow l γ A κ φ ψ x1 x2 x3.toNatClampNeg hN hk3
  rw [← h3] at h9
  exact h9
set_option maxHeartbeats 4000000 in
set_option maxRecDepth 100000 in
theorem fk_haveRoom (l : Launch) (γ : gE) (A : Nat → Prop) (κ : Nat → Nat) (s0 : State) (hw0 : SW s0) (hA0 : ∀ q, A q → s0.heap.size ≤ q) (N : Nat) (hN : N ≤ 5000) : Met l yNames_haveRoom (Cond.code yNames_haveRoom bNames_haveRoom 2 (some .boolean) :: bs_W0) (bs_rm 0 0 0 0) (va_Pc [.ref (γ.2.2.2 2), .int (nI N)] (fun U => CX γ U ∧ FB s0 U U.heap ∧ INV γ A κ U.heap)) (vp_Si (fun v => (v = 0 ∨ κ 2 + N ≤ 3012) ∧ v = P_Names_haveRoom (κ 2) N)) 0 0 (fun _ => False) := by
  refine ps_openZ (by decide) (Nat.le_of_ble_eq_true rfl) ?_
  intro p e s m args below meth c ls Q S hC hP hE hl
  obtain ⟨hF, hI⟩ := hP
  obtain ⟨hx, hb, hml, hown, hW⟩ := id S
  have hl : lv_has ls 2 [(0, .ref (γ.2.2.2 2)), (1, .int (nI N))] := hl
  obtain ⟨hlen, hsz⟩ := inv_len hI
  obtain ⟨t, f, hZ, hT, -⟩ := hw0.2.2.2.2.1
  refine lv_aload_n hx hb dNames_haveRoom_0 rfl (lv_at hl 0 rfl) ?_
  refine of_get S hC (of_2_7 hI) in_Names rfl (by decide) qw_171adcdf9f dNames_haveRoom_1 ?_
  refine va_gets hx hb (fb_Z hF hA0 hZ) va_S.rf hown (hW _ qw_cff65ee3fd) (fun _ h => h) dNames_haveRoom_4 ?_
  refine va_tlen hx hb (fb_T hF hA0 hT) va_S.rf (v := nI 12) rfl dNames_haveRoom_7 ?_
  refine lv_isub hx hb dNames_haveRoom_8 ?_
  refine lv_iload_n hx hb dNames_haveRoom_9 rfl (lv_at hl 1 rfl) ?_
  refine lv_iadd hx hb dNames_haveRoom_10 ?_
  refine lv_sipush (v := 3000) hx hb dNames_haveRoom_11 (by decide) ?_
  refine lv_icmp_gt (tgt := 21) hx hb dNames_haveRoom_14 (by decide) (fun c1 => ?_) (fun c1 => ?_)
  · refine lv_iconst (v := 0) hx hb dNames_haveRoom_21 (by decide) ?_
    exact hE _ _ _ rfl ⟨Or.inl rfl, (if_pos c1).symm⟩ dNames_haveRoom_22
  · refine lv_iconst (v := 1) hx hb dNames_haveRoom_17 (by decide) ?_
    refine lv_goto (tgt := 22) hx hb dNames_haveRoom_18 (by decide) ?_
    exact hE _ _ _ rfl ⟨Or.inr (hr_ok (by omega) hN c1), (if_neg c1).symm⟩ dNames_haveRoom_22
def P_TypeBook_add_25 (κ : Nat → Nat) (φ : gF) (ψ : gG) (i1 : Int32) (i2 : Int32) (i3 : Int32) : XR := (2, 0, κ, φ, ψ)
def P_TypeBook_add_59 (κ : Nat → Nat) (φ : gF) (ψ : gG) (i1 : Int32) (i2 : Int32) (i3 : Int32) : XR := (if (nI (κ 0)) < 4000 then (0, (P_Trees_grow ((κ 0)) ((κ 1)) ((κ 11)) (φ 2) i1 i2 i3.toNatClampNeg).1, (ku (ku (ku (ku (ku (ku (ku (ku κ 0 (κ 0 + 1)) 1 (κ 1 + 1 - i3.toNatClampNeg)) 11 (wl (κ 11) (κ 0 + 1))) 6 (wl (κ 6) ((κ 0 + 1)))) 9 (wl (κ 9) (κ 0 + 1))) 7 (wl (κ 7) ((κ 0 + 1)))) 10 (wl (κ 10) (κ 0 + 1))) 15 (wl (κ 15) ((κ 0 + 1)))), ((P_Looker_makeRoom (ku (ku (ku (ku (ku κ 0 (κ 0 + 1)) 1 (κ 1 + 1 - i3.toNatClampNeg)) 11 (wl (κ 11) (κ 0 + 1))) 6 (wl (κ 6) ((κ 0 + 1)))) 9 (wl (κ 9) (κ 0 + 1))) (up ((P_Looks_makeRoom6 (ku (ku (ku κ 0 (κ 0 + 1)) 1 (κ 1 + 1 - i3.toNatClampNeg)) 11 (wl (κ 11) (κ 0 + 1))) (up φ 2 (P_Trees_grow ((κ 0)) ((κ 1)) ((κ 11)) (φ 2) i1 i2 i3.toNatClampNeg).2) ψ (κ 0 + 1)).1) 7 (P_Looks_forget ((wl (κ 6) ((κ 0 + 1)))) (((P_Looks_makeRoom6 (ku (ku (ku κ 0 (κ 0 + 1)) 1 (κ 1 + 1 - i3.toNatClampNeg)) 11 (wl (κ 11) (κ 0 + 1))) (up φ 2 (P_Trees_grow ((κ 0)) ((κ 1)) ((κ 11)) (φ 2) i1 i2 i3.toNatClampNeg).2) ψ (κ 0 + 1)).1) 7) ((P_Trees_grow ((κ 0)) ((κ 1)) ((κ 11)) (φ 2) i1 i2 i3.toNatClampNeg).1))) ((P_Looks_makeRoom6 (ku (ku (ku κ 0 (κ 0 + 1)) 1 (κ 1 + 1 - i3.toNatClampNeg)) 11 (wl (κ 11) (κ 0 + 1))) (up φ 2 (P_Trees_grow ((κ 0)) ((κ 1)) ((κ 11)) (φ 2) i1 i2 i3.toNatClampNeg).2) ψ (κ 0 + 1)).2) (κ 0 + 1)).1), ((P_Looker_makeRoom (ku (ku (ku (ku (ku κ 0 (κ 0 + 1)) 1 (κ 1 + 1 - i3.toNatClampNeg)) 11 (wl (κ 11) (κ 0 + 1))) 6 (wl (κ 6) ((κ 0 + 1)))) 9 (wl (κ 9) (κ 0 + 1))) (up ((P_Looks_makeRoom6 (ku (ku (ku κ 0 (κ 0 + 1)) 1 (κ 1 + 1 - i3.toNatClampNeg)) 11 (wl (κ 11) (κ 0 + 1))) (up φ 2 (P_Trees_grow ((κ 0)) ((κ 1)) ((κ 11)) (φ 2) i1 i2 i3.toNatClampNeg).2) ψ (κ 0 + 1)).1) 7 (P_Looks_forget ((wl (κ 6) ((κ 0 + 1)))) (((P_Looks_makeRoom6 (ku (ku (ku κ 0 (κ 0 + 1)) 1 (κ 1 + 1 - i3.toNatClampNeg)) 11 (wl (κ 11) (κ 0 + 1))) (up φ 2 (P_Trees_grow ((κ 0)) ((κ 1)) ((κ 11)) (φ 2) i1 i2 i3.toNatClampNeg).2) ψ (κ 0 + 1)).1) 7) ((P_Trees_grow ((κ 0)) ((κ 1)) ((κ 11)) (φ 2) i1 i2 i3.toNatClampNeg).1))) ((P_Looks_makeRoom6 (ku (ku (ku κ 0 (κ 0 + 1)) 1 (κ 1 + 1 - i3.toNatClampNeg)) 11 (wl (κ 11) (κ 0 + 1))) (up φ 2 (P_Trees_grow ((κ 0)) ((κ 1)) ((κ 11)) (φ 2) i1 i2 i3.toNatClampNeg).2) ψ (κ 0 + 1)).2) (κ 0 + 1)).2)) else (3, 0, κ, φ, ψ))
def P_TypeBook_add (κ : Nat → Nat) (φ : gF) (ψ : gG) (x1 : Int32) (x2 : Int32) (x3 : Int32) : XR := (if x1 < 0 then (P_TypeBook_add_25 κ  φ ψ x1 x2 x3) else (if 99 < x1 then (P_TypeBook_add_25 κ  φ ψ x1 x2 x3) else (if x3 < 0 then (P_TypeBook_add_25 κ  φ ψ x1 x2 x3) else (if x3 ≤ (nI (κ 1)) then (if (P_Trees_bearsName x1) = 0 then (P_TypeBook_add_59 κ  φ ψ x1 x2 x3) else (if (P_TypeBook_isName x2) = 0 then (2, 0, κ, φ, ψ) else (P_TypeBook_add_59 κ  φ ψ x1 x2 x3))) else (P_TypeBook_add_25 κ  φ ψ x1 x2 x3)))))
set_option maxHeartbeats 4000000 in
set_option maxRecDepth 100000 in
theorem xf_add (l : Launch) (hst : l.stackTraces = false) (γ : gE) (A : Nat → Prop) (κ : Nat → Nat) (φ : gF) (ψ : gG) (s0 : State) (hw0 : SW s0) (hA0 : ∀ q, A q → s0.heap.size ≤ q) (H0 : Heap) (x1 : Int32) (x2 : Int32) (x3 : Int32) : XM l yTypeBook_add bTypeBook_add 5 (some .int) 6 145 50000 1000000 [.ref (γ.2.2.2 0), .int x1, .int x2, .int x3] γ A (fun U => FB s0 U U.heap ∧ U.heap = H0 ∧ INVF γ A κ φ ψ U.heap) (mQi (fun r H => PBF γ A κ H0 (P_TypeBook_add κ φ ψ x1 x2 x3) 0 r H) A) (fun E H => XCF γ A κ H0 (P_TypeBook_add κ φ ψ x1 x2 x3) E H) := by
  refine tx_openI (by decide) (Nat.le_of_ble_eq_true rfl) ?_
  intro p e s m args below meth c ls Q S hret hlk hX hC hA hP hQ hl
  obtain ⟨hF0, hH0, hG⟩ := hP
  subst hH0
  have hI := inv_of hG
  obtain ⟨hx, hb, hml, hown, hW⟩ := id S
  have hS : va_S A s.heap s.heap [] := va_S.rf
  have hl : lv_has ls 5 [(0, .ref (γ.2.2.2 0)), (1, .int x1), (2, .int x2), (3, .int x3)] := hl
  obtain ⟨hlen, hsz⟩ := inv_len hI
  obtain ⟨OUT, hQ9, hO⟩ : ∃ z, (z = P_TypeBook_add κ φ ψ x1 x2 x3) ∧ Oq z (P_TypeBook_add κ φ ψ x1 x2 x3) := ⟨_, rfl, rfl⟩
  rw [← hQ9] at hQ
  clear hQ9
  have J59 : ∀ (ls : Array Slot) (H : Heap) (locs : List Loc) (φ : gF) (ψ : gG) (i1 : Int32) (i2 : Int32) (i3 : Int32), INVF γ A κ φ ψ H → va_S A s.heap H locs → (i3.toNatClampNeg ≤ κ 1 ∧ i3 = nI i3.toNatClampNeg) → (Oq OUT (P_TypeBook_add_59 κ   φ ψ i1 i2 i3)) → lv_has ls 5 [(0, .ref (γ.2.2.2 0)), (1, .int i1), (2, .int i2), (3, .int i3)] → W p l e (bs_rm 6 50000 1000000 145) s m args below meth c H locs 0 0 Q (F0 m 59 ls []) := by
    intro ls H locs φ ψ i1 i2 i3 hG hS ⟨hk3, ei3⟩ hO hl
    have hI := inv_of hG
    refine lv_aload_n hx hb dTypeBook_add_59 rfl (lv_at hl 0 rfl) ?_
    refine of_get S hC (of_0_0 hI) in_TypeBook rfl (by decide) qw_6151ee7924 dTypeBook_add_60 ?_
    refine of_getN S hC (of_1_4 hI) in_Trees rfl (by decide) qn_307125c060 dTypeBook_add_63 ?_
    refine lv_topi (fun v24 ev24 => ?_)
    have ev24 : v24 = nI (κ 0) := ev24
    refine lv_sipush (v := 4000) hx hb dTypeBook_add_66 (by decide) ?_
    refine lv_icmp_lt (tgt := 82) hx hb dTypeBook_add_69 (by decide) (fun c25 => ?_) (fun c25 => ?_)
    · have hN : κ 0 < 4000 := lt_ok (M := 4000) (by assumption) rfl (by assumption) (by omega) (by omega)
      have hwc11 := wcm (n := κ 11) (N := κ 0 + 1) (by omega) (by omega)
      have hwc6 := wcm (n := κ 6) (N := κ 0 + 1) (by omega) (by omega)
      have hwc9 := wcm (n := κ 9) (N := κ 0 + 1) (by omega) (by omega)
      have hwc7 := wcm (n := κ 7) (N := κ 0 + 1) (by omega) (by omega)
      have hwc10 := wcm (n := κ 10) (N := κ 0 + 1) (by omega) (by omega)
      have hwc15 := wcm (n := κ 15) (N := κ 0 + 1) (by omega) (by omega)
      refine lv_aload_n hx hb dTypeBook_add_82 rfl (lv_at hl 0 rfl) ?_
      refine of_get S hC (of_0_0 hI) in_TypeBook rfl (by decide) qw_6151ee7924 dTypeBook_add_83 ?_
      refine lv_iload_n hx hb dTypeBook_add_86 rfl (lv_at hl 1 rfl) ?_
      refine lv_iload_n hx hb dTypeBook_add_87 rfl (lv_at hl 2 rfl) ?_
      refine lv_iload_n hx hb dTypeBook_add_88 rfl (lv_at hl 3 rfl) ?_
      refine mu_Vi (rest := []) S hC (fun q h => hA q (Nat.le_trans hS.1 h)) (fun q h => h) hS (f1x_Trees_grow l γ A κ φ ψ i1 i2 i3 (by show κ 0 ≤ 4000; omega) hk3 ei3) meTrees_grow qw_d8f39e7603 ⟨Nat.le_of_ble_eq_true rfl, Nat.le_of_ble_eq_true rfl⟩ (rv_1 hC hI) hG rfl hl.1 rfl (Nat.le_of_ble_eq_true rfl) dTypeBook_add_89 ⟨(by show 0 + (0 + wc (κ 11) (κ 0 + 1) + wc (κ 11) (κ 0 + 1) + wc (κ 11) (κ 0 + 1) + wc (κ 11) (κ 0 + 1)) ≤ 50000; omega), (by show 0 + (0 + wm (κ 11) (κ 0 + 1) + wm (κ 11) (κ 0 + 1) + wm (κ 11) (κ 0 + 1) + wm (κ 11) (κ 0 + 1)) ≤ 1000000; omega)⟩ (fun r26 H locs ⟨er26, hG⟩ hS _ _ => ?_)
      refine W.cs (cells' := 0 + (0 + wc (κ 11) (κ 0 + 1) + wc (κ 11) (κ 0 + 1) + wc (κ 11) (κ 0 + 1) + wc (κ 11) (κ 0 + 1))) (slots' := 0 + (0 + wm (κ 11) (κ 0 + 1) + wm (κ 11) (κ 0 + 1) + wm (κ 11) (κ 0 + 1) + wm (κ 11) (κ 0 + 1))) rfl rfl ?_
      have er26 : r26 = (P_Trees_grow ((κ 0)) ((κ 1)) ((κ 11)) (φ 2) i1 i2 i3.toNatClampNeg).1 := er26
      have hG : INVF γ A (ku (ku (ku κ 0 (κ 0 + 1)) 1 (κ 1 + 1 - i3.toNatClampNeg)) 11 (wl (κ 11) (κ 0 + 1))) (up φ 2 (P_Trees_grow ((κ 0)) ((κ 1)) ((κ 11)) (φ 2) i1 i2 i3.toNatClampNeg).2) ψ _ := hG
      obtain ⟨φ27, eφ27⟩ : ∃ z : gF, z = up φ 2 (P_Trees_grow ((κ 0)) ((κ 1)) ((κ 11)) (φ 2) i1 i2 i3.toNatClampNeg).2 := ⟨_, rfl⟩
      rw [← eφ27] at hG
      have hI := inv_of hG
      refine lv_istore (lv' := [(4, .int r26), (0, .ref (γ.2.2.2 0)), (1, .int i1), (2, .int i2), (3, .int i3)]) hx hb dTypeBook_add_92 hl (by decide) rfl (fun ls hl => ?_)
      refine lv_aload_n hx hb dTypeBook_add_94 rfl (lv_at hl 1 rfl) ?_
      refine of_get S hC (of_0_4 hI) in_TypeBook rfl (by decide) qw_ce6a8385d0 dTypeBook_add_95 ?_
      refine lv_aload_n hx hb dTypeBook_add_98 rfl (lv_at hl 1 rfl) ?_
      refine of_get S hC (of_0_0 hI) in_TypeBook rfl (by decide) qw_6151ee7924 dTypeBook_add_99 ?_
      refine of_getN S hC (of_1_4 hI) in_Trees rfl (by decide) qn_307125c060 dTypeBook_add_102 ?_
      refine lv_topi (fun v28 ev28 => ?_)
      have ev28 : v28 = nI (κ 0 + 1) := ev28
      obtain rfl : v28 = nI (κ 0 + 1) := ev28
      refine mu_Vv (rest := []) S hC (fun q h => hA q (Nat.le_trans hS.1 h)) (fun q h => h) hS (f6_Looks_makeRoom l γ A (ku (ku (ku κ 0 (κ 0 + 1)) 1 (κ 1 + 1 - i3.toNatClampNeg)) 11 (wl (κ 11) (κ 0 + 1))) φ27 ψ (κ 0 + 1) (by omega)) meLooks_makeRoom qw_23eabf8a60 ⟨Nat.le_of_ble_eq_true rfl, Nat.le_of_ble_eq_true rfl⟩ (rv_6 hC hI) hG rfl hl.1 rfl (Nat.le_of_ble_eq_true rfl) dTypeBook_add_105 ⟨(by show 0 + (0 + wc (κ 11) (κ 0 + 1) + wc (κ 11) (κ 0 + 1) + wc (κ 11) (κ 0 + 1) + wc (κ 11) (κ 0 + 1)) + (0 + wc (κ 6) ((κ 0 + 1)) + wc (κ 6) ((κ 0 + 1)) + wc (κ 6) ((κ 0 + 1)) + wc (κ 6) ((κ 0 + 1)) + wc (κ 6) ((κ 0 + 1)) + wc (κ 9) (κ 0 + 1)) ≤ 50000; omega), (by show 0 + (0 + wm (κ 11) (κ 0 + 1) + wm (κ 11) (κ 0 + 1) + wm (κ 11) (κ 0 + 1) + wm (κ 11) (κ 0 + 1)) + (0 + wm (κ 6) ((κ 0 + 1)) + wm (κ 6) ((κ 0 + 1)) + wm (κ 6) ((κ 0 + 1)) + wm (κ 6) ((κ 0 + 1)) + wm (κ 6) ((κ 0 + 1)) + 4 * wm (κ 9) (κ 0 + 1)) ≤ 1000000; omega)⟩ (fun H locs hG hS _ _ => ?_)
      refine W.cs (cells' := 0 + (0 + wc (κ 11) (κ 0 + 1) + wc (κ 11) (κ 0 + 1) + wc (κ 11) (κ 0 + 1) + wc (κ 11) (κ 0 + 1)) + (0 + wc (κ 6) ((κ 0 + 1)) + wc (κ 6) ((κ 0 + 1)) + wc (κ 6) ((κ 0 + 1)) + wc (κ 6) ((κ 0 + 1)) + wc (κ 6) ((κ 0 + 1)) + wc (κ 9) (κ 0 + 1))) (slots' := 0 + (0 + wm (κ 11) (κ 0 + 1) + wm (κ 11) (κ 0 + 1) + wm (κ 11) (κ 0 + 1) + wm (κ 11) (κ 0 + 1)) + (0 + wm (κ 6) ((κ 0 + 1)) + wm (κ 6) ((κ 0 + 1)) + wm (κ 6) ((κ 0 + 1)) + wm (κ 6) ((κ 0 + 1)) + wm (κ 6) ((κ 0 + 1)) + 4 * wm (κ 9) (κ 0 + 1))) rfl rfl ?_
      have hG : INVF γ A (ku (ku (ku (ku (ku κ 0 (κ 0 + 1)) 1 (κ 1 + 1 - i3.toNatClampNeg)) 11 (wl (κ 11) (κ 0 + 1))) 6 (wl (κ 6) ((κ 0 + 1)))) 9 (wl (κ 9) (κ 0 + 1))) (P_Looks_makeRoom6 (ku (ku (ku κ 0 (κ 0 + 1)) 1 (κ 1 + 1 - i3.toNatClampNeg)) 11 (wl (κ 11) (κ 0 + 1))) φ27 ψ (κ 0 + 1)).1 (P_Looks_makeRoom6 (ku (ku (ku κ 0 (κ 0 + 1)) 1 (κ 1 + 1 - i3.toNatClampNeg)) 11 (wl (κ 11) (κ 0 + 1))) φ27 ψ (κ 0 + 1)).2 _ := hG
      obtain ⟨φ30, eφ30⟩ : ∃ z : gF, z = (P_Looks_makeRoom6 (ku (ku (ku κ 0 (κ 0 + 1)) 1 (κ 1 + 1 - i3.toNatClampNeg)) 11 (wl (κ 11) (κ 0 + 1))) φ27 ψ (κ 0 + 1)).1 := ⟨_, rfl⟩
      rw [← eφ30] at hG
      obtain ⟨ψ31, eψ31⟩ : ∃ z : gG, z = (P_Looks_makeRoom6 (ku (ku (ku κ 0 (κ 0 + 1)) 1 (κ 1 + 1 - i3.toNatClampNeg)) 11 (wl (κ 11) (κ 0 + 1))) φ27 ψ (κ 0 + 1)).2 := ⟨_, rfl⟩
      rw [← eψ31] at hG
      have hI := inv_of hG
      refine lv_aload_n hx hb dTypeBook_add_108 rfl (lv_at hl 1 rfl) ?_
      refine of_get S hC (of_0_4 hI) in_TypeBook rfl (by decide) qw_ce6a8385d0 dTypeBook_add_109 ?_
      refine lv_iload hx hb dTypeBook_add_112 (lv_at hl 0 rfl) ?_
      refine mu_Vv (rest := []) S hC (fun q h => hA q (Nat.le_trans hS.1 h)) (fun q h => h) hS (f6_Looks_forget l γ A (ku (ku (ku (ku (ku κ 0 (κ 0 + 1)) 1 (κ 1 + 1 - i3.toNatClampNeg)) 11 (wl (κ 11) (κ 0 + 1))) 6 (wl (κ 6) ((κ 0 + 1)))) 9 (wl (κ 9) (κ 0 + 1))) φ30 ψ31 r26) meLooks_forget qw_58d2a16fbc ⟨Nat.le_of_ble_eq_true rfl, Nat.le_of_ble_eq_true rfl⟩ (rv_6 hC hI) hG rfl hl.1 rfl (Nat.le_of_ble_eq_true rfl) dTypeBook_add_114 ⟨(by show 0 + (0 + wc (κ 11) (κ 0 + 1) + wc (κ 11) (κ 0 + 1) + wc (κ 11) (κ 0 + 1) + wc (κ 11) (κ 0 + 1)) + (0 + wc (κ 6) ((κ 0 + 1)) + wc (κ 6) ((κ 0 + 1)) + wc (κ 6) ((κ 0 + 1)) + wc (κ 6) ((κ 0 + 1)) + wc (κ 6) ((κ 0 + 1)) + wc (κ 9) (κ 0 + 1)) + 0 ≤ 50000; omega), (by show 0 + (0 + wm (κ 11) (κ 0 + 1) + wm (κ 11) (κ 0 + 1) + wm (κ 11) (κ 0 + 1) + wm (κ 11) (κ 0 + 1)) + (0 + wm (κ 6) ((κ 0 + 1)) + wm (κ 6) ((κ 0 + 1)) + wm (κ 6) ((κ 0 + 1)) + wm (κ 6) ((κ 0 + 1)) + wm (κ 6) ((κ 0 + 1)) + 4 * wm (κ 9) (κ 0 + 1)) + 0 ≤ 1000000; omega)⟩ (fun H locs hG hS _ _ => ?_)
      have hG : INVF γ A (ku (ku (ku (ku (ku κ 0 (κ 0 + 1)) 1 (κ 1 + 1 - i3.toNatClampNeg)) 11 (wl (κ 11) (κ 0 + 1))) 6 (wl (κ 6) ((κ 0 + 1)))) 9 (wl (κ 9) (κ 0 + 1))) (up φ30 7 (P_Looks_forget ((wl (κ 6) ((κ 0 + 1)))) (φ30 7) r26)) ψ31 _ := hG
      obtain ⟨φ33, eφ33⟩ : ∃ z : gF, z = up φ30 7 (P_Looks_forget ((wl (κ 6) ((κ 0 + 1)))) (φ30 7) r26) := ⟨_, rfl⟩
      rw [← eφ33] at hG
      have hI := inv_of hG
      refine lv_aload_n hx hb dTypeBook_add_117 rfl (lv_at hl 1 rfl) ?_
      refine of_get S hC (of_0_5 hI) in_TypeBook rfl (by decide) qw_130a6323a2 dTypeBook_add_118 ?_
      refine lv_aload_n hx hb dTypeBook_add_121 rfl (lv_at hl 1 rfl) ?_
      refine of_get S hC (of_0_0 hI) in_TypeBook rfl (by decide) qw_6151ee7924 dTypeBook_add_122 ?_
      refine of_getN S hC (of_1_4 hI) in_Trees rfl (by decide) qn_307125c060 dTypeBook_add_125 ?_
      refine lv_topi (fun v34 ev34 => ?_)
      have ev34 : v34 = nI (κ 0 + 1) := ev34
      obtain rfl : v34 = nI (κ 0 + 1) := ev34
      refine mu_Vv (rest := []) S hC (fun q h => hA q (Nat.le_trans hS.1 h)) (fun q h => h) hS (f_Looker_makeRoom l γ A (ku (ku (ku (ku (ku κ 0 (κ 0 + 1)) 1 (κ 1 + 1 - i3.toNatClampNeg)) 11 (wl (κ 11) (κ 0 + 1))) 6 (wl (κ 6) ((κ 0 + 1)))) 9 (wl (κ 9) (κ 0 + 1))) φ33 ψ31 (κ 0 + 1) (by omega)) meLooker_makeRoom qw_524cf24ff5 ⟨Nat.le_of_ble_eq_true rfl, Nat.le_of_ble_eq_true rfl⟩ (rv_8 hC hI) hG rfl hl.1 rfl (Nat.le_of_ble_eq_true rfl) dTypeBook_add_128 ⟨(by show 0 + (0 + wc (κ 11) (κ 0 + 1) + wc (κ 11) (κ 0 + 1) + wc (κ 11) (κ 0 + 1) + wc (κ 11) (κ 0 + 1)) + (0 + wc (κ 6) ((κ 0 + 1)) + wc (κ 6) ((κ 0 + 1)) + wc (κ 6) ((κ 0 + 1)) + wc (κ 6) ((κ 0 + 1)) + wc (κ 6) ((κ 0 + 1)) + wc (κ 9) (κ 0 + 1)) + (0 + (0 + wc (κ 7) ((κ 0 + 1)) + wc (κ 7) ((κ 0 + 1)) + wc (κ 7) ((κ 0 + 1)) + wc (κ 7) ((κ 0 + 1)) + wc (κ 7) ((κ 0 + 1)) + wc (κ 10) (κ 0 + 1)) + wc (κ 15) ((κ 0 + 1))) ≤ 50000; omega), (by show 0 + (0 + wm (κ 11) (κ 0 + 1) + wm (κ 11) (κ 0 + 1) + wm (κ 11) (κ 0 + 1) + wm (κ 11) (κ 0 + 1)) + (0 + wm (κ 6) ((κ 0 + 1)) + wm (κ 6) ((κ 0 + 1)) + wm (κ 6) ((κ 0 + 1)) + wm (κ 6) ((κ 0 + 1)) + wm (κ 6) ((κ 0 + 1)) + 4 * wm (κ 9) (κ 0 + 1)) + (0 + (0 + wm (κ 7) ((κ 0 + 1)) + wm (κ 7) ((κ 0 + 1)) + wm (κ 7) ((κ 0 + 1)) + wm (κ 7) ((κ 0 + 1)) + wm (κ 7) ((κ 0 + 1)) + 4 * wm (κ 10) (κ 0 + 1)) + wm (κ 15) ((κ 0 + 1))) ≤ 1000000; omega)⟩ (fun H locs hG hS _ _ => ?_)
      refine W.cs (cells' := 0 + (0 + wc (κ 11) (κ 0 + 1) + wc (κ 11) (κ 0 + 1) + wc (κ 11) (κ 0 + 1) + wc (κ 11) (κ 0 + 1)) + (0 + wc (κ 6) ((κ 0 + 1)) + wc (κ 6) ((κ 0 + 1)) + wc (κ 6) ((κ 0 + 1)) + wc (κ 6) ((κ 0 + 1)) + wc (κ 6) ((κ 0 + 1)) + wc (κ 9) (κ 0 + 1)) + (0 + (0 + wc (κ 7) ((κ 0 + 1)) + wc (κ 7) ((κ 0 + 1)) + wc (κ 7) ((κ 0 + 1)) + wc (κ 7) ((κ 0 + 1)) + wc (κ 7) ((κ 0 + 1)) + wc (κ 10) (κ 0 + 1)) + wc (κ 15) ((κ 0 + 1)))) (slots' := 0 + (0 + wm (κ 11) (κ 0 + 1) + wm (κ 11) (κ 0 + 1) + wm (κ 11) (κ 0 + 1) + wm (κ 11) (κ 0 + 1)) + (0 + wm (κ 6) ((κ 0 + 1)) + wm (κ 6) ((κ 0 + 1)) + wm (κ 6) ((κ 0 + 1)) + wm (κ 6) ((κ 0 + 1)) + wm (κ 6) ((κ 0 + 1)) + 4 * wm (κ 9) (κ 0 + 1)) + (0 + (0 + wm (κ 7) ((κ 0 + 1)) + wm (κ 7) ((κ 0 + 1)) + wm (κ 7) ((κ 0 + 1)) + wm (κ 7) ((κ 0 + 1)) + wm (κ 7) ((κ 0 + 1)) + 4 * wm (κ 10) (κ 0 + 1)) + wm (κ 15) ((κ 0 + 1)))) rfl rfl ?_
      have hG : INVF γ A (ku (ku (ku (ku (ku (ku (ku (ku κ 0 (κ 0 + 1)) 1 (κ 1 + 1 - i3.toNatClampNeg)) 11 (wl (κ 11) (κ 0 + 1))) 6 (wl (κ 6) ((κ 0 + 1)))) 9 (wl (κ 9) (κ 0 + 1))) 7 (wl (κ 7) ((κ 0 + 1)))) 10 (wl (κ 10) (κ 0 + 1))) 15 (wl (κ 15) ((κ 0 + 1)))) (P_Looker_makeRoom (ku (ku (ku (ku (ku κ 0 (κ 0 + 1)) 1 (κ 1 + 1 - i3.toNatClampNeg)) 11 (wl (κ 11) (κ 0 + 1))) 6 (wl (κ 6) ((κ 0 + 1)))) 9 (wl (κ 9) (κ 0 + 1))) φ33 ψ31 (κ 0 + 1)).1 (P_Looker_makeRoom (ku (ku (ku (ku (ku κ 0 (κ 0 + 1)) 1 (κ 1 + 1 - i3.toNatClampNeg)) 11 (wl (κ 11) (κ 0 + 1))) 6 (wl (κ 6) ((κ 0 + 1)))) 9 (wl (κ 9) (κ 0 + 1))) φ33 ψ31 (κ 0 + 1)).2 _ := hG
      obtain ⟨φ36, eφ36⟩ : ∃ z : gF, z = (P_Looker_makeRoom (ku (ku (ku (ku (ku κ 0 (κ 0 + 1)) 1 (κ 1 + 1 - i3.toNatClampNeg)) 11 (wl (κ 11) (κ 0 + 1))) 6 (wl (κ 6) ((κ 0 + 1)))) 9 (wl (κ 9) (κ 0 + 1))) φ33 ψ31 (κ 0 + 1)).1 := ⟨_, rfl⟩
      rw [← eφ36] at hG
      obtain ⟨ψ37, eψ37⟩ : ∃ z : gG, z = (P_Looker_makeRoom (ku (ku (ku (ku (ku κ 0 (κ 0 + 1)) 1 (κ 1 + 1 - i3.toNatClampNeg)) 11 (wl (κ 11) (κ 0 + 1))) 6 (wl (κ 6) ((κ 0 + 1)))) 9 (wl (κ 9) (κ 0 + 1))) φ33 ψ31 (κ 0 + 1)).2 := ⟨_, rfl⟩
      rw [← eψ37] at hG
      have hI := inv_of hG
      refine lv_iload hx hb dTypeBook_add_131 (lv_at hl 0 rfl) ?_
      rw [hQ]
      refine tx_endI S hret hlk hS (by show 0 + (0 + wc (κ 11) (κ 0 + 1) + wc (κ 11) (κ 0 + 1) + wc (κ 11) (κ 0 + 1) + wc (κ 11) (κ 0 + 1)) + (0 + wc (κ 6) ((κ 0 + 1)) + wc (κ 6) ((κ 0 + 1)) + wc (κ 6) ((κ 0 + 1)) + wc (κ 6) ((κ 0 + 1)) + wc (κ 6) ((κ 0 + 1)) + wc (κ 9) (κ 0 + 1)) + (0 + (0 + wc (κ 7) ((κ 0 + 1)) + wc (κ 7) ((κ 0 + 1)) + wc (κ 7) ((κ 0 + 1)) + wc (κ 7) ((κ 0 + 1)) + wc (κ 7) ((κ 0 + 1)) + wc (κ 10) (κ 0 + 1)) + wc (κ 15) ((κ 0 + 1))) ≤ 50000; omega) (by show 0 + (0 + wm (κ 11) (κ 0 + 1) + wm (κ 11) (κ 0 + 1) + wm (κ 11) (κ 0 + 1) + wm (κ 11) (κ 0 + 1)) + (0 + wm (κ 6) ((κ 0 + 1)) + wm (κ 6) ((κ 0 + 1)) + wm (κ 6) ((κ 0 + 1)) + wm (κ 6) ((κ 0 + 1)) + wm (κ 6) ((κ 0 + 1)) + 4 * wm (κ 9) (κ 0 + 1)) + (0 + (0 + wm (κ 7) ((κ 0 + 1)) + wm (κ 7) ((κ 0 + 1)) + wm (κ 7) ((κ 0 + 1)) + wm (κ 7) ((κ 0 + 1)) + wm (κ 7) ((κ 0 + 1)) + 4 * wm (κ 10) (κ 0 + 1)) + wm (κ 15) ((κ 0 + 1))) ≤ 1000000; omega) (fun hGR => ?_) dTypeBook_add_133
      have hO2 : Oq OUT (0, r26, (ku (ku (ku (ku (ku (ku (ku (ku κ 0 (κ 0 + 1)) 1 (κ 1 + 1 - i3.toNatClampNeg)) 11 (wl (κ 11) (κ 0 + 1))) 6 (wl (κ 6) ((κ 0 + 1)))) 9 (wl (κ 9) (κ 0 + 1))) 7 (wl (κ 7) ((κ 0 + 1)))) 10 (wl (κ 10) (κ 0 + 1))) 15 (wl (κ 15) ((κ 0 + 1)))), φ36, ψ37) := (by subst eψ37 eφ36 eφ33 eψ31 eφ30 eφ27 er26 ev24; exact hO.tr (if_pos c25))
      rw [hO2.eq]
      exact pbf_of hG hGR (by show 5 * (κ 6) + 5 * (κ 7) + 4 * (κ 8) + 4 * (κ 9) + 4 * (κ 10) + 4 * (κ 11) + 5 * (κ 12) + 4 * (κ 13) + 3 * (κ 14) + 1 * (κ 15) ≤ 5 * (wl (κ 6) ((κ 0 + 1))) + 5 * (wl (κ 7) ((κ 0 + 1))) + 4 * (κ 8) + 4 * (wl (κ 9) (κ 0 + 1)) + 4 * (wl (κ 10) (κ 0 + 1)) + 4 * (wl (κ 11) (κ 0 + 1)) + 5 * (κ 12) + 4 * (κ 13) + 3 * (κ 14) + 1 * (wl (κ 15) ((κ 0 + 1))); omega) (by show 0 + (0 + wc (κ 11) (κ 0 + 1) + wc (κ 11) (κ 0 + 1) + wc (κ 11) (κ 0 + 1) + wc (κ 11) (κ 0 + 1)) + (0 + wc (κ 6) ((κ 0 + 1)) + wc (κ 6) ((κ 0 + 1)) + wc (κ 6) ((κ 0 + 1)) + wc (κ 6) ((κ 0 + 1)) + wc (κ 6) ((κ 0 + 1)) + wc (κ 9) (κ 0 + 1)) + (0 + (0 + wc (κ 7) ((κ 0 + 1)) + wc (κ 7) ((κ 0 + 1)) + wc (κ 7) ((κ 0 + 1)) + wc (κ 7) ((κ 0 + 1)) + wc (κ 7) ((κ 0 + 1)) + wc (κ 10) (κ 0 + 1)) + wc (κ 15) ((κ 0 + 1))) ≤ (5 * (wl (κ 6) ((κ 0 + 1))) + 5 * (wl (κ 7) ((κ 0 + 1))) + 4 * (κ 8) + 4 * (wl (κ 9) (κ 0 + 1)) + 4 * (wl (κ 10) (κ 0 + 1)) + 4 * (wl (κ 11) (κ 0 + 1)) + 5 * (κ 12) + 4 * (κ 13) + 3 * (κ 14) + 1 * (wl (κ 15) ((κ 0 + 1)))) - (5 * (κ 6) + 5 * (κ 7) + 4 * (κ 8) + 4 * (κ 9) + 4 * (κ 10) + 4 * (κ 11) + 5 * (κ 12) + 4 * (κ 13) + 3 * (κ 14) + 1 * (κ 15)) + 1; omega) (by show 0 + (0 + wm (κ 11) (κ 0 + 1) + wm (κ 11) (κ 0 + 1) + wm (κ 11) (κ 0 + 1) + wm (κ 11) (κ 0 + 1)) + (0 + wm (κ 6) ((κ 0 + 1)) + wm (κ 6) ((κ 0 + 1)) + wm (κ 6) ((κ 0 + 1)) + wm (κ 6) ((κ 0 + 1)) + wm (κ 6) ((κ 0 + 1)) + 4 * wm (κ 9) (κ 0 + 1)) + (0 + (0 + wm (κ 7) ((κ 0 + 1)) + wm (κ 7) ((κ 0 + 1)) + wm (κ 7) ((κ 0 + 1)) + wm (κ 7) ((κ 0 + 1)) + wm (κ 7) ((κ 0 + 1)) + 4 * wm (κ 10) (κ 0 + 1)) + wm (κ 15) ((κ 0 + 1))) ≤ 2 * ((5 * (wl (κ 6) ((κ 0 + 1))) + 5 * (wl (κ 7) ((κ 0 + 1))) + 4 * (κ 8) + 4 * (wl (κ 9) (κ 0 + 1)) + 4 * (wl (κ 10) (κ 0 + 1)) + 4 * (wl (κ 11) (κ 0 + 1)) + 5 * (κ 12) + 4 * (κ 13) + 3 * (κ 14) + 1 * (wl (κ 15) ((κ 0 + 1)))) - (5 * (κ 6) + 5 * (κ 7) + 4 * (κ 8) + 4 * (κ 9) + 4 * (κ 10) + 4 * (κ 11) + 5 * (κ 12) + 4 * (κ 13) + 3 * (κ 14) + 1 * (κ 15))) + 6; omega)
    · obtain ⟨sa72, hsa72⟩ := hw0.2.2.2.1 R_TypeBook 81 "no room for a node" (in_tables_1_2 (List.mem_of_getElem? (i := 179) rfl))
      rw [hQ]
      refine tx_throw (s0 := s0) (names := ["java/lang/RuntimeException", "java/lang/Exception"]) (text := "no room for a node") (sa := sa72) S hst hX hlk (by decide +kernel) (by decide +kernel) qw_8038d8d33c qw_f529d83890 (hF0.step hA0 hS.1 hS.2.1) hsa72 (ta_ISE hW hw0) hl.1 dTypeBook_add_72 dTypeBook_add_75 dTypeBook_add_76 dTypeBook_add_78 dTypeBook_add_81 (Nat.lt_of_lt_of_le (by decide) (Nat.le_of_ble_eq_true rfl : 6 ≤ _)) (Nat.le_of_ble_eq_true rfl) (by show 0 + 1 ≤ 50000; omega) (by show 0 + 6 ≤ 1000000; omega) (fun H1 hGR hz ho => ?_) hS.2.2 (by show 0 + 1 ≤ 50000; omega) (by show 0 + 6 ≤ 1000000; omega)
      have hO2 : Oq OUT (3, 0, κ, φ, ψ) := (by subst ev24; exact hO.tr (if_neg c25))
      rw [hO2.eq]
      exact ⟨⟨3, by decide, pbf_of (invf_more hG ho) hGR (by show 5 * (κ 6) + 5 * (κ 7) + 4 * (κ 8) + 4 * (κ 9) + 4 * (κ 10) + 4 * (κ 11) + 5 * (κ 12) + 4 * (κ 13) + 3 * (κ 14) + 1 * (κ 15) ≤ 5 * (κ 6) + 5 * (κ 7) + 4 * (κ 8) + 4 * (κ 9) + 4 * (κ 10) + 4 * (κ 11) + 5 * (κ 12) + 4 * (κ 13) + 3 * (κ 14) + 1 * (κ 15); omega) (by show 0 + 1 ≤ (5 * (κ 6) + 5 * (κ 7) + 4 * (κ 8) + 4 * (κ 9) + 4 * (κ 10) + 4 * (κ 11) + 5 * (κ 12) + 4 * (κ 13) + 3 * (κ 14) + 1 * (κ 15)) - (5 * (κ 6) + 5 * (κ 7) + 4 * (κ 8) + 4 * (κ 9) + 4 * (κ 10) + 4 * (κ 11) + 5 * (κ 12) + 4 * (κ 13) + 3 * (κ 14) + 1 * (κ 15)) + 1; omega) (by show 0 + 6 ≤ 2 * ((5 * (κ 6) + 5 * (κ 7) + 4 * (κ 8) + 4 * (κ 9) + 4 * (κ 10) + 4 * (κ 11) + 5 * (κ 12) + 4 * (κ 13) + 3 * (κ 14) + 1 * (κ 15)) - (5 * (κ 6) + 5 * (κ 7) + 4 * (κ 8) + 4 * (κ 9) + 4 * (κ 10) + 4 * (κ 11) + 5 * (κ 12) + 4 * (κ 13) + 3 * (κ 14) + 1 * (κ 15))) + 6; omega)⟩, fr_more hS hz ho⟩
  have J25 : ∀ (ls : Array Slot) (H : Heap) (locs : List Loc) (φ : gF) (ψ : gG) (i1 : Int32) (i2 : Int32) (i3 : Int32), INVF γ A κ φ ψ H → va_S A s.heap H locs → (Oq OUT (P_TypeBook_add_25 κ   φ ψ i1 i2 i3)) → lv_has ls 5 [(0, .ref (γ.2.2.2 0)), (1, .int i1), (2, .int i2), (3, .int i3)] → W p l e (bs_rm 6 50000 1000000 145) s m args below meth c H locs 0 0 Q (F0 m 25 ls []) := by
    intro ls H locs φ ψ i1 i2 i3 hG hS hO hl
    have hI := inv_of hG
    obtain ⟨sa25, hsa25⟩ := hw0.2.2.2.1 R_TypeBook 62 "no such kind, or not so many trees" (in_tables_1_2 (List.mem_of_getElem? (i := 136) rfl))
    rw [hQ]
    refine tx_throw (s0 := s0) (names := ["java/lang/RuntimeException", "java/lang/Exception"]) (text := "no such kind, or not so many trees") (sa := sa25) S hst hX hlk (by decide +kernel) (by decide +kernel) qw_b17894d46b qw_ed8d893ebf (hF0.step hA0 hS.1 hS.2.1) hsa25 (ta_IAE hW hw0) hl.1 dTypeBook_add_25 dTypeBook_add_28 dTypeBook_add_29 dTypeBook_add_31 dTypeBook_add_34 (Nat.lt_of_lt_of_le (by decide) (Nat.le_of_ble_eq_true rfl : 6 ≤ _)) (Nat.le_of_ble_eq_true rfl) (by show 0 + 1 ≤ 50000; omega) (by show 0 + 6 ≤ 1000000; omega) (fun H1 hGR hz ho => ?_) hS.2.2 (by show 0 + 1 ≤ 50000; omega) (by show 0 + 6 ≤ 1000000; omega)
    have hO2 : Oq OUT (2, 0, κ, φ, ψ) := (by exact hO.tr rfl)
    rw [hO2.eq]
    exact ⟨⟨2, by decide, pbf_of (invf_more hG ho) hGR (by show 5 * (κ 6) + 5 * (κ 7) + 4 * (κ 8) + 4 * (κ 9) + 4 * (κ 10) + 4 * (κ 11) + 5 * (κ 12) + 4 * (κ 13) + 3 * (κ 14) + 1 * (κ 15) ≤ 5 * (κ 6) + 5 * (κ 7) + 4 * (κ 8) + 4 * (κ 9) + 4 * (κ 10) + 4 * (κ 11) + 5 * (κ 12) + 4 * (κ 13) + 3 * (κ 14) + 1 * (κ 15); omega) (by show 0 + 1 ≤ (5 * (κ 6) + 5 * (κ 7) + 4 * (κ 8) + 4 * (κ 9) + 4 * (κ 10) + 4 * (κ 11) + 5 * (κ 12) + 4 * (κ 13) + 3 * (κ 14) + 1 * (κ 15)) - (5 * (κ 6) + 5 * (κ 7) + 4 * (κ 8) + 4 * (κ 9) + 4 * (κ 10) + 4 * (κ 11) + 5 * (κ 12) + 4 * (κ 13) + 3 * (κ 14) + 1 * (κ 15)) + 1; omega) (by show 0 + 6 ≤ 2 * ((5 * (κ 6) + 5 * (κ 7) + 4 * (κ 8) + 4 * (κ 9) + 4 * (κ 10) + 4 * (κ 11) + 5 * (κ 12) + 4 * (κ 13) + 3 * (κ 14) + 1 * (κ 15)) - (5 * (κ 6) + 5 * (κ 7) + 4 * (κ 8) + 4 * (κ 9) + 4 * (κ 10) + 4 * (κ 11) + 5 * (κ 12) + 4 * (κ 13) + 3 * (κ 14) + 1 * (κ 15))) + 6; omega)⟩, fr_more hS hz ho⟩
  refine lv_iload_n hx hb dTypeBook_add_0 rfl (lv_at hl 1 rfl) ?_
  refine lv_if_lt (tgt := 25) hx hb dTypeBook_add_1 (by decide) (fun c38 => ?_) (fun c38 => ?_)
  · refine W.up (k := 0) (n := 0) (by show 0 ≤ _; omega) (by show 0 ≤ _; omega) ?_
    exact J25 ls _ _ φ ψ x1 x2 x3 hG hS (by exact hO.tr (if_pos c38)) (lv_sub hl [0, 1, 2, 3] rfl)
  · refine lv_iload_n hx hb dTypeBook_add_4 rfl (lv_at hl 1 rfl) ?_
    refine lv_bipush (v := 99) hx hb dTypeBook_add_5 (by decide) ?_
    refine lv_icmp_gt (tgt := 25) hx hb dTypeBook_add_7 (by decide) (fun c39 => ?_) (fun c39 => ?_)
    · refine W.up (k := 0) (n := 0) (by show 0 ≤ _; omega) (by show 0 ≤ _; omega) ?_
      exact J25 ls _ _ φ ψ x1 x2 x3 hG hS (by exact hO.tr ((if_neg c38).trans (if_pos c39))) (lv_sub hl [0, 1, 2, 3] rfl)
    · refine lv_iload_n hx hb dTypeBook_add_10 rfl (lv_at hl 3 rfl) ?_
      refine lv_if_lt (tgt := 25) hx hb dTypeBook_add_11 (by decide) (fun c40 => ?_) (fun c40 => ?_)
      · refine W.up (k := 0) (n := 0) (by show 0 ≤ _; omega) (by show 0 ≤ _; omega) ?_
        exact J25 ls _ _ φ ψ x1 x2 x3 hG hS (by exact hO.tr ((if_neg c38).trans ((if_neg c39).trans (if_pos c40)))) (lv_sub hl [0, 1, 2, 3] rfl)
      · refine lv_iload_n hx hb dTypeBook_add_14 rfl (lv_at hl 3 rfl) ?_
        refine lv_aload_n hx hb dTypeBook_add_15 rfl (lv_at hl 0 rfl) ?_
        refine of_get S hC (of_0_0 hI) in_TypeBook rfl (by decide) qw_6151ee7924 dTypeBook_add_16 ?_
        refine of_getN S hC (of_1_5 hI) in_Trees rfl (by decide) qn_cf408b0714 dTypeBook_add_19 ?_
        refine lv_topi (fun v41 ev41 => ?_)
        have ev41 : v41 = nI (κ 1) := ev41
        refine lv_icmp_le (tgt := 35) hx hb dTypeBook_add_22 (by decide) (fun c42 => ?_) (fun c42 => ?_)
        · refine lv_iload_n hx hb dTypeBook_add_35 rfl (lv_at hl 1 rfl) ?_
          refine pu_Si (rest := []) S hC (f_Trees_bearsName l γ (INVF γ A κ φ ψ) x1) meTrees_bearsName qw_697d580e16 ⟨Nat.le_of_ble_eq_true rfl, Nat.le_of_ble_eq_true rfl⟩ hG rfl hl.1 rfl (Nat.le_of_ble_eq_true rfl) dTypeBook_add_36 ⟨(by show _ ≤ 50000; omega), (by show _ ≤ 1000000; omega)⟩ (fun r43 hr43 => ?_)
          obtain ⟨hr43, er43⟩ := hr43
          refine lv_if_eq (tgt := 59) hx hb dTypeBook_add_39 (by decide) (fun c44 => ?_) (fun c44 => ?_)
          · refine W.up (k := 0) (n := 0) (by show 0 ≤ _; omega) (by show 0 ≤ _; omega) ?_
            exact J59 ls _ _ φ ψ x1 x2 x3 hG hS (le_ok2 (le_ok (x := x3) (N := κ 1) (by assumption) (by assumption) (by assumption) (by omega)) (by omega)) (by subst er43 ev41; exact hO.tr ((if_neg c38).trans ((if_neg c39).trans ((if_neg c40).trans ((if_pos c42).trans (if_pos c44)))))) (lv_sub hl [0, 1, 2, 3] rfl)
          · refine lv_iload_n hx hb dTypeBook_add_42 rfl (lv_at hl 2 rfl) ?_
            refine pu_Si (rest := []) S hC (f_TypeBook_isName l γ (INVF γ A κ φ ψ) x2) meTypeBook_isName qw_87c028f095 ⟨Nat.le_of_ble_eq_true rfl, Nat.le_of_ble_eq_true rfl⟩ hG rfl hl.1 rfl (Nat.le_of_ble_eq_true rfl) dTypeBook_add_43 ⟨(by show _ ≤ 50000; omega), (by show _ ≤ 1000000; omega)⟩ (fun r45 hr45 => ?_)
            obtain ⟨hr45, er45⟩ := hr45
            refine lv_if_ne (tgt := 59) hx hb dTypeBook_add_46 (by decide) (fun c46 => ?_) (fun c46 => ?_)
            · refine W.up (k := 0) (n := 0) (by show 0 ≤ _; omega) (by show 0 ≤ _; omega) ?_
              exact J59 ls _ _ φ ψ x1 x2 x3 hG hS (le_ok2 (le_ok (x := x3) (N := κ 1) (by assumption) (by assumption) (by assumption) (by omega)) (by omega)) (by subst er45 er43 ev41; exact hO.tr ((if_neg c38).trans ((if_neg c39).trans ((if_neg c40).trans ((if_pos c42).trans ((if_neg c44).trans (if_neg c46))))))) (lv_sub hl [0, 1, 2, 3] rfl)
            · obtain ⟨sa49, hsa49⟩ := hw0.2.2.2.1 R_TypeBook 74 "no such name" (in_tables_1_2 (List.mem_of_getElem? (i := 169) rfl))
              rw [hQ]
              refine tx_throw (s0 := s0) (names := ["java/lang/RuntimeException", "java/lang/Exception"]) (text := "no such name") (sa := sa49) S hst hX hlk (by decide +kernel) (by decide +kernel) qw_b17894d46b qw_ed8d893ebf (hF0.step hA0 hS.1 hS.2.1) hsa49 (ta_IAE hW hw0) hl.1 dTypeBook_add_49 dTypeBook_add_52 dTypeBook_add_53 dTypeBook_add_55 dTypeBook_add_58 (Nat.lt_of_lt_of_le (by decide) (Nat.le_of_ble_eq_true rfl : 6 ≤ _)) (Nat.le_of_ble_eq_true rfl) (by show 0 + 1 ≤ 50000; omega) (by show 0 + 6 ≤ 1000000; omega) (fun H1 hGR hz ho => ?_) hS.2.2 (by show 0 + 1 ≤ 50000; omega) (by show 0 + 6 ≤ 1000000; omega)
              have hO2 : Oq OUT (2, 0, κ, φ, ψ) := (by subst er45 er43 ev41; exact hO.tr ((if_neg c38).trans ((if_neg c39).trans ((if_neg c40).trans ((if_pos c42).trans ((if_neg c44).trans (if_pos c46)))))))
              rw [hO2.eq]
              exact ⟨⟨2, by decide, pbf_of (invf_more hG ho) hGR (by show 5 * (κ 6) + 5 * (κ 7) + 4 * (κ 8) + 4 * (κ 9) + 4 * (κ 10) + 4 * (κ 11) + 5 * (κ 12) + 4 * (κ 13) + 3 * (κ 14) + 1 * (κ 15) ≤ 5 * (κ 6) + 5 * (κ 7) + 4 * (κ 8) + 4 * (κ 9) + 4 * (κ 10) + 4 * (κ 11) + 5 * (κ 12) + 4 * (κ 13) + 3 * (κ 14) + 1 * (κ 15); omega) (by show 0 + 1 ≤ (5 * (κ 6) + 5 * (κ 7) + 4 * (κ 8) + 4 * (κ 9) + 4 * (κ 10) + 4 * (κ 11) + 5 * (κ 12) + 4 * (κ 13) + 3 * (κ 14) + 1 * (κ 15)) - (5 * (κ 6) + 5 * (κ 7) + 4 * (κ 8) + 4 * (κ 9) + 4 * (κ 10) + 4 * (κ 11) + 5 * (κ 12) + 4 * (κ 13) + 3 * (κ 14) + 1 * (κ 15)) + 1; omega) (by show 0 + 6 ≤ 2 * ((5 * (κ 6) + 5 * (κ 7) + 4 * (κ 8) + 4 * (κ 9) + 4 * (κ 10) + 4 * (κ 11) + 5 * (κ 12) + 4 * (κ 13) + 3 * (κ 14) + 1 * (κ 15)) - (5 * (κ 6) + 5 * (κ 7) + 4 * (κ 8) + 4 * (κ 9) + 4 * (κ 10) + 4 * (κ 11) + 5 * (κ 12) + 4 * (κ 13) + 3 * (κ 14) + 1 * (κ 15))) + 6; omega)⟩, fr_more hS hz ho⟩
        · refine W.up (k := 0) (n := 0) (by show 0 ≤ _; omega) (by show 0 ≤ _; omega) ?_
          exact J25 ls _ _ φ ψ x1 x2 x3 hG hS (by subst ev41; exact hO.tr ((if_neg c38).trans ((if_neg c39).trans ((if_neg c40).trans (if_neg c42))))) (lv_sub hl [0, 1, 2, 3] rfl)
def P_TypeBook_enter (κ : Nat → Nat) (φ : gF) (ψ : gG) : XR := (if (nI (κ 3)) < 32 then (0, (nI (κ 3 + 1)), (ku κ 3 (κ 3 + 1)), (up φ 3 (P_Names_open ((κ 2)) ((κ 3)) ((κ 12)) (φ 3) )), ψ) else (3, 0, κ, φ, ψ))
set_option maxHeartbeats 4000000 in
set_option maxRecDepth 100000 in
theorem xf_enter (l : Launch) (hst : l.stackTraces = false) (γ : gE) (A : Nat → Prop) (κ : Nat → Nat) (φ : gF) (ψ : gG) (s0 : State) (hw0 : SW s0) (hA0 : ∀ q, A q → s0.heap.size ≤ q) (H0 : Heap)  : XM l yTypeBook_enter bTypeBook_enter 1 (some .int) 6 82 50000 1000000 [.ref (γ.2.2.2 0)] γ A (fun U => FB s0 U U.heap ∧ U.heap = H0 ∧ INVF γ A κ φ ψ U.heap) (mQi (fun r H => PBF γ A κ H0 (P_TypeBook_enter κ φ ψ ) 0 r H) A) (fun E H => XCF γ A κ H0 (P_TypeBook_enter κ φ ψ ) E H) := by
  refine tx_openI (by decide) (Nat.le_of_ble_eq_true rfl) ?_
  intro p e s m args below meth c ls Q S hret hlk hX hC hA hP hQ hl
  obtain ⟨hF0, hH0, hG⟩ := hP
  subst hH0
  have hI := inv_of hG
  obtain ⟨hx, hb, hml, hown, hW⟩ := id S
  have hS : va_S A s.heap s.heap [] := va_S.rf
  have hl : lv_has ls 1 [(0, .ref (γ.2.2.2 0))] := hl
  obtain ⟨hlen, hsz⟩ := inv_len hI
  obtain ⟨OUT, hQ9, hO⟩ : ∃ z, (z = P_TypeBook_enter κ φ ψ ) ∧ Oq z (P_TypeBook_enter κ φ ψ ) := ⟨_, rfl, rfl⟩
  rw [← hQ9] at hQ
  clear hQ9
  refine lv_aload_n hx hb dTypeBook_enter_0 rfl (lv_at hl 0 rfl) ?_
  refine of_get S hC (of_0_1 hI) in_TypeBook rfl (by decide) qw_a088f6ef48 dTypeBook_enter_1 ?_
  refine of_getN S hC (of_2_8 hI) in_Names rfl (by decide) qn_75616f261a dTypeBook_enter_4 ?_
  refine lv_topi (fun v6 ev6 => ?_)
  have ev6 : v6 = nI (κ 3) := ev6
  refine lv_bipush (v := 32) hx hb dTypeBook_enter_7 (by decide) ?_
  refine lv_icmp_lt (tgt := 22) hx hb dTypeBook_enter_9 (by decide) (fun c7 => ?_) (fun c7 => ?_)
  · have hN : κ 3 < 32 := lt_ok (M := 32) (by assumption) rfl (by assumption) (by omega) (by omega)
    refine lv_aload_n hx hb dTypeBook_enter_22 rfl (lv_at hl 0 rfl) ?_
    refine of_get S hC (of_0_1 hI) in_TypeBook rfl (by decide) qw_a088f6ef48 dTypeBook_enter_23 ?_
    refine mu_Vv (rest := []) S hC (fun q h => hA q (Nat.le_trans hS.1 h)) (fun q h => h) hS (f2_Names_open l γ A κ φ ψ  (by show κ 3 < 32; omega)) meNames_open qw_0f394564bc ⟨Nat.le_of_ble_eq_true rfl, Nat.le_of_ble_eq_true rfl⟩ (rv_2 hC hI) hG rfl hl.1 rfl (Nat.le_of_ble_eq_true rfl) dTypeBook_enter_26 ⟨(by show 0 + 0 ≤ 50000; omega), (by show 0 + 0 ≤ 1000000; omega)⟩ (fun H locs hG hS _ _ => ?_)
    have hG : INVF γ A (ku κ 3 (κ 3 + 1)) (up φ 3 (P_Names_open ((κ 2)) ((κ 3)) ((κ 12)) (φ 3) )) ψ _ := hG
    obtain ⟨φ9, eφ9⟩ : ∃ z : gF, z = up φ 3 (P_Names_open ((κ 2)) ((κ 3)) ((κ 12)) (φ 3) ) := ⟨_, rfl⟩
    rw [← eφ9] at hG
    have hI := inv_of hG
    refine lv_aload_n hx hb dTypeBook_enter_29 rfl (lv_at hl 0 rfl) ?_
    refine of_get S hC (of_0_1 hI) in_TypeBook rfl (by decide) qw_a088f6ef48 dTypeBook_enter_30 ?_
    refine of_getN S hC (of_2_8 hI) in_Names rfl (by decide) qn_75616f261a dTypeBook_enter_33 ?_
    refine lv_topi (fun v10 ev10 => ?_)
    have ev10 : v10 = nI (κ 3 + 1) := ev10
    rw [hQ]
    refine tx_endI S hret hlk hS (by show 0 ≤ 50000; omega) (by show 0 ≤ 1000000; omega) (fun hGR => ?_) dTypeBook_enter_36
    have hO2 : Oq OUT (0, v10, (ku κ 3 (κ 3 + 1)), φ9, ψ) := (by subst ev10 eφ9 ev6; exact hO.tr (if_pos c7))
    rw [hO2.eq]
    exact pbf_of hG hGR (by show 5 * (κ 6) + 5 * (κ 7) + 4 * (κ 8) + 4 * (κ 9) + 4 * (κ 10) + 4 * (κ 11) + 5 * (κ 12) + 4 * (κ 13) + 3 * (κ 14) + 1 * (κ 15) ≤ 5 * (κ 6) + 5 * (κ 7) + 4 * (κ 8) + 4 * (κ 9) + 4 * (κ 10) + 4 * (κ 11) + 5 * (κ 12) + 4 * (κ 13) + 3 * (κ 14) + 1 * (κ 15); omega) (by show 0 ≤ (5 * (κ 6) + 5 * (κ 7) + 4 * (κ 8) + 4 * (κ 9) + 4 * (κ 10) + 4 * (κ 11) + 5 * (κ 12) + 4 * (κ 13) + 3 * (κ 14) + 1 * (κ 15)) - (5 * (κ 6) + 5 * (κ 7) + 4 * (κ 8) + 4 * (κ 9) + 4 * (κ 10) + 4 * (κ 11) + 5 * (κ 12) + 4 * (κ 13) + 3 * (κ 14) + 1 * (κ 15)) + 1; omega) (by show 0 ≤ 2 * ((5 * (κ 6) + 5 * (κ 7) + 4 * (κ 8) + 4 * (κ 9) + 4 * (κ 10) + 4 * (κ 11) + 5 * (κ 12) + 4 * (κ 13) + 3 * (κ 14) + 1 * (κ 15)) - (5 * (κ 6) + 5 * (κ 7) + 4 * (κ 8) + 4 * (κ 9) + 4 * (κ 10) + 4 * (κ 11) + 5 * (κ 12) + 4 * (κ 13) + 3 * (κ 14) + 1 * (κ 15))) + 6; omega)
  · obtain ⟨sa12, hsa12⟩ := hw0.2.2.2.1 R_TypeBook 102 "no room for a scope" (in_tables_1_2 (List.mem_of_getElem? (i := 237) rfl))
    rw [hQ]
    refine tx_throw (s0 := s0) (names := ["java/lang/RuntimeException", "java/lang/Exception"]) (text := "no room for a scope") (sa := sa12) S hst hX hlk (by decide +kernel) (by decide +kernel) qw_8038d8d33c qw_f529d83890 (hF0.step hA0 hS.1 hS.2.1) hsa12 (ta_ISE hW hw0) hl.1 dTypeBook_enter_12 dTypeBook_enter_15 dTypeBook_enter_16 dTypeBook_enter_18 dTypeBook_enter_21 (Nat.lt_of_lt_of_le (by decide) (Nat.le_of_ble_eq_true rfl : 6 ≤ _)) (Nat.le_of_ble_eq_true rfl) (by show 0 + 1 ≤ 50000; omega) (by show 0 + 6 ≤ 1000000; omega) (fun H1 hGR hz ho => ?_) hS.2.2 (by show 0 + 1 ≤ 50000; omega) (by show 0 + 6 ≤ 1000000; omega)
    have hO2 : Oq OUT (3, 0, κ, φ, ψ) := (by subst ev6; exact hO.tr (if_neg c7))
    rw [hO2.eq]
    exact ⟨⟨3, by decide, pbf_of (invf_more hG ho) hGR (by show 5 * (κ 6) + 5 * (κ 7) + 4 * (κ 8) + 4 * (κ 9) + 4 * (κ 10) + 4 * (κ 11) + 5 * (κ 12) + 4 * (κ 13) + 3 * (κ 14) + 1 * (κ 15) ≤ 5 * (κ 6) + 5 * (κ 7) + 4 * (κ 8) + 4 * (κ 9) + 4 * (κ 10) + 4 * (κ 11) + 5 * (κ 12) + 4 * (κ 13) + 3 * (κ 14) + 1 * (κ 15); omega) (by show 0 + 1 ≤ (5 * (κ 6) + 5 * (κ 7) + 4 * (κ 8) + 4 * (κ 9) + 4 * (κ 10) + 4 * (κ 11) + 5 * (κ 12) + 4 * (κ 13) + 3 * (κ 14) + 1 * (κ 15)) - (5 * (κ 6) + 5 * (κ 7) + 4 * (κ 8) + 4 * (κ 9) + 4 * (κ 10) + 4 * (κ 11) + 5 * (κ 12) + 4 * (κ 13) + 3 * (κ 14) + 1 * (κ 15)) + 1; omega) (by show 0 + 6 ≤ 2 * ((5 * (κ 6) + 5 * (κ 7) + 4 * (κ 8) + 4 * (κ 9) + 4 * (κ 10) + 4 * (κ 11) + 5 * (κ 12) + 4 * (κ 13) + 3 * (κ 14) + 1 * (κ 15)) - (5 * (κ 6) + 5 * (κ 7) + 4 * (κ 8) + 4 * (κ 9) + 4 * (κ 10) + 4 * (κ 11) + 5 * (κ 12) + 4 * (κ 13) + 3 * (κ 14) + 1 * (κ 15))) + 6; omega)⟩, fr_more hS hz ho⟩
def P_TypeBook_check_27 (κ : Nat → Nat) (φ : gF) (ψ : gG) (i1 : Int32) (i2 : Int32) : XR := (1, 0, κ, φ, ψ)
def P_TypeBook_check_37 (κ : Nat → Nat) (φ : gF) (ψ : gG) (i1 : Int32) (i2 : Int32) : XR := (if (P_Looker_judge κ ((P_Looker_look κ φ ψ i1 i1).2.1) ((P_Looker_look κ φ ψ i1 i1).2.2) ((P_Looker_look κ φ ψ i1 i1).1) i1 i2 0) = 0 then (0, 0, κ, (up ((P_Looker_tell κ ((P_Looker_look κ φ ψ i1 i1).2.1) ((P_Looker_look κ φ ψ i1 i1).2.2) i1 i1).1) 1 (Au (((P_Looker_tell κ ((P_Looker_look κ φ ψ i1 i1).2.1) ((P_Looker_look κ φ ψ i1 i1).2.2) i1 i1).1) 1) 1 0 (-1))), ((P_Looker_tell κ ((P_Looker_look κ φ ψ i1 i1).2.1) ((P_Looker_look κ φ ψ i1 i1).2.2) i1 i1).2)) else (0, (P_TypeBook_refused κ ((P_Looker_look κ φ ψ i1 i1).2.1) ((P_Looker_look κ φ ψ i1 i1).2.2) (P_Looker_judge κ ((P_Looker_look κ φ ψ i1 i1).2.1) ((P_Looker_look κ φ ψ i1 i1).2.2) ((P_Looker_look κ φ ψ i1 i1).1) i1 i2 0) (((P_Looker_look κ φ ψ i1 i1).2.1) 1 2 0)).1, κ, ((P_TypeBook_refused κ ((P_Looker_look κ φ ψ i1 i1).2.1) ((P_Looker_look κ φ ψ i1 i1).2.2) (P_Looker_judge κ ((P_Looker_look κ φ ψ i1 i1).2.1) ((P_Looker_look κ φ ψ i1 i1).2.2) ((P_Looker_look κ φ ψ i1 i1).1) i1 i2 0) (((P_Looker_look κ φ ψ i1 i1).2.1) 1 2 0)).2.1), ((P_TypeBook_refused κ ((P_Looker_look κ φ ψ i1 i1).2.1) ((P_Looker_look κ φ ψ i1 i1).2.2) (P_Looker_judge κ ((P_Looker_look κ φ ψ i1 i1).2.1) ((P_Looker_look κ φ ψ i1 i1).2.2) ((P_Looker_look κ φ ψ i1 i1).1) i1 i2 0) (((P_Looker_look κ φ ψ i1 i1).2.1) 1 2 0)).2.2)))
def P_TypeBook_check (κ : Nat → Nat) (φ : gF) (ψ : gG) (x1 : Int32) (x2 : Int32) : XR := (if (P_Trees_has ((κ 0)) ((κ 1)) ((κ 11)) (φ 2) x1) = 0 then (P_TypeBook_check_27 κ  φ ψ x1 x2) else (if x2 = (-1) then (P_TypeBook_check_37 κ  φ ψ x1 x2) else (if (P_Types_has ((κ 4)) ((κ 13)) (φ 4) x2) = 0 then (P_TypeBook_check_27 κ  φ ψ x1 x2) else (P_TypeBook_check_37 κ  φ ψ x1 x2))))
set_option maxHeartbeats 4000000 in
set_option maxRecDepth 100000 in
theorem xf_check (l : Launch) (hst : l.stackTraces = false) (γ : gE) (A : Nat → Prop) (κ : Nat → Nat) (φ : gF) (ψ : gG) (s0 : State) (hw0 : SW s0) (hA0 : ∀ q, A q → s0.heap.size ≤ q) (H0 : Heap) (x1 : Int32) (x2 : Int32) : XM l yTypeBook_check bTypeBook_check 4 (some .int) 7 174 50000 1000000 [.ref (γ.2.2.2 0), .int x1, .int x2] γ A (fun U => FB s0 U U.heap ∧ U.heap = H0 ∧ INVF γ A κ φ ψ U.heap) (mQi (fun r H => PBF γ A κ H0 (P_TypeBook_check κ φ ψ x1 x2) 0 r H) A) (fun E H => XCF γ A κ H0 (P_TypeBook_check κ φ ψ x1 x2) E H) := by
  refine tx_openI (by decide) (Nat.le_of_ble_eq_true rfl) ?_
  intro p e s m args below meth c ls Q S hret hlk hX hC hA hP hQ hl
  obtain ⟨hF0, hH0, hG⟩ := hP
  subst hH0
  have hI := inv_of hG
  obtain ⟨hx, hb, hml, hown, hW⟩ := id S
  have hS : va_S A s.heap s.heap [] := va_S.rf
  have hl : lv_has ls 4 [(0, .ref (γ.2.2.2 0)), (1, .int x1), (2, .int x2)] := hl
  obtain ⟨hlen, hsz⟩ := inv_len hI
  obtain ⟨OUT, hQ9, hO⟩ : ∃ z, (z = P_TypeBook_check κ φ ψ x1 x2) ∧ Oq z (P_TypeBook_check κ φ ψ x1 x2) := ⟨_, rfl, rfl⟩
  rw [← hQ9] at hQ
  clear hQ9
  have J37 : ∀ (ls : Array Slot) (H : Heap) (locs : List Loc) (φ : gF) (ψ : gG) (i1 : Int32) (i2 : Int32), INVF γ A κ φ ψ H → va_S A s.heap H locs → (i1.toInt < 2147483647 ∧ (i1 - 1).toInt < 2147483647) → (Oq OUT (P_TypeBook_check_37 κ   φ ψ i1 i2)) → lv_has ls 4 [(0, .ref (γ.2.2.2 0)), (1, .int i1), (2, .int i2)] → W p l e (bs_rm 7 50000 1000000 174) s m args below meth c H locs 0 0 Q (F0 m 37 ls []) := by
    intro ls H locs φ ψ i1 i2 hG hS ⟨hnode, hnode2⟩ hO hl
    have hI := inv_of hG
    refine lv_aload_n hx hb dTypeBook_check_37 rfl (lv_at hl 0 rfl) ?_
    refine of_get S hC (of_0_5 hI) in_TypeBook rfl (by decide) qw_130a6323a2 dTypeBook_check_38 ?_
    refine lv_aload_n hx hb dTypeBook_check_41 rfl (lv_at hl 0 rfl) ?_
    refine of_get S hC (of_0_5 hI) in_TypeBook rfl (by decide) qw_130a6323a2 dTypeBook_check_42 ?_
    refine lv_iload_n hx hb dTypeBook_check_45 rfl (lv_at hl 1 rfl) ?_
    refine lv_iload_n hx hb dTypeBook_check_46 rfl (lv_at hl 1 rfl) ?_
    refine mu_Vi (rest := [.ref (γ.2.2.2 8)]) S hC (fun q h => hA q (Nat.le_trans hS.1 h)) (fun q h => h) hS (f_Looker_look l γ A κ φ ψ i1 i1 hnode) meLooker_look qw_d8c2c64b31 ⟨Nat.le_of_ble_eq_true rfl, Nat.le_of_ble_eq_true rfl⟩ (rv_8 hC hI) hG rfl hl.1 rfl (Nat.le_of_ble_eq_true rfl) dTypeBook_check_47 ⟨(by show 0 + 0 ≤ 50000; omega), (by show 0 + 0 ≤ 1000000; omega)⟩ (fun r19 H locs ⟨er19, hG⟩ hS _ _ => ?_)
    have hG : INVF γ A κ (P_Looker_look κ φ ψ i1 i1).2.1 (P_Looker_look κ φ ψ i1 i1).2.2 _ := hG
    obtain ⟨φ20, eφ20⟩ : ∃ z : gF, z = (P_Looker_look κ φ ψ i1 i1).2.1 := ⟨_, rfl⟩
    rw [← eφ20] at hG
    obtain ⟨ψ21, eψ21⟩ : ∃ z : gG, z = (P_Looker_look κ φ ψ i1 i1).2.2 := ⟨_, rfl⟩
    rw [← eψ21] at hG
    have hI := inv_of hG
    refine lv_iload_n hx hb dTypeBook_check_50 rfl (lv_at hl 1 rfl) ?_
    refine lv_iload_n hx hb dTypeBook_check_51 rfl (lv_at hl 2 rfl) ?_
    refine lv_iconst (v := 0) hx hb dTypeBook_check_52 (by decide) ?_
    refine pu_Vi (rest := []) S hC (f_Looker_judge l γ A κ φ20 ψ21 r19 i1 i2 0) meLooker_judge qw_eb62b8f344 ⟨Nat.le_of_ble_eq_true rfl, Nat.le_of_ble_eq_true rfl⟩ (rv_8 hC hI) hG rfl hl.1 rfl (Nat.le_of_ble_eq_true rfl) dTypeBook_check_53 ⟨(by show _ ≤ 50000; omega), (by show _ ≤ 1000000; omega)⟩ (fun r22 hr22 => ?_)
    obtain ⟨hr22, er22⟩ := hr22
    refine lv_istore_n (lv' := [(3, .int r22), (0, .ref (γ.2.2.2 0)), (1, .int i1), (2, .int i2)]) hx hb dTypeBook_check_56 rfl hl (by decide) rfl (fun ls hl => ?_)
    refine lv_iload_n hx hb dTypeBook_check_57 rfl (lv_at hl 0 rfl) ?_
    refine lv_if_eq (tgt := 74) hx hb dTypeBook_check_58 (by decide) (fun c23 => ?_) (fun c23 => ?_)
    · refine lv_aload_n hx hb dTypeBook_check_74 rfl (lv_at hl 1 rfl) ?_
      refine of_get S hC (of_0_5 hI) in_TypeBook rfl (by decide) qw_130a6323a2 dTypeBook_check_75 ?_
      refine lv_aload_n hx hb dTypeBook_check_78 rfl (lv_at hl 1 rfl) ?_
      refine of_get S hC (of_0_4 hI) in_TypeBook rfl (by decide) qw_ce6a8385d0 dTypeBook_check_79 ?_
      refine lv_iload_n hx hb dTypeBook_check_82 rfl (lv_at hl 2 rfl) ?_
      refine lv_iload_n hx hb dTypeBook_check_83 rfl (lv_at hl 2 rfl) ?_
      refine mu_Vv (rest := []) S hC (fun q h => hA q (Nat.le_trans hS.1 h)) (fun q h => h) hS (f_Looker_tell l γ A κ φ20 ψ21 i1 i1 hnode) meLooker_tell qw_e2e3c61940 ⟨Nat.le_of_ble_eq_true rfl, Nat.le_of_ble_eq_true rfl⟩ (rv_8 hC hI) hG rfl hl.1 rfl (Nat.le_of_ble_eq_true rfl) dTypeBook_check_84 ⟨(by show 0 + 0 ≤ 50000; omega), (by show 0 + 0 ≤ 1000000; omega)⟩ (fun H locs hG hS _ _ => ?_)
      have hG : INVF γ A κ (P_Looker_tell κ φ20 ψ21 i1 i1).1 (P_Looker_tell κ φ20 ψ21 i1 i1).2 _ := hG
      obtain ⟨φ25, eφ25⟩ : ∃ z : gF, z = (P_Looker_tell κ φ20 ψ21 i1 i1).1 := ⟨_, rfl⟩
      rw [← eφ25] at hG
      obtain ⟨ψ26, eψ26⟩ : ∃ z : gG, z = (P_Looker_tell κ φ20 ψ21 i1 i1).2 := ⟨_, rfl⟩
      rw [← eψ26] at hG
      have hI := inv_of hG
      refine lv_aload_n hx hb dTypeBook_check_87 rfl (lv_at hl 1 rfl) ?_
      refine lv_iconst (v := (-1)) hx hb dTypeBook_check_88 (by decide) ?_
      refine ig_fault S hC hG (fun q h => hA q (Nat.le_trans hS.1 h)) hS qw_464f80981e dTypeBook_check_89 (fun H locs hG hS => ?_)
      obtain ⟨φ27, eφ27⟩ : ∃ z : gF, z = up φ25 1 (Au (φ25 1) 1 0 (-1)) := ⟨_, rfl⟩
      rw [← eφ27] at hG
      have hI := inv_of hG
      refine lv_iconst (v := 0) hx hb dTypeBook_check_92 (by decide) ?_
      rw [hQ]
      refine tx_endI S hret hlk hS (by show 0 ≤ 50000; omega) (by show 0 ≤ 1000000; omega) (fun hGR => ?_) dTypeBook_check_93
      have hO2 : Oq OUT (0, 0, κ, φ27, ψ26) := (by subst eφ27 eψ26 eφ25 er22 eψ21 eφ20 er19; exact hO.tr (if_pos c23))
      rw [hO2.eq]
      exact pbf_of hG hGR (by show 5 * (κ 6) + 5 * (κ 7) + 4 * (κ 8) + 4 * (κ 9) + 4 * (κ 10) + 4 * (κ 11) + 5 * (κ 12) + 4 * (κ 13) + 3 * (κ 14) + 1 * (κ 15) ≤ 5 * (κ 6) + 5 * (κ 7) + 4 * (κ 8) + 4 * (κ 9) + 4 * (κ 10) + 4 * (κ 11) + 5 * (κ 12) + 4 * (κ 13) + 3 * (κ 14) + 1 * (κ 15); omega) (by show 0 ≤ (5 * (κ 6) + 5 * (κ 7) + 4 * (κ 8) + 4 * (κ 9) + 4 * (κ 10) + 4 * (κ 11) + 5 * (κ 12) + 4 * (κ 13) + 3 * (κ 14) + 1 * (κ 15)) - (5 * (κ 6) + 5 * (κ 7) + 4 * (κ 8) + 4 * (κ 9) + 4 * (κ 10) + 4 * (κ 11) + 5 * (κ 12) + 4 * (κ 13) + 3 * (κ 14) + 1 * (κ 15)) + 1; omega) (by show 0 ≤ 2 * ((5 * (κ 6) + 5 * (κ 7) + 4 * (κ 8) + 4 * (κ 9) + 4 * (κ 10) + 4 * (κ 11) + 5 * (κ 12) + 4 * (κ 13) + 3 * (κ 14) + 1 * (κ 15)) - (5 * (κ 6) + 5 * (κ 7) + 4 * (κ 8) + 4 * (κ 9) + 4 * (κ 10) + 4 * (κ 11) + 5 * (κ 12) + 4 * (κ 13) + 3 * (κ 14) + 1 * (κ 15))) + 6; omega)
    · refine lv_aload_n hx hb dTypeBook_check_61 rfl (lv_at hl 1 rfl) ?_
      refine lv_iload_n hx hb dTypeBook_check_62 rfl (lv_at hl 0 rfl) ?_
      refine lv_aload_n hx hb dTypeBook_check_63 rfl (lv_at hl 1 rfl) ?_
      refine of_get S hC (of_0_5 hI) in_TypeBook rfl (by decide) qw_130a6323a2 dTypeBook_check_64 ?_
      refine of_getN S hC (og_8 hG) in_Looker rfl (by decide) qn_b283086a15 dTypeBook_check_67 ?_
      refine lv_topi (fun v28 ev28 => ?_)
      refine mu_Vi (rest := []) S hC (fun q h => hA q (Nat.le_trans hS.1 h)) (fun q h => h) hS (f_TypeBook_refused l γ A κ φ20 ψ21 r22 v28) meTypeBook_refused qw_fa3e8c2955 ⟨Nat.le_of_ble_eq_true rfl, Nat.le_of_ble_eq_true rfl⟩ (rv_0 hC hI) hG rfl hl.1 rfl (Nat.le_of_ble_eq_true rfl) dTypeBook_check_70 ⟨(by show 0 + 0 ≤ 50000; omega), (by show 0 + 0 ≤ 1000000; omega)⟩ (fun r29 H locs ⟨er29, hG⟩ hS _ _ => ?_)
      have hG : INVF γ A κ (P_TypeBook_refused κ φ20 ψ21 r22 v28).2.1 (P_TypeBook_refused κ φ20 ψ21 r22 v28).2.2 _ := hG
      obtain ⟨φ30, eφ30⟩ : ∃ z : gF, z = (P_TypeBook_refused κ φ20 ψ21 r22 v28).2.1 := ⟨_, rfl⟩
      rw [← eφ30] at hG
      obtain ⟨ψ31, eψ31⟩ : ∃ z : gG, z = (P_TypeBook_refused κ φ20 ψ21 r22 v28).2.2 := ⟨_, rfl⟩
      rw [← eψ31] at hG
      have hI := inv_of hG
      rw [hQ]
      refine tx_endI S hret hlk hS (by show 0 ≤ 50000; omega) (by show 0 ≤ 1000000; omega) (fun hGR => ?_) dTypeBook_check_73
      have hO2 : Oq OUT (0, r29, κ, φ30, ψ31) := (by subst eψ31 eφ30 er29 ev28 er22 eψ21 eφ20 er19; exact hO.tr (if_neg c23))
      rw [hO2.eq]
      exact pbf_of hG hGR (by show 5 * (κ 6) + 5 * (κ 7) + 4 * (κ 8) + 4 * (κ 9) + 4 * (κ 10) + 4 * (κ 11) + 5 * (κ 12) + 4 * (κ 13) + 3 * (κ 14) + 1 * (κ 15) ≤ 5 * (κ 6) + 5 * (κ 7) + 4 * (κ 8) + 4 * (κ 9) + 4 * (κ 10) + 4 * (κ 11) + 5 * (κ 12) + 4 * (κ 13) + 3 * (κ 14) + 1 * (κ 15); omega) (by show 0 ≤ (5 * (κ 6) + 5 * (κ 7) + 4 * (κ 8) + 4 * (κ 9) + 4 * (κ 10) + 4 * (κ 11) + 5 * (κ 12) + 4 * (κ 13) + 3 * (κ 14) + 1 * (κ 15)) - (5 * (κ 6) + 5 * (κ 7) + 4 * (κ 8) + 4 * (κ 9) + 4 * (κ 10) + 4 * (κ 11) + 5 * (κ 12) + 4 * (κ 13) + 3 * (κ 14) + 1 * (κ 15)) + 1; omega) (by show 0 ≤ 2 * ((5 * (κ 6) + 5 * (κ 7) + 4 * (κ 8) + 4 * (κ 9) + 4 * (κ 10) + 4 * (κ 11) + 5 * (κ 12) + 4 * (κ 13) + 3 * (κ 14) + 1 * (κ 15)) - (5 * (κ 6) + 5 * (κ 7) + 4 * (κ 8) + 4 * (κ 9) + 4 * (κ 10) + 4 * (κ 11) + 5 * (κ 12) + 4 * (κ 13) + 3 * (κ 14) + 1 * (κ 15))) + 6; omega)
  have J27 : ∀ (ls : Array Slot) (H : Heap) (locs : List Loc) (φ : gF) (ψ : gG) (i1 : Int32) (i2 : Int32), INVF γ A κ φ ψ H → va_S A s.heap H locs → (Oq OUT (P_TypeBook_check_27 κ   φ ψ i1 i2)) → lv_has ls 4 [(0, .ref (γ.2.2.2 0)), (1, .int i1), (2, .int i2)] → W p l e (bs_rm 7 50000 1000000 174) s m args below meth c H locs 0 0 Q (F0 m 27 ls []) := by
    intro ls H locs φ ψ i1 i2 hG hS hO hl
    have hI := inv_of hG
    obtain ⟨sa27, hsa27⟩ := hw0.2.2.2.1 R_TypeBook 199 "no such node or type" (in_tables_1_5 (List.mem_of_getElem? (i := 103) rfl))
    rw [hQ]
    refine tx_throw (s0 := s0) (names := ["java/lang/RuntimeException", "java/lang/Exception"]) (text := "no such node or type") (sa := sa27) S hst hX hlk (by decide +kernel) (by decide +kernel) qw_ae3ba0ca69 qw_d4b771d349 (hF0.step hA0 hS.1 hS.2.1) hsa27 (ta_IOB hW hw0) hl.1 dTypeBook_check_27 dTypeBook_check_30 dTypeBook_check_31 dTypeBook_check_33 dTypeBook_check_36 (Nat.lt_of_lt_of_le (by decide) (Nat.le_of_ble_eq_true rfl : 6 ≤ _)) (Nat.le_of_ble_eq_true rfl) (by show 0 + 1 ≤ 50000; omega) (by show 0 + 6 ≤ 1000000; omega) (fun H1 hGR hz ho => ?_) hS.2.2 (by show 0 + 1 ≤ 50000; omega) (by show 0 + 6 ≤ 1000000; omega)
    have hO2 : Oq OUT (1, 0, κ, φ, ψ) := (by exact hO.tr rfl)
    rw [hO2.eq]
    exact ⟨⟨1, by decide, pbf_of (invf_more hG ho) hGR (by show 5 * (κ 6) + 5 * (κ 7) + 4 * (κ 8) + 4 * (κ 9) + 4 * (κ 10) + 4 * (κ 11) + 5 * (κ 12) + 4 * (κ 13) + 3 * (κ 14) + 1 * (κ 15) ≤ 5 * (κ 6) + 5 * (κ 7) + 4 * (κ 8) + 4 * (κ 9) + 4 * (κ 10) + 4 * (κ 11) + 5 * (κ 12) + 4 * (κ 13) + 3 * (κ 14) + 1 * (κ 15); omega) (by show 0 + 1 ≤ (5 * (κ 6) + 5 * (κ 7) + 4 * (κ 8) + 4 * (κ 9) + 4 * (κ 10) + 4 * (κ 11) + 5 * (κ 12) + 4 * (κ 13) + 3 * (κ 14) + 1 * (κ 15)) - (5 * (κ 6) + 5 * (κ 7) + 4 * (κ 8) + 4 * (κ 9) + 4 * (κ 10) + 4 * (κ 11) + 5 * (κ 12) + 4 * (κ 13) + 3 * (κ 14) + 1 * (κ 15)) + 1; omega) (by show 0 + 6 ≤ 2 * ((5 * (κ 6) + 5 * (κ 7) + 4 * (κ 8) + 4 * (κ 9) + 4 * (κ 10) + 4 * (κ 11) + 5 * (κ 12) + 4 * (κ 13) + 3 * (κ 14) + 1 * (κ 15)) - (5 * (κ 6) + 5 * (κ 7) + 4 * (κ 8) + 4 * (κ 9) + 4 * (κ 10) + 4 * (κ 11) + 5 * (κ 12) + 4 * (κ 13) + 3 * (κ 14) + 1 * (κ 15))) + 6; omega)⟩, fr_more hS hz ho⟩
  refine lv_aload_n hx hb dTypeBook_check_0 rfl (lv_at hl 0 rfl) ?_
  refine of_get S hC (of_0_0 hI) in_TypeBook rfl (by decide) qw_6151ee7924 dTypeBook_check_1 ?_
  refine lv_iload_n hx hb dTypeBook_check_4 rfl (lv_at hl 1 rfl) ?_
  refine pu_Vi (rest := []) S hC (f1_Trees_has l γ A κ φ ψ x1) meTrees_has qw_90a02633e0 ⟨Nat.le_of_ble_eq_true rfl, Nat.le_of_ble_eq_true rfl⟩ (rv_1 hC hI) hG rfl hl.1 rfl (Nat.le_of_ble_eq_true rfl) dTypeBook_check_5 ⟨(by show _ ≤ 50000; omega), (by show _ ≤ 1000000; omega)⟩ (fun r32 hr32 => ?_)
  obtain ⟨hr32, er32⟩ := hr32
  refine lv_if_eq (tgt := 27) hx hb dTypeBook_check_8 (by decide) (fun c33 => ?_) (fun c33 => ?_)
  · refine W.up (k := 0) (n := 0) (by show 0 ≤ _; omega) (by show 0 ≤ _; omega) ?_
    exact J27 ls _ _ φ ψ x1 x2 hG hS (by subst er32; exact hO.tr (if_pos c33)) (lv_sub hl [0, 1, 2] rfl)
  · refine lv_iload_n hx hb dTypeBook_check_11 rfl (lv_at hl 2 rfl) ?_
    refine lv_iconst (v := (-1)) hx hb dTypeBook_check_12 (by decide) ?_
    refine lv_icmp_eq (tgt := 37) hx hb dTypeBook_check_13 (by decide) (fun c34 => ?_) (fun c34 => ?_)
    · refine W.up (k := 0) (n := 0) (by show 0 ≤ _; omega) (by show 0 ≤ _; omega) ?_
      exact J37 ls _ _ φ ψ x1 x2 hG hS (by first | exact ⟨hnode, hnode2⟩ | exact node_ok (x := x1) (by assumption) (by assumption) (by omega)) (by subst er32; exact hO.tr ((if_neg c33).trans (if_pos c34))) (lv_sub hl [0, 1, 2] rfl)
    · refine lv_aload_n hx hb dTypeBook_check_16 rfl (lv_at hl 0 rfl) ?_
      refine of_get S hC (of_0_2 hI) in_TypeBook rfl (by decide) qw_393f431be6 dTypeBook_check_17 ?_
      refine lv_iload_n hx hb dTypeBook_check_20 rfl (lv_at hl 2 rfl) ?_
      refine pu_Vi (rest := []) S hC (f3_Types_has l γ A κ φ ψ x2) meTypes_has qw_438f5fc1da ⟨Nat.le_of_ble_eq_true rfl, Nat.le_of_ble_eq_true rfl⟩ (rv_3 hC hI) hG rfl hl.1 rfl (Nat.le_of_ble_eq_true rfl) dTypeBook_check_21 ⟨(by show _ ≤ 50000; omega), (by show _ ≤ 1000000; omega)⟩ (fun r35 hr35 => ?_)
      obtain ⟨hr35, er35⟩ := hr35
      refine lv_if_ne (tgt := 37) hx hb dTypeBook_check_24 (by decide) (fun c36 => ?_) (fun c36 => ?_)
      · refine W.up (k := 0) (n := 0) (by show 0 ≤ _; omega) (by show 0 ≤ _; omega) ?_
        exact J37 ls _ _ φ ψ x1 x2 hG hS (by first | exact ⟨hnode, hnode2⟩ | exact node_ok (x := x1) (by assumption) (by assumption) (by omega)) (by subst er35 er32; exact hO.tr ((if_neg c33).trans ((if_neg c34).trans (if_neg c36)))) (lv_sub hl [0, 1, 2] rfl)
      · refine W.up (k := 0) (n := 0) (by show 0 ≤ _; omega) (by show 0 ≤ _; omega) ?_
        exact J27 ls _ _ φ ψ x1 x2 hG hS (by subst er35 er32; exact hO.tr ((if_neg c33).trans ((if_neg c34).trans (if_pos c36)))) (lv_sub hl [0, 1, 2] rfl)
def P_TypeBook_typeOf_20 (κ : Nat → Nat) (φ : gF) (ψ : gG) (i1 : Int32) (i2 : Int32) : XR := (1, 0, κ, φ, ψ)
def P_TypeBook_typeOf (κ : Nat → Nat) (φ : gF) (ψ : gG) (x1 : Int32) (x2 : Int32) : XR := (if (P_Types_has ((κ 4)) ((κ 13)) (φ 4) x1) = 0 then (P_TypeBook_typeOf_20 κ  φ ψ x1 x2) else (if x2 < 0 then (P_TypeBook_typeOf_20 κ  φ ψ x1 x2) else (if x2 ≤ 4 then (if x2 = 0 then (0, (P_Types_classOf ((κ 4)) ((κ 13)) (φ 4) x1), κ, φ, ψ) else (if x2 = 1 then (0, (P_Types_leftOf ((κ 4)) ((κ 13)) (φ 4) x1), κ, φ, ψ) else (if x2 = 2 then (0, (P_Types_rightOf ((κ 4)) ((κ 13)) (φ 4) x1), κ, φ, ψ) else (if x2 = 3 then (0, (P_Types_countOf ((κ 4)) ((κ 13)) (φ 4) x1), κ, φ, ψ) else (if (P_Types_goesDown ((κ 4)) ((κ 13)) (φ 4) x1) = 0 then (0, 0, κ, φ, ψ) else (0, 1, κ, φ, ψ)))))) else (P_TypeBook_typeOf_20 κ  φ ψ x1 x2))))
set_option maxHeartbeats 4000000 in
set_option maxRecDepth 100000 in
theorem xf_typeOf (l : Launch) (hst : l.stackTraces = false) (γ : gE) (A : Nat → Prop) (κ : Nat → Nat) (φ : gF) (ψ : gG) (s0 : State) (hw0 : SW s0) (hA0 : ∀ q, A q → s0.heap.size ≤ q) (H0 : Heap) (x1 : Int32) (x2 : Int32) : XM l yTypeBook_typeOf bTypeBook_typeOf 3 (some .int) 6 82 50000 1000000 [.ref (γ.2.2.2 0), .int x1, .int x2] γ A (fun U => FB s0 U U.heap ∧ U.heap = H0 ∧ INVF γ A κ φ ψ U.heap) (mQi (fun r H => PBF γ A κ H0 (P_TypeBook_typeOf κ φ ψ x1 x2) 0 r H) A) (fun E H => XCF γ A κ H0 (P_TypeBook_typeOf κ φ ψ x1 x2) E H) := by
  refine tx_openI (by decide) (Nat.le_of_ble_eq_true rfl) ?_
  intro p e s m args below meth c ls Q S hret hlk hX hC hA hP hQ hl
  obtain ⟨hF0, hH0, hG⟩ := hP
  subst hH0
  have hI := inv_of hG
  obtain ⟨hx, hb, hml, hown, hW⟩ := id S
  have hS : va_S A s.heap s.heap [] := va_S.rf
  have hl : lv_has ls 3 [(0, .ref (γ.2.2.2 0)), (1, .int x1), (2, .int x2)] := hl
  obtain ⟨hlen, hsz⟩ := inv_len hI
  obtain ⟨OUT, hQ9, hO⟩ : ∃ z, (z = P_TypeBook_typeOf κ φ ψ x1 x2) ∧ Oq z (P_TypeBook_typeOf κ φ ψ x1 x2) := ⟨_, rfl, rfl⟩
  rw [← hQ9] at hQ
  clear hQ9
  have J20 : ∀ (ls : Array Slot) (H : Heap) (locs : List Loc) (φ : gF) (ψ : gG) (i1 : Int32) (i2 : Int32), INVF γ A κ φ ψ H → va_S A s.heap H locs → (Oq OUT (P_TypeBook_typeOf_20 κ   φ ψ i1 i2)) → lv_has ls 3 [(0, .ref (γ.2.2.2 0)), (1, .int i1), (2, .int i2)] → W p l e (bs_rm 6 50000 1000000 82) s m args below meth c H locs 0 0 Q (F0 m 20 ls []) := by
    intro ls H locs φ ψ i1 i2 hG hS hO hl
    have hI := inv_of hG
    obtain ⟨sa20, hsa20⟩ := hw0.2.2.2.1 R_TypeBook 201 "no such type or part" (in_tables_1_5 (List.mem_of_getElem? (i := 111) rfl))
    rw [hQ]
    refine tx_throw (s0 := s0) (names := ["java/lang/RuntimeException", "java/lang/Exception"]) (text := "no such type or part") (sa := sa20) S hst hX hlk (by decide +kernel) (by decide +kernel) qw_ae3ba0ca69 qw_d4b771d349 (hF0.step hA0 hS.1 hS.2.1) hsa20 (ta_IOB hW hw0) hl.1 dTypeBook_typeOf_20 dTypeBook_typeOf_23 dTypeBook_typeOf_24 dTypeBook_typeOf_26 dTypeBook_typeOf_29 (Nat.lt_of_lt_of_le (by decide) (Nat.le_of_ble_eq_true rfl : 6 ≤ _)) (Nat.le_of_ble_eq_true rfl) (by show 0 + 1 ≤ 50000; omega) (by show 0 + 6 ≤ 1000000; omega) (fun H1 hGR hz ho => ?_) hS.2.2 (by show 0 + 1 ≤ 50000; omega) (by show 0 + 6 ≤ 1000000; omega)
    have hO2 : Oq OUT (1, 0, κ, φ, ψ) := (by exact hO.tr rfl)
    rw [hO2.eq]
    exact ⟨⟨1, by decide, pbf_of (invf_more hG ho) hGR (by show 5 * (κ 6) + 5 * (κ 7) + 4 * (κ 8) + 4 * (κ 9) + 4 * (κ 10) + 4 * (κ 11) + 5 * (κ 12) + 4 * (κ 13) + 3 * (κ 14) + 1 * (κ 15) ≤ 5 * (κ 6) + 5 * (κ 7) + 4 * (κ 8) + 4 * (κ 9) + 4 * (κ 10) + 4 * (κ 11) + 5 * (κ 12) + 4 * (κ 13) + 3 * (κ 14) + 1 * (κ 15); omega) (by show 0 + 1 ≤ (5 * (κ 6) + 5 * (κ 7) + 4 * (κ 8) + 4 * (κ 9) + 4 * (κ 10) + 4 * (κ 11) + 5 * (κ 12) + 4 * (κ 13) + 3 * (κ 14) + 1 * (κ 15)) - (5 * (κ 6) + 5 * (κ 7) + 4 * (κ 8) + 4 * (κ 9) + 4 * (κ 10) + 4 * (κ 11) + 5 * (κ 12) + 4 * (κ 13) + 3 * (κ 14) + 1 * (κ 15)) + 1; omega) (by show 0 + 6 ≤ 2 * ((5 * (κ 6) + 5 * (κ 7) + 4 * (κ 8) + 4 * (κ 9) + 4 * (κ 10) + 4 * (κ 11) + 5 * (κ 12) + 4 * (κ 13) + 3 * (κ 14) + 1 * (κ 15)) - (5 * (κ 6) + 5 * (κ 7) + 4 * (κ 8) + 4 * (κ 9) + 4 * (κ 10) + 4 * (κ 11) + 5 * (κ 12) + 4 * (κ 13) + 3 * (κ 14) + 1 * (κ 15))) + 6; omega)⟩, fr_more hS hz ho⟩
  refine lv_aload_n hx hb dTypeBook_typeOf_0 rfl (lv_at hl 0 rfl) ?_
  refine of_get S hC (of_0_2 hI) in_TypeBook rfl (by decide) qw_393f431be6 dTypeBook_typeOf_1 ?_
  refine lv_iload_n hx hb dTypeBook_typeOf_4 rfl (lv_at hl 1 rfl) ?_
  refine pu_Vi (rest := []) S hC (f3_Types_has l γ A κ φ ψ x1) meTypes_has qw_438f5fc1da ⟨Nat.le_of_ble_eq_true rfl, Nat.le_of_ble_eq_true rfl⟩ (rv_3 hC hI) hG rfl hl.1 rfl (Nat.le_of_ble_eq_true rfl) dTypeBook_typeOf_5 ⟨(by show _ ≤ 50000; omega), (by show _ ≤ 1000000; omega)⟩ (fun r15 hr15 => ?_)
  obtain ⟨hr15, er15⟩ := hr15
  refine lv_if_eq (tgt := 20) hx hb dTypeBook_typeOf_8 (by decide) (fun c16 => ?_) (fun c16 => ?_)
  · refine W.up (k := 0) (n := 0) (by show 0 ≤ _; omega) (by show 0 ≤ _; omega) ?_
    exact J20 ls _ _ φ ψ x1 x2 hG hS (by subst er15; exact hO.tr (if_pos c16)) (lv_sub hl [0, 1, 2] rfl)
  · refine lv_iload_n hx hb dTypeBook_typeOf_11 rfl (lv_at hl 2 rfl) ?_
    refine lv_if_lt (tgt := 20) hx hb dTypeBook_typeOf_12 (by decide) (fun c17 => ?_) (fun c17 => ?_)
    · refine W.up (k := 0) (n := 0) (by show 0 ≤ _; omega) (by show 0 ≤ _; omega) ?_
      exact J20 ls _ _ φ ψ x1 x2 hG hS (by subst er15; exact hO.tr ((if_neg c16).trans (if_pos c17))) (lv_sub hl [0, 1, 2] rfl)
    · refine lv_iload_n hx hb dTypeBook_typeOf_15 rfl (lv_at hl 2 rfl) ?_
      refine lv_iconst (v := 4) hx hb dTypeBook_typeOf_16 (by decide) ?_
      refine lv_icmp_le (tgt := 30) hx hb dTypeBook_typeOf_17 (by decide) (fun c18 => ?_) (fun c18 => ?_)
      · refine lv_iload_n hx hb dTypeBook_typeOf_30 rfl (lv_at hl 2 rfl) ?_
        by_cases k19 : x2 = 0
        · rw [k19]
          refine lv_tableIn (tgt := 60) hx hb dTypeBook_typeOf_31 (by decide) (by decide) rfl (by decide) ?_
          refine lv_aload_n hx hb dTypeBook_typeOf_60 rfl (lv_at hl 0 rfl) ?_
          refine of_get S hC (of_0_2 hI) in_TypeBook rfl (by decide) qw_393f431be6 dTypeBook_typeOf_61 ?_
          refine lv_iload_n hx hb dTypeBook_typeOf_64 rfl (lv_at hl 1 rfl) ?_
          refine pu_Vi (rest := []) S hC (f3_Types_classOf l γ A κ φ ψ x1) meTypes_classOf qw_2a1bb1d659 ⟨Nat.le_of_ble_eq_true rfl, Nat.le_of_ble_eq_true rfl⟩ (rv_3 hC hI) hG rfl hl.1 rfl (Nat.le_of_ble_eq_true rfl) dTypeBook_typeOf_65 ⟨(by show _ ≤ 50000; omega), (by show _ ≤ 1000000; omega)⟩ (fun r20 hr20 => ?_)
          obtain ⟨hr20, er20⟩ := hr20
          rw [hQ]
          refine tx_endI S hret hlk hS (by show 0 ≤ 50000; omega) (by show 0 ≤ 1000000; omega) (fun hGR => ?_) dTypeBook_typeOf_68
          have hO2 : Oq OUT (0, r20, κ, φ, ψ) := (by subst er20 er15; exact hO.tr ((if_neg c16).trans ((if_neg c17).trans ((if_pos c18).trans (if_pos k19)))))
          rw [hO2.eq]
          exact pbf_of hG hGR (by show 5 * (κ 6) + 5 * (κ 7) + 4 * (κ 8) + 4 * (κ 9) + 4 * (κ 10) + 4 * (κ 11) + 5 * (κ 12) + 4 * (κ 13) + 3 * (κ 14) + 1 * (κ 15) ≤ 5 * (κ 6) + 5 * (κ 7) + 4 * (κ 8) + 4 * (κ 9) + 4 * (κ 10) + 4 * (κ 11) + 5 * (κ 12) + 4 * (κ 13) + 3 * (κ 14) + 1 * (κ 15); omega) (by show 0 ≤ (5 * (κ 6) + 5 * (κ 7) + 4 * (κ 8) + 4 * (κ 9) + 4 * (κ 10) + 4 * (κ 11) + 5 * (κ 12) + 4 * (κ 13) + 3 * (κ 14) + 1 * (κ 15)) - (5 * (κ 6) + 5 * (κ 7) + 4 * (κ 8) + 4 * (κ 9) + 4 * (κ 10) + 4 * (κ 11) + 5 * (κ 12) + 4 * (κ 13) + 3 * (κ 14) + 1 * (κ 15)) + 1; omega) (by show 0 ≤ 2 * ((5 * (κ 6) + 5 * (κ 7) + 4 * (κ 8) + 4 * (κ 9) + 4 * (κ 10) + 4 * (κ 11) + 5 * (κ 12) + 4 * (κ 13) + 3 * (κ 14) + 1 * (κ 15)) - (5 * (κ 6) + 5 * (κ 7) + 4 * (κ 8) + 4 * (κ 9) + 4 * (κ 10) + 4 * (κ 11) + 5 * (κ 12) + 4 * (κ 13) + 3 * (κ 14) + 1 * (κ 15))) + 6; omega)
        by_cases k21 : x2 = 1
        · rw [k21]
          refine lv_tableIn (tgt := 69) hx hb dTypeBook_typeOf_31 (by decide) (by decide) rfl (by decide) ?_
          refine lv_aload_n hx hb dTypeBook_typeOf_69 rfl (lv_at hl 0 rfl) ?_
          refine of_get S hC (of_0_2 hI) in_TypeBook rfl (by decide) qw_393f431be6 dTypeBook_typeOf_70 ?_
          refine lv_iload_n hx hb dTypeBook_typeOf_73 rfl (lv_at hl 1 rfl) ?_
          refine pu_Vi (rest := []) S hC (f3_Types_leftOf l γ A κ φ ψ x1) meTypes_leftOf qw_a3d1d3dd8a ⟨Nat.le_of_ble_eq_true rfl, Nat.le_of_ble_eq_true rfl⟩ (rv_3 hC hI) hG rfl hl.1 rfl (Nat.le_of_ble_eq_true rfl) dTypeBook_typeOf_74 ⟨(by show _ ≤ 50000; omega), (by show _ ≤ 1000000; omega)⟩ (fun r22 hr22 => ?_)
          obtain ⟨hr22, er22⟩ := hr22
          rw [hQ]
          refine tx_endI S hret hlk hS (by show 0 ≤ 50000; omega) (by show 0 ≤ 1000000; omega) (fun hGR => ?_) dTypeBook_typeOf_77
          have hO2 : Oq OUT (0, r22, κ, φ, ψ) := (by subst er22 er15; exact hO.tr ((if_neg c16).trans ((if_neg c17).trans ((if_pos c18).trans ((if_neg k19).trans (if_pos k21))))))
          rw [hO2.eq]
          exact pbf_of hG hGR (by show 5 * (κ 6) + 5 * (κ 7) + 4 * (κ 8) + 4 * (κ 9) + 4 * (κ 10) + 4 * (κ 11) + 5 * (κ 12) + 4 * (κ 13) + 3 * (κ 14) + 1 * (κ 15) ≤ 5 * (κ 6) + 5 * (κ 7) + 4 * (κ 8) + 4 * (κ 9) + 4 * (κ 10) + 4 * (κ 11) + 5 * (κ 12) + 4 * (κ 13) + 3 * (κ 14) + 1 * (κ 15); omega) (by show 0 ≤ (5 * (κ 6) + 5 * (κ 7) + 4 * (κ 8) + 4 * (κ 9) + 4 * (κ 10) + 4 * (κ 11) + 5 * (κ 12) + 4 * (κ 13) + 3 * (κ 14) + 1 * (κ 15)) - (5 * (κ 6) + 5 * (κ 7) + 4 * (κ 8) + 4 * (κ 9) + 4 * (κ 10) + 4 * (κ 11) + 5 * (κ 12) + 4 * (κ 13) + 3 * (κ 14) + 1 * (κ 15)) + 1; omega) (by show 0 ≤ 2 * ((5 * (κ 6) + 5 * (κ 7) + 4 * (κ 8) + 4 * (κ 9) + 4 * (κ 10) + 4 * (κ 11) + 5 * (κ 12) + 4 * (κ 13) + 3 * (κ 14) + 1 * (κ 15)) - (5 * (κ 6) + 5 * (κ 7) + 4 * (κ 8) + 4 * (κ 9) + 4 * (κ 10) + 4 * (κ 11) + 5 * (κ 12) + 4 * (κ 13) + 3 * (κ 14) + 1 * (κ 15))) + 6; omega)
        by_cases k23 : x2 = 2
        · rw [k23]
          refine lv_tableIn (tgt := 78) hx hb dTypeBook_typeOf_31 (by decide) (by decide) rfl (by decide) ?_
          refine lv_aload_n hx hb dTypeBook_typeOf_78 rfl (lv_at hl 0 rfl) ?_
          refine of_get S hC (of_0_2 hI) in_TypeBook rfl (by decide) qw_393f431be6 dTypeBook_typeOf_79 ?_
          refine lv_iload_n hx hb dTypeBook_typeOf_82 rfl (lv_at hl 1 rfl) ?_
          refine pu_Vi (rest := []) S hC (f3_Types_rightOf l γ A κ φ ψ x1) meTypes_rightOf qw_d58eb31f37 ⟨Nat.le_of_ble_eq_true rfl, Nat.le_of_ble_eq_true rfl⟩ (rv_3 hC hI) hG rfl hl.1 rfl (Nat.le_of_ble_eq_true rfl) dTypeBook_typeOf_83 ⟨(by show _ ≤ 50000; omega), (by show _ ≤ 1000000; omega)⟩ (fun r24 hr24 => ?_)
          obtain ⟨hr24, er24⟩ := hr24
          rw [hQ]
          refine tx_endI S hret hlk hS (by show 0 ≤ 50000; omega) (by show 0 ≤ 1000000; omega) (fun hGR => ?_) dTypeBook_typeOf_86
          have hO2 : Oq OUT (0, r24, κ, φ, ψ) := (by subst er24 er15; exact hO.tr ((if_neg c16).trans ((if_neg c17).trans ((if_pos c18).trans ((if_neg k19).trans ((if_neg k21).trans (if_pos k23)))))))
          rw [hO2.eq]
          exact pbf_of hG hGR (by show 5 * (κ 6) + 5 * (κ 7) + 4 * (κ 8) + 4 * (κ 9) + 4 * (κ 10) + 4 * (κ 11) + 5 * (κ 12) + 4 * (κ 13) + 3 * (κ 14) + 1 * (κ 15) ≤ 5 * (κ 6) + 5 * (κ 7) + 4 * (κ 8) + 4 * (κ 9) + 4 * (κ 10) + 4 * (κ 11) + 5 * (κ 12) + 4 * (κ 13) + 3 * (κ 14) + 1 * (κ 15); omega) (by show 0 ≤ (5 * (κ 6) + 5 * (κ 7) + 4 * (κ 8) + 4 * (κ 9) + 4 * (κ 10) + 4 * (κ 11) + 5 * (κ 12) + 4 * (κ 13) + 3 * (κ 14) + 1 * (κ 15)) - (5 * (κ 6) + 5 * (κ 7) + 4 * (κ 8) + 4 * (κ 9) + 4 * (κ 10) + 4 * (κ 11) + 5 * (κ 12) + 4 * (κ 13) + 3 * (κ 14) + 1 * (κ 15)) + 1; omega) (by show 0 ≤ 2 * ((5 * (κ 6) + 5 * (κ 7) + 4 * (κ 8) + 4 * (κ 9) + 4 * (κ 10) + 4 * (κ 11) + 5 * (κ 12) + 4 * (κ 13) + 3 * (κ 14) + 1 * (κ 15)) - (5 * (κ 6) + 5 * (κ 7) + 4 * (κ 8) + 4 * (κ 9) + 4 * (κ 10) + 4 * (κ 11) + 5 * (κ 12) + 4 * (κ 13) + 3 * (κ 14) + 1 * (κ 15))) + 6; omega)
        by_cases k25 : x2 = 3
        · rw [k25]
          refine lv_tableIn (tgt := 87) hx hb dTypeBook_typeOf_31 (by decide) (by decide) rfl (by decide) ?_
          refine lv_aload_n hx hb dTypeBook_typeOf_87 rfl (lv_at hl 0 rfl) ?_
          refine of_get S hC (of_0_2 hI) in_TypeBook rfl (by decide) qw_393f431be6 dTypeBook_typeOf_88 ?_
          refine lv_iload_n hx hb dTypeBook_typeOf_91 rfl (lv_at hl 1 rfl) ?_
          refine pu_Vi (rest := []) S hC (f3_Types_countOf l γ A κ φ ψ x1) meTypes_countOf qw_49a1679266 ⟨Nat.le_of_ble_eq_true rfl, Nat.le_of_ble_eq_true rfl⟩ (rv_3 hC hI) hG rfl hl.1 rfl (Nat.le_of_ble_eq_true rfl) dTypeBook_typeOf_92 ⟨(by show _ ≤ 50000; omega), (by show _ ≤ 1000000; omega)⟩ (fun r26 hr26 => ?_)
          obtain ⟨hr26, er26⟩ := hr26
          rw [hQ]
          refine tx_endI S hret hlk hS (by show 0 ≤ 50000; omega) (by show 0 ≤ 1000000; omega) (fun hGR => ?_) dTypeBook_typeOf_95
          have hO2 : Oq OUT (0, r26, κ, φ, ψ) := (by subst er26 er15; exact hO.tr ((if_neg c16).trans ((if_neg c17).trans ((if_pos c18).trans ((if_neg k19).trans ((if_neg k21).trans ((if_neg k23).trans (if_pos k25))))))))
          rw [hO2.eq]
          exact pbf_of hG hGR (by show 5 * (κ 6) + 5 * (κ 7) + 4 * (κ 8) + 4 * (κ 9) + 4 * (κ 10) + 4 * (κ 11) + 5 * (κ 12) + 4 * (κ 13) + 3 * (κ 14) + 1 * (κ 15) ≤ 5 * (κ 6) + 5 * (κ 7) + 4 * (κ 8) + 4 * (κ 9) + 4 * (κ 10) + 4 * (κ 11) + 5 * (κ 12) + 4 * (κ 13) + 3 * (κ 14) + 1 * (κ 15); omega) (by show 0 ≤ (5 * (κ 6) + 5 * (κ 7) + 4 * (κ 8) + 4 * (κ 9) + 4 * (κ 10) + 4 * (κ 11) + 5 * (κ 12) + 4 * (κ 13) + 3 * (κ 14) + 1 * (κ 15)) - (5 * (κ 6) + 5 * (κ 7) + 4 * (κ 8) + 4 * (κ 9) + 4 * (κ 10) + 4 * (κ 11) + 5 * (κ 12) + 4 * (κ 13) + 3 * (κ 14) + 1 * (κ 15)) + 1; omega) (by show 0 ≤ 2 * ((5 * (κ 6) + 5 * (κ 7) + 4 * (κ 8) + 4 * (κ 9) + 4 * (κ 10) + 4 * (κ 11) + 5 * (κ 12) + 4 * (κ 13) + 3 * (κ 14) + 1 * (κ 15)) - (5 * (κ 6) + 5 * (κ 7) + 4 * (κ 8) + 4 * (κ 9) + 4 * (κ 10) + 4 * (κ 11) + 5 * (κ 12) + 4 * (κ 13) + 3 * (κ 14) + 1 * (κ 15))) + 6; omega)
        refine lv_tableOut (tgt := 96) hx hb dTypeBook_typeOf_31 (by have qk19 := lv_neT (a := 0) k19 (by decide); have qk21 := lv_neT (a := 1) k21 (by decide); have qk23 := lv_neT (a := 2) k23 (by decide); have qk25 := lv_neT (a := 3) k25 (by decide); omega) (by decide) ?_
        refine lv_aload_n hx hb dTypeBook_typeOf_96 rfl (lv_at hl 0 rfl) ?_
        refine of_get S hC (of_0_2 hI) in_TypeBook rfl (by decide) qw_393f431be6 dTypeBook_typeOf_97 ?_
        refine lv_iload_n hx hb dTypeBook_typeOf_100 rfl (lv_at hl 1 rfl) ?_
        refine pu_Vi (rest := []) S hC (f3_Types_goesDown l γ A κ φ ψ x1) meTypes_goesDown qw_454402417c ⟨Nat.le_of_ble_eq_true rfl, Nat.le_of_ble_eq_true rfl⟩ (rv_3 hC hI) hG rfl hl.1 rfl (Nat.le_of_ble_eq_true rfl) dTypeBook_typeOf_101 ⟨(by show _ ≤ 50000; omega), (by show _ ≤ 1000000; omega)⟩ (fun r27 hr27 => ?_)
        obtain ⟨hr27, er27⟩ := hr27
        refine lv_if_eq (tgt := 111) hx hb dTypeBook_typeOf_104 (by decide) (fun c28 => ?_) (fun c28 => ?_)
        · refine lv_iconst (v := 0) hx hb dTypeBook_typeOf_111 (by decide) ?_
          rw [hQ]
          refine tx_endI S hret hlk hS (by show 0 ≤ 50000; omega) (by show 0 ≤ 1000000; omega) (fun hGR => ?_) dTypeBook_typeOf_112
          have hO2 : Oq OUT (0, 0, κ, φ, ψ) := (by subst er27 er15; exact hO.tr ((if_neg c16).trans ((if_neg c17).trans ((if_pos c18).trans ((if_neg k19).trans ((if_neg k21).trans ((if_neg k23).trans ((if_neg k25).trans (if_pos c28)))))))))
          rw [hO2.eq]
          exact pbf_of hG hGR (by show 5 * (κ 6) + 5 * (κ 7) + 4 * (κ 8) + 4 * (κ 9) + 4 * (κ 10) + 4 * (κ 11) + 5 * (κ 12) + 4 * (κ 13) + 3 * (κ 14) + 1 * (κ 15) ≤ 5 * (κ 6) + 5 * (κ 7) + 4 * (κ 8) + 4 * (κ 9) + 4 * (κ 10) + 4 * (κ 11) + 5 * (κ 12) + 4 * (κ 13) + 3 * (κ 14) + 1 * (κ 15); omega) (by show 0 ≤ (5 * (κ 6) + 5 * (κ 7) + 4 * (κ 8) + 4 * (κ 9) + 4 * (κ 10) + 4 * (κ 11) + 5 * (κ 12) + 4 * (κ 13) + 3 * (κ 14) + 1 * (κ 15)) - (5 * (κ 6) + 5 * (κ 7) + 4 * (κ 8) + 4 * (κ 9) + 4 * (κ 10) + 4 * (κ 11) + 5 * (κ 12) + 4 * (κ 13) + 3 * (κ 14) + 1 * (κ 15)) + 1; omega) (by show 0 ≤ 2 * ((5 * (κ 6) + 5 * (κ 7) + 4 * (κ 8) + 4 * (κ 9) + 4 * (κ 10) + 4 * (κ 11) + 5 * (κ 12) + 4 * (κ 13) + 3 * (κ 14) + 1 * (κ 15)) - (5 * (κ 6) + 5 * (κ 7) + 4 * (κ 8) + 4 * (κ 9) + 4 * (κ 10) + 4 * (κ 11) + 5 * (κ 12) + 4 * (κ 13) + 3 * (κ 14) + 1 * (κ 15))) + 6; omega)
        · refine lv_iconst (v := 1) hx hb dTypeBook_typeOf_107 (by decide) ?_
          refine lv_goto (tgt := 112) hx hb dTypeBook_typeOf_108 (by decide) ?_
          rw [hQ]
          refine tx_endI S hret hlk hS (by show 0 ≤ 50000; omega) (by show 0 ≤ 1000000; omega) (fun hGR => ?_) dTypeBook_typeOf_112
          have hO2 : Oq OUT (0, 1, κ, φ, ψ) := (by subst er27 er15; exact hO.tr ((if_neg c16).trans ((if_neg c17).trans ((if_pos c18).trans ((if_neg k19).trans ((if_neg k21).trans ((if_neg k23).trans ((if_neg k25).trans (if_neg c28)))))))))
          rw [hO2.eq]
          exact pbf_of hG hGR (by show 5 * (κ 6) + 5 * (κ 7) + 4 * (κ 8) + 4 * (κ 9) + 4 * (κ 10) + 4 * (κ 11) + 5 * (κ 12) + 4 * (κ 13) + 3 * (κ 14) + 1 * (κ 15) ≤ 5 * (κ 6) + 5 * (κ 7) + 4 * (κ 8) + 4 * (κ 9) + 4 * (κ 10) + 4 * (κ 11) + 5 * (κ 12) + 4 * (κ 13) + 3 * (κ 14) + 1 * (κ 15); omega) (by show 0 ≤ (5 * (κ 6) + 5 * (κ 7) + 4 * (κ 8) + 4 * (κ 9) + 4 * (κ 10) + 4 * (κ 11) + 5 * (κ 12) + 4 * (κ 13) + 3 * (κ 14) + 1 * (κ 15)) - (5 * (κ 6) + 5 * (κ 7) + 4 * (κ 8) + 4 * (κ 9) + 4 * (κ 10) + 4 * (κ 11) + 5 * (κ 12) + 4 * (κ 13) + 3 * (κ 14) + 1 * (κ 15)) + 1; omega) (by show 0 ≤ 2 * ((5 * (κ 6) + 5 * (κ 7) + 4 * (κ 8) + 4 * (κ 9) + 4 * (κ 10) + 4 * (κ 11) + 5 * (κ 12) + 4 * (κ 13) + 3 * (κ 14) + 1 * (κ 15)) - (5 * (κ 6) + 5 * (κ 7) + 4 * (κ 8) + 4 * (κ 9) + 4 * (κ 10) + 4 * (κ 11) + 5 * (κ 12) + 4 * (κ 13) + 3 * (κ 14) + 1 * (κ 15))) + 6; omega)
      · refine W.up (k := 0) (n := 0) (by show 0 ≤ _; omega) (by show 0 ≤ _; omega) ?_
        exact J20 ls _ _ φ ψ x1 x2 hG hS (by subst er15; exact hO.tr ((if_neg c16).trans ((if_neg c17).trans (if_neg c18)))) (lv_sub hl [0, 1, 2] rfl)
def P_TypeBook_about_20 (κ : Nat → Nat) (φ : gF) (ψ : gG) (i1 : Int32) (i2 : Int32) : XR := (1, 0, κ, φ, ψ)
def P_TypeBook_about (κ : Nat → Nat) (φ : gF) (ψ : gG) (x1 : Int32) (x2 : Int32) : XR := (if (P_Trees_has ((κ 0)) ((κ 1)) ((κ 11)) (φ 2) x1) = 0 then (P_TypeBook_about_20 κ  φ ψ x1 x2) else (if x2 < 0 then (P_TypeBook_about_20 κ  φ ψ x1 x2) else (if x2 ≤ 3 then (if (P_Looks_classOf ((κ 6)) (φ 7) x1) = (-1) then (0, (-1), κ, φ, ψ) else (if x2 = 0 then (0, (P_Looks_classOf ((κ 6)) (φ 7) x1), κ, φ, ψ) else (if x2 = 1 then (0, (P_Looks_extentOf ((κ 6)) (φ 7) x1), κ, φ, ψ) else (if x2 = 2 then (if (P_Looks_isFixed ((κ 6)) (φ 7) x1) = 0 then (0, 0, κ, φ, ψ) else (0, 1, κ, φ, ψ)) else (0, (P_Looks_meaningOf ((κ 6)) (φ 7) x1), κ, φ, ψ))))) else (P_TypeBook_about_20 κ  φ ψ x1 x2))))
set_option maxHeartbeats 4000000 in
set_option maxRecDepth 100000 in
theorem xf_about (l : Launch) (hst : l.stackTraces = false) (γ : gE) (A : Nat → Prop) (κ : Nat → Nat) (φ : gF) (ψ : gG) (s0 : State) (hw0 : SW s0) (hA0 : ∀ q, A q → s0.heap.size ≤ q) (H0 : Heap) (x1 : Int32) (x2 : Int32) : XM l yTypeBook_about bTypeBook_about 3 (some .int) 6 82 50000 1000000 [.ref (γ.2.2.2 0), .int x1, .int x2] γ A (fun U => FB s0 U U.heap ∧ U.heap = H0 ∧ INVF γ A κ φ ψ U.heap) (mQi (fun r H => PBF γ A κ H0 (P_TypeBook_about κ φ ψ x1 x2) 0 r H) A) (fun E H => XCF γ A κ H0 (P_TypeBook_about κ φ ψ x1 x2) E H) := by
  refine tx_openI (by decide) (Nat.le_of_ble_eq_true rfl) ?_
  intro p e s m args below meth c ls Q S hret hlk hX hC hA hP hQ hl
  obtain ⟨hF0, hH0, hG⟩ := hP
  subst hH0
  have hI := inv_of hG
  obtain ⟨hx, hb, hml, hown, hW⟩ := id S
  have hS : va_S A s.heap s.heap [] := va_S.rf
  have hl : lv_has ls 3 [(0, .ref (γ.2.2.2 0)), (1, .int x1), (2, .int x2)] := hl
  obtain ⟨hlen, hsz⟩ := inv_len hI
  obtain ⟨OUT, hQ9, hO⟩ : ∃ z, (z = P_TypeBook_about κ φ ψ x1 x2) ∧ Oq z (P_TypeBook_about κ φ ψ x1 x2) := ⟨_, rfl, rfl⟩
  rw [← hQ9] at hQ
  clear hQ9
  have J20 : ∀ (ls : Array Slot) (H : Heap) (locs : List Loc) (φ : gF) (ψ : gG) (i1 : Int32) (i2 : Int32), INVF γ A κ φ ψ H → va_S A s.heap H locs → (Oq OUT (P_TypeBook_about_20 κ   φ ψ i1 i2)) → lv_has ls 3 [(0, .ref (γ.2.2.2 0)), (1, .int i1), (2, .int i2)] → W p l e (bs_rm 6 50000 1000000 82) s m args below meth c H locs 0 0 Q (F0 m 20 ls []) := by
    intro ls H locs φ ψ i1 i2 hG hS hO hl
    have hI := inv_of hG
    obtain ⟨sa20, hsa20⟩ := hw0.2.2.2.1 R_TypeBook 216 "no such node or part" (in_tables_1_5 (List.mem_of_getElem? (i := 124) rfl))
    rw [hQ]
    refine tx_throw (s0 := s0) (names := ["java/lang/RuntimeException", "java/lang/Exception"]) (text := "no such node or part") (sa := sa20) S hst hX hlk (by decide +kernel) (by decide +kernel) qw_ae3ba0ca69 qw_d4b771d349 (hF0.step hA0 hS.1 hS.2.1) hsa20 (ta_IOB hW hw0) hl.1 dTypeBook_about_20 dTypeBook_about_23 dTypeBook_about_24 dTypeBook_about_26 dTypeBook_about_29 (Nat.lt_of_lt_of_le (by decide) (Nat.le_of_ble_eq_true rfl : 6 ≤ _)) (Nat.le_of_ble_eq_true rfl) (by show 0 + 1 ≤ 50000; omega) (by show 0 + 6 ≤ 1000000; omega) (fun H1 hGR hz ho => ?_) hS.2.2 (by show 0 + 1 ≤ 50000; omega) (by show 0 + 6 ≤ 1000000; omega)
    have hO2 : Oq OUT (1, 0, κ, φ, ψ) := (by exact hO.tr rfl)
    rw [hO2.eq]
    exact ⟨⟨1, by decide, pbf_of (invf_more hG ho) hGR (by show 5 * (κ 6) + 5 * (κ 7) + 4 * (κ 8) + 4 * (κ 9) + 4 * (κ 10) + 4 * (κ 11) + 5 * (κ 12) + 4 * (κ 13) + 3 * (κ 14) + 1 * (κ 15) ≤ 5 * (κ 6) + 5 * (κ 7) + 4 * (κ 8) + 4 * (κ 9) + 4 * (κ 10) + 4 * (κ 11) + 5 * (κ 12) + 4 * (κ 13) + 3 * (κ 14) + 1 * (κ 15); omega) (by show 0 + 1 ≤ (5 * (κ 6) + 5 * (κ 7) + 4 * (κ 8) + 4 * (κ 9) + 4 * (κ 10) + 4 * (κ 11) + 5 * (κ 12) + 4 * (κ 13) + 3 * (κ 14) + 1 * (κ 15)) - (5 * (κ 6) + 5 * (κ 7) + 4 * (κ 8) + 4 * (κ 9) + 4 * (κ 10) + 4 * (κ 11) + 5 * (κ 12) + 4 * (κ 13) + 3 * (κ 14) + 1 * (κ 15)) + 1; omega) (by show 0 + 6 ≤ 2 * ((5 * (κ 6) + 5 * (κ 7) + 4 * (κ 8) + 4 * (κ 9) + 4 * (κ 10) + 4 * (κ 11) + 5 * (κ 12) + 4 * (κ 13) + 3 * (κ 14) + 1 * (κ 15)) - (5 * (κ 6) + 5 * (κ 7) + 4 * (κ 8) + 4 * (κ 9) + 4 * (κ 10) + 4 * (κ 11) + 5 * (κ 12) + 4 * (κ 13) + 3 * (κ 14) + 1 * (κ 15))) + 6; omega)⟩, fr_more hS hz ho⟩
  refine lv_aload_n hx hb dTypeBook_about_0 rfl (lv_at hl 0 rfl) ?_
  refine of_get S hC (of_0_0 hI) in_TypeBook rfl (by decide) qw_6151ee7924 dTypeBook_about_1 ?_
  refine lv_iload_n hx hb dTypeBook_about_4 rfl (lv_at hl 1 rfl) ?_
  refine pu_Vi (rest := []) S hC (f1_Trees_has l γ A κ φ ψ x1) meTrees_has qw_90a02633e0 ⟨Nat.le_of_ble_eq_true rfl, Nat.le_of_ble_eq_true rfl⟩ (rv_1 hC hI) hG rfl hl.1 rfl (Nat.le_of_ble_eq_true rfl) dTypeBook_about_5 ⟨(by show _ ≤ 50000; omega), (by show _ ≤ 1000000; omega)⟩ (fun r15 hr15 => ?_)
  obtain ⟨hr15, er15⟩ := hr15
  refine lv_if_eq (tgt := 20) hx hb dTypeBook_about_8 (by decide) (fun c16 => ?_) (fun c16 => ?_)
  · refine W.up (k := 0) (n := 0) (by show 0 ≤ _; omega) (by show 0 ≤ _; omega) ?_
    exact J20 ls _ _ φ ψ x1 x2 hG hS (by subst er15; exact hO.tr (if_pos c16)) (lv_sub hl [0, 1, 2] rfl)
  · refine lv_iload_n hx hb dTypeBook_about_11 rfl (lv_at hl 2 rfl) ?_
    refine lv_if_lt (tgt := 20) hx hb dTypeBook_about_12 (by decide) (fun c17 => ?_) (fun c17 => ?_)
    · refine W.up (k := 0) (n := 0) (by show 0 ≤ _; omega) (by show 0 ≤ _; omega) ?_
      exact J20 ls _ _ φ ψ x1 x2 hG hS (by subst er15; exact hO.tr ((if_neg c16).trans (if_pos c17))) (lv_sub hl [0, 1, 2] rfl)
    · refine lv_iload_n hx hb dTypeBook_about_15 rfl (lv_at hl 2 rfl) ?_
      refine lv_iconst (v := 3) hx hb dTypeBook_about_16 (by decide) ?_
      refine lv_icmp_le (tgt := 30) hx hb dTypeBook_about_17 (by decide) (fun c18 => ?_) (fun c18 => ?_)
      · refine lv_aload_n hx hb dTypeBook_about_30 rfl (lv_at hl 0 rfl) ?_
        refine of_get S hC (of_0_4 hI) in_TypeBook rfl (by decide) qw_ce6a8385d0 dTypeBook_about_31 ?_
        refine lv_iload_n hx hb dTypeBook_about_34 rfl (lv_at hl 1 rfl) ?_
        refine pu_Vi (rest := []) S hC (f6_Looks_classOf l γ A κ φ ψ x1) meLooks_classOf qw_d27d929e86 ⟨Nat.le_of_ble_eq_true rfl, Nat.le_of_ble_eq_true rfl⟩ (rv_6 hC hI) hG rfl hl.1 rfl (Nat.le_of_ble_eq_true rfl) dTypeBook_about_35 ⟨(by show _ ≤ 50000; omega), (by show _ ≤ 1000000; omega)⟩ (fun r19 hr19 => ?_)
        obtain ⟨hr19, er19⟩ := hr19
        refine lv_iconst (v := (-1)) hx hb dTypeBook_about_38 (by decide) ?_
        refine lv_icmp_ne (tgt := 44) hx hb dTypeBook_about_39 (by decide) (fun c20 => ?_) (fun c20 => ?_)
        · refine lv_iload_n hx hb dTypeBook_about_44 rfl (lv_at hl 2 rfl) ?_
          by_cases k21 : x2 = 0
          · rw [k21]
            refine lv_tableIn (tgt := 72) hx hb dTypeBook_about_45 (by decide) (by decide) rfl (by decide) ?_
            refine lv_aload_n hx hb dTypeBook_about_72 rfl (lv_at hl 0 rfl) ?_
            refine of_get S hC (of_0_4 hI) in_TypeBook rfl (by decide) qw_ce6a8385d0 dTypeBook_about_73 ?_
            refine lv_iload_n hx hb dTypeBook_about_76 rfl (lv_at hl 1 rfl) ?_
            refine pu_Vi (rest := []) S hC (f6_Looks_classOf l γ A κ φ ψ x1) meLooks_classOf qw_d27d929e86 ⟨Nat.le_of_ble_eq_true rfl, Nat.le_of_ble_eq_true rfl⟩ (rv_6 hC hI) hG rfl hl.1 rfl (Nat.le_of_ble_eq_true rfl) dTypeBook_about_77 ⟨(by show _ ≤ 50000; omega), (by show _ ≤ 1000000; omega)⟩ (fun r22 hr22 => ?_)
            obtain ⟨hr22, er22⟩ := hr22
            rw [hQ]
            refine tx_endI S hret hlk hS (by show 0 ≤ 50000; omega) (by show 0 ≤ 1000000; omega) (fun hGR => ?_) dTypeBook_about_80
            have hO2 : Oq OUT (0, r22, κ, φ, ψ) := (by subst er22 er19 er15; exact hO.tr ((if_neg c16).trans ((if_neg c17).trans ((if_pos c18).trans ((if_neg c20).trans (if_pos k21))))))
            rw [hO2.eq]
            exact pbf_of hG hGR (by show 5 * (κ 6) + 5 * (κ 7) + 4 * (κ 8) + 4 * (κ 9) + 4 * (κ 10) + 4 * (κ 11) + 5 * (κ 12) + 4 * (κ 13) + 3 * (κ 14) + 1 * (κ 15) ≤ 5 * (κ 6) + 5 * (κ 7) + 4 * (κ 8) + 4 * (κ 9) + 4 * (κ 10) + 4 * (κ 11) + 5 * (κ 12) + 4 * (κ 13) + 3 * (κ 14) + 1 * (κ 15); omega) (by show 0 ≤ (5 * (κ 6) + 5 * (κ 7) + 4 * (κ 8) + 4 * (κ 9) + 4 * (κ 10) + 4 * (κ 11) + 5 * (κ 12) + 4 * (κ 13) + 3 * (κ 14) + 1 * (κ 15)) - (5 * (κ 6) + 5 * (κ 7) + 4 * (κ 8) + 4 * (κ 9) + 4 * (κ 10) + 4 * (κ 11) + 5 * (κ 12) + 4 * (κ 13) + 3 * (κ 14) + 1 * (κ 15)) + 1; omega) (by show 0 ≤ 2 * ((5 * (κ 6) + 5 * (κ 7) + 4 * (κ 8) + 4 * (κ 9) + 4 * (κ 10) + 4 * (κ 11) + 5 * (κ 12) + 4 * (κ 13) + 3 * (κ 14) + 1 * (κ 15)) - (5 * (κ 6) + 5 * (κ 7) + 4 * (κ 8) + 4 * (κ 9) + 4 * (κ 10) + 4 * (κ 11) + 5 * (κ 12) + 4 * (κ 13) + 3 * (κ 14) + 1 * (κ 15))) + 6; omega)
          by_cases k23 : x2 = 1
          · rw [k23]
            refine lv_tableIn (tgt := 81) hx hb dTypeBook_about_45 (by decide) (by decide) rfl (by decide) ?_
            refine lv_aload_n hx hb dTypeBook_about_81 rfl (lv_at hl 0 rfl) ?_
            refine of_get S hC (of_0_4 hI) in_TypeBook rfl (by decide) qw_ce6a8385d0 dTypeBook_about_82 ?_
            refine lv_iload_n hx hb dTypeBook_about_85 rfl (lv_at hl 1 rfl) ?_
            refine pu_Vi (rest := []) S hC (f6_Looks_extentOf l γ A κ φ ψ x1) meLooks_extentOf qw_98feb12098 ⟨Nat.le_of_ble_eq_true rfl, Nat.le_of_ble_eq_true rfl⟩ (rv_6 hC hI) hG rfl hl.1 rfl (Nat.le_of_ble_eq_true rfl) dTypeBook_about_86 ⟨(by show _ ≤ 50000; omega), (by show _ ≤ 1000000; omega)⟩ (fun r24 hr24 => ?_)
            obtain ⟨hr24, er24⟩ := hr24
            rw [hQ]
            refine tx_endI S hret hlk hS (by show 0 ≤ 50000; omega) (by show 0 ≤ 1000000; omega) (fun hGR => ?_) dTypeBook_about_89
            have hO2 : Oq OUT (0, r24, κ, φ, ψ) := (by subst er24 er19 er15; exact hO.tr ((if_neg c16).trans ((if_neg c17).trans ((if_pos c18).trans ((if_neg c20).trans ((if_neg k21).trans (if_pos k23)))))))
            rw [hO2.eq]
            exact pbf_of hG hGR (by show 5 * (κ 6) + 5 * (κ 7) + 4 * (κ 8) + 4 * (κ 9) + 4 * (κ 10) + 4 * (κ 11) + 5 * (κ 12) + 4 * (κ 13) + 3 * (κ 14) + 1 * (κ 15) ≤ 5 * (κ 6) + 5 * (κ 7) + 4 * (κ 8) + 4 * (κ 9) + 4 * (κ 10) + 4 * (κ 11) + 5 * (κ 12) + 4 * (κ 13) + 3 * (κ 14) + 1 * (κ 15); omega) (by show 0 ≤ (5 * (κ 6) + 5 * (κ 7) + 4 * (κ 8) + 4 * (κ 9) + 4 * (κ 10) + 4 * (κ 11) + 5 * (κ 12) + 4 * (κ 13) + 3 * (κ 14) + 1 * (κ 15)) - (5 * (κ 6) + 5 * (κ 7) + 4 * (κ 8) + 4 * (κ 9) + 4 * (κ 10) + 4 * (κ 11) + 5 * (κ 12) + 4 * (κ 13) + 3 * (κ 14) + 1 * (κ 15)) + 1; omega) (by show 0 ≤ 2 * ((5 * (κ 6) + 5 * (κ 7) + 4 * (κ 8) + 4 * (κ 9) + 4 * (κ 10) + 4 * (κ 11) + 5 * (κ 12) + 4 * (κ 13) + 3 * (κ 14) + 1 * (κ 15)) - (5 * (κ 6) + 5 * (κ 7) + 4 * (κ 8) + 4 * (κ 9) + 4 * (κ 10) + 4 * (κ 11) + 5 * (κ 12) + 4 * (κ 13) + 3 * (κ 14) + 1 * (κ 15))) + 6; omega)
          by_cases k25 : x2 = 2
          · rw [k25]
            refine lv_tableIn (tgt := 90) hx hb dTypeBook_about_45 (by decide) (by decide) rfl (by decide) ?_
            refine lv_aload_n hx hb dTypeBook_about_90 rfl (lv_at hl 0 rfl) ?_
            refine of_get S hC (of_0_4 hI) in_TypeBook rfl (by decide) qw_ce6a8385d0 dTypeBook_about_91 ?_
            refine lv_iload_n hx hb dTypeBook_about_94 rfl (lv_at hl 1 rfl) ?_
            refine pu_Vi (rest := []) S hC (f6_Looks_isFixed l γ A κ φ ψ x1) meLooks_isFixed qw_20deece3e0 ⟨Nat.le_of_ble_eq_true rfl, Nat.le_of_ble_eq_true rfl⟩ (rv_6 hC hI) hG rfl hl.1 rfl (Nat.le_of_ble_eq_true rfl) dTypeBook_about_95 ⟨(by show _ ≤ 50000; omega), (by show _ ≤ 1000000; omega)⟩ (fun r26 hr26 => ?_)
            obtain ⟨hr26, er26⟩ := hr26
            refine lv_if_eq (tgt := 105) hx hb dTypeBook_about_98 (by decide) (fun c27 => ?_) (fun c27 => ?_)
            · refine lv_iconst (v := 0) hx hb dTypeBook_about_105 (by decide) ?_
              rw [hQ]
              refine tx_endI S hret hlk hS (by show 0 ≤ 50000; omega) (by show 0 ≤ 1000000; omega) (fun hGR => ?_) dTypeBook_about_106
              have hO2 : Oq OUT (0, 0, κ, φ, ψ) := (by subst er26 er19 er15; exact hO.tr ((if_neg c16).trans ((if_neg c17).trans ((if_pos c18).trans ((if_neg c20).trans ((if_neg k21).trans ((if_neg k23).trans ((if_pos k25).trans (if_pos c27)))))))))
              rw [hO2.eq]
              exact pbf_of hG hGR (by show 5 * (κ 6) + 5 * (κ 7) + 4 * (κ 8) + 4 * (κ 9) + 4 * (κ 10) + 4 * (κ 11) + 5 * (κ 12) + 4 * (κ 13) + 3 * (κ 14) + 1 * (κ 15) ≤ 5 * (κ 6) + 5 * (κ 7) + 4 * (κ 8) + 4 * (κ 9) + 4 * (κ 10) + 4 * (κ 11) + 5 * (κ 12) + 4 * (κ 13) + 3 * (κ 14) + 1 * (κ 15); omega) (by show 0 ≤ (5 * (κ 6) + 5 * (κ 7) + 4 * (κ 8) + 4 * (κ 9) + 4 * (κ 10) + 4 * (κ 11) + 5 * (κ 12) + 4 * (κ 13) + 3 * (κ 14) + 1 * (κ 15)) - (5 * (κ 6) + 5 * (κ 7) + 4 * (κ 8) + 4 * (κ 9) + 4 * (κ 10) + 4 * (κ 11) + 5 * (κ 12) + 4 * (κ 13) + 3 * (κ 14) + 1 * (κ 15)) + 1; omega) (by show 0 ≤ 2 * ((5 * (κ 6) + 5 * (κ 7) + 4 * (κ 8) + 4 * (κ 9) + 4 * (κ 10) + 4 * (κ 11) + 5 * (κ 12) + 4 * (κ 13) + 3 * (κ 14) + 1 * (κ 15)) - (5 * (κ 6) + 5 * (κ 7) + 4 * (κ 8) + 4 * (κ 9) + 4 * (κ 10) + 4 * (κ 11) + 5 * (κ 12) + 4 * (κ 13) + 3 * (κ 14) + 1 * (κ 15))) + 6; omega)
            · refine lv_iconst (v := 1) hx hb dTypeBook_about_101 (by decide) ?_
              refine lv_goto (tgt := 106) hx hb dTypeBook_about_102 (by decide) ?_
              rw [hQ]
              refine tx_endI S hret hlk hS (by show 0 ≤ 50000; omega) (by show 0 ≤ 1000000; omega) (fun hGR => ?_) dTypeBook_about_106
              have hO2 : Oq OUT (0, 1, κ, φ, ψ) := (by subst er26 er19 er15; exact hO.tr ((if_neg c16).trans ((if_neg c17).trans ((if_pos c18).trans ((if_neg c20).trans ((if_neg k21).trans ((if_neg k23).trans ((if_pos k25).trans (if_neg c27)))))))))
              rw [hO2.eq]
              exact pbf_of hG hGR (by show 5 * (κ 6) + 5 * (κ 7) + 4 * (κ 8) + 4 * (κ 9) + 4 * (κ 10) + 4 * (κ 11) + 5 * (κ 12) + 4 * (κ 13) + 3 * (κ 14) + 1 * (κ 15) ≤ 5 * (κ 6) + 5 * (κ 7) + 4 * (κ 8) + 4 * (κ 9) + 4 * (κ 10) + 4 * (κ 11) + 5 * (κ 12) + 4 * (κ 13) + 3 * (κ 14) + 1 * (κ 15); omega) (by show 0 ≤ (5 * (κ 6) + 5 * (κ 7) + 4 * (κ 8) + 4 * (κ 9) + 4 * (κ 10) + 4 * (κ 11) + 5 * (κ 12) + 4 * (κ 13) + 3 * (κ 14) + 1 * (κ 15)) - (5 * (κ 6) + 5 * (κ 7) + 4 * (κ 8) + 4 * (κ 9) + 4 * (κ 10) + 4 * (κ 11) + 5 * (κ 12) + 4 * (κ 13) + 3 * (κ 14) + 1 * (κ 15)) + 1; omega) (by show 0 ≤ 2 * ((5 * (κ 6) + 5 * (κ 7) + 4 * (κ 8) + 4 * (κ 9) + 4 * (κ 10) + 4 * (κ 11) + 5 * (κ 12) + 4 * (κ 13) + 3 * (κ 14) + 1 * (κ 15)) - (5 * (κ 6) + 5 * (κ 7) + 4 * (κ 8) + 4 * (κ 9) + 4 * (κ 10) + 4 * (κ 11) + 5 * (κ 12) + 4 * (κ 13) + 3 * (κ 14) + 1 * (κ 15))) + 6; omega)
          refine lv_tableOut (tgt := 107) hx hb dTypeBook_about_45 (by have qk21 := lv_neT (a := 0) k21 (by decide); have qk23 := lv_neT (a := 1) k23 (by decide); have qk25 := lv_neT (a := 2) k25 (by decide); omega) (by decide) ?_
          refine lv_aload_n hx hb dTypeBook_about_107 rfl (lv_at hl 0 rfl) ?_
          refine of_get S hC (of_0_4 hI) in_TypeBook rfl (by decide) qw_ce6a8385d0 dTypeBook_about_108 ?_
          refine lv_iload_n hx hb dTypeBook_about_111 rfl (lv_at hl 1 rfl) ?_
          refine pu_Vi (rest := []) S hC (f6_Looks_meaningOf l γ A κ φ ψ x1) meLooks_meaningOf qw_1063e05a19 ⟨Nat.le_of_ble_eq_true rfl, Nat.le_of_ble_eq_true rfl⟩ (rv_6 hC hI) hG rfl hl.1 rfl (Nat.le_of_ble_eq_true rfl) dTypeBook_about_112 ⟨(by show _ ≤ 50000; omega), (by show _ ≤ 1000000; omega)⟩ (fun r28 hr28 => ?_)
          obtain ⟨hr28, er28⟩ := hr28
          rw [hQ]
          refine tx_endI S hret hlk hS (by show 0 ≤ 50000; omega) (by show 0 ≤ 1000000; omega) (fun hGR => ?_) dTypeBook_about_115
          have hO2 : Oq OUT (0, r28, κ, φ, ψ) := (by subst er28 er19 er15; exact hO.tr ((if_neg c16).trans ((if_neg c17).trans ((if_pos c18).trans ((if_neg c20).trans ((if_neg k21).trans ((if_neg k23).trans (if_neg k25))))))))
          rw [hO2.eq]
          exact pbf_of hG hGR (by show 5 * (κ 6) + 5 * (κ 7) + 4 * (κ 8) + 4 * (κ 9) + 4 * (κ 10) + 4 * (κ 11) + 5 * (κ 12) + 4 * (κ 13) + 3 * (κ 14) + 1 * (κ 15) ≤ 5 * (κ 6) + 5 * (κ 7) + 4 * (κ 8) + 4 * (κ 9) + 4 * (κ 10) + 4 * (κ 11) + 5 * (κ 12) + 4 * (κ 13) + 3 * (κ 14) + 1 * (κ 15); omega) (by show 0 ≤ (5 * (κ 6) + 5 * (κ 7) + 4 * (κ 8) + 4 * (κ 9) + 4 * (κ 10) + 4 * (κ 11) + 5 * (κ 12) + 4 * (κ 13) + 3 * (κ 14) + 1 * (κ 15)) - (5 * (κ 6) + 5 * (κ 7) + 4 * (κ 8) + 4 * (κ 9) + 4 * (κ 10) + 4 * (κ 11) + 5 * (κ 12) + 4 * (κ 13) + 3 * (κ 14) + 1 * (κ 15)) + 1; omega) (by show 0 ≤ 2 * ((5 * (κ 6) + 5 * (κ 7) + 4 * (κ 8) + 4 * (κ 9) + 4 * (κ 10) + 4 * (κ 11) + 5 * (κ 12) + 4 * (κ 13) + 3 * (κ 14) + 1 * (κ 15)) - (5 * (κ 6) + 5 * (κ 7) + 4 * (κ 8) + 4 * (κ 9) + 4 * (κ 10) + 4 * (κ 11) + 5 * (κ 12) + 4 * (κ 13) + 3 * (κ 14) + 1 * (κ 15))) + 6; omega)
        · refine lv_iconst (v := (-1)) hx hb dTypeBook_about_42 (by decide) ?_
          rw [hQ]
          refine tx_endI S hret hlk hS (by show 0 ≤ 50000; omega) (by show 0 ≤ 1000000; omega) (fun hGR => ?_) dTypeBook_about_43
          have hO2 : Oq OUT (0, (-1), κ, φ, ψ) := (by subst er19 er15; exact hO.tr ((if_neg c16).trans ((if_neg c17).trans ((if_pos c18).trans (if_pos c20)))))
          rw [hO2.eq]
          exact pbf_of hG hGR (by show 5 * (κ 6) + 5 * (κ 7) + 4 * (κ 8) + 4 * (κ 9) + 4 * (κ 10) + 4 * (κ 11) + 5 * (κ 12) + 4 * (κ 13) + 3 * (κ 14) + 1 * (κ 15) ≤ 5 * (κ 6) + 5 * (κ 7) + 4 * (κ 8) + 4 * (κ 9) + 4 * (κ 10) + 4 * (κ 11) + 5 * (κ 12) + 4 * (κ 13) + 3 * (κ 14) + 1 * (κ 15); omega) (by show 0 ≤ (5 * (κ 6) + 5 * (κ 7) + 4 * (κ 8) + 4 * (κ 9) + 4 * (κ 10) + 4 * (κ 11) + 5 * (κ 12) + 4 * (κ 13) + 3 * (κ 14) + 1 * (κ 15)) - (5 * (κ 6) + 5 * (κ 7) + 4 * (κ 8) + 4 * (κ 9) + 4 * (κ 10) + 4 * (κ 11) + 5 * (κ 12) + 4 * (κ 13) + 3 * (κ 14) + 1 * (κ 15)) + 1; omega) (by show 0 ≤ 2 * ((5 * (κ 6) + 5 * (κ 7) + 4 * (κ 8) + 4 * (κ 9) + 4 * (κ 10) + 4 * (κ 11) + 5 * (κ 12) + 4 * (κ 13) + 3 * (κ 14) + 1 * (κ 15)) - (5 * (κ 6) + 5 * (κ 7) + 4 * (κ 8) + 4 * (κ 9) + 4 * (κ 10) + 4 * (κ 11) + 5 * (κ 12) + 4 * (κ 13) + 3 * (κ 14) + 1 * (κ 15))) + 6; omega)
      · refine W.up (k := 0) (n := 0) (by show 0 ≤ _; omega) (by show 0 ≤ _; omega) ?_
        exact J20 ls _ _ φ ψ x1 x2 hG hS (by subst er15; exact hO.tr ((if_neg c16).trans ((if_neg c17).trans (if_neg c18)))) (lv_sub hl [0, 1, 2] rfl)
def P_TypeBook_value_44 (κ : Nat → Nat) (φ : gF) (ψ : gG) (i1 : Int32) (i2 : Int32) : XR := (3, 0, κ, φ, ψ)
def P_TypeBook_value_91 (κ : Nat → Nat) (φ : gF) (ψ : gG) (i1 : Int32) (i2 : Int32) : XR := (1, 0, κ, φ, ψ)
def P_TypeBook_value (κ : Nat → Nat) (φ : gF) (ψ : gG) (x1 : Int32) (x2 : Int32) : XR := (if (P_Trees_has ((κ 0)) ((κ 1)) ((κ 11)) (φ 2) x1) = 0 then (1, 0, κ, φ, ψ) else (if (P_Looks_classOf ((κ 6)) (φ 7) x1) = (-1) then (P_TypeBook_value_44 κ  φ ψ x1 x2) else (if (P_Looks_isFixed ((κ 6)) (φ 7) x1) = 0 then (P_TypeBook_value_44 κ  φ ψ x1 x2) else (if (P_Looks_classOf ((κ 6)) (φ 7) x1) = 3 then (if x2 < 0 then (P_TypeBook_value_91 κ  φ ψ x1 x2) else (if x2 < (P_Looks_extentOf ((κ 6)) (φ 7) x1) then (0, (P_Rows_get ((κ 9)) (ψ 8) x1 x2), κ, φ, ψ) else (P_TypeBook_value_91 κ  φ ψ x1 x2))) else (0, (P_Looks_numberOf ((κ 6)) (φ 7) x1), κ, φ, ψ)))))
set_option maxHeartbeats 4000000 in
set_option maxRecDepth 100000 in
theorem xf_value (l : Launch) (hst : l.stackTraces = false) (γ : gE) (A : Nat → Prop) (κ : Nat → Nat) (φ : gF) (ψ : gG) (s0 : State) (hw0 : SW s0) (hA0 : ∀ q, A q → s0.heap.size ≤ q) (H0 : Heap) (x1 : Int32) (x2 : Int32) : XM l yTypeBook_value bTypeBook_value 3 (some .int) 6 82 50000 1000000 [.ref (γ.2.2.2 0), .int x1, .int x2] γ A (fun U => FB s0 U U.heap ∧ U.heap = H0 ∧ INVF γ A κ φ ψ U.heap) (mQi (fun r H => PBF γ A κ H0 (P_TypeBook_value κ φ ψ x1 x2) 0 r H) A) (fun E H => XCF γ A κ H0 (P_TypeBook_value κ φ ψ x1 x2) E H) := by
  refine tx_openI (by decide) (Nat.le_of_ble_eq_true rfl) ?_
  intro p e s m args below meth c ls Q S hret hlk hX hC hA hP hQ hl
  obtain ⟨hF0, hH0, hG⟩ := hP
  subst hH0
  have hI := inv_of hG
  obtain ⟨hx, hb, hml, hown, hW⟩ := id S
  have hS : va_S A s.heap s.heap [] := va_S.rf
  have hl : lv_has ls 3 [(0, .ref (γ.2.2.2 0)), (1, .int x1), (2, .int x2)] := hl
  obtain ⟨hlen, hsz⟩ := inv_len hI
  obtain ⟨OUT, hQ9, hO⟩ : ∃ z, (z = P_TypeBook_value κ φ ψ x1 x2) ∧ Oq z (P_TypeBook_value κ φ ψ x1 x2) := ⟨_, rfl, rfl⟩
  rw [← hQ9] at hQ
  clear hQ9
  have J91 : ∀ (ls : Array Slot) (H : Heap) (locs : List Loc) (φ : gF) (ψ : gG) (i1 : Int32) (i2 : Int32), INVF γ A κ φ ψ H → va_S A s.heap H locs → (Oq OUT (P_TypeBook_value_91 κ   φ ψ i1 i2)) → lv_has ls 3 [(0, .ref (γ.2.2.2 0)), (1, .int i1), (2, .int i2)] → W p l e (bs_rm 6 50000 1000000 82) s m args below meth c H locs 0 0 Q (F0 m 91 ls []) := by
    intro ls H locs φ ψ i1 i2 hG hS hO hl
    have hI := inv_of hG
    obtain ⟨sa91, hsa91⟩ := hw0.2.2.2.1 R_TypeBook 233 "no such element" (in_tables_1_5 (List.mem_of_getElem? (i := 138) rfl))
    rw [hQ]
    refine tx_throw (s0 := s0) (names := ["java/lang/RuntimeException", "java/lang/Exception"]) (text := "no such element") (sa := sa91) S hst hX hlk (by decide +kernel) (by decide +kernel) qw_ae3ba0ca69 qw_d4b771d349 (hF0.step hA0 hS.1 hS.2.1) hsa91 (ta_IOB hW hw0) hl.1 dTypeBook_value_91 dTypeBook_value_94 dTypeBook_value_95 dTypeBook_value_97 dTypeBook_value_100 (Nat.lt_of_lt_of_le (by decide) (Nat.le_of_ble_eq_true rfl : 6 ≤ _)) (Nat.le_of_ble_eq_true rfl) (by show 0 + 1 ≤ 50000; omega) (by show 0 + 6 ≤ 1000000; omega) (fun H1 hGR hz ho => ?_) hS.2.2 (by show 0 + 1 ≤ 50000; omega) (by show 0 + 6 ≤ 1000000; omega)
    have hO2 : Oq OUT (1, 0, κ, φ, ψ) := (by exact hO.tr rfl)
    rw [hO2.eq]
    exact ⟨⟨1, by decide, pbf_of (invf_more hG ho) hGR (by show 5 * (κ 6) + 5 * (κ 7) + 4 * (κ 8) + 4 * (κ 9) + 4 * (κ 10) + 4 * (κ 11) + 5 * (κ 12) + 4 * (κ 13) + 3 * (κ 14) + 1 * (κ 15) ≤ 5 * (κ 6) + 5 * (κ 7) + 4 * (κ 8) + 4 * (κ 9) + 4 * (κ 10) + 4 * (κ 11) + 5 * (κ 12) + 4 * (κ 13) + 3 * (κ 14) + 1 * (κ 15); omega) (by show 0 + 1 ≤ (5 * (κ 6) + 5 * (κ 7) + 4 * (κ 8) + 4 * (κ 9) + 4 * (κ 10) + 4 * (κ 11) + 5 * (κ 12) + 4 * (κ 13) + 3 * (κ 14) + 1 * (κ 15)) - (5 * (κ 6) + 5 * (κ 7) + 4 * (κ 8) + 4 * (κ 9) + 4 * (κ 10) + 4 * (κ 11) + 5 * (κ 12) + 4 * (κ 13) + 3 * (κ 14) + 1 * (κ 15)) + 1; omega) (by show 0 + 6 ≤ 2 * ((5 * (κ 6) + 5 * (κ 7) + 4 * (κ 8) + 4 * (κ 9) + 4 * (κ 10) + 4 * (κ 11) + 5 * (κ 12) + 4 * (κ 13) + 3 * (κ 14) + 1 * (κ 15)) - (5 * (κ 6) + 5 * (κ 7) + 4 * (κ 8) + 4 * (κ 9) + 4 * (κ 10) + 4 * (κ 11) + 5 * (κ 12) + 4 * (κ 13) + 3 * (κ 14) + 1 * (κ 15))) + 6; omega)⟩, fr_more hS hz ho⟩
  have J44 : ∀ (ls : Array Slot) (H : Heap) (locs : List Loc) (φ : gF) (ψ : gG) (i1 : Int32) (i2 : Int32), INVF γ A κ φ ψ H → va_S A s.heap H locs → (Oq OUT (P_TypeBook_value_44 κ   φ ψ i1 i2)) → lv_has ls 3 [(0, .ref (γ.2.2.2 0)), (1, .int i1), (2, .int i2)] → W p l e (bs_rm 6 50000 1000000 82) s m args below meth c H locs 0 0 Q (F0 m 44 ls []) := by
    intro ls H locs φ ψ i1 i2 hG hS hO hl
    have hI := inv_of hG
    obtain ⟨sa44, hsa44⟩ := hw0.2.2.2.1 R_TypeBook 228 "not a constant that has been looked at" (in_tables_1_5 (List.mem_of_getElem? (i := 136) rfl))
    rw [hQ]
    refine tx_throw (s0 := s0) (names := ["java/lang/RuntimeException", "java/lang/Exception"]) (text := "not a constant that has been looked at") (sa := sa44) S hst hX hlk (by decide +kernel) (by decide +kernel) qw_8038d8d33c qw_f529d83890 (hF0.step hA0 hS.1 hS.2.1) hsa44 (ta_ISE hW hw0) hl.1 dTypeBook_value_44 dTypeBook_value_47 dTypeBook_value_48 dTypeBook_value_50 dTypeBook_value_53 (Nat.lt_of_lt_of_le (by decide) (Nat.le_of_ble_eq_true rfl : 6 ≤ _)) (Nat.le_of_ble_eq_true rfl) (by show 0 + 1 ≤ 50000; omega) (by show 0 + 6 ≤ 1000000; omega) (fun H1 hGR hz ho => ?_) hS.2.2 (by show 0 + 1 ≤ 50000; omega) (by show 0 + 6 ≤ 1000000; omega)
    have hO2 : Oq OUT (3, 0, κ, φ, ψ) := (by exact hO.tr rfl)
    rw [hO2.eq]
    exact ⟨⟨3, by decide, pbf_of (invf_more hG ho) hGR (by show 5 * (κ 6) + 5 * (κ 7) + 4 * (κ 8) + 4 * (κ 9) + 4 * (κ 10) + 4 * (κ 11) + 5 * (κ 12) + 4 * (κ 13) + 3 * (κ 14) + 1 * (κ 15) ≤ 5 * (κ 6) + 5 * (κ 7) + 4 * (κ 8) + 4 * (κ 9) + 4 * (κ 10) + 4 * (κ 11) + 5 * (κ 12) + 4 * (κ 13) + 3 * (κ 14) + 1 * (κ 15); omega) (by show 0 + 1 ≤ (5 * (κ 6) + 5 * (κ 7) + 4 * (κ 8) + 4 * (κ 9) + 4 * (κ 10) + 4 * (κ 11) + 5 * (κ 12) + 4 * (κ 13) + 3 * (κ 14) + 1 * (κ 15)) - (5 * (κ 6) + 5 * (κ 7) + 4 * (κ 8) + 4 * (κ 9) + 4 * (κ 10) + 4 * (κ 11) + 5 * (κ 12) + 4 * (κ 13) + 3 * (κ 14) + 1 * (κ 15)) + 1; omega) (by show 0 + 6 ≤ 2 * ((5 * (κ 6) + 5 * (κ 7) + 4 * (κ 8) + 4 * (κ 9) + 4 * (κ 10) + 4 * (κ 11) + 5 * (κ 12) + 4 * (κ 13) + 3 * (κ 14) + 1 * (κ 15)) - (5 * (κ 6) + 5 * (κ 7) + 4 * (κ 8) + 4 * (κ 9) + 4 * (κ 10) + 4 * (κ 11) + 5 * (κ 12) + 4 * (κ 13) + 3 * (κ 14) + 1 * (κ 15))) + 6; omega)⟩, fr_more hS hz ho⟩
  refine lv_aload_n hx hb dTypeBook_value_0 rfl (lv_at hl 0 rfl) ?_
  refine of_get S hC (of_0_0 hI) in_TypeBook rfl (by decide) qw_6151ee7924 dTypeBook_value_1 ?_
  refine lv_iload_n hx hb dTypeBook_value_4 rfl (lv_at hl 1 rfl) ?_
  refine pu_Vi (rest := []) S hC (f1_Trees_has l γ A κ φ ψ x1) meTrees_has qw_90a02633e0 ⟨Nat.le_of_ble_eq_true rfl, Nat.le_of_ble_eq_true rfl⟩ (rv_1 hC hI) hG rfl hl.1 rfl (Nat.le_of_ble_eq_true rfl) dTypeBook_value_5 ⟨(by show _ ≤ 50000; omega), (by show _ ≤ 1000000; omega)⟩ (fun r14 hr14 => ?_)
  obtain ⟨hr14, er14⟩ := hr14
  refine lv_if_ne (tgt := 21) hx hb dTypeBook_value_8 (by decide) (fun c15 => ?_) (fun c15 => ?_)
  · refine lv_aload_n hx hb dTypeBook_value_21 rfl (lv_at hl 0 rfl) ?_
    refine of_get S hC (of_0_4 hI) in_TypeBook rfl (by decide) qw_ce6a8385d0 dTypeBook_value_22 ?_
    refine lv_iload_n hx hb dTypeBook_value_25 rfl (lv_at hl 1 rfl) ?_
    refine pu_Vi (rest := []) S hC (f6_Looks_classOf l γ A κ φ ψ x1) meLooks_classOf qw_d27d929e86 ⟨Nat.le_of_ble_eq_true rfl, Nat.le_of_ble_eq_true rfl⟩ (rv_6 hC hI) hG rfl hl.1 rfl (Nat.le_of_ble_eq_true rfl) dTypeBook_value_26 ⟨(by show _ ≤ 50000; omega), (by show _ ≤ 1000000; omega)⟩ (fun r16 hr16 => ?_)
    obtain ⟨hr16, er16⟩ := hr16
    refine lv_iconst (v := (-1)) hx hb dTypeBook_value_29 (by decide) ?_
    refine lv_icmp_eq (tgt := 44) hx hb dTypeBook_value_30 (by decide) (fun c17 => ?_) (fun c17 => ?_)
    · refine W.up (k := 0) (n := 0) (by show 0 ≤ _; omega) (by show 0 ≤ _; omega) ?_
      exact J44 ls _ _ φ ψ x1 x2 hG hS (by subst er16 er14; exact hO.tr ((if_neg c15).trans (if_pos c17))) (lv_sub hl [0, 1, 2] rfl)
    · refine lv_aload_n hx hb dTypeBook_value_33 rfl (lv_at hl 0 rfl) ?_
      refine of_get S hC (of_0_4 hI) in_TypeBook rfl (by decide) qw_ce6a8385d0 dTypeBook_value_34 ?_
      refine lv_iload_n hx hb dTypeBook_value_37 rfl (lv_at hl 1 rfl) ?_
      refine pu_Vi (rest := []) S hC (f6_Looks_isFixed l γ A κ φ ψ x1) meLooks_isFixed qw_20deece3e0 ⟨Nat.le_of_ble_eq_true rfl, Nat.le_of_ble_eq_true rfl⟩ (rv_6 hC hI) hG rfl hl.1 rfl (Nat.le_of_ble_eq_true rfl) dTypeBook_value_38 ⟨(by show _ ≤ 50000; omega), (by show _ ≤ 1000000; omega)⟩ (fun r18 hr18 => ?_)
      obtain ⟨hr18, er18⟩ := hr18
      refine lv_if_ne (tgt := 54) hx hb dTypeBook_value_41 (by decide) (fun c19 => ?_) (fun c19 => ?_)
      · refine lv_aload_n hx hb dTypeBook_value_54 rfl (lv_at hl 0 rfl) ?_
        refine of_get S hC (of_0_4 hI) in_TypeBook rfl (by decide) qw_ce6a8385d0 dTypeBook_value_55 ?_
        refine lv_iload_n hx hb dTypeBook_value_58 rfl (lv_at hl 1 rfl) ?_
        refine pu_Vi (rest := []) S hC (f6_Looks_classOf l γ A κ φ ψ x1) meLooks_classOf qw_d27d929e86 ⟨Nat.le_of_ble_eq_true rfl, Nat.le_of_ble_eq_true rfl⟩ (rv_6 hC hI) hG rfl hl.1 rfl (Nat.le_of_ble_eq_true rfl) dTypeBook_value_59 ⟨(by show _ ≤ 50000; omega), (by show _ ≤ 1000000; omega)⟩ (fun r20 hr20 => ?_)
        obtain ⟨hr20, er20⟩ := hr20
        refine lv_iconst (v := 3) hx hb dTypeBook_value_62 (by decide) ?_
        refine lv_icmp_eq (tgt := 75) hx hb dTypeBook_value_63 (by decide) (fun c21 => ?_) (fun c21 => ?_)
        · refine lv_iload_n hx hb dTypeBook_value_75 rfl (lv_at hl 2 rfl) ?_
          refine lv_if_lt (tgt := 91) hx hb dTypeBook_value_76 (by decide) (fun c22 => ?_) (fun c22 => ?_)
          · refine W.up (k := 0) (n := 0) (by show 0 ≤ _; omega) (by show 0 ≤ _; omega) ?_
            exact J91 ls _ _ φ ψ x1 x2 hG hS (by subst er20 er18 er16 er14; exact hO.tr ((if_neg c15).trans ((if_neg c17).trans ((if_neg c19).trans ((if_pos c21).trans (if_pos c22)))))) (lv_sub hl [0, 1, 2] rfl)
          · refine lv_iload_n hx hb dTypeBook_value_79 rfl (lv_at hl 2 rfl) ?_
            refine lv_aload_n hx hb dTypeBook_value_80 rfl (lv_at hl 0 rfl) ?_
            refine of_get S hC (of_0_4 hI) in_TypeBook rfl (by decide) qw_ce6a8385d0 dTypeBook_value_81 ?_
            refine lv_iload_n hx hb dTypeBook_value_84 rfl (lv_at hl 1 rfl) ?_
            refine pu_Vi (rest := [.int x2]) S hC (f6_Looks_extentOf l γ A κ φ ψ x1) meLooks_extentOf qw_98feb12098 ⟨Nat.le_of_ble_eq_true rfl, Nat.le_of_ble_eq_true rfl⟩ (rv_6 hC hI) hG rfl hl.1 rfl (Nat.le_of_ble_eq_true rfl) dTypeBook_value_85 ⟨(by show _ ≤ 50000; omega), (by show _ ≤ 1000000; omega)⟩ (fun r23 hr23 => ?_)
            obtain ⟨hr23, er23⟩ := hr23
            refine lv_icmp_lt (tgt := 101) hx hb dTypeBook_value_88 (by decide) (fun c24 => ?_) (fun c24 => ?_)
            · refine lv_aload_n hx hb dTypeBook_value_101 rfl (lv_at hl 0 rfl) ?_
              refine of_get S hC (of_0_4 hI) in_TypeBook rfl (by decide) qw_ce6a8385d0 dTypeBook_value_102 ?_
              refine of_getN S hC (of_6_5 hI) in_Looks rfl (by decide) qn_8558a3cbf3 dTypeBook_value_105 ?_
              refine lv_iload_n hx hb dTypeBook_value_108 rfl (lv_at hl 1 rfl) ?_
              refine lv_iload_n hx hb dTypeBook_value_109 rfl (lv_at hl 2 rfl) ?_
              refine pu_Vi (rest := []) S hC (f7_Rows_get l γ A κ φ ψ x1 x2) meRows_get qw_9e45f7f101 ⟨Nat.le_of_ble_eq_true rfl, Nat.le_of_ble_eq_true rfl⟩ (rv_7 hC hI) hG rfl hl.1 rfl (Nat.le_of_ble_eq_true rfl) dTypeBook_value_110 ⟨(by show _ ≤ 50000; omega), (by show _ ≤ 1000000; omega)⟩ (fun r25 hr25 => ?_)
              obtain ⟨hr25, er25⟩ := hr25
              rw [hQ]
              refine tx_endI S hret hlk hS (by show 0 ≤ 50000; omega) (by show 0 ≤ 1000000; omega) (fun hGR => ?_) dTypeBook_value_113
              have hO2 : Oq OUT (0, r25, κ, φ, ψ) := (by subst er25 er23 er20 er18 er16 er14; exact hO.tr ((if_neg c15).trans ((if_neg c17).trans ((if_neg c19).trans ((if_pos c21).trans ((if_neg c22).trans (if_pos c24)))))))
              rw [hO2.eq]
              exact pbf_of hG hGR (by show 5 * (κ 6) + 5 * (κ 7) + 4 * (κ 8) + 4 * (κ 9) + 4 * (κ 10) + 4 * (κ 11) + 5 * (κ 12) + 4 * (κ 13) + 3 * (κ 14) + 1 * (κ 15) ≤ 5 * (κ 6) + 5 * (κ 7) + 4 * (κ 8) + 4 * (κ 9) + 4 * (κ 10) + 4 * (κ 11) + 5 * (κ 12) + 4 * (κ 13) + 3 * (κ 14) + 1 * (κ 15); omega) (by show 0 ≤ (5 * (κ 6) + 5 * (κ 7) + 4 * (κ 8) + 4 * (κ 9) + 4 * (κ 10) + 4 * (κ 11) + 5 * (κ 12) + 4 * (κ 13) + 3 * (κ 14) + 1 * (κ 15)) - (5 * (κ 6) + 5 * (κ 7) + 4 * (κ 8) + 4 * (κ 9) + 4 * (κ 10) + 4 * (κ 11) + 5 * (κ 12) + 4 * (κ 13) + 3 * (κ 14) + 1 * (κ 15)) + 1; omega) (by show 0 ≤ 2 * ((5 * (κ 6) + 5 * (κ 7) + 4 * (κ 8) + 4 * (κ 9) + 4 * (κ 10) + 4 * (κ 11) + 5 * (κ 12) + 4 * (κ 13) + 3 * (κ 14) + 1 * (κ 15)) - (5 * (κ 6) + 5 * (κ 7) + 4 * (κ 8) + 4 * (κ 9) + 4 * (κ 10) + 4 * (κ 11) + 5 * (κ 12) + 4 * (κ 13) + 3 * (κ 14) + 1 * (κ 15))) + 6; omega)
            · refine W.up (k := 0) (n := 0) (by show 0 ≤ _; omega) (by show 0 ≤ _; omega) ?_
              exact J91 ls _ _ φ ψ x1 x2 hG hS (by subst er23 er20 er18 er16 er14; exact hO.tr ((if_neg c15).trans ((if_neg c17).trans ((if_neg c19).trans ((if_pos c21).trans ((if_neg c22).trans (if_neg c24))))))) (lv_sub hl [0, 1, 2] rfl)
        · refine lv_aload_n hx hb dTypeBook_value_66 rfl (lv_at hl 0 rfl) ?_
          refine of_get S hC (of_0_4 hI) in_TypeBook rfl (by decide) qw_ce6a8385d0 dTypeBook_value_67 ?_
          refine lv_iload_n hx hb dTypeBook_value_70 rfl (lv_at hl 1 rfl) ?_
          refine pu_Vi (rest := []) S hC (f6_Looks_numberOf l γ A κ φ ψ x1) meLooks_numberOf qw_9f81a39e28 ⟨Nat.le_of_ble_eq_true rfl, Nat.le_of_ble_eq_true rfl⟩ (rv_6 hC hI) hG rfl hl.1 rfl (Nat.le_of_ble_eq_true rfl) dTypeBook_value_71 ⟨(by show _ ≤ 50000; omega), (by show _ ≤ 1000000; omega)⟩ (fun r26 hr26 => ?_)
          obtain ⟨hr26, er26⟩ := hr26
          rw [hQ]
          refine tx_endI S hret hlk hS (by show 0 ≤ 50000; omega) (by show 0 ≤ 1000000; omega) (fun hGR => ?_) dTypeBook_value_74
          have hO2 : Oq OUT (0, r26, κ, φ, ψ) := (by subst er26 er20 er18 er16 er14; exact hO.tr ((if_neg c15).trans ((if_neg c17).trans ((if_neg c19).trans (if_neg c21)))))
          rw [hO2.eq]
          exact pbf_of hG hGR (by show 5 * (κ 6) + 5 * (κ 7) + 4 * (κ 8) + 4 * (κ 9) + 4 * (κ 10) + 4 * (κ 11) + 5 * (κ 12) + 4 * (κ 13) + 3 * (κ 14) + 1 * (κ 15) ≤ 5 * (κ 6) + 5 * (κ 7) + 4 * (κ 8) + 4 * (κ 9) + 4 * (κ 10) + 4 * (κ 11) + 5 * (κ 12) + 4 * (κ 13) + 3 * (κ 14) + 1 * (κ 15); omega) (by show 0 ≤ (5 * (κ 6) + 5 * (κ 7) + 4 * (κ 8) + 4 * (κ 9) + 4 * (κ 10) + 4 * (κ 11) + 5 * (κ 12) + 4 * (κ 13) + 3 * (κ 14) + 1 * (κ 15)) - (5 * (κ 6) + 5 * (κ 7) + 4 * (κ 8) + 4 * (κ 9) + 4 * (κ 10) + 4 * (κ 11) + 5 * (κ 12) + 4 * (κ 13) + 3 * (κ 14) + 1 * (κ 15)) + 1; omega) (by show 0 ≤ 2 * ((5 * (κ 6) + 5 * (κ 7) + 4 * (κ 8) + 4 * (κ 9) + 4 * (κ 10) + 4 * (κ 11) + 5 * (κ 12) + 4 * (κ 13) + 3 * (κ 14) + 1 * (κ 15)) - (5 * (κ 6) + 5 * (κ 7) + 4 * (κ 8) + 4 * (κ 9) + 4 * (κ 10) + 4 * (κ 11) + 5 * (κ 12) + 4 * (κ 13) + 3 * (κ 14) + 1 * (κ 15))) + 6; omega)
      · refine W.up (k := 0) (n := 0) (by show 0 ≤ _; omega) (by show 0 ≤ _; omega) ?_
        exact J44 ls _ _ φ ψ x1 x2 hG hS (by subst er18 er16 er14; exact hO.tr ((if_neg c15).trans ((if_neg c17).trans (if_pos c19)))) (lv_sub hl [0, 1, 2] rfl)
  · obtain ⟨sa11, hsa11⟩ := hw0.2.2.2.1 R_TypeBook 117 "no such node" (in_tables_1_3 (List.mem_of_getElem? (i := 32) rfl))
    rw [hQ]
    refine tx_throw (s0 := s0) (names := ["java/lang/RuntimeException", "java/lang/Exception"]) (text := "no such node") (sa := sa11) S hst hX hlk (by decide +kernel) (by decide +kernel) qw_ae3ba0ca69 qw_d4b771d349 (hF0.step hA0 hS.1 hS.2.1) hsa11 (ta_IOB hW hw0) hl.1 dTypeBook_value_11 dTypeBook_value_14 dTypeBook_value_15 dTypeBook_value_17 dTypeBook_value_20 (Nat.lt_of_lt_of_le (by decide) (Nat.le_of_ble_eq_true rfl : 6 ≤ _)) (Nat.le_of_ble_eq_true rfl) (by show 0 + 1 ≤ 50000; omega) (by show 0 + 6 ≤ 1000000; omega) (fun H1 hGR hz ho => ?_) hS.2.2 (by show 0 + 1 ≤ 50000; omega) (by show 0 + 6 ≤ 1000000; omega)
    have hO2 : Oq OUT (1, 0, κ, φ, ψ) := (by subst er14; exact hO.tr (if_pos c15))
    rw [hO2.eq]
    exact ⟨⟨1, by decide, pbf_of (invf_more hG ho) hGR (by show 5 * (κ 6) + 5 * (κ 7) + 4 * (κ 8) + 4 * (κ 9) + 4 * (κ 10) + 4 * (κ 11) + 5 * (κ 12) + 4 * (κ 13) + 3 * (κ 14) + 1 * (κ 15) ≤ 5 * (κ 6) + 5 * (κ 7) + 4 * (κ 8) + 4 * (κ 9) + 4 * (κ 10) + 4 * (κ 11) + 5 * (κ 12) + 4 * (κ 13) + 3 * (κ 14) + 1 * (κ 15); omega) (by show 0 + 1 ≤ (5 * (κ 6) + 5 * (κ 7) + 4 * (κ 8) + 4 * (κ 9) + 4 * (κ 10) + 4 * (κ 11) + 5 * (κ 12) + 4 * (κ 13) + 3 * (κ 14) + 1 * (κ 15)) - (5 * (κ 6) + 5 * (κ 7) + 4 * (κ 8) + 4 * (κ 9) + 4 * (κ 10) + 4 * (κ 11) + 5 * (κ 12) + 4 * (κ 13) + 3 * (κ 14) + 1 * (κ 15)) + 1; omega) (by show 0 + 6 ≤ 2 * ((5 * (κ 6) + 5 * (κ 7) + 4 * (κ 8) + 4 * (κ 9) + 4 * (κ 10) + 4 * (κ 11) + 5 * (κ 12) + 4 * (κ 13) + 3 * (κ 14) + 1 * (κ 15)) - (5 * (κ 6) + 5 * (κ 7) + 4 * (κ 8) + 4 * (κ 9) + 4 * (κ 10) + 4 * (κ 11) + 5 * (κ 12) + 4 * (κ 13) + 3 * (κ 14) + 1 * (κ 15))) + 6; omega)⟩, fr_more hS hz ho⟩
