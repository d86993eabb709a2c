theorem qw_143124cfbe : (Cond.methodLink R_Law 47 yTypeBook_about) ∈ bs_W0 := bs_in (in_tables_1_5 (List.mem_of_getElem? (i := 120) rfl)) rfl
set_option maxHeartbeats 4000000 in
set_option maxRecDepth 100000 in
theorem w_about (l : Launch) (hst : l.stackTraces = false) (γ : gE) (A : Nat → Prop) (κ : Nat → Nat) (s0 : State) (hw0 : SW s0) (hnc : NCs s0) (hA0 : ∀ q, A q → s0.heap.size ≤ q) (H0 : Heap) (o : Nat) (ho : ¬ A o) (g : Nat → Int64) (x1 : Int32) (x2 : Int32) : WM l yLaw_about bLaw_about 5 hLaw_about 7 104 50000 1000000 [.ref (γ.2.2.2 0), .int x1, .int x2, .ref o] γ (fun q => A q ∨ q = o) (PSw s0 H0 γ A κ o g) (mQi (fun r H => (∃ g' : Nat → Int64, OU γ o g' H) ∧ PB γ A κ H0 (fun κ' => κ' 3 = κ 3 ∧ κ' 0 = κ 0 ∧ κ' 1 = κ 1) H) (fun q => A q ∨ q = o)) := by
  refine wm_open (by decide) (Nat.le_of_ble_eq_true rfl) ?_
  intro p e s m args below meth c ls Q S htab hC hA hPS hE hl
  obtain ⟨hF0, hH0, hI, hO, hAn⟩ := hPS
  subst hH0
  obtain ⟨hx, hb, hml, hown, hW⟩ := id S
  have hS : va_S (fun q => A q ∨ q = o) s.heap s.heap [] := va_S.rf
  have hl : lv_has ls 5 [(0, .ref (γ.2.2.2 0)), (1, .int x1), (2, .int x2), (3, .ref o)] := hl
  refine lv_aload_n hx hb dLaw_about_0 rfl (lv_at hl 3 rfl) ?_
  refine lv_iconst (v := 0) hx hb dLaw_about_1 (by decide) ?_
  refine lv_aload_n hx hb dLaw_about_2 rfl (lv_at hl 0 rfl) ?_
  refine lv_iload_n hx hb dLaw_about_3 rfl (lv_at hl 1 rfl) ?_
  refine lv_iload_n hx hb dLaw_about_4 rfl (lv_at hl 2 rfl) ?_
  refine tx_call (A := A) (A0 := (fun q => A q ∨ q = o)) (H0 := s.heap) (rest := [.int 0, .ref o]) S hC htab hAn (fun q h => Or.inl h) hS (x_about l hst γ A κ s0 hw0 hA0 s.heap x1 x2) psx_bl meTypeBook_about qw_143124cfbe ⟨Nat.le_of_ble_eq_true rfl, Nat.le_of_ble_eq_true rfl⟩ (rv_0 hC hI) (fun U hU hWU => ⟨by rw [hU]; exact hF0.warm hWU, hU, by rw [hU]; exact hI⟩) rfl hl.1 rfl (Nat.le_of_ble_eq_true rfl) dLaw_about_5 ⟨Nat.le_of_ble_eq_true rfl, Nat.le_of_ble_eq_true rfl⟩ (fun E H1 hx9 => hx9.2.2) (fun r H1 locs1 hPO hS hz hk => ?_) (fun E q H1 locs1 hXC hS => ?_)
  · have hO1 : OU γ o g H1 := hO.kept (hk o hO.lt ho)
    refine lv_i2l hx hb dLaw_about_8 rfl ?_
    refine ou_st S hC hO1 (Or.inr rfl) hS dLaw_about_9 (fun H2 locs2 hO2 hS hz2 hq2 => ?_)
    refine lv_goto (tgt := 17) hx hb dLaw_about_10 (by decide) ?_
    refine lv_iconst (v := 0) hx hb dLaw_about_17 (by decide) ?_
    exact hE _ _ _ _ _ _ _ hS (Nat.le_of_ble_eq_true rfl) (Nat.le_of_ble_eq_true rfl) ⟨⟨_, hO2⟩, pb_st hPO ho hO1 hO2 hz2 hq2⟩ dLaw_about_18
  · obtain ⟨hE9, hPB, hfr⟩ := hXC
    have hO1 : OU γ o g H1 := hO.kept (hfr.2 o hO.lt ho)
    rcases List.mem_cons.mp hE9 with rfl | hE9
    · refine ⟨13, ⟨⟨by decide, by decide⟩, by decide, "java/lang/IndexOutOfBoundsException", hW _ qw_1956a2fa33, Or.inl ⟨va_Nw.warmC hF0.1 (hw0.1 _ (in_tables_1_3 (List.mem_of_getElem? (i := 25) rfl)) rfl), rfl⟩⟩, ?_⟩
      refine lv_astore (lv' := [(4, .ref q), (0, .ref (γ.2.2.2 0)), (1, .int x1), (2, .int x2), (3, .ref o)]) hx hb dLaw_about_13 hl (by decide) rfl (fun ls hl => ?_)
      refine lv_iconst (v := 1) hx hb dLaw_about_15 (by decide) ?_
      exact hE _ _ _ _ _ _ _ hS (Nat.le_of_ble_eq_true rfl) (Nat.le_of_ble_eq_true rfl) ⟨⟨_, hO1⟩, hPB⟩ dLaw_about_16
    exact absurd hE9 List.not_mem_nil
