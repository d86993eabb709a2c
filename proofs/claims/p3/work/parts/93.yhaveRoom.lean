theorem qw_cff65ee3fd : (Cond.fieldLink R_Names 46 R_Names "FIRST_SORTS" "[I") ∈ bs_W0 := bs_in (in_tables_1_1 (List.mem_of_getElem? (i := 69) rfl)) rfl
theorem hr_blind {av : List Value} {γ : gE} {A : Nat → Prop} {κ : Nat → Nat} {s0 : State} : FrameBlind (va_Pc av (fun U => CX γ U ∧ FB s0 U U.heap ∧ INV γ A κ U.heap)) := fun _ _ _ _ h => ⟨h.1, h.2.1.same rfl, h.2.2.1.same rfl, h.2.2.2⟩
set_option maxHeartbeats 4000000 in
set_option maxRecDepth 100000 in
theorem k_haveRoom (l : Launch) (γ : gE) (A : Nat → Prop) (κ : Nat → Nat) (s0 : State) (hw0 : SW s0) (hA0 : ∀ q, A q → s0.heap.size ≤ q) (N : Nat) (hN : N ≤ 5000) : Met l yNames_haveRoom (Cond.code yNames_haveRoom bNames_haveRoom 2 (some .boolean) :: bs_W0) (bs_rm 0 0 0 0) (va_Pc [.ref (γ.2.2.2 2), .int (nI N)] (fun U => CX γ U ∧ FB s0 U U.heap ∧ INV γ A κ U.heap)) (vp_Si (fun v => v = 0 ∨ κ 2 + N ≤ 3012)) 0 0 (fun _ => False) := by
  refine ps_openZ (by decide) (Nat.le_of_ble_eq_true rfl) ?_
  intro p e s m args below meth c ls Q S hC hP hE hl
  obtain ⟨hF, hI⟩ := hP
  obtain ⟨hx, hb, hml, hown, hW⟩ := id S
  have hl : lv_has ls 2 [(0, .ref (γ.2.2.2 2)), (1, .int (nI N))] := hl
  obtain ⟨hlen, hsz⟩ := inv_len hI
  obtain ⟨t, f, hZ, hT, -⟩ := hw0.2.2.2.2.1
  refine lv_aload_n hx hb dNames_haveRoom_0 rfl (lv_at hl 0 rfl) ?_
  refine of_get S hC (of_2_7 hI) in_Names rfl (by decide) qw_171adcdf9f dNames_haveRoom_1 ?_
  refine va_gets hx hb (fb_Z hF hA0 hZ) va_S.rf hown (hW _ qw_cff65ee3fd) (fun _ h => h) dNames_haveRoom_4 ?_
  refine va_tlen hx hb (fb_T hF hA0 hT) va_S.rf (v := nI 12) rfl dNames_haveRoom_7 ?_
  refine lv_isub hx hb dNames_haveRoom_8 ?_
  refine lv_iload_n hx hb dNames_haveRoom_9 rfl (lv_at hl 1 rfl) ?_
  refine lv_iadd hx hb dNames_haveRoom_10 ?_
  refine lv_sipush (v := 3000) hx hb dNames_haveRoom_11 (by decide) ?_
  refine lv_icmp_gt (tgt := 21) hx hb dNames_haveRoom_14 (by decide) (fun c1 => ?_) (fun c1 => ?_)
  · refine lv_iconst (v := 0) hx hb dNames_haveRoom_21 (by decide) ?_
    exact hE _ _ _ rfl (Or.inl rfl) dNames_haveRoom_22
  · refine lv_iconst (v := 1) hx hb dNames_haveRoom_17 (by decide) ?_
    refine lv_goto (tgt := 22) hx hb dNames_haveRoom_18 (by decide) ?_
    exact hE _ _ _ rfl (Or.inr (hr_ok (by omega) hN c1)) dNames_haveRoom_22
