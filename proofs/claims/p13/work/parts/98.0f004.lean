def P_Objects_numberOf (N L : Nat) (f : gf) (x1 : Int32) : Int32 := (if (P_Objects_has N L f x1) = 0 then 0 else ((f 2) x1.toNatClampNeg))
set_option maxHeartbeats 4000000 in
set_option maxRecDepth 100000 in
theorem fc_Objects_numberOf (l : Launch) (γ : gE) (Z : Nat → Prop) (a rw N L : Nat) (f : gf) (x1 : Int32)  : PU l yObjects_numberOf bObjects_numberOf 2 (some .int) 1 21 [.ref a, .int x1] γ (cmp γ (gObjects γ a rw N L f) Z) (vp_Si (fun v : Int32 => (True) ∧ v = P_Objects_numberOf N L f x1)) := by
  refine pu_openI (by decide) (Nat.le_of_ble_eq_true rfl) ?_
  intro p e s m args below meth c ls Q S hC hI hE hl
  obtain ⟨hx, hb, hml, hown, hW⟩ := id S
  obtain ⟨ws, ⟨b0, b1, b2, rfl, h1, h2, h3⟩, hP, hD⟩ := id hI
  have hP : va_P γ.1 vwCl [(a, .inr (4, [.ref b0, .ref b1, .ref b2, .ref rw, .int (nI N)])), (b0, .inl (γ.2.1, L, .inl (f 0))), (b1, .inl (γ.2.1, L, .inl (f 1))), (b2, .inl (γ.2.1, L, .inl (f 2)))] s.heap := hP
  have hl : lv_has ls 2 [(0, .ref a), (1, .int x1)] := hl
  obtain ⟨OUT, hQ, hO⟩ : ∃ z, (z = P_Objects_numberOf N L f x1) ∧ Oq z (P_Objects_numberOf N L f x1) := ⟨_, rfl, rfl⟩
  rw [← hQ] at hE
  clear hQ
  refine lv_aload_n hx hb dObjects_numberOf_0 rfl (lv_at hl 0 rfl) ?_
  refine lv_iload_n hx hb dObjects_numberOf_1 rfl (lv_at hl 1 rfl) ?_
  refine pu_Vi (rest := []) S hC (fc_Objects_has l γ Z a rw N L f x1) meObjects_has qw_2f2cb5cb5a ⟨Nat.le_of_ble_eq_true rfl, Nat.le_of_ble_eq_true rfl⟩ (va_recv hC.1 hP (ci := 4) (q0 := 0) rfl rfl) hI rfl hl.1 rfl (Nat.le_of_ble_eq_true rfl) dObjects_numberOf_2 ⟨Nat.zero_le _, Nat.zero_le _⟩ (fun r4 hr4 => ?_)
  obtain ⟨hr4, er4⟩ := hr4
  refine lv_if_eq (tgt := 17) hx hb dObjects_numberOf_5 (by decide) (fun c5 => ?_) (fun c5 => ?_)
  · refine lv_iconst (v := 0) hx hb dObjects_numberOf_17 (by decide) ?_
    exact hE _ _ _ ⟨trivial, (by subst er4; exact (hO.tr (if_pos c5)).symm)⟩ dObjects_numberOf_18
  · refine lv_aload_n hx hb dObjects_numberOf_8 rfl (lv_at hl 0 rfl) ?_
    refine va_get (D := γ.1) (ci := 4) (v := .ref b2) (C := R_Objects) (T := T_Objects) (N := 5) (Ts := bs_W0) hx hb hW in_Objects hown hC.1 hP 0 rfl rfl 2 (by decide) (hW _ qw_0ed5786ef0) (fun _ h9 => h9) rfl dObjects_numberOf_9 ?_
    refine lv_iload_n hx hb dObjects_numberOf_12 rfl (lv_at hl 1 rfl) ?_
    refine va_iald hx hb hC.1 hP 3 0 rfl rfl (in_has (by assumption) (by assumption) (by omega) (by omega)) dObjects_numberOf_13 ?_
    refine lv_topi (fun v6 ev6 => ?_)
    refine lv_goto (tgt := 18) hx hb dObjects_numberOf_14 (by decide) ?_
    exact hE _ _ _ ⟨trivial, (by subst ev6 er4; exact (hO.tr (if_neg c5)).symm)⟩ dObjects_numberOf_18
theorem f4_Objects_numberOf (l : Launch) (γ : gE) (A : Nat → Prop) (κ : Nat → Nat) (φ : gF) (ψ : gG) (x1 : Int32)  : PU l yObjects_numberOf bObjects_numberOf 2 (some .int) 1 21 [.ref (γ.2.2.2 4), .int x1] γ (INVF γ A κ φ ψ) (vp_Si (fun v : Int32 => (True) ∧ v = P_Objects_numberOf (κ 5) (κ 14) (φ 5) x1)) :=
  puf_up 5 (by decide) (by decide) (fun Z => fc_Objects_numberOf l γ Z (γ.2.2.2 4) (γ.2.2.2 5) (κ 5) (κ 14) (φ 5) x1)

def P_Looks_classOf (L : Nat) (f : gf) (x1 : Int32) : Int32 := (if (P_Looks_has L f x1) = 0 then (-1) else ((f 0) x1.toNatClampNeg))
set_option maxHeartbeats 4000000 in
set_option maxRecDepth 100000 in
theorem fc_Looks_classOf (l : Launch) (γ : gE) (Z : Nat → Prop) (a rw L : Nat) (f : gf) (x1 : Int32)  : PU l yLooks_classOf bLooks_classOf 2 (some .int) 1 21 [.ref a, .int x1] γ (cmp γ (gLooks γ a rw L f) Z) (vp_Si (fun v : Int32 => (True) ∧ v = P_Looks_classOf L f x1)) := by
  refine pu_openI (by decide) (Nat.le_of_ble_eq_true rfl) ?_
  intro p e s m args below meth c ls Q S hC hI hE hl
  obtain ⟨hx, hb, hml, hown, hW⟩ := id S
  obtain ⟨ws, ⟨b0, b1, b2, b3, b4, rfl, h1, h2⟩, hP, hD⟩ := id hI
  have hP : va_P γ.1 vwCl [(a, .inr (6, [.ref b0, .ref b1, .ref b2, .ref b3, .ref b4, .ref rw])), (b0, .inl (γ.2.1, L, .inl (f 0))), (b1, .inl (γ.2.1, L, .inl (f 1))), (b2, .inl (γ.2.1, L, .inl (f 2))), (b3, .inl (γ.2.1, L, .inl (f 3))), (b4, .inl (γ.2.1, L, .inl (f 4)))] s.heap := hP
  have hl : lv_has ls 2 [(0, .ref a), (1, .int x1)] := hl
  obtain ⟨OUT, hQ, hO⟩ : ∃ z, (z = P_Looks_classOf L f x1) ∧ Oq z (P_Looks_classOf L f x1) := ⟨_, rfl, rfl⟩
  rw [← hQ] at hE
  clear hQ
  refine lv_aload_n hx hb dLooks_classOf_0 rfl (lv_at hl 0 rfl) ?_
  refine lv_iload_n hx hb dLooks_classOf_1 rfl (lv_at hl 1 rfl) ?_
  refine pu_Vi (rest := []) S hC (fc_Looks_has l γ Z a rw L f x1) meLooks_has qw_4e5fd4a1cd ⟨Nat.le_of_ble_eq_true rfl, Nat.le_of_ble_eq_true rfl⟩ (va_recv hC.1 hP (ci := 6) (q0 := 0) rfl rfl) hI rfl hl.1 rfl (Nat.le_of_ble_eq_true rfl) dLooks_classOf_2 ⟨Nat.zero_le _, Nat.zero_le _⟩ (fun r4 hr4 => ?_)
  obtain ⟨hr4, er4⟩ := hr4
  refine lv_if_eq (tgt := 17) hx hb dLooks_classOf_5 (by decide) (fun c5 => ?_) (fun c5 => ?_)
  · refine lv_iconst (v := (-1)) hx hb dLooks_classOf_17 (by decide) ?_
    exact hE _ _ _ ⟨trivial, (by subst er4; exact (hO.tr (if_pos c5)).symm)⟩ dLooks_classOf_18
  · refine lv_aload_n hx hb dLooks_classOf_8 rfl (lv_at hl 0 rfl) ?_
    refine va_get (D := γ.1) (ci := 6) (v := .ref b0) (C := R_Looks) (T := T_Looks) (N := 6) (Ts := bs_W0) hx hb hW in_Looks hown hC.1 hP 0 rfl rfl 0 (by decide) (hW _ qw_ac7df03aa7) (fun _ h9 => h9) rfl dLooks_classOf_9 ?_
    refine lv_iload_n hx hb dLooks_classOf_12 rfl (lv_at hl 1 rfl) ?_
    refine va_iald hx hb hC.1 hP 1 0 rfl rfl (in_has (by assumption) (by assumption) (by omega) (by omega)) dLooks_classOf_13 ?_
    refine lv_topi (fun v6 ev6 => ?_)
    refine lv_goto (tgt := 18) hx hb dLooks_classOf_14 (by decide) ?_
    exact hE _ _ _ ⟨trivial, (by subst ev6 er4; exact (hO.tr (if_neg c5)).symm)⟩ dLooks_classOf_18
theorem f6_Looks_classOf (l : Launch) (γ : gE) (A : Nat → Prop) (κ : Nat → Nat) (φ : gF) (ψ : gG) (x1 : Int32)  : PU l yLooks_classOf bLooks_classOf 2 (some .int) 1 21 [.ref (γ.2.2.2 6), .int x1] γ (INVF γ A κ φ ψ) (vp_Si (fun v : Int32 => (True) ∧ v = P_Looks_classOf (κ 6) (φ 7) x1)) :=
  puf_up 7 (by decide) (by decide) (fun Z => fc_Looks_classOf l γ Z (γ.2.2.2 6) (γ.2.2.2 7) (κ 6) (φ 7) x1)
theorem f9_Looks_classOf (l : Launch) (γ : gE) (A : Nat → Prop) (κ : Nat → Nat) (φ : gF) (ψ : gG) (x1 : Int32)  : PU l yLooks_classOf bLooks_classOf 2 (some .int) 1 21 [.ref (γ.2.2.2 9), .int x1] γ (INVF γ A κ φ ψ) (vp_Si (fun v : Int32 => (True) ∧ v = P_Looks_classOf (κ 7) (φ 9) x1)) :=
  puf_up 9 (by decide) (by decide) (fun Z => fc_Looks_classOf l γ Z (γ.2.2.2 9) (γ.2.2.2 10) (κ 7) (φ 9) x1)

def P_Looks_extentOf (L : Nat) (f : gf) (x1 : Int32) : Int32 := (if (P_Looks_has L f x1) = 0 then 0 else ((f 1) x1.toNatClampNeg))
set_option maxHeartbeats 4000000 in
set_option maxRecDepth 100000 in
theorem fc_Looks_extentOf (l : Launch) (γ : gE) (Z : Nat → Prop) (a rw L : Nat) (f : gf) (x1 : Int32)  : PU l yLooks_extentOf bLooks_extentOf 2 (some .int) 1 21 [.ref a, .int x1] γ (cmp γ (gLooks γ a rw L f) Z) (vp_Si (fun v : Int32 => (True) ∧ v = P_Looks_extentOf L f x1)) := by
  refine pu_openI (by decide) (Nat.le_of_ble_eq_true rfl) ?_
  intro p e s m args below meth c ls Q S hC hI hE hl
  obtain ⟨hx, hb, hml, hown, hW⟩ := id S
  obtain ⟨ws, ⟨b0, b1, b2, b3, b4, rfl, h1, h2⟩, hP, hD⟩ := id hI
  have hP : va_P γ.1 vwCl [(a, .inr (6, [.ref b0, .ref b1, .ref b2, .ref b3, .ref b4, .ref rw])), (b0, .inl (γ.2.1, L, .inl (f 0))), (b1, .inl (γ.2.1, L, .inl (f 1))), (b2, .inl (γ.2.1, L, .inl (f 2))), (b3, .inl (γ.2.1, L, .inl (f 3))), (b4, .inl (γ.2.1, L, .inl (f 4)))] s.heap := hP
  have hl : lv_has ls 2 [(0, .ref a), (1, .int x1)] := hl
  obtain ⟨OUT, hQ, hO⟩ : ∃ z, (z = P_Looks_extentOf L f x1) ∧ Oq z (P_Looks_extentOf L f x1) := ⟨_, rfl, rfl⟩
  rw [← hQ] at hE
  clear hQ
  refine lv_aload_n hx hb dLooks_extentOf_0 rfl (lv_at hl 0 rfl) ?_
  refine lv_iload_n hx hb dLooks_extentOf_1 rfl (lv_at hl 1 rfl) ?_
  refine pu_Vi (rest := []) S hC (fc_Looks_has l γ Z a rw L f x1) meLooks_has qw_4e5fd4a1cd ⟨Nat.le_of_ble_eq_true rfl, Nat.le_of_ble_eq_true rfl⟩ (va_recv hC.1 hP (ci := 6) (q0 := 0) rfl rfl) hI rfl hl.1 rfl (Nat.le_of_ble_eq_true rfl) dLooks_extentOf_2 ⟨Nat.zero_le _, Nat.zero_le _⟩ (fun r4 hr4 => ?_)
  obtain ⟨hr4, er4⟩ := hr4
  refine lv_if_eq (tgt := 17) hx hb dLooks_extentOf_5 (by decide) (fun c5 => ?_) (fun c5 => ?_)
  · refine lv_iconst (v := 0) hx hb dLooks_extentOf_17 (by decide) ?_
    exact hE _ _ _ ⟨trivial, (by subst er4; exact (hO.tr (if_pos c5)).symm)⟩ dLooks_extentOf_18
  · refine lv_aload_n hx hb dLooks_extentOf_8 rfl (lv_at hl 0 rfl) ?_
    refine va_get (D := γ.1) (ci := 6) (v := .ref b1) (C := R_Looks) (T := T_Looks) (N := 6) (Ts := bs_W0) hx hb hW in_Looks hown hC.1 hP 0 rfl rfl 1 (by decide) (hW _ qw_7dd30c70bd) (fun _ h9 => h9) rfl dLooks_extentOf_9 ?_
    refine lv_iload_n hx hb dLooks_extentOf_12 rfl (lv_at hl 1 rfl) ?_
    refine va_iald hx hb hC.1 hP 2 0 rfl rfl (in_has (by assumption) (by assumption) (by omega) (by omega)) dLooks_extentOf_13 ?_
    refine lv_topi (fun v6 ev6 => ?_)
    refine lv_goto (tgt := 18) hx hb dLooks_extentOf_14 (by decide) ?_
    exact hE _ _ _ ⟨trivial, (by subst ev6 er4; exact (hO.tr (if_neg c5)).symm)⟩ dLooks_extentOf_18
theorem f6_Looks_extentOf (l : Launch) (γ : gE) (A : Nat → Prop) (κ : Nat → Nat) (φ : gF) (ψ : gG) (x1 : Int32)  : PU l yLooks_extentOf bLooks_extentOf 2 (some .int) 1 21 [.ref (γ.2.2.2 6), .int x1] γ (INVF γ A κ φ ψ) (vp_Si (fun v : Int32 => (True) ∧ v = P_Looks_extentOf (κ 6) (φ 7) x1)) :=
  puf_up 7 (by decide) (by decide) (fun Z => fc_Looks_extentOf l γ Z (γ.2.2.2 6) (γ.2.2.2 7) (κ 6) (φ 7) x1)
theorem f9_Looks_extentOf (l : Launch) (γ : gE) (A : Nat → Prop) (κ : Nat → Nat) (φ : gF) (ψ : gG) (x1 : Int32)  : PU l yLooks_extentOf bLooks_extentOf 2 (some .int) 1 21 [.ref (γ.2.2.2 9), .int x1] γ (INVF γ A κ φ ψ) (vp_Si (fun v : Int32 => (True) ∧ v = P_Looks_extentOf (κ 7) (φ 9) x1)) :=
  puf_up 9 (by decide) (by decide) (fun Z => fc_Looks_extentOf l γ Z (γ.2.2.2 9) (γ.2.2.2 10) (κ 7) (φ 9) x1)

def P_Looks_meaningOf (L : Nat) (f : gf) (x1 : Int32) : Int32 := (if (P_Looks_has L f x1) = 0 then (-1) else ((f 2) x1.toNatClampNeg))
set_option maxHeartbeats 4000000 in
set_option maxRecDepth 100000 in
theorem fc_Looks_meaningOf (l : Launch) (γ : gE) (Z : Nat → Prop) (a rw L : Nat) (f : gf) (x1 : Int32)  : PU l yLooks_meaningOf bLooks_meaningOf 2 (some .int) 1 21 [.ref a, .int x1] γ (cmp γ (gLooks γ a rw L f) Z) (vp_Si (fun v : Int32 => (True) ∧ v = P_Looks_meaningOf L f x1)) := by
  refine pu_openI (by decide) (Nat.le_of_ble_eq_true rfl) ?_
  intro p e s m args below meth c ls Q S hC hI hE hl
  obtain ⟨hx, hb, hml, hown, hW⟩ := id S
  obtain ⟨ws, ⟨b0, b1, b2, b3, b4, rfl, h1, h2⟩, hP, hD⟩ := id hI
  have hP : va_P γ.1 vwCl [(a, .inr (6, [.ref b0, .ref b1, .ref b2, .ref b3, .ref b4, .ref rw])), (b0, .inl (γ.2.1, L, .inl (f 0))), (b1, .inl (γ.2.1, L, .inl (f 1))), (b2, .inl (γ.2.1, L, .inl (f 2))), (b3, .inl (γ.2.1, L, .inl (f 3))), (b4, .inl (γ.2.1, L, .inl (f 4)))] s.heap := hP
  have hl : lv_has ls 2 [(0, .ref a), (1, .int x1)] := hl
  obtain ⟨OUT, hQ, hO⟩ : ∃ z, (z = P_Looks_meaningOf L f x1) ∧ Oq z (P_Looks_meaningOf L f x1) := ⟨_, rfl, rfl⟩
  rw [← hQ] at hE
  clear hQ
  refine lv_aload_n hx hb dLooks_meaningOf_0 rfl (lv_at hl 0 rfl) ?_
  refine lv_iload_n hx hb dLooks_meaningOf_1 rfl (lv_at hl 1 rfl) ?_
  refine pu_Vi (rest := []) S hC (fc_Looks_has l γ Z a rw L f x1) meLooks_has qw_4e5fd4a1cd ⟨Nat.le_of_ble_eq_true rfl, Nat.le_of_ble_eq_true rfl⟩ (va_recv hC.1 hP (ci := 6) (q0 := 0) rfl rfl) hI rfl hl.1 rfl (Nat.le_of_ble_eq_true rfl) dLooks_meaningOf_2 ⟨Nat.zero_le _, Nat.zero_le _⟩ (fun r4 hr4 => ?_)
  obtain ⟨hr4, er4⟩ := hr4
  refine lv_if_eq (tgt := 17) hx hb dLooks_meaningOf_5 (by decide) (fun c5 => ?_) (fun c5 => ?_)
  · refine lv_iconst (v := (-1)) hx hb dLooks_meaningOf_17 (by decide) ?_
    exact hE _ _ _ ⟨trivial, (by subst er4; exact (hO.tr (if_pos c5)).symm)⟩ dLooks_meaningOf_18
  · refine lv_aload_n hx hb dLooks_meaningOf_8 rfl (lv_at hl 0 rfl) ?_
    refine va_get (D := γ.1) (ci := 6) (v := .ref b2) (C := R_Looks) (T := T_Looks) (N := 6) (Ts := bs_W0) hx hb hW in_Looks hown hC.1 hP 0 rfl rfl 2 (by decide) (hW _ qw_427e012605) (fun _ h9 => h9) rfl dLooks_meaningOf_9 ?_
    refine lv_iload_n hx hb dLooks_meaningOf_12 rfl (lv_at hl 1 rfl) ?_
    refine va_iald hx hb hC.1 hP 3 0 rfl rfl (in_has (by assumption) (by assumption) (by omega) (by omega)) dLooks_meaningOf_13 ?_
    refine lv_topi (fun v6 ev6 => ?_)
    refine lv_goto (tgt := 18) hx hb dLooks_meaningOf_14 (by decide) ?_
    exact hE _ _ _ ⟨trivial, (by subst ev6 er4; exact (hO.tr (if_neg c5)).symm)⟩ dLooks_meaningOf_18
theorem f6_Looks_meaningOf (l : Launch) (γ : gE) (A : Nat → Prop) (κ : Nat → Nat) (φ : gF) (ψ : gG) (x1 : Int32)  : PU l yLooks_meaningOf bLooks_meaningOf 2 (some .int) 1 21 [.ref (γ.2.2.2 6), .int x1] γ (INVF γ A κ φ ψ) (vp_Si (fun v : Int32 => (True) ∧ v = P_Looks_meaningOf (κ 6) (φ 7) x1)) :=
  puf_up 7 (by decide) (by decide) (fun Z => fc_Looks_meaningOf l γ Z (γ.2.2.2 6) (γ.2.2.2 7) (κ 6) (φ 7) x1)
theorem f9_Looks_meaningOf (l : Launch) (γ : gE) (A : Nat → Prop) (κ : Nat → Nat) (φ : gF) (ψ : gG) (x1 : Int32)  : PU l yLooks_meaningOf bLooks_meaningOf 2 (some .int) 1 21 [.ref (γ.2.2.2 9), .int x1] γ (INVF γ A κ φ ψ) (vp_Si (fun v : Int32 => (True) ∧ v = P_Looks_meaningOf (κ 7) (φ 9) x1)) :=
  puf_up 9 (by decide) (by decide) (fun Z => fc_Looks_meaningOf l γ Z (γ.2.2.2 9) (γ.2.2.2 10) (κ 7) (φ 9) x1)

def P_Looks_numberOf (L : Nat) (f : gf) (x1 : Int32) : Int32 := (if (P_Looks_has L f x1) = 0 then 0 else ((f 3) x1.toNatClampNeg))
set_option maxHeartbeats 4000000 in
set_option maxRecDepth 100000 in
theorem fc_Looks_numberOf (l : Launch) (γ : gE) (Z : Nat → Prop) (a rw L : Nat) (f : gf) (x1 : Int32)  : PU l yLooks_numberOf bLooks_numberOf 2 (some .int) 1 21 [.ref a, .int x1] γ (cmp γ (gLooks γ a rw L f) Z) (vp_Si (fun v : Int32 => (True) ∧ v = P_Looks_numberOf L f x1)) := by
  refine pu_openI (by decide) (Nat.le_of_ble_eq_true rfl) ?_
  intro p e s m args below meth c ls Q S hC hI hE hl
  obtain ⟨hx, hb, hml, hown, hW⟩ := id S
  obtain ⟨ws, ⟨b0, b1, b2, b3, b4, rfl, h1, h2⟩, hP, hD⟩ := id hI
  have hP : va_P γ.1 vwCl [(a, .inr (6, [.ref b0, .ref b1, .ref b2, .ref b3, .ref b4, .ref rw])), (b0, .inl (γ.2.1, L, .inl (f 0))), (b1, .inl (γ.2.1, L, .inl (f 1))), (b2, .inl (γ.2.1, L, .inl (f 2))), (b3, .inl (γ.2.1, L, .inl (f 3))), (b4, .inl (γ.2.1, L, .inl (f 4)))] s.heap := hP
  have hl : lv_has ls 2 [(0, .ref a), (1, .int x1)] := hl
  obtain ⟨OUT, hQ, hO⟩ : ∃ z, (z = P_Looks_numberOf L f x1) ∧ Oq z (P_Looks_numberOf L f x1) := ⟨_, rfl, rfl⟩
  rw [← hQ] at hE
  clear hQ
  refine lv_aload_n hx hb dLooks_numberOf_0 rfl (lv_at hl 0 rfl) ?_
  refine lv_iload_n hx hb dLooks_numberOf_1 rfl (lv_at hl 1 rfl) ?_
  refine pu_Vi (rest := []) S hC (fc_Looks_has l γ Z a rw L f x1) meLooks_has qw_4e5fd4a1cd ⟨Nat.le_of_ble_eq_true rfl, Nat.le_of_ble_eq_true rfl⟩ (va_recv hC.1 hP (ci := 6) (q0 := 0) rfl rfl) hI rfl hl.1 rfl (Nat.le_of_ble_eq_true rfl) dLooks_numberOf_2 ⟨Nat.zero_le _, Nat.zero_le _⟩ (fun r4 hr4 => ?_)
  obtain ⟨hr4, er4⟩ := hr4
  refine lv_if_eq (tgt := 17) hx hb dLooks_numberOf_5 (by decide) (fun c5 => ?_) (fun c5 => ?_)
  · refine lv_iconst (v := 0) hx hb dLooks_numberOf_17 (by decide) ?_
    exact hE _ _ _ ⟨trivial, (by subst er4; exact (hO.tr (if_pos c5)).symm)⟩ dLooks_numberOf_18
  · refine lv_aload_n hx hb dLooks_numberOf_8 rfl (lv_at hl 0 rfl) ?_
    refine va_get (D := γ.1) (ci := 6) (v := .ref b3) (C := R_Looks) (T := T_Looks) (N := 6) (Ts := bs_W0) hx hb hW in_Looks hown hC.1 hP 0 rfl rfl 3 (by decide) (hW _ qw_5344cf30a3) (fun _ h9 => h9) rfl dLooks_numberOf_9 ?_
    refine lv_iload_n hx hb dLooks_numberOf_12 rfl (lv_at hl 1 rfl) ?_
    refine va_iald hx hb hC.1 hP 4 0 rfl rfl (in_has (by assumption) (by assumption) (by omega) (by omega)) dLooks_numberOf_13 ?_
    refine lv_topi (fun v6 ev6 => ?_)
    refine lv_goto (tgt := 18) hx hb dLooks_numberOf_14 (by decide) ?_
    exact hE _ _ _ ⟨trivial, (by subst ev6 er4; exact (hO.tr (if_neg c5)).symm)⟩ dLooks_numberOf_18
theorem f6_Looks_numberOf (l : Launch) (γ : gE) (A : Nat → Prop) (κ : Nat → Nat) (φ : gF) (ψ : gG) (x1 : Int32)  : PU l yLooks_numberOf bLooks_numberOf 2 (some .int) 1 21 [.ref (γ.2.2.2 6), .int x1] γ (INVF γ A κ φ ψ) (vp_Si (fun v : Int32 => (True) ∧ v = P_Looks_numberOf (κ 6) (φ 7) x1)) :=
  puf_up 7 (by decide) (by decide) (fun Z => fc_Looks_numberOf l γ Z (γ.2.2.2 6) (γ.2.2.2 7) (κ 6) (φ 7) x1)
theorem f9_Looks_numberOf (l : Launch) (γ : gE) (A : Nat → Prop) (κ : Nat → Nat) (φ : gF) (ψ : gG) (x1 : Int32)  : PU l yLooks_numberOf bLooks_numberOf 2 (some .int) 1 21 [.ref (γ.2.2.2 9), .int x1] γ (INVF γ A κ φ ψ) (vp_Si (fun v : Int32 => (True) ∧ v = P_Looks_numberOf (κ 7) (φ 9) x1)) :=
  puf_up 9 (by decide) (by decide) (fun Z => fc_Looks_numberOf l γ Z (γ.2.2.2 9) (γ.2.2.2 10) (κ 7) (φ 9) x1)

def P_Trees_firstOf (N rt L : Nat) (f : gf) (x1 : Int32) : Int32 := (if (P_Trees_has N rt L f x1) = 0 then 0 else ((f 3) x1.toNatClampNeg))
set_option maxHeartbeats 4000000 in
set_option maxRecDepth 100000 in
theorem fc_Trees_firstOf (l : Launch) (γ : gE) (Z : Nat → Prop) (a N rt L : Nat) (f : gf) (x1 : Int32)  : PU l yTrees_firstOf bTrees_firstOf 2 (some .int) 1 21 [.ref a, .int x1] γ (cmp γ (gTrees γ a N rt L f) Z) (vp_Si (fun v : Int32 => (¬ v < 0) ∧ v = P_Trees_firstOf N rt L f x1)) := by
  refine pu_openI (by decide) (Nat.le_of_ble_eq_true rfl) ?_
  intro p e s m args below meth c ls Q S hC hI hE hl
  obtain ⟨hx, hb, hml, hown, hW⟩ := id S
  obtain ⟨ws, ⟨b0, b1, b2, b3, rfl, h1, h2, h3, h4, h5, h6⟩, hP, hD⟩ := id hI
  have hP : va_P γ.1 vwCl [(a, .inr (1, [.ref b0, .ref b1, .ref b2, .ref b3, .int (nI N), .int (nI rt)])), (b0, .inl (γ.2.1, L, .inl (f 0))), (b1, .inl (γ.2.1, L, .inl (f 1))), (b2, .inl (γ.2.1, L, .inl (f 2))), (b3, .inl (γ.2.1, L, .inl (f 3)))] s.heap := hP
  have hl : lv_has ls 2 [(0, .ref a), (1, .int x1)] := hl
  obtain ⟨OUT, hQ, hO⟩ : ∃ z, (z = P_Trees_firstOf N rt L f x1) ∧ Oq z (P_Trees_firstOf N rt L f x1) := ⟨_, rfl, rfl⟩
  rw [← hQ] at hE
  clear hQ
  refine lv_aload_n hx hb dTrees_firstOf_0 rfl (lv_at hl 0 rfl) ?_
  refine lv_iload_n hx hb dTrees_firstOf_1 rfl (lv_at hl 1 rfl) ?_
  refine pu_Vi (rest := []) S hC (fc_Trees_has l γ Z a N rt L f x1) meTrees_has qw_42d433c8d4 ⟨Nat.le_of_ble_eq_true rfl, Nat.le_of_ble_eq_true rfl⟩ (va_recv hC.1 hP (ci := 1) (q0 := 0) rfl rfl) hI rfl hl.1 rfl (Nat.le_of_ble_eq_true rfl) dTrees_firstOf_2 ⟨Nat.zero_le _, Nat.zero_le _⟩ (fun r4 hr4 => ?_)
  obtain ⟨hr4, er4⟩ := hr4
  refine lv_if_eq (tgt := 17) hx hb dTrees_firstOf_5 (by decide) (fun c5 => ?_) (fun c5 => ?_)
  · refine lv_iconst (v := 0) hx hb dTrees_firstOf_17 (by decide) ?_
    exact hE _ _ _ ⟨(by first | decide | (subst_vars; exact first_ok (by assumption) (by assumption) (by assumption) (by omega))), (by subst er4; exact (hO.tr (if_pos c5)).symm)⟩ dTrees_firstOf_18
  · refine lv_aload_n hx hb dTrees_firstOf_8 rfl (lv_at hl 0 rfl) ?_
    refine va_get (D := γ.1) (ci := 1) (v := .ref b3) (C := R_Trees) (T := T_Trees) (N := 6) (Ts := bs_W0) hx hb hW in_Trees hown hC.1 hP 0 rfl rfl 3 (by decide) (hW _ qw_3682c3415f) (fun _ h9 => h9) rfl dTrees_firstOf_9 ?_
    refine lv_iload_n hx hb dTrees_firstOf_12 rfl (lv_at hl 1 rfl) ?_
    refine va_iald hx hb hC.1 hP 4 0 rfl rfl (in_has (by assumption) (by assumption) (by omega) (by omega)) dTrees_firstOf_13 ?_
    refine lv_topi (fun v6 ev6 => ?_)
    refine lv_goto (tgt := 18) hx hb dTrees_firstOf_14 (by decide) ?_
    exact hE _ _ _ ⟨(by first | decide | (subst_vars; exact first_ok (by assumption) (by assumption) (by assumption) (by omega))), (by subst ev6 er4; exact (hO.tr (if_neg c5)).symm)⟩ dTrees_firstOf_18
theorem f1_Trees_firstOf (l : Launch) (γ : gE) (A : Nat → Prop) (κ : Nat → Nat) (φ : gF) (ψ : gG) (x1 : Int32)  : PU l yTrees_firstOf bTrees_firstOf 2 (some .int) 1 21 [.ref (γ.2.2.2 1), .int x1] γ (INVF γ A κ φ ψ) (vp_Si (fun v : Int32 => (¬ v < 0) ∧ v = P_Trees_firstOf (κ 0) (κ 1) (κ 11) (φ 2) x1)) :=
  puf_up 2 (by decide) (by decide) (fun Z => fc_Trees_firstOf l γ Z (γ.2.2.2 1) (κ 0) (κ 1) (κ 11) (φ 2) x1)

def P_Trees_countOf (N rt L : Nat) (f : gf) (x1 : Int32) : Int32 := (if (P_Trees_has N rt L f x1) = 0 then 0 else ((f 2) x1.toNatClampNeg))
set_option maxHeartbeats 4000000 in
set_option maxRecDepth 100000 in
theorem fc_Trees_countOf (l : Launch) (γ : gE) (Z : Nat → Prop) (a N rt L : Nat) (f : gf) (x1 : Int32)  : PU l yTrees_countOf bTrees_countOf 2 (some .int) 1 21 [.ref a, .int x1] γ (cmp γ (gTrees γ a N rt L f) Z) (vp_Si (fun v : Int32 => (∃ j, j ≤ 4096 ∧ v = nI j) ∧ v = P_Trees_countOf N rt L f x1)) := by
  refine pu_openI (by decide) (Nat.le_of_ble_eq_true rfl) ?_
  intro p e s m args below meth c ls Q S hC hI hE hl
  obtain ⟨hx, hb, hml, hown, hW⟩ := id S
  obtain ⟨ws, ⟨b0, b1, b2, b3, rfl, h1, h2, h3, h4, h5, h6⟩, hP, hD⟩ := id hI
  have hP : va_P γ.1 vwCl [(a, .inr (1, [.ref b0, .ref b1, .ref b2, .ref b3, .int (nI N), .int (nI rt)])), (b0, .inl (γ.2.1, L, .inl (f 0))), (b1, .inl (γ.2.1, L, .inl (f 1))), (b2, .inl (γ.2.1, L, .inl (f 2))), (b3, .inl (γ.2.1, L, .inl (f 3)))] s.heap := hP
  have hl : lv_has ls 2 [(0, .ref a), (1, .int x1)] := hl
  obtain ⟨OUT, hQ, hO⟩ : ∃ z, (z = P_Trees_countOf N rt L f x1) ∧ Oq z (P_Trees_countOf N rt L f x1) := ⟨_, rfl, rfl⟩
  rw [← hQ] at hE
  clear hQ
  refine lv_aload_n hx hb dTrees_countOf_0 rfl (lv_at hl 0 rfl) ?_
  refine lv_iload_n hx hb dTrees_countOf_1 rfl (lv_at hl 1 rfl) ?_
  refine pu_Vi (rest := []) S hC (fc_Trees_has l γ Z a N rt L f x1) meTrees_has qw_42d433c8d4 ⟨Nat.le_of_ble_eq_true rfl, Nat.le_of_ble_eq_true rfl⟩ (va_recv hC.1 hP (ci := 1) (q0 := 0) rfl rfl) hI rfl hl.1 rfl (Nat.le_of_ble_eq_true rfl) dTrees_countOf_2 ⟨Nat.zero_le _, Nat.zero_le _⟩ (fun r4 hr4 => ?_)
  obtain ⟨hr4, er4⟩ := hr4
  refine lv_if_eq (tgt := 17) hx hb dTrees_countOf_5 (by decide) (fun c5 => ?_) (fun c5 => ?_)
  · refine lv_iconst (v := 0) hx hb dTrees_countOf_17 (by decide) ?_
    exact hE _ _ _ ⟨(by first | exact ⟨0, by omega, rfl⟩ | (subst_vars; exact cnt_ok (by assumption) (by assumption) (by assumption) (by omega))), (by subst er4; exact (hO.tr (if_pos c5)).symm)⟩ dTrees_countOf_18
  · refine lv_aload_n hx hb dTrees_countOf_8 rfl (lv_at hl 0 rfl) ?_
    refine va_get (D := γ.1) (ci := 1) (v := .ref b2) (C := R_Trees) (T := T_Trees) (N := 6) (Ts := bs_W0) hx hb hW in_Trees hown hC.1 hP 0 rfl rfl 2 (by decide) (hW _ qw_887ccc8355) (fun _ h9 => h9) rfl dTrees_countOf_9 ?_
    refine lv_iload_n hx hb dTrees_countOf_12 rfl (lv_at hl 1 rfl) ?_
    refine va_iald hx hb hC.1 hP 3 0 rfl rfl (in_has (by assumption) (by assumption) (by omega) (by omega)) dTrees_countOf_13 ?_
    refine lv_topi (fun v6 ev6 => ?_)
    refine lv_goto (tgt := 18) hx hb dTrees_countOf_14 (by decide) ?_
    exact hE _ _ _ ⟨(by first | exact ⟨0, by omega, rfl⟩ | (subst_vars; exact cnt_ok (by assumption) (by assumption) (by assumption) (by omega))), (by subst ev6 er4; exact (hO.tr (if_neg c5)).symm)⟩ dTrees_countOf_18
theorem f1_Trees_countOf (l : Launch) (γ : gE) (A : Nat → Prop) (κ : Nat → Nat) (φ : gF) (ψ : gG) (x1 : Int32)  : PU l yTrees_countOf bTrees_countOf 2 (some .int) 1 21 [.ref (γ.2.2.2 1), .int x1] γ (INVF γ A κ φ ψ) (vp_Si (fun v : Int32 => (∃ j, j ≤ 4096 ∧ v = nI j) ∧ v = P_Trees_countOf (κ 0) (κ 1) (κ 11) (φ 2) x1)) :=
  puf_up 2 (by decide) (by decide) (fun Z => fc_Trees_countOf l γ Z (γ.2.2.2 1) (κ 0) (κ 1) (κ 11) (φ 2) x1)

def P_Trees_leftOfTwo (N rt L : Nat) (f : gf) (x1 : Int32) : Int32 := ((P_Trees_firstOf N rt L f (x1 - 1)) - 1)
set_option maxHeartbeats 4000000 in
set_option maxRecDepth 100000 in
theorem fc_Trees_leftOfTwo (l : Launch) (γ : gE) (Z : Nat → Prop) (a N rt L : Nat) (f : gf) (x1 : Int32)  : PU l yTrees_leftOfTwo bTrees_leftOfTwo 2 (some .int) 2 42 [.ref a, .int x1] γ (cmp γ (gTrees γ a N rt L f) Z) (vp_Si (fun v : Int32 => (True) ∧ v = P_Trees_leftOfTwo N rt L f x1)) := by
  refine pu_openI (by decide) (Nat.le_of_ble_eq_true rfl) ?_
  intro p e s m args below meth c ls Q S hC hI hE hl
  obtain ⟨hx, hb, hml, hown, hW⟩ := id S
  obtain ⟨ws, ⟨b0, b1, b2, b3, rfl, h1, h2, h3, h4, h5, h6⟩, hP, hD⟩ := id hI
  have hP : va_P γ.1 vwCl [(a, .inr (1, [.ref b0, .ref b1, .ref b2, .ref b3, .int (nI N), .int (nI rt)])), (b0, .inl (γ.2.1, L, .inl (f 0))), (b1, .inl (γ.2.1, L, .inl (f 1))), (b2, .inl (γ.2.1, L, .inl (f 2))), (b3, .inl (γ.2.1, L, .inl (f 3)))] s.heap := hP
  have hl : lv_has ls 2 [(0, .ref a), (1, .int x1)] := hl
  obtain ⟨OUT, hQ, hO⟩ : ∃ z, (z = P_Trees_leftOfTwo N rt L f x1) ∧ Oq z (P_Trees_leftOfTwo N rt L f x1) := ⟨_, rfl, rfl⟩
  rw [← hQ] at hE
  clear hQ
  refine lv_aload_n hx hb dTrees_leftOfTwo_0 rfl (lv_at hl 0 rfl) ?_
  refine lv_iload_n hx hb dTrees_leftOfTwo_1 rfl (lv_at hl 1 rfl) ?_
  refine lv_iconst (v := 1) hx hb dTrees_leftOfTwo_2 (by decide) ?_
  refine lv_isub hx hb dTrees_leftOfTwo_3 ?_
  refine lv_topi (fun v4 ev4 => ?_)
  refine pu_Vi (rest := []) S hC (fc_Trees_firstOf l γ Z a N rt L f v4) meTrees_firstOf qw_e019bcaac8 ⟨Nat.le_of_ble_eq_true rfl, Nat.le_of_ble_eq_true rfl⟩ (va_recv hC.1 hP (ci := 1) (q0 := 0) rfl rfl) hI rfl hl.1 rfl (Nat.le_of_ble_eq_true rfl) dTrees_leftOfTwo_4 ⟨Nat.zero_le _, Nat.zero_le _⟩ (fun r5 hr5 => ?_)
  obtain ⟨hr5, er5⟩ := hr5
  refine lv_iconst (v := 1) hx hb dTrees_leftOfTwo_7 (by decide) ?_
  refine lv_isub hx hb dTrees_leftOfTwo_8 ?_
  refine lv_topi (fun v6 ev6 => ?_)
  exact hE _ _ _ ⟨trivial, (by subst ev6 er5 ev4; exact (hO.tr rfl).symm)⟩ dTrees_leftOfTwo_9
theorem f1_Trees_leftOfTwo (l : Launch) (γ : gE) (A : Nat → Prop) (κ : Nat → Nat) (φ : gF) (ψ : gG) (x1 : Int32)  : PU l yTrees_leftOfTwo bTrees_leftOfTwo 2 (some .int) 2 42 [.ref (γ.2.2.2 1), .int x1] γ (INVF γ A κ φ ψ) (vp_Si (fun v : Int32 => (True) ∧ v = P_Trees_leftOfTwo (κ 0) (κ 1) (κ 11) (φ 2) x1)) :=
  puf_up 2 (by decide) (by decide) (fun Z => fc_Trees_leftOfTwo l γ Z (γ.2.2.2 1) (κ 0) (κ 1) (κ 11) (φ 2) x1)

def P_Types_goesDown (N L : Nat) (f : gf) (x1 : Int32) : Int32 := (if (P_Types_has N L f x1) = 0 then 0 else (if 0 ≤ ((f 3) x1.toNatClampNeg) then 0 else 1))
set_option maxHeartbeats 4000000 in
set_option maxRecDepth 100000 in
theorem fc_Types_goesDown (l : Launch) (γ : gE) (Z : Nat → Prop) (a N L : Nat) (f : gf) (x1 : Int32)  : PU l yTypes_goesDown bTypes_goesDown 2 (some .boolean) 1 21 [.ref a, .int x1] γ (cmp γ (gTypes γ a N L f) Z) (vp_Si (fun v : Int32 => (True) ∧ v = P_Types_goesDown N L f x1)) := by
  refine pu_openZ (by decide) (Nat.le_of_ble_eq_true rfl) ?_
  intro p e s m args below meth c ls Q S hC hI hE hl
  obtain ⟨hx, hb, hml, hown, hW⟩ := id S
  obtain ⟨ws, ⟨b0, b1, b2, b3, rfl, h1, h2, h3⟩, hP, hD⟩ := id hI
  have hP : va_P γ.1 vwCl [(a, .inr (3, [.ref b0, .ref b1, .ref b2, .ref b3, .int (nI N)])), (b0, .inl (γ.2.1, L, .inl (f 0))), (b1, .inl (γ.2.1, L, .inl (f 1))), (b2, .inl (γ.2.1, L, .inl (f 2))), (b3, .inl (γ.2.1, L, .inl (f 3)))] s.heap := hP
  have hl : lv_has ls 2 [(0, .ref a), (1, .int x1)] := hl
  obtain ⟨OUT, hQ, hO⟩ : ∃ z, (z = P_Types_goesDown N L f x1) ∧ Oq z (P_Types_goesDown N L f x1) := ⟨_, rfl, rfl⟩
  rw [← hQ] at hE
  clear hQ
  refine lv_aload_n hx hb dTypes_goesDown_0 rfl (lv_at hl 0 rfl) ?_
  refine lv_iload_n hx hb dTypes_goesDown_1 rfl (lv_at hl 1 rfl) ?_
  refine pu_Vi (rest := []) S hC (fc_Types_has l γ Z a N L f x1) meTypes_has qw_252588eab3 ⟨Nat.le_of_ble_eq_true rfl, Nat.le_of_ble_eq_true rfl⟩ (va_recv hC.1 hP (ci := 3) (q0 := 0) rfl rfl) hI rfl hl.1 rfl (Nat.le_of_ble_eq_true rfl) dTypes_goesDown_2 ⟨Nat.zero_le _, Nat.zero_le _⟩ (fun r5 hr5 => ?_)
  obtain ⟨hr5, er5⟩ := hr5
  refine lv_if_eq (tgt := 21) hx hb dTypes_goesDown_5 (by decide) (fun c6 => ?_) (fun c6 => ?_)
  · refine lv_iconst (v := 0) hx hb dTypes_goesDown_21 (by decide) ?_
    exact hE _ _ _ rfl ⟨trivial, (by subst er5; exact (hO.tr (if_pos c6)).symm)⟩ dTypes_goesDown_22
  · refine lv_aload_n hx hb dTypes_goesDown_8 rfl (lv_at hl 0 rfl) ?_
    refine va_get (D := γ.1) (ci := 3) (v := .ref b3) (C := R_Types) (T := T_Types) (N := 5) (Ts := bs_W0) hx hb hW in_Types hown hC.1 hP 0 rfl rfl 3 (by decide) (hW _ qw_dded4610c2) (fun _ h9 => h9) rfl dTypes_goesDown_9 ?_
    refine lv_iload_n hx hb dTypes_goesDown_12 rfl (lv_at hl 1 rfl) ?_
    refine va_iald hx hb hC.1 hP 4 0 rfl rfl (in_has (by assumption) (by assumption) (by omega) (by omega)) dTypes_goesDown_13 ?_
    refine lv_topi (fun v7 ev7 => ?_)
    refine lv_if_ge (tgt := 21) hx hb dTypes_goesDown_14 (by decide) (fun c8 => ?_) (fun c8 => ?_)
    · refine lv_iconst (v := 0) hx hb dTypes_goesDown_21 (by decide) ?_
      exact hE _ _ _ rfl ⟨trivial, (by subst ev7 er5; exact (hO.tr ((if_neg c6).trans (if_pos c8))).symm)⟩ dTypes_goesDown_22
    · refine lv_iconst (v := 1) hx hb dTypes_goesDown_17 (by decide) ?_
      refine lv_goto (tgt := 22) hx hb dTypes_goesDown_18 (by decide) ?_
      exact hE _ _ _ rfl ⟨trivial, (by subst ev7 er5; exact (hO.tr ((if_neg c6).trans (if_neg c8))).symm)⟩ dTypes_goesDown_22
theorem f3_Types_goesDown (l : Launch) (γ : gE) (A : Nat → Prop) (κ : Nat → Nat) (φ : gF) (ψ : gG) (x1 : Int32)  : PU l yTypes_goesDown bTypes_goesDown 2 (some .boolean) 1 21 [.ref (γ.2.2.2 3), .int x1] γ (INVF γ A κ φ ψ) (vp_Si (fun v : Int32 => (True) ∧ v = P_Types_goesDown (κ 4) (κ 13) (φ 4) x1)) :=
  puf_up 4 (by decide) (by decide) (fun Z => fc_Types_goesDown l γ Z (γ.2.2.2 3) (κ 4) (κ 13) (φ 4) x1)

def P_Types_extentOf (N L : Nat) (f : gf) (x1 : Int32) : Int32 := (if (P_Types_classOf N L f x1) = 3 then (P_Types_countOf N L f x1) else (if (P_Types_classOf N L f x1) = 4 then x1 else 0))
set_option maxHeartbeats 4000000 in
set_option maxRecDepth 100000 in
theorem fc_Types_extentOf (l : Launch) (γ : gE) (Z : Nat → Prop) (a N L : Nat) (f : gf) (x1 : Int32)  : PU l yTypes_extentOf bTypes_extentOf 3 (some .int) 2 42 [.ref a, .int x1] γ (cmp γ (gTypes γ a N L f) Z) (vp_Si (fun v : Int32 => (True) ∧ v = P_Types_extentOf N L f x1)) := by
  refine pu_openI (by decide) (Nat.le_of_ble_eq_true rfl) ?_
  intro p e s m args below meth c ls Q S hC hI hE hl
  obtain ⟨hx, hb, hml, hown, hW⟩ := id S
  obtain ⟨ws, ⟨b0, b1, b2, b3, rfl, h1, h2, h3⟩, hP, hD⟩ := id hI
  have hP : va_P γ.1 vwCl [(a, .inr (3, [.ref b0, .ref b1, .ref b2, .ref b3, .int (nI N)])), (b0, .inl (γ.2.1, L, .inl (f 0))), (b1, .inl (γ.2.1, L, .inl (f 1))), (b2, .inl (γ.2.1, L, .inl (f 2))), (b3, .inl (γ.2.1, L, .inl (f 3)))] s.heap := hP
  have hl : lv_has ls 3 [(0, .ref a), (1, .int x1)] := hl
  obtain ⟨OUT, hQ, hO⟩ : ∃ z, (z = P_Types_extentOf N L f x1) ∧ Oq z (P_Types_extentOf N L f x1) := ⟨_, rfl, rfl⟩
  rw [← hQ] at hE
  clear hQ
  refine lv_aload_n hx hb dTypes_extentOf_0 rfl (lv_at hl 0 rfl) ?_
  refine lv_iload_n hx hb dTypes_extentOf_1 rfl (lv_at hl 1 rfl) ?_
  refine pu_Vi (rest := []) S hC (fc_Types_classOf l γ Z a N L f x1) meTypes_classOf qw_a799e12b89 ⟨Nat.le_of_ble_eq_true rfl, Nat.le_of_ble_eq_true rfl⟩ (va_recv hC.1 hP (ci := 3) (q0 := 0) rfl rfl) hI rfl hl.1 rfl (Nat.le_of_ble_eq_true rfl) dTypes_extentOf_2 ⟨Nat.zero_le _, Nat.zero_le _⟩ (fun r5 hr5 => ?_)
  obtain ⟨hr5, er5⟩ := hr5
  refine lv_istore_n (lv' := [(2, .int r5), (0, .ref a), (1, .int x1)]) hx hb dTypes_extentOf_5 rfl hl (by decide) rfl (fun ls hl => ?_)
  refine lv_iload_n hx hb dTypes_extentOf_6 rfl (lv_at hl 0 rfl) ?_
  refine lv_iconst (v := 3) hx hb dTypes_extentOf_7 (by decide) ?_
  refine lv_icmp_ne (tgt := 19) hx hb dTypes_extentOf_8 (by decide) (fun c6 => ?_) (fun c6 => ?_)
  · refine lv_iload_n hx hb dTypes_extentOf_19 rfl (lv_at hl 0 rfl) ?_
    refine lv_iconst (v := 4) hx hb dTypes_extentOf_20 (by decide) ?_
    refine lv_icmp_ne (tgt := 28) hx hb dTypes_extentOf_21 (by decide) (fun c7 => ?_) (fun c7 => ?_)
    · refine lv_iconst (v := 0) hx hb dTypes_extentOf_28 (by decide) ?_
      exact hE _ _ _ ⟨trivial, (by subst er5; exact (hO.tr ((if_neg c6).trans (if_neg c7))).symm)⟩ dTypes_extentOf_29
    · refine lv_iload_n hx hb dTypes_extentOf_24 rfl (lv_at hl 2 rfl) ?_
      refine lv_goto (tgt := 29) hx hb dTypes_extentOf_25 (by decide) ?_
      exact hE _ _ _ ⟨trivial, (by subst er5; exact (hO.tr ((if_neg c6).trans (if_pos c7))).symm)⟩ dTypes_extentOf_29
  · refine lv_aload_n hx hb dTypes_extentOf_11 rfl (lv_at hl 1 rfl) ?_
    refine lv_iload_n hx hb dTypes_extentOf_12 rfl (lv_at hl 2 rfl) ?_
    refine pu_Vi (rest := []) S hC (fc_Types_countOf l γ Z a N L f x1) meTypes_countOf qw_f2b19d19af ⟨Nat.le_of_ble_eq_true rfl, Nat.le_of_ble_eq_true rfl⟩ (va_recv hC.1 hP (ci := 3) (q0 := 0) rfl rfl) hI rfl hl.1 rfl (Nat.le_of_ble_eq_true rfl) dTypes_extentOf_13 ⟨Nat.zero_le _, Nat.zero_le _⟩ (fun r8 hr8 => ?_)
    obtain ⟨hr8, er8⟩ := hr8
    refine lv_goto (tgt := 29) hx hb dTypes_extentOf_16 (by decide) ?_
    exact hE _ _ _ ⟨trivial, (by subst er8 er5; exact (hO.tr (if_pos c6)).symm)⟩ dTypes_extentOf_29
theorem f3_Types_extentOf (l : Launch) (γ : gE) (A : Nat → Prop) (κ : Nat → Nat) (φ : gF) (ψ : gG) (x1 : Int32)  : PU l yTypes_extentOf bTypes_extentOf 3 (some .int) 2 42 [.ref (γ.2.2.2 3), .int x1] γ (INVF γ A κ φ ψ) (vp_Si (fun v : Int32 => (True) ∧ v = P_Types_extentOf (κ 4) (κ 13) (φ 4) x1)) :=
  puf_up 4 (by decide) (by decide) (fun Z => fc_Types_extentOf l γ Z (γ.2.2.2 3) (κ 4) (κ 13) (φ 4) x1)

def P_Types_fromRight_29 (N L : Nat) (f : gf) (i1 : Int32) (i2 : Int32) (t0 : Int64) : Int32 := (if (lg_cmp t0 0) < 0 then (-1) else (if 0 ≤ (lg_cmp t0 ((P_Types_countOf N L f i1).toInt64)) then (-1) else (t0.toInt32)))
def P_Types_fromRight (N L : Nat) (f : gf) (x1 : Int32) (x2 : Int32) : Int32 := (if (P_Types_goesDown N L f x1) = 0 then (P_Types_fromRight_29 N L f  x1 x2 (((P_Types_rightOf N L f x1).toInt64) - (x2.toInt64))) else (P_Types_fromRight_29 N L f  x1 x2 ((x2.toInt64) - ((P_Types_rightOf N L f x1).toInt64))))
set_option maxHeartbeats 4000000 in
set_option maxRecDepth 100000 in
theorem fc_Types_fromRight (l : Launch) (γ : gE) (Z : Nat → Prop) (a N L : Nat) (f : gf) (x1 : Int32) (x2 : Int32)  : PU l yTypes_fromRight bTypes_fromRight 5 (some .int) 2 42 [.ref a, .int x1, .int x2] γ (cmp γ (gTypes γ a N L f) Z) (vp_Si (fun v : Int32 => (True) ∧ v = P_Types_fromRight N L f x1 x2)) := by
  refine pu_openI (by decide) (Nat.le_of_ble_eq_true rfl) ?_
  intro p e s m args below meth c ls Q S hC hI hE hl
  obtain ⟨hx, hb, hml, hown, hW⟩ := id S
  obtain ⟨ws, ⟨b0, b1, b2, b3, rfl, h1, h2, h3⟩, hP, hD⟩ := id hI
  have hP : va_P γ.1 vwCl [(a, .inr (3, [.ref b0, .ref b1, .ref b2, .ref b3, .int (nI N)])), (b0, .inl (γ.2.1, L, .inl (f 0))), (b1, .inl (γ.2.1, L, .inl (f 1))), (b2, .inl (γ.2.1, L, .inl (f 2))), (b3, .inl (γ.2.1, L, .inl (f 3)))] s.heap := hP
  have hl : lv_has ls 5 [(0, .ref a), (1, .int x1), (2, .int x2)] := hl
  obtain ⟨OUT, hQ, hO⟩ : ∃ z, (z = P_Types_fromRight N L f x1 x2) ∧ Oq z (P_Types_fromRight N L f x1 x2) := ⟨_, rfl, rfl⟩
  rw [← hQ] at hE
  clear hQ
  have J29 : ∀ (ls : Array Slot)  (i1 : Int32) (i2 : Int32) (t0 : Int64), (Oq OUT (P_Types_fromRight_29 N L f   i1 i2 t0)) → lv_has ls 5 [(0, .ref a), (1, .int i1), (2, .int i2)] → W p l e (bs_rm 2 0 0 42) s m args below meth c s.heap [] 0 0 Q (F0 m 29 ls [.long t0]) := by
    intro ls  i1 i2 t0 hO hl
    refine lv_lstore_n (lv' := [(3, .long t0), (0, .ref a), (1, .int i1), (2, .int i2)]) hx hb dTypes_fromRight_29 rfl hl (by decide) rfl (fun ls hl => ?_)
    refine lv_lload_n hx hb dTypes_fromRight_30 rfl (lv_at hl 0 rfl) ?_
    refine lv_lconst (v := 0) hx hb dTypes_fromRight_31 (by decide) ?_
    refine W.lcmp hx hb dTypes_fromRight_32 ?_
    refine lv_topi (fun v18 ev18 => ?_)
    refine lv_if_lt (tgt := 52) hx hb dTypes_fromRight_33 (by decide) (fun c19 => ?_) (fun c19 => ?_)
    · refine lv_iconst (v := (-1)) hx hb dTypes_fromRight_52 (by decide) ?_
      exact hE _ _ _ ⟨trivial, (by subst ev18; exact (hO.tr (if_pos c19)).symm)⟩ dTypes_fromRight_53
    · refine lv_lload_n hx hb dTypes_fromRight_36 rfl (lv_at hl 0 rfl) ?_
      refine lv_aload_n hx hb dTypes_fromRight_37 rfl (lv_at hl 1 rfl) ?_
      refine lv_iload_n hx hb dTypes_fromRight_38 rfl (lv_at hl 2 rfl) ?_
      refine pu_Vi (rest := [.long t0]) S hC (fc_Types_countOf l γ Z a N L f i1) meTypes_countOf qw_f2b19d19af ⟨Nat.le_of_ble_eq_true rfl, Nat.le_of_ble_eq_true rfl⟩ (va_recv hC.1 hP (ci := 3) (q0 := 0) rfl rfl) hI rfl hl.1 rfl (Nat.le_of_ble_eq_true rfl) dTypes_fromRight_39 ⟨Nat.zero_le _, Nat.zero_le _⟩ (fun r20 hr20 => ?_)
      obtain ⟨hr20, er20⟩ := hr20
      refine lv_i2l hx hb dTypes_fromRight_42 rfl ?_
      refine lv_topl (fun v21 ev21 => ?_)
      refine W.lcmp hx hb dTypes_fromRight_43 ?_
      refine lv_topi (fun v22 ev22 => ?_)
      refine lv_if_ge (tgt := 52) hx hb dTypes_fromRight_44 (by decide) (fun c23 => ?_) (fun c23 => ?_)
      · refine lv_iconst (v := (-1)) hx hb dTypes_fromRight_52 (by decide) ?_
        exact hE _ _ _ ⟨trivial, (by subst ev22 ev21 er20 ev18; exact (hO.tr ((if_neg c19).trans (if_pos c23))).symm)⟩ dTypes_fromRight_53
      · refine lv_lload_n hx hb dTypes_fromRight_47 rfl (lv_at hl 0 rfl) ?_
        refine lv_l2i hx hb dTypes_fromRight_48 rfl ?_
        refine lv_topi (fun v24 ev24 => ?_)
        refine lv_goto (tgt := 53) hx hb dTypes_fromRight_49 (by decide) ?_
        exact hE _ _ _ ⟨trivial, (by subst ev24 ev22 ev21 er20 ev18; exact (hO.tr ((if_neg c19).trans (if_neg c23))).symm)⟩ dTypes_fromRight_53
  refine lv_aload_n hx hb dTypes_fromRight_0 rfl (lv_at hl 0 rfl) ?_
  refine lv_iload_n hx hb dTypes_fromRight_1 rfl (lv_at hl 1 rfl) ?_
  refine pu_Vi (rest := []) S hC (fc_Types_goesDown l γ Z a N L f x1) meTypes_goesDown qw_89684d58b5 ⟨Nat.le_of_ble_eq_true rfl, Nat.le_of_ble_eq_true rfl⟩ (va_recv hC.1 hP (ci := 3) (q0 := 0) rfl rfl) hI rfl hl.1 rfl (Nat.le_of_ble_eq_true rfl) dTypes_fromRight_2 ⟨Nat.zero_le _, Nat.zero_le _⟩ (fun r25 hr25 => ?_)
  obtain ⟨hr25, er25⟩ := hr25
  refine lv_if_eq (tgt := 20) hx hb dTypes_fromRight_5 (by decide) (fun c26 => ?_) (fun c26 => ?_)
  · refine lv_aload_n hx hb dTypes_fromRight_20 rfl (lv_at hl 0 rfl) ?_
    refine lv_iload_n hx hb dTypes_fromRight_21 rfl (lv_at hl 1 rfl) ?_
    refine pu_Vi (rest := []) S hC (fc_Types_rightOf l γ Z a N L f x1) meTypes_rightOf qw_7f99fbf9f4 ⟨Nat.le_of_ble_eq_true rfl, Nat.le_of_ble_eq_true rfl⟩ (va_recv hC.1 hP (ci := 3) (q0 := 0) rfl rfl) hI rfl hl.1 rfl (Nat.le_of_ble_eq_true rfl) dTypes_fromRight_22 ⟨Nat.zero_le _, Nat.zero_le _⟩ (fun r27 hr27 => ?_)
    obtain ⟨hr27, er27⟩ := hr27
    refine lv_i2l hx hb dTypes_fromRight_25 rfl ?_
    refine lv_topl (fun v28 ev28 => ?_)
    refine lv_iload_n hx hb dTypes_fromRight_26 rfl (lv_at hl 2 rfl) ?_
    refine lv_i2l hx hb dTypes_fromRight_27 rfl ?_
    refine lv_topl (fun v29 ev29 => ?_)
    refine lv_lsub hx hb dTypes_fromRight_28 ?_
    refine lv_topl (fun v30 ev30 => ?_)
    exact J29 ls x1 x2 v30 (by subst ev30 ev29 ev28 er27 er25; exact hO.tr (if_pos c26)) (lv_sub hl [0, 1, 2] rfl)
  · refine lv_iload_n hx hb dTypes_fromRight_8 rfl (lv_at hl 2 rfl) ?_
    refine lv_i2l hx hb dTypes_fromRight_9 rfl ?_
    refine lv_topl (fun v31 ev31 => ?_)
    refine lv_aload_n hx hb dTypes_fromRight_10 rfl (lv_at hl 0 rfl) ?_
    refine lv_iload_n hx hb dTypes_fromRight_11 rfl (lv_at hl 1 rfl) ?_
    refine pu_Vi (rest := [.long v31]) S hC (fc_Types_rightOf l γ Z a N L f x1) meTypes_rightOf qw_7f99fbf9f4 ⟨Nat.le_of_ble_eq_true rfl, Nat.le_of_ble_eq_true rfl⟩ (va_recv hC.1 hP (ci := 3) (q0 := 0) rfl rfl) hI rfl hl.1 rfl (Nat.le_of_ble_eq_true rfl) dTypes_fromRight_12 ⟨Nat.zero_le _, Nat.zero_le _⟩ (fun r32 hr32 => ?_)
    obtain ⟨hr32, er32⟩ := hr32
    refine lv_i2l hx hb dTypes_fromRight_15 rfl ?_
    refine lv_topl (fun v33 ev33 => ?_)
    refine lv_lsub hx hb dTypes_fromRight_16 ?_
    refine lv_topl (fun v34 ev34 => ?_)
    refine lv_goto (tgt := 29) hx hb dTypes_fromRight_17 (by decide) ?_
    exact J29 ls x1 x2 v34 (by subst ev34 ev33 er32 ev31 er25; exact hO.tr (if_neg c26)) (lv_sub hl [0, 1, 2] rfl)
theorem f3_Types_fromRight (l : Launch) (γ : gE) (A : Nat → Prop) (κ : Nat → Nat) (φ : gF) (ψ : gG) (x1 : Int32) (x2 : Int32)  : PU l yTypes_fromRight bTypes_fromRight 5 (some .int) 2 42 [.ref (γ.2.2.2 3), .int x1, .int x2] γ (INVF γ A κ φ ψ) (vp_Si (fun v : Int32 => (True) ∧ v = P_Types_fromRight (κ 4) (κ 13) (φ 4) x1 x2)) :=
  puf_up 4 (by decide) (by decide) (fun Z => fc_Types_fromRight l γ Z (γ.2.2.2 3) (κ 4) (κ 13) (φ 4) x1 x2)

def P_Looks_isFixed (L : Nat) (f : gf) (x1 : Int32) : Int32 := (if (P_Looks_has L f x1) = 0 then 0 else (if ((f 4) x1.toNatClampNeg) = 1 then 1 else 0))
set_option maxHeartbeats 4000000 in
set_option maxRecDepth 100000 in
theorem fc_Looks_isFixed (l : Launch) (γ : gE) (Z : Nat → Prop) (a rw L : Nat) (f : gf) (x1 : Int32)  : PU l yLooks_isFixed bLooks_isFixed 2 (some .boolean) 1 21 [.ref a, .int x1] γ (cmp γ (gLooks γ a rw L f) Z) (vp_Si (fun v : Int32 => (True) ∧ v = P_Looks_isFixed L f x1)) := by
  refine pu_openZ (by decide) (Nat.le_of_ble_eq_true rfl) ?_
  intro p e s m args below meth c ls Q S hC hI hE hl
  obtain ⟨hx, hb, hml, hown, hW⟩ := id S
  obtain ⟨ws, ⟨b0, b1, b2, b3, b4, rfl, h1, h2⟩, hP, hD⟩ := id hI
  have hP : va_P γ.1 vwCl [(a, .inr (6, [.ref b0, .ref b1, .ref b2, .ref b3, .ref b4, .ref rw])), (b0, .inl (γ.2.1, L, .inl (f 0))), (b1, .inl (γ.2.1, L, .inl (f 1))), (b2, .inl (γ.2.1, L, .inl (f 2))), (b3, .inl (γ.2.1, L, .inl (f 3))), (b4, .inl (γ.2.1, L, .inl (f 4)))] s.heap := hP
  have hl : lv_has ls 2 [(0, .ref a), (1, .int x1)] := hl
  obtain ⟨OUT, hQ, hO⟩ : ∃ z, (z = P_Looks_isFixed L f x1) ∧ Oq z (P_Looks_isFixed L f x1) := ⟨_, rfl, rfl⟩
  rw [← hQ] at hE
  clear hQ
  refine lv_aload_n hx hb dLooks_isFixed_0 rfl (lv_at hl 0 rfl) ?_
  refine lv_iload_n hx hb dLooks_isFixed_1 rfl (lv_at hl 1 rfl) ?_
  refine pu_Vi (rest := []) S hC (fc_Looks_has l γ Z a rw L f x1) meLooks_has qw_4e5fd4a1cd ⟨Nat.le_of_ble_eq_true rfl, Nat.le_of_ble_eq_true rfl⟩ (va_recv hC.1 hP (ci := 6) (q0 := 0) rfl rfl) hI rfl hl.1 rfl (Nat.le_of_ble_eq_true rfl) dLooks_isFixed_2 ⟨Nat.zero_le _, Nat.zero_le _⟩ (fun r5 hr5 => ?_)
  obtain ⟨hr5, er5⟩ := hr5
  refine lv_if_eq (tgt := 22) hx hb dLooks_isFixed_5 (by decide) (fun c6 => ?_) (fun c6 => ?_)
  · refine lv_iconst (v := 0) hx hb dLooks_isFixed_22 (by decide) ?_
    exact hE _ _ _ rfl ⟨trivial, (by subst er5; exact (hO.tr (if_pos c6)).symm)⟩ dLooks_isFixed_23
  · refine lv_aload_n hx hb dLooks_isFixed_8 rfl (lv_at hl 0 rfl) ?_
    refine va_get (D := γ.1) (ci := 6) (v := .ref b4) (C := R_Looks) (T := T_Looks) (N := 6) (Ts := bs_W0) hx hb hW in_Looks hown hC.1 hP 0 rfl rfl 4 (by decide) (hW _ qw_d08a1abfac) (fun _ h9 => h9) rfl dLooks_isFixed_9 ?_
    refine lv_iload_n hx hb dLooks_isFixed_12 rfl (lv_at hl 1 rfl) ?_
    refine va_iald hx hb hC.1 hP 5 0 rfl rfl (in_has (by assumption) (by assumption) (by omega) (by omega)) dLooks_isFixed_13 ?_
    refine lv_topi (fun v7 ev7 => ?_)
    refine lv_iconst (v := 1) hx hb dLooks_isFixed_14 (by decide) ?_
    refine lv_icmp_ne (tgt := 22) hx hb dLooks_isFixed_15 (by decide) (fun c8 => ?_) (fun c8 => ?_)
    · refine lv_iconst (v := 0) hx hb dLooks_isFixed_22 (by decide) ?_
      exact hE _ _ _ rfl ⟨trivial, (by subst ev7 er5; exact (hO.tr ((if_neg c6).trans (if_neg c8))).symm)⟩ dLooks_isFixed_23
    · refine lv_iconst (v := 1) hx hb dLooks_isFixed_18 (by decide) ?_
      refine lv_goto (tgt := 23) hx hb dLooks_isFixed_19 (by decide) ?_
      exact hE _ _ _ rfl ⟨trivial, (by subst ev7 er5; exact (hO.tr ((if_neg c6).trans (if_pos c8))).symm)⟩ dLooks_isFixed_23
theorem f6_Looks_isFixed (l : Launch) (γ : gE) (A : Nat → Prop) (κ : Nat → Nat) (φ : gF) (ψ : gG) (x1 : Int32)  : PU l yLooks_isFixed bLooks_isFixed 2 (some .boolean) 1 21 [.ref (γ.2.2.2 6), .int x1] γ (INVF γ A κ φ ψ) (vp_Si (fun v : Int32 => (True) ∧ v = P_Looks_isFixed (κ 6) (φ 7) x1)) :=
  puf_up 7 (by decide) (by decide) (fun Z => fc_Looks_isFixed l γ Z (γ.2.2.2 6) (γ.2.2.2 7) (κ 6) (φ 7) x1)
theorem f9_Looks_isFixed (l : Launch) (γ : gE) (A : Nat → Prop) (κ : Nat → Nat) (φ : gF) (ψ : gG) (x1 : Int32)  : PU l yLooks_isFixed bLooks_isFixed 2 (some .boolean) 1 21 [.ref (γ.2.2.2 9), .int x1] γ (INVF γ A κ φ ψ) (vp_Si (fun v : Int32 => (True) ∧ v = P_Looks_isFixed (κ 7) (φ 9) x1)) :=
  puf_up 9 (by decide) (by decide) (fun Z => fc_Looks_isFixed l γ Z (γ.2.2.2 9) (γ.2.2.2 10) (κ 7) (φ 9) x1)
def P_Names_find_13 (N sc L : Nat) (f : gf) : Nat → Int32 → Int32 → Int32 → Int32
  | 0, _, _, _ => default
  | n + 1, i1, i2, i3 => (if (nI N) ≤ i3 then (-1) else (if (P_Names_has N sc L f i2) = 0 then (-1) else (if ((f 0) i2.toNatClampNeg) = i1 then i2 else (P_Names_find_13 N sc L f n i1 ((f 4) i2.toNatClampNeg) (i3 + 1)))))
def P_Names_find (N sc L : Nat) (f : gf) (x1 : Int32) : Int32 := (P_Names_find_13 N sc L f  ((2147483647 - (0 : Int32).toInt).toNat + 1) x1 ((f 5) (x1 &&& 255).toNatClampNeg) 0)
set_option maxHeartbeats 4000000 in
set_option maxRecDepth 100000 in
theorem fc_Names_find (l : Launch) (γ : gE) (Z : Nat → Prop) (a N sc L : Nat) (f : gf) (x1 : Int32)  : PU l yNames_find bNames_find 4 (some .int) 1 21 [.ref a, .int x1] γ (cmp γ (gNames γ a N sc L f) Z) (vp_Si (fun v : Int32 => (True) ∧ v = P_Names_find N sc L f x1)) := by
  refine pu_openI (by decide) (Nat.le_of_ble_eq_true rfl) ?_
  intro p e s m args below meth c ls Q S hC hI hE hl
  obtain ⟨hx, hb, hml, hown, hW⟩ := id S
  obtain ⟨ws, ⟨b0, b1, b2, b3, b4, b5, b6, rfl, h1, h2, h3, h4, h5, h6⟩, hP, hD⟩ := id hI
  have hP : va_P γ.1 vwCl [(a, .inr (2, [.ref b0, .ref b1, .ref b2, .ref b3, .ref b4, .ref b5, .ref b6, .int (nI N), .int (nI sc)])), (b0, .inl (γ.2.1, L, .inl (f 0))), (b1, .inl (γ.2.1, L, .inl (f 1))), (b2, .inl (γ.2.1, L, .inl (f 2))), (b3, .inl (γ.2.1, L, .inl (f 3))), (b4, .inl (γ.2.1, L, .inl (f 4))), (b5, .inl (γ.2.1, 256, .inl (f 5))), (b6, .inl (γ.2.1, 32, .inl (f 6)))] s.heap := hP
  have hl : lv_has ls 4 [(0, .ref a), (1, .int x1)] := hl
  obtain ⟨OUT, hQ, hO⟩ : ∃ z, (z = P_Names_find N sc L f x1) ∧ Oq z (P_Names_find N sc L f x1) := ⟨_, rfl, rfl⟩
  rw [← hQ] at hE
  clear hQ
  have J13 : ∀ (N13 : Nat) (ls : Array Slot)  (i1 : Int32) (i2 : Int32) (i3 : Int32), (Oq OUT (P_Names_find_13 N sc L f  (N13 + 1) i1 i2 i3)) → (2147483647 - i3.toInt).toNat = N13 → lv_has ls 4 [(0, .ref a), (1, .int i1), (2, .int i2), (3, .int i3)] → W p l e (bs_rm 1 0 0 21) s m args below meth c s.heap [] 0 0 Q (F0 m 13 ls []) := by
    intro N13
    induction N13 using Nat.strongRecOn with
    | ind N13 ih13 =>
      intro ls  i1 i2 i3 hO hm13 hl
      refine lv_iload_n hx hb dNames_find_13 rfl (lv_at hl 3 rfl) ?_
      refine lv_aload_n hx hb dNames_find_14 rfl (lv_at hl 0 rfl) ?_
      refine va_get (D := γ.1) (ci := 2) (v := .int (nI N)) (C := R_Names) (T := T_Names) (N := 9) (Ts := bs_W0) hx hb hW in_Names hown hC.1 hP 0 rfl rfl 7 (by decide) (hW _ qw_171adcdf9f) (fun _ h9 => h9) rfl dNames_find_15 ?_
      refine lv_topi (fun v11 ev11 => ?_)
      refine lv_icmp_ge (tgt := 54) hx hb dNames_find_18 (by decide) (fun c12 => ?_) (fun c12 => ?_)
      · refine lv_iconst (v := (-1)) hx hb dNames_find_54 (by decide) ?_
        exact hE _ _ _ ⟨trivial, (by subst ev11; exact (hO.tr (if_pos c12)).symm)⟩ dNames_find_55
      · refine lv_aload_n hx hb dNames_find_21 rfl (lv_at hl 0 rfl) ?_
        refine lv_iload_n hx hb dNames_find_22 rfl (lv_at hl 2 rfl) ?_
        refine pu_Vi (rest := []) S hC (fc_Names_has l γ Z a N sc L f i2) meNames_has qw_8f9013a759 ⟨Nat.le_of_ble_eq_true rfl, Nat.le_of_ble_eq_true rfl⟩ (va_recv hC.1 hP (ci := 2) (q0 := 0) rfl rfl) hI rfl hl.1 rfl (Nat.le_of_ble_eq_true rfl) dNames_find_23 ⟨Nat.zero_le _, Nat.zero_le _⟩ (fun r13 hr13 => ?_)
        obtain ⟨hr13, er13⟩ := hr13
        refine lv_if_eq (tgt := 54) hx hb dNames_find_26 (by decide) (fun c14 => ?_) (fun c14 => ?_)
        · refine lv_iconst (v := (-1)) hx hb dNames_find_54 (by decide) ?_
          exact hE _ _ _ ⟨trivial, (by subst er13 ev11; exact (hO.tr ((if_neg c12).trans (if_pos c14))).symm)⟩ dNames_find_55
        · refine lv_aload_n hx hb dNames_find_29 rfl (lv_at hl 0 rfl) ?_
          refine va_get (D := γ.1) (ci := 2) (v := .ref b0) (C := R_Names) (T := T_Names) (N := 9) (Ts := bs_W0) hx hb hW in_Names hown hC.1 hP 0 rfl rfl 0 (by decide) (hW _ qw_a8d4a716ae) (fun _ h9 => h9) rfl dNames_find_30 ?_
          refine lv_iload_n hx hb dNames_find_33 rfl (lv_at hl 2 rfl) ?_
          refine va_iald hx hb hC.1 hP 1 0 rfl rfl (in_has (by assumption) (by assumption) (by omega) (by omega)) dNames_find_34 ?_
          refine lv_topi (fun v15 ev15 => ?_)
          refine lv_iload_n hx hb dNames_find_35 rfl (lv_at hl 1 rfl) ?_
          refine lv_icmp_ne (tgt := 41) hx hb dNames_find_36 (by decide) (fun c16 => ?_) (fun c16 => ?_)
          · refine lv_aload_n hx hb dNames_find_41 rfl (lv_at hl 0 rfl) ?_
            refine va_get (D := γ.1) (ci := 2) (v := .ref b4) (C := R_Names) (T := T_Names) (N := 9) (Ts := bs_W0) hx hb hW in_Names hown hC.1 hP 0 rfl rfl 4 (by decide) (hW _ qw_ddfb92ec41) (fun _ h9 => h9) rfl dNames_find_42 ?_
            refine lv_iload_n hx hb dNames_find_45 rfl (lv_at hl 2 rfl) ?_
            refine va_iald hx hb hC.1 hP 5 0 rfl rfl (in_has (by assumption) (by assumption) (by omega) (by omega)) dNames_find_46 ?_
            refine lv_topi (fun v17 ev17 => ?_)
            refine lv_istore_n (lv' := [(2, .int v17), (0, .ref a), (1, .int i1), (3, .int i3)]) hx hb dNames_find_47 rfl hl (by decide) rfl (fun ls hl => ?_)
            obtain ⟨v18, ev18⟩ : ∃ y : Int32, y = i3 + 1 := ⟨_, rfl⟩
            refine lv_iinc (v := v18) (lv' := [(3, .int v18), (2, .int v17), (0, .ref a), (1, .int i1)]) hx hb dNames_find_48 hl (k := 3) rfl (by rw [ev18]; rfl) (by decide) rfl (fun ls hl => ?_)
            refine lv_goto (tgt := 13) hx hb dNames_find_51 (by decide) ?_
            exact ih13 _ (by have q1 : i3.toInt < 2147483647 := (by first | exact (mu_up (k := i3) (by assumption)).2 | assumption); have q2 := mu_lt q1; rw [← ev18] at q2; omega) ls i1 v17 v18 (by have hN : N13 = (2147483647 - v18.toInt).toNat + 1 := (by have q1 : i3.toInt < 2147483647 := (by first | exact (mu_up (k := i3) (by assumption)).2 | assumption); have q2 := mu_lt q1; rw [← ev18] at q2; omega); rw [← hN]; clear hN; subst ev18 ev17 ev15 er13 ev11; exact hO.tr ((if_neg c12).trans ((if_neg c14).trans (if_neg c16)))) rfl (lv_sub hl [2, 3, 1, 0] rfl)
          · refine lv_iload_n hx hb dNames_find_39 rfl (lv_at hl 2 rfl) ?_
            exact hE _ _ _ ⟨trivial, (by subst ev15 er13 ev11; exact (hO.tr ((if_neg c12).trans ((if_neg c14).trans (if_pos c16)))).symm)⟩ dNames_find_40
  refine lv_aload_n hx hb dNames_find_0 rfl (lv_at hl 0 rfl) ?_
  refine va_get (D := γ.1) (ci := 2) (v := .ref b5) (C := R_Names) (T := T_Names) (N := 9) (Ts := bs_W0) hx hb hW in_Names hown hC.1 hP 0 rfl rfl 5 (by decide) (hW _ qw_ae9666db7d) (fun _ h9 => h9) rfl dNames_find_1 ?_
  refine lv_iload_n hx hb dNames_find_4 rfl (lv_at hl 1 rfl) ?_
  refine lv_sipush (v := 255) hx hb dNames_find_5 (by decide) ?_
  refine lv_iand hx hb dNames_find_8 ?_
  refine lv_topi (fun v19 ev19 => ?_)
  refine va_iald hx hb hC.1 hP 6 0 rfl rfl (by subst_vars; exact pk_andIn _ 8 (by decide) (by decide)) dNames_find_9 ?_
  refine lv_topi (fun v20 ev20 => ?_)
  refine lv_istore_n (lv' := [(2, .int v20), (0, .ref a), (1, .int x1)]) hx hb dNames_find_10 rfl hl (by decide) rfl (fun ls hl => ?_)
  refine lv_iconst (v := 0) hx hb dNames_find_11 (by decide) ?_
  refine lv_istore_n (lv' := [(3, .int 0), (2, .int v20), (0, .ref a), (1, .int x1)]) hx hb dNames_find_12 rfl hl (by decide) rfl (fun ls hl => ?_)
  exact J13 _ ls x1 v20 0 (by subst ev20 ev19; exact hO.tr rfl) rfl (lv_sub hl [2, 3, 1, 0] rfl)
theorem f2_Names_find (l : Launch) (γ : gE) (A : Nat → Prop) (κ : Nat → Nat) (φ : gF) (ψ : gG) (x1 : Int32)  : PU l yNames_find bNames_find 4 (some .int) 1 21 [.ref (γ.2.2.2 2), .int x1] γ (INVF γ A κ φ ψ) (vp_Si (fun v : Int32 => (True) ∧ v = P_Names_find (κ 2) (κ 3) (κ 12) (φ 3) x1)) :=
  puf_up 3 (by decide) (by decide) (fun Z => fc_Names_find l γ Z (γ.2.2.2 2) (κ 2) (κ 3) (κ 12) (φ 3) x1)

def P_Names_isTaken (N sc L : Nat) (f : gf) (x1 : Int32) : Int32 := (if (P_Names_find N sc L f x1) < ((f 6) ((nI sc) - 1).toNatClampNeg) then 0 else 1)
set_option maxHeartbeats 4000000 in
set_option maxRecDepth 100000 in
theorem fc_Names_isTaken (l : Launch) (γ : gE) (Z : Nat → Prop) (a N sc L : Nat) (f : gf) (x1 : Int32)  : PU l yNames_isTaken bNames_isTaken 2 (some .boolean) 2 44 [.ref a, .int x1] γ (cmp γ (gNames γ a N sc L f) Z) (vp_Si (fun v : Int32 => (True) ∧ v = P_Names_isTaken N sc L f x1)) := by
  refine pu_openZ (by decide) (Nat.le_of_ble_eq_true rfl) ?_
  intro p e s m args below meth c ls Q S hC hI hE hl
  obtain ⟨hx, hb, hml, hown, hW⟩ := id S
  obtain ⟨ws, ⟨b0, b1, b2, b3, b4, b5, b6, rfl, h1, h2, h3, h4, h5, h6⟩, hP, hD⟩ := id hI
  have hP : va_P γ.1 vwCl [(a, .inr (2, [.ref b0, .ref b1, .ref b2, .ref b3, .ref b4, .ref b5, .ref b6, .int (nI N), .int (nI sc)])), (b0, .inl (γ.2.1, L, .inl (f 0))), (b1, .inl (γ.2.1, L, .inl (f 1))), (b2, .inl (γ.2.1, L, .inl (f 2))), (b3, .inl (γ.2.1, L, .inl (f 3))), (b4, .inl (γ.2.1, L, .inl (f 4))), (b5, .inl (γ.2.1, 256, .inl (f 5))), (b6, .inl (γ.2.1, 32, .inl (f 6)))] s.heap := hP
  have hl : lv_has ls 2 [(0, .ref a), (1, .int x1)] := hl
  obtain ⟨OUT, hQ, hO⟩ : ∃ z, (z = P_Names_isTaken N sc L f x1) ∧ Oq z (P_Names_isTaken N sc L f x1) := ⟨_, rfl, rfl⟩
  rw [← hQ] at hE
  clear hQ
  refine lv_aload_n hx hb dNames_isTaken_0 rfl (lv_at hl 0 rfl) ?_
  refine lv_iload_n hx hb dNames_isTaken_1 rfl (lv_at hl 1 rfl) ?_
  refine pu_Vi (rest := []) S hC (fc_Names_find l γ Z a N sc L f x1) meNames_find qw_125e0af2e4 ⟨Nat.le_of_ble_eq_true rfl, Nat.le_of_ble_eq_true rfl⟩ (va_recv hC.1 hP (ci := 2) (q0 := 0) rfl rfl) hI rfl hl.1 rfl (Nat.le_of_ble_eq_true rfl) dNames_isTaken_2 ⟨Nat.zero_le _, Nat.zero_le _⟩ (fun r6 hr6 => ?_)
  obtain ⟨hr6, er6⟩ := hr6
  refine lv_aload_n hx hb dNames_isTaken_5 rfl (lv_at hl 0 rfl) ?_
  refine va_get (D := γ.1) (ci := 2) (v := .ref b6) (C := R_Names) (T := T_Names) (N := 9) (Ts := bs_W0) hx hb hW in_Names hown hC.1 hP 0 rfl rfl 6 (by decide) (hW _ qw_c2f4fc63da) (fun _ h9 => h9) rfl dNames_isTaken_6 ?_
  refine lv_aload_n hx hb dNames_isTaken_9 rfl (lv_at hl 0 rfl) ?_
  refine va_get (D := γ.1) (ci := 2) (v := .int (nI sc)) (C := R_Names) (T := T_Names) (N := 9) (Ts := bs_W0) hx hb hW in_Names hown hC.1 hP 0 rfl rfl 8 (by decide) (hW _ qw_40882965f2) (fun _ h9 => h9) rfl dNames_isTaken_10 ?_
  refine lv_topi (fun v7 ev7 => ?_)
  refine lv_iconst (v := 1) hx hb dNames_isTaken_13 (by decide) ?_
  refine lv_isub hx hb dNames_isTaken_14 ?_
  refine lv_topi (fun v8 ev8 => ?_)
  refine va_iald hx hb hC.1 hP 7 0 rfl rfl (by subst_vars; exact sc_in (by omega) (by omega)) dNames_isTaken_15 ?_
  refine lv_topi (fun v9 ev9 => ?_)
  refine lv_icmp_lt (tgt := 23) hx hb dNames_isTaken_16 (by decide) (fun c10 => ?_) (fun c10 => ?_)
  · refine lv_iconst (v := 0) hx hb dNames_isTaken_23 (by decide) ?_
    exact hE _ _ _ rfl ⟨trivial, (by subst ev9 ev8 ev7 er6; exact (hO.tr (if_pos c10)).symm)⟩ dNames_isTaken_24
  · refine lv_iconst (v := 1) hx hb dNames_isTaken_19 (by decide) ?_
    refine lv_goto (tgt := 24) hx hb dNames_isTaken_20 (by decide) ?_
    exact hE _ _ _ rfl ⟨trivial, (by subst ev9 ev8 ev7 er6; exact (hO.tr (if_neg c10)).symm)⟩ dNames_isTaken_24
theorem f2_Names_isTaken (l : Launch) (γ : gE) (A : Nat → Prop) (κ : Nat → Nat) (φ : gF) (ψ : gG) (x1 : Int32)  : PU l yNames_isTaken bNames_isTaken 2 (some .boolean) 2 44 [.ref (γ.2.2.2 2), .int x1] γ (INVF γ A κ φ ψ) (vp_Si (fun v : Int32 => (True) ∧ v = P_Names_isTaken (κ 2) (κ 3) (κ 12) (φ 3) x1)) :=
  puf_up 3 (by decide) (by decide) (fun Z => fc_Names_isTaken l γ Z (γ.2.2.2 2) (κ 2) (κ 3) (κ 12) (φ 3) x1)

def P_Rows_get (M : Nat) (g : gg) (x1 : Int32) (x2 : Int32) : Int32 := (if x1 < 0 then 0 else (if ((nI (4 * M)) / 4) ≤ x1 then 0 else (if x2 < 0 then 0 else (if x2 < 64 then ((((((g) ((x1 * 4) + (x2 / 16)).toNatClampNeg).toUInt64 >>> (((x2 - x2 / 16 * 16) * 4).toInt64.toUInt64 &&& Int64.toUInt64 63)).toInt64).toInt32) &&& 15) else 0))))
set_option maxHeartbeats 4000000 in
set_option maxRecDepth 100000 in
theorem fc_Rows_get (l : Launch) (γ : gE) (Z : Nat → Prop) (a M : Nat) (g : gg) (x1 : Int32) (x2 : Int32)  : PU l yRows_get bRows_get 3 (some .int) 0 0 [.ref a, .int x1, .int x2] γ (cmp γ (gRows γ a M g) Z) (vp_Si (fun v : Int32 => (True) ∧ v = P_Rows_get M g x1 x2)) := by
  refine pu_openI (by decide) (Nat.le_of_ble_eq_true rfl) ?_
  intro p e s m args below meth c ls Q S hC hI hE hl
  obtain ⟨hx, hb, hml, hown, hW⟩ := id S
  obtain ⟨ws, ⟨b0, rfl, h1, h2⟩, hP, hD⟩ := id hI
  have hP : va_P γ.1 vwCl [(a, .inr (5, [.ref b0])), (b0, .inl (γ.2.2.1, 4 * M, .inr (.inl g)))] s.heap := hP
  have hl : lv_has ls 3 [(0, .ref a), (1, .int x1), (2, .int x2)] := hl
  obtain ⟨OUT, hQ, hO⟩ : ∃ z, (z = P_Rows_get M g x1 x2) ∧ Oq z (P_Rows_get M g x1 x2) := ⟨_, rfl, rfl⟩
  rw [← hQ] at hE
  clear hQ
  refine lv_iload_n hx hb dRows_get_0 rfl (lv_at hl 1 rfl) ?_
  refine lv_if_lt (tgt := 25) hx hb dRows_get_1 (by decide) (fun c16 => ?_) (fun c16 => ?_)
  · refine lv_iconst (v := 0) hx hb dRows_get_25 (by decide) ?_
    exact hE _ _ _ ⟨trivial, (by exact (hO.tr (if_pos c16)).symm)⟩ dRows_get_26
  · refine lv_iload_n hx hb dRows_get_4 rfl (lv_at hl 1 rfl) ?_
    refine lv_aload_n hx hb dRows_get_5 rfl (lv_at hl 0 rfl) ?_
    refine va_get (D := γ.1) (ci := 5) (v := .ref b0) (C := R_Rows) (T := T_Rows) (N := 1) (Ts := bs_W0) hx hb hW in_Rows hown hC.1 hP 0 rfl rfl 0 (by decide) (hW _ qw_05e9c8a29d) (fun _ h9 => h9) rfl dRows_get_6 ?_
    refine va_alen hx hb hC.1 hP 1 1 rfl rfl rfl dRows_get_9 ?_
    refine lv_topi (fun v17 ev17 => ?_)
    have ev17 : v17 = nI (4 * M) := ev17
    refine lv_iconst (v := 4) hx hb dRows_get_10 (by decide) ?_
    refine lv_idiv hx hb dRows_get_11 (by decide) ?_
    refine lv_topi (fun v18 ev18 => ?_)
    refine lv_icmp_ge (tgt := 25) hx hb dRows_get_12 (by decide) (fun c19 => ?_) (fun c19 => ?_)
    · refine lv_iconst (v := 0) hx hb dRows_get_25 (by decide) ?_
      exact hE _ _ _ ⟨trivial, (by subst ev18 ev17; exact (hO.tr ((if_neg c16).trans (if_pos c19))).symm)⟩ dRows_get_26
    · refine lv_iload_n hx hb dRows_get_15 rfl (lv_at hl 2 rfl) ?_
      refine lv_if_lt (tgt := 25) hx hb dRows_get_16 (by decide) (fun c20 => ?_) (fun c20 => ?_)
      · refine lv_iconst (v := 0) hx hb dRows_get_25 (by decide) ?_
        exact hE _ _ _ ⟨trivial, (by subst ev18 ev17; exact (hO.tr ((if_neg c16).trans ((if_neg c19).trans (if_pos c20)))).symm)⟩ dRows_get_26
      · refine lv_iload_n hx hb dRows_get_19 rfl (lv_at hl 2 rfl) ?_
        refine lv_bipush (v := 64) hx hb dRows_get_20 (by decide) ?_
        refine lv_icmp_lt (tgt := 27) hx hb dRows_get_22 (by decide) (fun c21 => ?_) (fun c21 => ?_)
        · refine lv_aload_n hx hb dRows_get_27 rfl (lv_at hl 0 rfl) ?_
          refine va_get (D := γ.1) (ci := 5) (v := .ref b0) (C := R_Rows) (T := T_Rows) (N := 1) (Ts := bs_W0) hx hb hW in_Rows hown hC.1 hP 0 rfl rfl 0 (by decide) (hW _ qw_05e9c8a29d) (fun _ h9 => h9) rfl dRows_get_28 ?_
          refine lv_iload_n hx hb dRows_get_31 rfl (lv_at hl 1 rfl) ?_
          refine lv_iconst (v := 4) hx hb dRows_get_32 (by decide) ?_
          refine lv_imul hx hb dRows_get_33 ?_
          refine lv_topi (fun v22 ev22 => ?_)
          refine lv_iload_n hx hb dRows_get_34 rfl (lv_at hl 2 rfl) ?_
          refine lv_bipush (v := 16) hx hb dRows_get_35 (by decide) ?_
          refine lv_idiv hx hb dRows_get_37 (by decide) ?_
          refine lv_topi (fun v23 ev23 => ?_)
          refine lv_iadd hx hb dRows_get_38 ?_
          refine lv_topi (fun v24 ev24 => ?_)
          refine va_lald hx hb hC.1 hP 1 1 rfl rfl (by subst_vars; exact rows_ix (by assumption) (by assumption) (by assumption) (by first | assumption | exact lt_nge (by assumption)) (by omega)) dRows_get_39 ?_
          refine lv_topl (fun v25 ev25 => ?_)
          refine lv_iload_n hx hb dRows_get_40 rfl (lv_at hl 2 rfl) ?_
          refine lv_bipush (v := 16) hx hb dRows_get_41 (by decide) ?_
          refine lv_irem hx hb dRows_get_43 (by decide) ?_
          refine lv_topi (fun v26 ev26 => ?_)
          refine lv_iconst (v := 4) hx hb dRows_get_44 (by decide) ?_
          refine lv_imul hx hb dRows_get_45 ?_
          refine lv_topi (fun v27 ev27 => ?_)
          refine lv_lushr hx hb dRows_get_46 rfl ?_
          refine lv_topl (fun v28 ev28 => ?_)
          refine lv_l2i hx hb dRows_get_47 rfl ?_
          refine lv_topi (fun v29 ev29 => ?_)
          refine lv_bipush (v := 15) hx hb dRows_get_48 (by decide) ?_
          refine lv_iand hx hb dRows_get_50 ?_
          refine lv_topi (fun v30 ev30 => ?_)
          exact hE _ _ _ ⟨trivial, (by subst ev30 ev29 ev28 ev27 ev26 ev25 ev24 ev23 ev22 ev18 ev17; exact (hO.tr ((if_neg c16).trans ((if_neg c19).trans ((if_neg c20).trans (if_pos c21))))).symm)⟩ dRows_get_51
        · refine lv_iconst (v := 0) hx hb dRows_get_25 (by decide) ?_
          exact hE _ _ _ ⟨trivial, (by subst ev18 ev17; exact (hO.tr ((if_neg c16).trans ((if_neg c19).trans ((if_neg c20).trans (if_neg c21))))).symm)⟩ dRows_get_26
theorem f5_Rows_get (l : Launch) (γ : gE) (A : Nat → Prop) (κ : Nat → Nat) (φ : gF) (ψ : gG) (x1 : Int32) (x2 : Int32)  : PU l yRows_get bRows_get 3 (some .int) 0 0 [.ref (γ.2.2.2 5), .int x1, .int x2] γ (INVF γ A κ φ ψ) (vp_Si (fun v : Int32 => (True) ∧ v = P_Rows_get (κ 8) (ψ 6) x1 x2)) :=
  puf_up 6 (by decide) (by decide) (fun Z => fc_Rows_get l γ Z (γ.2.2.2 5) (κ 8) (ψ 6) x1 x2)
theorem f7_Rows_get (l : Launch) (γ : gE) (A : Nat → Prop) (κ : Nat → Nat) (φ : gF) (ψ : gG) (x1 : Int32) (x2 : Int32)  : PU l yRows_get bRows_get 3 (some .int) 0 0 [.ref (γ.2.2.2 7), .int x1, .int x2] γ (INVF γ A κ φ ψ) (vp_Si (fun v : Int32 => (True) ∧ v = P_Rows_get (κ 9) (ψ 8) x1 x2)) :=
  puf_up 8 (by decide) (by decide) (fun Z => fc_Rows_get l γ Z (γ.2.2.2 7) (κ 9) (ψ 8) x1 x2)
theorem f10_Rows_get (l : Launch) (γ : gE) (A : Nat → Prop) (κ : Nat → Nat) (φ : gF) (ψ : gG) (x1 : Int32) (x2 : Int32)  : PU l yRows_get bRows_get 3 (some .int) 0 0 [.ref (γ.2.2.2 10), .int x1, .int x2] γ (INVF γ A κ φ ψ) (vp_Si (fun v : Int32 => (True) ∧ v = P_Rows_get (κ 10) (ψ 10) x1 x2)) :=
  puf_up 10 (by decide) (by decide) (fun Z => fc_Rows_get l γ Z (γ.2.2.2 10) (κ 10) (ψ 10) x1 x2)

def P_Rows_isClear_2 (M : Nat) (g : gg) : Nat → Int32 → Int32 → Int32 → Int32
  | 0, _, _, _ => default
  | n + 1, i1, i2, i3 => (if i2 ≤ i3 then 1 else (if 64 ≤ i3 then 1 else (if (P_Logic_isClear (P_Rows_get M g i1 i3)) = 0 then 0 else (P_Rows_isClear_2 M g n i1 i2 (i3 + 1)))))
def P_Rows_isClear (M : Nat) (g : gg) (x1 : Int32) (x2 : Int32) : Int32 := (P_Rows_isClear_2 M g  ((2147483647 - (0 : Int32).toInt).toNat + 1) x1 x2 0)
set_option maxHeartbeats 4000000 in
set_option maxRecDepth 100000 in
theorem fc_Rows_isClear (l : Launch) (γ : gE) (Z : Nat → Prop) (a M : Nat) (g : gg) (x1 : Int32) (x2 : Int32)  : PU l yRows_isClear bRows_isClear 4 (some .boolean) 1 22 [.ref a, .int x1, .int x2] γ (cmp γ (gRows γ a M g) Z) (vp_Si (fun v : Int32 => (True) ∧ v = P_Rows_isClear M g x1 x2)) := by
  refine pu_openZ (by decide) (Nat.le_of_ble_eq_true rfl) ?_
  intro p e s m args below meth c ls Q S hC hI hE hl
  obtain ⟨hx, hb, hml, hown, hW⟩ := id S
  obtain ⟨ws, ⟨b0, rfl, h1, h2⟩, hP, hD⟩ := id hI
  have hP : va_P γ.1 vwCl [(a, .inr (5, [.ref b0])), (b0, .inl (γ.2.2.1, 4 * M, .inr (.inl g)))] s.heap := hP
  have hl : lv_has ls 4 [(0, .ref a), (1, .int x1), (2, .int x2)] := hl
  obtain ⟨OUT, hQ, hO⟩ : ∃ z, (z = P_Rows_isClear M g x1 x2) ∧ Oq z (P_Rows_isClear M g x1 x2) := ⟨_, rfl, rfl⟩
  rw [← hQ] at hE
  clear hQ
  have J2 : ∀ (N2 : Nat) (ls : Array Slot)  (i1 : Int32) (i2 : Int32) (i3 : Int32), (Oq OUT (P_Rows_isClear_2 M g  (N2 + 1) i1 i2 i3)) → (2147483647 - i3.toInt).toNat = N2 → lv_has ls 4 [(0, .ref a), (1, .int i1), (2, .int i2), (3, .int i3)] → W p l e (bs_rm 1 0 0 22) s m args below meth c s.heap [] 0 0 Q (F0 m 2 ls []) := by
    intro N2
    induction N2 using Nat.strongRecOn with
    | ind N2 ih2 =>
      intro ls  i1 i2 i3 hO hm2 hl
      refine lv_iload_n hx hb dRows_isClear_2 rfl (lv_at hl 3 rfl) ?_
      refine lv_iload_n hx hb dRows_isClear_3 rfl (lv_at hl 2 rfl) ?_
      refine lv_icmp_ge (tgt := 33) hx hb dRows_isClear_4 (by decide) (fun c7 => ?_) (fun c7 => ?_)
      · refine lv_iconst (v := 1) hx hb dRows_isClear_33 (by decide) ?_
        exact hE _ _ _ rfl ⟨trivial, (by exact (hO.tr (if_pos c7)).symm)⟩ dRows_isClear_34
      · refine lv_iload_n hx hb dRows_isClear_7 rfl (lv_at hl 3 rfl) ?_
        refine lv_bipush (v := 64) hx hb dRows_isClear_8 (by decide) ?_
        refine lv_icmp_ge (tgt := 33) hx hb dRows_isClear_10 (by decide) (fun c8 => ?_) (fun c8 => ?_)
        · refine lv_iconst (v := 1) hx hb dRows_isClear_33 (by decide) ?_
          exact hE _ _ _ rfl ⟨trivial, (by exact (hO.tr ((if_neg c7).trans (if_pos c8))).symm)⟩ dRows_isClear_34
        · refine lv_aload_n hx hb dRows_isClear_13 rfl (lv_at hl 0 rfl) ?_
          refine lv_iload_n hx hb dRows_isClear_14 rfl (lv_at hl 1 rfl) ?_
          refine lv_iload_n hx hb dRows_isClear_15 rfl (lv_at hl 3 rfl) ?_
          refine pu_Vi (rest := []) S hC (fc_Rows_get l γ Z a M g i1 i3) meRows_get qw_f4898d707a ⟨Nat.le_of_ble_eq_true rfl, Nat.le_of_ble_eq_true rfl⟩ (va_recv hC.1 hP (ci := 5) (q0 := 0) rfl rfl) hI rfl hl.1 rfl (Nat.le_of_ble_eq_true rfl) dRows_isClear_16 ⟨Nat.zero_le _, Nat.zero_le _⟩ (fun r9 hr9 => ?_)
          obtain ⟨hr9, er9⟩ := hr9
          refine pu_Si (rest := []) S hC (f_Logic_isClear l γ (cmp γ (gRows γ a M g) Z) r9) meLogic_isClear qw_643b0e6c65 ⟨Nat.le_of_ble_eq_true rfl, Nat.le_of_ble_eq_true rfl⟩ hI rfl hl.1 rfl (Nat.le_of_ble_eq_true rfl) dRows_isClear_19 ⟨Nat.zero_le _, Nat.zero_le _⟩ (fun r10 hr10 => ?_)
          obtain ⟨hr10, er10⟩ := hr10
          refine lv_if_ne (tgt := 27) hx hb dRows_isClear_22 (by decide) (fun c11 => ?_) (fun c11 => ?_)
          · obtain ⟨v12, ev12⟩ : ∃ y : Int32, y = i3 + 1 := ⟨_, rfl⟩
            refine lv_iinc (v := v12) (lv' := [(3, .int v12), (0, .ref a), (1, .int i1), (2, .int i2)]) hx hb dRows_isClear_27 hl (k := 3) rfl (by rw [ev12]; rfl) (by decide) rfl (fun ls hl => ?_)
            refine lv_goto (tgt := 2) hx hb dRows_isClear_30 (by decide) ?_
            exact ih2 _ (by have q1 : i3.toInt < 2147483647 := (by first | exact (mu_up (k := i3) (by assumption)).2 | assumption); have q2 := mu_lt q1; rw [← ev12] at q2; omega) ls i1 i2 v12 (by have hN : N2 = (2147483647 - v12.toInt).toNat + 1 := (by have q1 : i3.toInt < 2147483647 := (by first | exact (mu_up (k := i3) (by assumption)).2 | assumption); have q2 := mu_lt q1; rw [← ev12] at q2; omega); rw [← hN]; clear hN; subst ev12 er10 er9; exact hO.tr ((if_neg c7).trans ((if_neg c8).trans (if_neg c11)))) rfl (lv_sub hl [1, 2, 3, 0] rfl)
          · refine lv_iconst (v := 0) hx hb dRows_isClear_25 (by decide) ?_
            exact hE _ _ _ rfl ⟨trivial, (by subst er10 er9; exact (hO.tr ((if_neg c7).trans ((if_neg c8).trans (if_pos c11)))).symm)⟩ dRows_isClear_26
  refine lv_iconst (v := 0) hx hb dRows_isClear_0 (by decide) ?_
  refine lv_istore_n (lv' := [(3, .int 0), (0, .ref a), (1, .int x1), (2, .int x2)]) hx hb dRows_isClear_1 rfl hl (by decide) rfl (fun ls hl => ?_)
  exact J2 _ ls x1 x2 0 (by exact hO.tr rfl) rfl (lv_sub hl [1, 2, 3, 0] rfl)
theorem f10_Rows_isClear (l : Launch) (γ : gE) (A : Nat → Prop) (κ : Nat → Nat) (φ : gF) (ψ : gG) (x1 : Int32) (x2 : Int32)  : PU l yRows_isClear bRows_isClear 4 (some .boolean) 1 22 [.ref (γ.2.2.2 10), .int x1, .int x2] γ (INVF γ A κ φ ψ) (vp_Si (fun v : Int32 => (True) ∧ v = P_Rows_isClear (κ 10) (ψ 10) x1 x2)) :=
  puf_up 10 (by decide) (by decide) (fun Z => fc_Rows_isClear l γ Z (γ.2.2.2 10) (κ 10) (ψ 10) x1 x2)

def P_Rows_bitsOf_38 (M : Nat) (g : gg) (k5 : Int32 → Int32 → Int64 → Int32 → Int64) (i1 : Int32) (i2 : Int32) (j3 : Int64) (i5 : Int32) : Int64 := (k5 i1 i2 j3 (i5 + 1))
def P_Rows_bitsOf_5 (M : Nat) (g : gg) : Nat → Int32 → Int32 → Int64 → Int32 → Int64
  | 0, _, _, _, _ => default
  | n + 1, i1, i2, j3, i5 => (if i2 ≤ i5 then j3 else (if 64 ≤ i5 then j3 else (if (P_Logic_isHigh (P_Rows_get M g i1 i5)) = 0 then (P_Rows_bitsOf_38 M g (fun a0 a1 a2 a3 => P_Rows_bitsOf_5 M g  n a0 a1 a2 a3) i1 i2 j3 i5) else (P_Rows_bitsOf_38 M g (fun a0 a1 a2 a3 => P_Rows_bitsOf_5 M g  n a0 a1 a2 a3) i1 i2 (j3 ||| (1 <<< (i5.toInt64 &&& 63))) i5))))
def P_Rows_bitsOf (M : Nat) (g : gg) (x1 : Int32) (x2 : Int32) : Int64 := (P_Rows_bitsOf_5 M g  ((2147483647 - (0 : Int32).toInt).toNat + 1) x1 x2 0 0)
set_option maxHeartbeats 4000000 in
set_option maxRecDepth 100000 in
theorem fc_Rows_bitsOf (l : Launch) (γ : gE) (Z : Nat → Prop) (a M : Nat) (g : gg) (x1 : Int32) (x2 : Int32)  : PU l yRows_bitsOf bRows_bitsOf 6 (some .long) 1 22 [.ref a, .int x1, .int x2] γ (cmp γ (gRows γ a M g) Z) (vp_Sl (fun v : Int64 => (True) ∧ v = P_Rows_bitsOf M g x1 x2)) := by
  refine pu_openJ (by decide) (Nat.le_of_ble_eq_true rfl) ?_
  intro p e s m args below meth c ls Q S hC hI hE hl
  obtain ⟨hx, hb, hml, hown, hW⟩ := id S
  obtain ⟨ws, ⟨b0, rfl, h1, h2⟩, hP, hD⟩ := id hI
  have hP : va_P γ.1 vwCl [(a, .inr (5, [.ref b0])), (b0, .inl (γ.2.2.1, 4 * M, .inr (.inl g)))] s.heap := hP
  have hl : lv_has ls 6 [(0, .ref a), (1, .int x1), (2, .int x2)] := hl
  obtain ⟨OUT, hQ, hO⟩ : ∃ z, (z = P_Rows_bitsOf M g x1 x2) ∧ Oq z (P_Rows_bitsOf M g x1 x2) := ⟨_, rfl, rfl⟩
  rw [← hQ] at hE
  clear hQ
  have J5 : ∀ (N5 : Nat) (ls : Array Slot)  (i1 : Int32) (i2 : Int32) (j3 : Int64) (i5 : Int32), (Oq OUT (P_Rows_bitsOf_5 M g  (N5 + 1) i1 i2 j3 i5)) → (2147483647 - i5.toInt).toNat = N5 → lv_has ls 6 [(0, .ref a), (1, .int i1), (2, .int i2), (3, .long j3), (5, .int i5)] → W p l e (bs_rm 1 0 0 22) s m args below meth c s.heap [] 0 0 Q (F0 m 5 ls []) := by
    intro N5
    induction N5 using Nat.strongRecOn with
    | ind N5 ih5 =>
      intro ls  i1 i2 j3 i5 hO hm5 hl
      have J38 : ∀ (ls : Array Slot)  (i1 : Int32) (i2 : Int32) (j3 : Int64) (i5 : Int32), (i5.toInt < 2147483647 ∧ (2147483647 - i5.toInt).toNat = N5) → (Oq OUT (P_Rows_bitsOf_38 M g (fun a0 a1 a2 a3 => P_Rows_bitsOf_5 M g N5 a0 a1 a2 a3)  i1 i2 j3 i5)) → lv_has ls 6 [(0, .ref a), (1, .int i1), (2, .int i2), (3, .long j3), (5, .int i5)] → W p l e (bs_rm 1 0 0 22) s m args below meth c s.heap [] 0 0 Q (F0 m 38 ls []) := by
        intro ls  i1 i2 j3 i5 ⟨hf5a, hf5b⟩ hO hl
        obtain ⟨v9, ev9⟩ : ∃ y : Int32, y = i5 + 1 := ⟨_, rfl⟩
        refine lv_iinc (v := v9) (lv' := [(5, .int v9), (0, .ref a), (1, .int i1), (2, .int i2), (3, .long j3)]) hx hb dRows_bitsOf_38 hl (k := 4) rfl (by rw [ev9]; rfl) (by decide) rfl (fun ls hl => ?_)
        refine lv_goto (tgt := 5) hx hb dRows_bitsOf_41 (by decide) ?_
        exact ih5 _ (by have q1 : i5.toInt < 2147483647 := (by first | exact (mu_up (k := i5) (by assumption)).2 | assumption); have q2 := mu_lt q1; rw [← ev9] at q2; omega) ls i1 i2 j3 v9 (by have hN : N5 = (2147483647 - v9.toInt).toNat + 1 := (by have q1 : i5.toInt < 2147483647 := (by first | exact (mu_up (k := i5) (by assumption)).2 | assumption); have q2 := mu_lt q1; rw [← ev9] at q2; omega); rw [← hN]; clear hN; subst ev9; exact hO.tr rfl) rfl (lv_sub hl [1, 2, 3, 4, 0] rfl)
      refine lv_iload hx hb dRows_bitsOf_5 (lv_at hl 4 rfl) ?_
      refine lv_iload_n hx hb dRows_bitsOf_7 rfl (lv_at hl 2 rfl) ?_
      refine lv_icmp_ge (tgt := 44) hx hb dRows_bitsOf_8 (by decide) (fun c10 => ?_) (fun c10 => ?_)
      · refine lv_lload_n hx hb dRows_bitsOf_44 rfl (lv_at hl 3 rfl) ?_
        exact hE _ _ _ ⟨trivial, (by exact (hO.tr (if_pos c10)).symm)⟩ dRows_bitsOf_45
      · refine lv_iload hx hb dRows_bitsOf_11 (lv_at hl 4 rfl) ?_
        refine lv_bipush (v := 64) hx hb dRows_bitsOf_13 (by decide) ?_
        refine lv_icmp_ge (tgt := 44) hx hb dRows_bitsOf_15 (by decide) (fun c11 => ?_) (fun c11 => ?_)
        · refine lv_lload_n hx hb dRows_bitsOf_44 rfl (lv_at hl 3 rfl) ?_
          exact hE _ _ _ ⟨trivial, (by exact (hO.tr ((if_neg c10).trans (if_pos c11))).symm)⟩ dRows_bitsOf_45
        · refine lv_aload_n hx hb dRows_bitsOf_18 rfl (lv_at hl 0 rfl) ?_
          refine lv_iload_n hx hb dRows_bitsOf_19 rfl (lv_at hl 1 rfl) ?_
          refine lv_iload hx hb dRows_bitsOf_20 (lv_at hl 4 rfl) ?_
          refine pu_Vi (rest := []) S hC (fc_Rows_get l γ Z a M g i1 i5) meRows_get qw_f4898d707a ⟨Nat.le_of_ble_eq_true rfl, Nat.le_of_ble_eq_true rfl⟩ (va_recv hC.1 hP (ci := 5) (q0 := 0) rfl rfl) hI rfl hl.1 rfl (Nat.le_of_ble_eq_true rfl) dRows_bitsOf_22 ⟨Nat.zero_le _, Nat.zero_le _⟩ (fun r12 hr12 => ?_)
          obtain ⟨hr12, er12⟩ := hr12
          refine pu_Si (rest := []) S hC (f_Logic_isHigh l γ (cmp γ (gRows γ a M g) Z) r12) meLogic_isHigh qw_71b4d70101 ⟨Nat.le_of_ble_eq_true rfl, Nat.le_of_ble_eq_true rfl⟩ hI rfl hl.1 rfl (Nat.le_of_ble_eq_true rfl) dRows_bitsOf_25 ⟨Nat.zero_le _, Nat.zero_le _⟩ (fun r13 hr13 => ?_)
          obtain ⟨hr13, er13⟩ := hr13
          refine lv_if_eq (tgt := 38) hx hb dRows_bitsOf_28 (by decide) (fun c14 => ?_) (fun c14 => ?_)
          · exact J38 ls i1 i2 j3 i5 (by first | exact ⟨(mu_up (k := i5) (by assumption)).2, by assumption⟩ | exact ⟨by assumption, by assumption⟩) (by subst er13 er12; exact hO.tr ((if_neg c10).trans ((if_neg c11).trans (if_pos c14)))) (lv_sub hl [0, 1, 2, 3, 4] rfl)
          · refine lv_lload_n hx hb dRows_bitsOf_31 rfl (lv_at hl 3 rfl) ?_
            refine lv_lconst (v := 1) hx hb dRows_bitsOf_32 (by decide) ?_
            refine lv_iload hx hb dRows_bitsOf_33 (lv_at hl 4 rfl) ?_
            refine lv_lshl hx hb dRows_bitsOf_35 rfl ?_
            refine lv_topl (fun v15 ev15 => ?_)
            refine lv_lor hx hb dRows_bitsOf_36 ?_
            refine lv_topl (fun v16 ev16 => ?_)
            refine lv_lstore_n (lv' := [(3, .long v16), (0, .ref a), (1, .int i1), (2, .int i2), (5, .int i5)]) hx hb dRows_bitsOf_37 rfl hl (by decide) rfl (fun ls hl => ?_)
            exact J38 ls i1 i2 v16 i5 (by first | exact ⟨(mu_up (k := i5) (by assumption)).2, by assumption⟩ | exact ⟨by assumption, by assumption⟩) (by subst ev16 ev15 er13 er12; exact hO.tr ((if_neg c10).trans ((if_neg c11).trans (if_neg c14)))) (lv_sub hl [1, 2, 3, 0, 4] rfl)
  refine lv_lconst (v := 0) hx hb dRows_bitsOf_0 (by decide) ?_
  refine lv_lstore_n (lv' := [(3, .long 0), (0, .ref a), (1, .int x1), (2, .int x2)]) hx hb dRows_bitsOf_1 rfl hl (by decide) rfl (fun ls hl => ?_)
  refine lv_iconst (v := 0) hx hb dRows_bitsOf_2 (by decide) ?_
  refine lv_istore (lv' := [(5, .int 0), (3, .long 0), (0, .ref a), (1, .int x1), (2, .int x2)]) hx hb dRows_bitsOf_3 hl (by decide) rfl (fun ls hl => ?_)
  exact J5 _ ls x1 x2 0 0 (by exact hO.tr rfl) rfl (lv_sub hl [2, 3, 4, 1, 0] rfl)
theorem f10_Rows_bitsOf (l : Launch) (γ : gE) (A : Nat → Prop) (κ : Nat → Nat) (φ : gF) (ψ : gG) (x1 : Int32) (x2 : Int32)  : PU l yRows_bitsOf bRows_bitsOf 6 (some .long) 1 22 [.ref (γ.2.2.2 10), .int x1, .int x2] γ (INVF γ A κ φ ψ) (vp_Sl (fun v : Int64 => (True) ∧ v = P_Rows_bitsOf (κ 10) (ψ 10) x1 x2)) :=
  puf_up 10 (by decide) (by decide) (fun Z => fc_Rows_bitsOf l γ Z (γ.2.2.2 10) (κ 10) (ψ 10) x1 x2)

def P_Looker_isHidden_23 (κ : Nat → Nat) (φ : gF) (ψ : gG) (i1 : Int32) : Int32 := 1
def P_Looker_isHidden (κ : Nat → Nat) (φ : gF) (ψ : gG) (x1 : Int32) : Int32 := (if x1 < 0 then (P_Looker_isHidden_23 κ φ ψ  x1) else (if (nI (κ 15)) ≤ x1 then (P_Looker_isHidden_23 κ φ ψ  x1) else (if ((φ 1 0) x1.toNatClampNeg) = 1 then (P_Looker_isHidden_23 κ φ ψ  x1) else 0)))
set_option maxHeartbeats 4000000 in
set_option maxRecDepth 100000 in
theorem f_Looker_isHidden (l : Launch) (γ : gE) (A : Nat → Prop) (κ : Nat → Nat) (φ : gF) (ψ : gG) (x1 : Int32)  : PU l yLooker_isHidden bLooker_isHidden 2 (some .boolean) 0 0 [.ref (γ.2.2.2 8), .int x1] γ (INVF γ A κ φ ψ) (vp_Si (fun v : Int32 => (True) ∧ v = P_Looker_isHidden κ φ ψ x1)) := by
  refine pu_openZ (by decide) (Nat.le_of_ble_eq_true rfl) ?_
  intro p e s m args below meth c ls Q S hC hI hE hl
  obtain ⟨hx, hb, hml, hown, hW⟩ := id S
  have hG := hI
  have hI := inv_of hG
  obtain ⟨Zk, wk, ⟨bh, rfl, hk1, hk2⟩, hPk, hDk⟩ := ing_c hG 1 (by decide) (by decide)
  have hPk : va_P γ.1 vwCl [(γ.2.2.2 0, .inr (0, [.ref (γ.2.2.2 1), .ref (γ.2.2.2 2), .ref (γ.2.2.2 3), .ref (γ.2.2.2 4), .ref (γ.2.2.2 6), .ref (γ.2.2.2 8), .int (φ 1 1 0)])), (γ.2.2.2 8, .inr (7, [.ref (γ.2.2.2 1), .ref (γ.2.2.2 2), .ref (γ.2.2.2 3), .ref (γ.2.2.2 9), .ref (γ.2.2.2 11), .ref (γ.2.2.2 12), .ref bh, .int (φ 1 2 0)])), (γ.2.2.2 11, .inr (8, [.ref (γ.2.2.2 9)])), (γ.2.2.2 12, .inr (9, [.ref (γ.2.2.2 1), .ref (γ.2.2.2 2), .ref (γ.2.2.2 3), .ref (γ.2.2.2 4), .ref (γ.2.2.2 9)])), (bh, .inl (γ.2.1, κ 15, .inl (φ 1 0)))] s.heap := hPk
  have hl : lv_has ls 2 [(0, .ref (γ.2.2.2 8)), (1, .int x1)] := hl
  obtain ⟨OUT, hQ, hO⟩ : ∃ z, (z = P_Looker_isHidden κ φ ψ x1) ∧ Oq z (P_Looker_isHidden κ φ ψ x1) := ⟨_, rfl, rfl⟩
  rw [← hQ] at hE
  clear hQ
  have J23 : ∀ (ls : Array Slot)  (i1 : Int32), (Oq OUT (P_Looker_isHidden_23 κ φ ψ   i1)) → lv_has ls 2 [(0, .ref (γ.2.2.2 8)), (1, .int i1)] → W p l e (bs_rm 0 0 0 0) s m args below meth c s.heap [] 0 0 Q (F0 m 23 ls []) := by
    intro ls  i1 hO hl
    refine lv_iconst (v := 1) hx hb dLooker_isHidden_23 (by decide) ?_
    refine lv_goto (tgt := 28) hx hb dLooker_isHidden_24 (by decide) ?_
    exact hE _ _ _ rfl ⟨trivial, (by exact (hO.tr rfl).symm)⟩ dLooker_isHidden_28
  refine lv_iload_n hx hb dLooker_isHidden_0 rfl (lv_at hl 1 rfl) ?_
  refine lv_if_lt (tgt := 23) hx hb dLooker_isHidden_1 (by decide) (fun c6 => ?_) (fun c6 => ?_)
  · exact J23 ls x1 (by exact hO.tr (if_pos c6)) (lv_sub hl [0, 1] rfl)
  · refine lv_iload_n hx hb dLooker_isHidden_4 rfl (lv_at hl 1 rfl) ?_
    refine lv_aload_n hx hb dLooker_isHidden_5 rfl (lv_at hl 0 rfl) ?_
    refine va_get (D := γ.1) (ci := 7) (v := .ref bh) (C := R_Looker) (T := T_Looker) (N := 8) (Ts := bs_W0) hx hb hW in_Looker hown hC.1 hPk 1 rfl rfl 6 (by decide) (hW _ qw_899a0812ea) (fun _ h9 => h9) rfl dLooker_isHidden_6 ?_
    refine va_alen hx hb hC.1 hPk 4 0 rfl rfl rfl dLooker_isHidden_9 ?_
    refine lv_topi (fun v7 ev7 => ?_)
    have ev7 : v7 = nI (κ 15) := ev7
    refine lv_icmp_ge (tgt := 23) hx hb dLooker_isHidden_10 (by decide) (fun c8 => ?_) (fun c8 => ?_)
    · exact J23 ls x1 (by subst ev7; exact hO.tr ((if_neg c6).trans (if_pos c8))) (lv_sub hl [0, 1] rfl)
    · refine lv_aload_n hx hb dLooker_isHidden_13 rfl (lv_at hl 0 rfl) ?_
      refine va_get (D := γ.1) (ci := 7) (v := .ref bh) (C := R_Looker) (T := T_Looker) (N := 8) (Ts := bs_W0) hx hb hW in_Looker hown hC.1 hPk 1 rfl rfl 6 (by decide) (hW _ qw_899a0812ea) (fun _ h9 => h9) rfl dLooker_isHidden_14 ?_
      refine lv_iload_n hx hb dLooker_isHidden_17 rfl (lv_at hl 1 rfl) ?_
      refine va_iald hx hb hC.1 hPk 4 0 rfl rfl (by subst_vars; exact in_cmp (by assumption) (by assumption) (by omega)) dLooker_isHidden_18 ?_
      refine lv_topi (fun v9 ev9 => ?_)
      refine lv_iconst (v := 1) hx hb dLooker_isHidden_19 (by decide) ?_
      refine lv_icmp_ne (tgt := 27) hx hb dLooker_isHidden_20 (by decide) (fun c10 => ?_) (fun c10 => ?_)
      · refine lv_iconst (v := 0) hx hb dLooker_isHidden_27 (by decide) ?_
        exact hE _ _ _ rfl ⟨trivial, (by subst ev9 ev7; exact (hO.tr ((if_neg c6).trans ((if_neg c8).trans (if_neg c10)))).symm)⟩ dLooker_isHidden_28
      · exact J23 ls x1 (by subst ev9 ev7; exact hO.tr ((if_neg c6).trans ((if_neg c8).trans (if_pos c10)))) (lv_sub hl [0, 1] rfl)

def P_Looker_isOperator (κ : Nat → Nat) (φ : gF) (ψ : gG) (x1 : Int32) (x2 : Int32) (x3 : Int32) : Int32 := (if (P_Trees_countOf (κ 0) (κ 1) (κ 11) (φ 2) x1) = x2 then (if (P_Trees_valueOf (κ 0) (κ 1) (κ 11) (φ 2) x1) < 0 then 0 else (if x3 < (P_Trees_valueOf (κ 0) (κ 1) (κ 11) (φ 2) x1) then 0 else 1)) else 0)
set_option maxHeartbeats 4000000 in
set_option maxRecDepth 100000 in
theorem f_Looker_isOperator (l : Launch) (γ : gE) (A : Nat → Prop) (κ : Nat → Nat) (φ : gF) (ψ : gG) (x1 : Int32) (x2 : Int32) (x3 : Int32)  : PU l yLooker_isOperator bLooker_isOperator 5 (some .boolean) 2 42 [.ref (γ.2.2.2 8), .int x1, .int x2, .int x3] γ (INVF γ A κ φ ψ) (vp_Si (fun v : Int32 => (True) ∧ v = P_Looker_isOperator κ φ ψ x1 x2 x3)) := by
  refine pu_openZ (by decide) (Nat.le_of_ble_eq_true rfl) ?_
  intro p e s m args below meth c ls Q S hC hI hE hl
  obtain ⟨hx, hb, hml, hown, hW⟩ := id S
  have hG := hI
  have hI := inv_of hG
  have hl : lv_has ls 5 [(0, .ref (γ.2.2.2 8)), (1, .int x1), (2, .int x2), (3, .int x3)] := hl
  obtain ⟨OUT, hQ, hO⟩ : ∃ z, (z = P_Looker_isOperator κ φ ψ x1 x2 x3) ∧ Oq z (P_Looker_isOperator κ φ ψ x1 x2 x3) := ⟨_, rfl, rfl⟩
  rw [← hQ] at hE
  clear hQ
  refine lv_aload_n hx hb dLooker_isOperator_0 rfl (lv_at hl 0 rfl) ?_
  refine of_get S hC (of_8_0 hI) in_Looker rfl (by decide) qw_22d2793f25 dLooker_isOperator_1 ?_
  refine lv_iload_n hx hb dLooker_isOperator_4 rfl (lv_at hl 1 rfl) ?_
  refine pu_Vi (rest := []) S hC (f1_Trees_valueOf l γ A κ φ ψ x1) meTrees_valueOf qw_ea9162cf9a ⟨Nat.le_of_ble_eq_true rfl, Nat.le_of_ble_eq_true rfl⟩ (rv_1 hC hI) hG rfl hl.1 rfl (Nat.le_of_ble_eq_true rfl) dLooker_isOperator_5 ⟨Nat.zero_le _, Nat.zero_le _⟩ (fun r6 hr6 => ?_)
  obtain ⟨hr6, er6⟩ := hr6
  refine lv_istore (lv' := [(4, .int r6), (0, .ref (γ.2.2.2 8)), (1, .int x1), (2, .int x2), (3, .int x3)]) hx hb dLooker_isOperator_8 hl (by decide) rfl (fun ls hl => ?_)
  refine lv_aload_n hx hb dLooker_isOperator_10 rfl (lv_at hl 1 rfl) ?_
  refine of_get S hC (of_8_0 hI) in_Looker rfl (by decide) qw_22d2793f25 dLooker_isOperator_11 ?_
  refine lv_iload_n hx hb dLooker_isOperator_14 rfl (lv_at hl 2 rfl) ?_
  refine pu_Vi (rest := []) S hC (f1_Trees_countOf l γ A κ φ ψ x1) meTrees_countOf qw_195048702c ⟨Nat.le_of_ble_eq_true rfl, Nat.le_of_ble_eq_true rfl⟩ (rv_1 hC hI) hG rfl hl.1 rfl (Nat.le_of_ble_eq_true rfl) dLooker_isOperator_15 ⟨Nat.zero_le _, Nat.zero_le _⟩ (fun r7 hr7 => ?_)
  obtain ⟨hr7, er7⟩ := hr7
  refine lv_iload_n hx hb dLooker_isOperator_18 rfl (lv_at hl 3 rfl) ?_
  refine lv_icmp_ne (tgt := 37) hx hb dLooker_isOperator_19 (by decide) (fun c8 => ?_) (fun c8 => ?_)
  · refine lv_iconst (v := 0) hx hb dLooker_isOperator_37 (by decide) ?_
    exact hE _ _ _ rfl ⟨trivial, (by subst er7 er6; exact (hO.tr (if_neg c8)).symm)⟩ dLooker_isOperator_38
  · refine lv_iload hx hb dLooker_isOperator_22 (lv_at hl 0 rfl) ?_
    refine lv_if_lt (tgt := 37) hx hb dLooker_isOperator_24 (by decide) (fun c9 => ?_) (fun c9 => ?_)
    · refine lv_iconst (v := 0) hx hb dLooker_isOperator_37 (by decide) ?_
      exact hE _ _ _ rfl ⟨trivial, (by subst er7 er6; exact (hO.tr ((if_pos c8).trans (if_pos c9))).symm)⟩ dLooker_isOperator_38
    · refine lv_iload hx hb dLooker_isOperator_27 (lv_at hl 0 rfl) ?_
      refine lv_iload_n hx hb dLooker_isOperator_29 rfl (lv_at hl 4 rfl) ?_
      refine lv_icmp_gt (tgt := 37) hx hb dLooker_isOperator_30 (by decide) (fun c10 => ?_) (fun c10 => ?_)
      · refine lv_iconst (v := 0) hx hb dLooker_isOperator_37 (by decide) ?_
        exact hE _ _ _ rfl ⟨trivial, (by subst er7 er6; exact (hO.tr ((if_pos c8).trans ((if_neg c9).trans (if_pos c10)))).symm)⟩ dLooker_isOperator_38
      · refine lv_iconst (v := 1) hx hb dLooker_isOperator_33 (by decide) ?_
        refine lv_goto (tgt := 38) hx hb dLooker_isOperator_34 (by decide) ?_
        exact hE _ _ _ rfl ⟨trivial, (by subst er7 er6; exact (hO.tr ((if_pos c8).trans ((if_neg c9).trans (if_neg c10)))).symm)⟩ dLooker_isOperator_38

def P_Looker_classMisfit_51 (κ : Nat → Nat) (φ : gF) (ψ : gG) (i1 : Int32) (i2 : Int32) (i3 : Int32) (i4 : Int32) : Int32 := (if i3 = 3 then (if i4 = 0 then 0 else (if i4 = (P_Types_extentOf (κ 4) (κ 13) (φ 4) i2) then 0 else 4)) else 0)
def P_Looker_classMisfit (κ : Nat → Nat) (φ : gF) (ψ : gG) (x1 : Int32) (x2 : Int32) : Int32 := (if (P_Looks_classOf (κ 7) (φ 9) x1) = (P_Types_classOf (κ 4) (κ 13) (φ 4) x2) then (if (P_Looks_classOf (κ 7) (φ 9) x1) = 4 then (if (P_Looks_extentOf (κ 7) (φ 9) x1) = (P_Types_extentOf (κ 4) (κ 13) (φ 4) x2) then (P_Looker_classMisfit_51 κ φ ψ  x1 x2 (P_Looks_classOf (κ 7) (φ 9) x1) (P_Looks_extentOf (κ 7) (φ 9) x1)) else 3) else (P_Looker_classMisfit_51 κ φ ψ  x1 x2 (P_Looks_classOf (κ 7) (φ 9) x1) (P_Looks_extentOf (κ 7) (φ 9) x1))) else 3)
set_option maxHeartbeats 4000000 in
set_option maxRecDepth 100000 in
theorem f_Looker_classMisfit (l : Launch) (γ : gE) (A : Nat → Prop) (κ : Nat → Nat) (φ : gF) (ψ : gG) (x1 : Int32) (x2 : Int32)  : PU l yLooker_classMisfit bLooker_classMisfit 5 (some .int) 3 64 [.ref (γ.2.2.2 8), .int x1, .int x2] γ (INVF γ A κ φ ψ) (vp_Si (fun v : Int32 => (True) ∧ v = P_Looker_classMisfit κ φ ψ x1 x2)) := by
  refine pu_openI (by decide) (Nat.le_of_ble_eq_true rfl) ?_
  intro p e s m args below meth c ls Q S hC hI hE hl
  obtain ⟨hx, hb, hml, hown, hW⟩ := id S
  have hG := hI
  have hI := inv_of hG
  have hl : lv_has ls 5 [(0, .ref (γ.2.2.2 8)), (1, .int x1), (2, .int x2)] := hl
  obtain ⟨OUT, hQ, hO⟩ : ∃ z, (z = P_Looker_classMisfit κ φ ψ x1 x2) ∧ Oq z (P_Looker_classMisfit κ φ ψ x1 x2) := ⟨_, rfl, rfl⟩
  rw [← hQ] at hE
  clear hQ
  have J51 : ∀ (ls : Array Slot)  (i1 : Int32) (i2 : Int32) (i3 : Int32) (i4 : Int32), (Oq OUT (P_Looker_classMisfit_51 κ φ ψ   i1 i2 i3 i4)) → lv_has ls 5 [(0, .ref (γ.2.2.2 8)), (1, .int i1), (2, .int i2), (3, .int i3), (4, .int i4)] → W p l e (bs_rm 3 0 0 64) s m args below meth c s.heap [] 0 0 Q (F0 m 51 ls []) := by
    intro ls  i1 i2 i3 i4 hO hl
    refine lv_iload_n hx hb dLooker_classMisfit_51 rfl (lv_at hl 3 rfl) ?_
    refine lv_iconst (v := 3) hx hb dLooker_classMisfit_52 (by decide) ?_
    refine lv_icmp_ne (tgt := 78) hx hb dLooker_classMisfit_53 (by decide) (fun c12 => ?_) (fun c12 => ?_)
    · refine lv_iconst (v := 0) hx hb dLooker_classMisfit_78 (by decide) ?_
      exact hE _ _ _ ⟨trivial, (by exact (hO.tr (if_neg c12)).symm)⟩ dLooker_classMisfit_79
    · refine lv_iload hx hb dLooker_classMisfit_56 (lv_at hl 4 rfl) ?_
      refine lv_if_eq (tgt := 78) hx hb dLooker_classMisfit_58 (by decide) (fun c13 => ?_) (fun c13 => ?_)
      · refine lv_iconst (v := 0) hx hb dLooker_classMisfit_78 (by decide) ?_
        exact hE _ _ _ ⟨trivial, (by exact (hO.tr ((if_pos c12).trans (if_pos c13))).symm)⟩ dLooker_classMisfit_79
      · refine lv_iload hx hb dLooker_classMisfit_61 (lv_at hl 4 rfl) ?_
        refine lv_aload_n hx hb dLooker_classMisfit_63 rfl (lv_at hl 0 rfl) ?_
        refine of_get S hC (of_8_2 hI) in_Looker rfl (by decide) qw_abb87946e7 dLooker_classMisfit_64 ?_
        refine lv_iload_n hx hb dLooker_classMisfit_67 rfl (lv_at hl 2 rfl) ?_
        refine pu_Vi (rest := [.int i4]) S hC (f3_Types_extentOf l γ A κ φ ψ i2) meTypes_extentOf qw_a6b1bdd3ae ⟨Nat.le_of_ble_eq_true rfl, Nat.le_of_ble_eq_true rfl⟩ (rv_3 hC hI) hG rfl hl.1 rfl (Nat.le_of_ble_eq_true rfl) dLooker_classMisfit_68 ⟨Nat.zero_le _, Nat.zero_le _⟩ (fun r14 hr14 => ?_)
        obtain ⟨hr14, er14⟩ := hr14
        refine lv_icmp_eq (tgt := 78) hx hb dLooker_classMisfit_71 (by decide) (fun c15 => ?_) (fun c15 => ?_)
        · refine lv_iconst (v := 0) hx hb dLooker_classMisfit_78 (by decide) ?_
          exact hE _ _ _ ⟨trivial, (by subst er14; exact (hO.tr ((if_pos c12).trans ((if_neg c13).trans (if_pos c15)))).symm)⟩ dLooker_classMisfit_79
        · refine lv_iconst (v := 4) hx hb dLooker_classMisfit_74 (by decide) ?_
          refine lv_goto (tgt := 79) hx hb dLooker_classMisfit_75 (by decide) ?_
          exact hE _ _ _ ⟨trivial, (by subst er14; exact (hO.tr ((if_pos c12).trans ((if_neg c13).trans (if_neg c15)))).symm)⟩ dLooker_classMisfit_79
  refine lv_aload_n hx hb dLooker_classMisfit_0 rfl (lv_at hl 0 rfl) ?_
  refine of_get S hC (of_8_3 hI) in_Looker rfl (by decide) qw_77aeadf252 dLooker_classMisfit_1 ?_
  refine lv_iload_n hx hb dLooker_classMisfit_4 rfl (lv_at hl 1 rfl) ?_
  refine pu_Vi (rest := []) S hC (f9_Looks_classOf l γ A κ φ ψ x1) meLooks_classOf qw_f23e8ec7f8 ⟨Nat.le_of_ble_eq_true rfl, Nat.le_of_ble_eq_true rfl⟩ (rv_9 hC hI) hG rfl hl.1 rfl (Nat.le_of_ble_eq_true rfl) dLooker_classMisfit_5 ⟨Nat.zero_le _, Nat.zero_le _⟩ (fun r16 hr16 => ?_)
  obtain ⟨hr16, er16⟩ := hr16
  refine lv_istore_n (lv' := [(3, .int r16), (0, .ref (γ.2.2.2 8)), (1, .int x1), (2, .int x2)]) hx hb dLooker_classMisfit_8 rfl hl (by decide) rfl (fun ls hl => ?_)
  refine lv_aload_n hx hb dLooker_classMisfit_9 rfl (lv_at hl 1 rfl) ?_
  refine of_get S hC (of_8_3 hI) in_Looker rfl (by decide) qw_77aeadf252 dLooker_classMisfit_10 ?_
  refine lv_iload_n hx hb dLooker_classMisfit_13 rfl (lv_at hl 2 rfl) ?_
  refine pu_Vi (rest := []) S hC (f9_Looks_extentOf l γ A κ φ ψ x1) meLooks_extentOf qw_a593f61add ⟨Nat.le_of_ble_eq_true rfl, Nat.le_of_ble_eq_true rfl⟩ (rv_9 hC hI) hG rfl hl.1 rfl (Nat.le_of_ble_eq_true rfl) dLooker_classMisfit_14 ⟨Nat.zero_le _, Nat.zero_le _⟩ (fun r17 hr17 => ?_)
  obtain ⟨hr17, er17⟩ := hr17
  refine lv_istore (lv' := [(4, .int r17), (3, .int r16), (0, .ref (γ.2.2.2 8)), (1, .int x1), (2, .int x2)]) hx hb dLooker_classMisfit_17 hl (by decide) rfl (fun ls hl => ?_)
  refine lv_iload_n hx hb dLooker_classMisfit_19 rfl (lv_at hl 1 rfl) ?_
  refine lv_aload_n hx hb dLooker_classMisfit_20 rfl (lv_at hl 2 rfl) ?_
  refine of_get S hC (of_8_2 hI) in_Looker rfl (by decide) qw_abb87946e7 dLooker_classMisfit_21 ?_
  refine lv_iload_n hx hb dLooker_classMisfit_24 rfl (lv_at hl 4 rfl) ?_
  refine pu_Vi (rest := [.int r16]) S hC (f3_Types_classOf l γ A κ φ ψ x2) meTypes_classOf qw_80ac4113df ⟨Nat.le_of_ble_eq_true rfl, Nat.le_of_ble_eq_true rfl⟩ (rv_3 hC hI) hG rfl hl.1 rfl (Nat.le_of_ble_eq_true rfl) dLooker_classMisfit_25 ⟨Nat.zero_le _, Nat.zero_le _⟩ (fun r18 hr18 => ?_)
  obtain ⟨hr18, er18⟩ := hr18
  refine lv_icmp_ne (tgt := 49) hx hb dLooker_classMisfit_28 (by decide) (fun c19 => ?_) (fun c19 => ?_)
  · refine lv_iconst (v := 3) hx hb dLooker_classMisfit_49 (by decide) ?_
    exact hE _ _ _ ⟨trivial, (by subst er18 er17 er16; exact (hO.tr (if_neg c19)).symm)⟩ dLooker_classMisfit_50
  · refine lv_iload_n hx hb dLooker_classMisfit_31 rfl (lv_at hl 1 rfl) ?_
    refine lv_iconst (v := 4) hx hb dLooker_classMisfit_32 (by decide) ?_
    refine lv_icmp_ne (tgt := 51) hx hb dLooker_classMisfit_33 (by decide) (fun c20 => ?_) (fun c20 => ?_)
    · exact J51 ls x1 x2 r16 r17 (by subst er18 er17 er16; exact hO.tr ((if_pos c19).trans (if_neg c20))) (lv_sub hl [2, 3, 4, 1, 0] rfl)
    · refine lv_iload hx hb dLooker_classMisfit_36 (lv_at hl 0 rfl) ?_
      refine lv_aload_n hx hb dLooker_classMisfit_38 rfl (lv_at hl 2 rfl) ?_
      refine of_get S hC (of_8_2 hI) in_Looker rfl (by decide) qw_abb87946e7 dLooker_classMisfit_39 ?_
      refine lv_iload_n hx hb dLooker_classMisfit_42 rfl (lv_at hl 4 rfl) ?_
      refine pu_Vi (rest := [.int r17]) S hC (f3_Types_extentOf l γ A κ φ ψ x2) meTypes_extentOf qw_a6b1bdd3ae ⟨Nat.le_of_ble_eq_true rfl, Nat.le_of_ble_eq_true rfl⟩ (rv_3 hC hI) hG rfl hl.1 rfl (Nat.le_of_ble_eq_true rfl) dLooker_classMisfit_43 ⟨Nat.zero_le _, Nat.zero_le _⟩ (fun r21 hr21 => ?_)
      obtain ⟨hr21, er21⟩ := hr21
      refine lv_icmp_eq (tgt := 51) hx hb dLooker_classMisfit_46 (by decide) (fun c22 => ?_) (fun c22 => ?_)
      · exact J51 ls x1 x2 r16 r17 (by subst er21 er18 er17 er16; exact hO.tr ((if_pos c19).trans ((if_pos c20).trans (if_pos c22)))) (lv_sub hl [2, 3, 4, 1, 0] rfl)
      · refine lv_iconst (v := 3) hx hb dLooker_classMisfit_49 (by decide) ?_
        exact hE _ _ _ ⟨trivial, (by subst er21 er18 er17 er16; exact (hO.tr ((if_pos c19).trans ((if_pos c20).trans (if_neg c22)))).symm)⟩ dLooker_classMisfit_50
def P_Looker_isOutside_56 (κ : Nat → Nat) (φ : gF) (ψ : gG) (i1 : Int32) (i2 : Int32) (i3 : Int32) : Int32 := 1
def P_Looker_isOutside (κ : Nat → Nat) (φ : gF) (ψ : gG) (x1 : Int32) (x2 : Int32) : Int32 := (if (P_Looks_classOf (κ 7) (φ 9) x1) = 2 then (if (P_Looks_isFixed (κ 7) (φ 9) x1) = 0 then 0 else (if (P_Looks_numberOf (κ 7) (φ 9) x1) < (P_Types_leftOf (κ 4) (κ 13) (φ 4) x2) then (P_Looker_isOutside_56 κ φ ψ  x1 x2 (P_Looks_numberOf (κ 7) (φ 9) x1)) else (if (P_Looks_numberOf (κ 7) (φ 9) x1) ≤ (P_Types_rightOf (κ 4) (κ 13) (φ 4) x2) then 0 else (P_Looker_isOutside_56 κ φ ψ  x1 x2 (P_Looks_numberOf (κ 7) (φ 9) x1))))) else 0)
set_option maxHeartbeats 4000000 in
set_option maxRecDepth 100000 in
theorem f_Looker_isOutside (l : Launch) (γ : gE) (A : Nat → Prop) (κ : Nat → Nat) (φ : gF) (ψ : gG) (x1 : Int32) (x2 : Int32)  : PU l yLooker_isOutside bLooker_isOutside 4 (some .boolean) 2 42 [.ref (γ.2.2.2 8), .int x1, .int x2] γ (INVF γ A κ φ ψ) (vp_Si (fun v : Int32 => (True) ∧ v = P_Looker_isOutside κ φ ψ x1 x2)) := by
  refine pu_openZ (by decide) (Nat.le_of_ble_eq_true rfl) ?_
  intro p e s m args below meth c ls Q S hC hI hE hl
  obtain ⟨hx, hb, hml, hown, hW⟩ := id S
  have hG := hI
  have hI := inv_of hG
  have hl : lv_has ls 4 [(0, .ref (γ.2.2.2 8)), (1, .int x1), (2, .int x2)] := hl
  obtain ⟨OUT, hQ, hO⟩ : ∃ z, (z = P_Looker_isOutside κ φ ψ x1 x2) ∧ Oq z (P_Looker_isOutside κ φ ψ x1 x2) := ⟨_, rfl, rfl⟩
  rw [← hQ] at hE
  clear hQ
  have J56 : ∀ (ls : Array Slot)  (i1 : Int32) (i2 : Int32) (i3 : Int32), (Oq OUT (P_Looker_isOutside_56 κ φ ψ   i1 i2 i3)) → lv_has ls 4 [(0, .ref (γ.2.2.2 8)), (1, .int i1), (2, .int i2), (3, .int i3)] → W p l e (bs_rm 2 0 0 42) s m args below meth c s.heap [] 0 0 Q (F0 m 56 ls []) := by
    intro ls  i1 i2 i3 hO hl
    refine lv_iconst (v := 1) hx hb dLooker_isOutside_56 (by decide) ?_
    refine lv_goto (tgt := 61) hx hb dLooker_isOutside_57 (by decide) ?_
    exact hE _ _ _ rfl ⟨trivial, (by exact (hO.tr rfl).symm)⟩ dLooker_isOutside_61
  refine lv_aload_n hx hb dLooker_isOutside_0 rfl (lv_at hl 0 rfl) ?_
  refine of_get S hC (of_8_3 hI) in_Looker rfl (by decide) qw_77aeadf252 dLooker_isOutside_1 ?_
  refine lv_iload_n hx hb dLooker_isOutside_4 rfl (lv_at hl 1 rfl) ?_
  refine pu_Vi (rest := []) S hC (f9_Looks_numberOf l γ A κ φ ψ x1) meLooks_numberOf qw_7e695d47da ⟨Nat.le_of_ble_eq_true rfl, Nat.le_of_ble_eq_true rfl⟩ (rv_9 hC hI) hG rfl hl.1 rfl (Nat.le_of_ble_eq_true rfl) dLooker_isOutside_5 ⟨Nat.zero_le _, Nat.zero_le _⟩ (fun r10 hr10 => ?_)
  obtain ⟨hr10, er10⟩ := hr10
  refine lv_istore_n (lv' := [(3, .int r10), (0, .ref (γ.2.2.2 8)), (1, .int x1), (2, .int x2)]) hx hb dLooker_isOutside_8 rfl hl (by decide) rfl (fun ls hl => ?_)
  refine lv_aload_n hx hb dLooker_isOutside_9 rfl (lv_at hl 1 rfl) ?_
  refine of_get S hC (of_8_3 hI) in_Looker rfl (by decide) qw_77aeadf252 dLooker_isOutside_10 ?_
  refine lv_iload_n hx hb dLooker_isOutside_13 rfl (lv_at hl 2 rfl) ?_
  refine pu_Vi (rest := []) S hC (f9_Looks_classOf l γ A κ φ ψ x1) meLooks_classOf qw_f23e8ec7f8 ⟨Nat.le_of_ble_eq_true rfl, Nat.le_of_ble_eq_true rfl⟩ (rv_9 hC hI) hG rfl hl.1 rfl (Nat.le_of_ble_eq_true rfl) dLooker_isOutside_14 ⟨Nat.zero_le _, Nat.zero_le _⟩ (fun r11 hr11 => ?_)
  obtain ⟨hr11, er11⟩ := hr11
  refine lv_iconst (v := 2) hx hb dLooker_isOutside_17 (by decide) ?_
  refine lv_icmp_ne (tgt := 60) hx hb dLooker_isOutside_18 (by decide) (fun c12 => ?_) (fun c12 => ?_)
  · refine lv_iconst (v := 0) hx hb dLooker_isOutside_60 (by decide) ?_
    exact hE _ _ _ rfl ⟨trivial, (by subst er11 er10; exact (hO.tr (if_neg c12)).symm)⟩ dLooker_isOutside_61
  · refine lv_aload_n hx hb dLooker_isOutside_21 rfl (lv_at hl 1 rfl) ?_
    refine of_get S hC (of_8_3 hI) in_Looker rfl (by decide) qw_77aeadf252 dLooker_isOutside_22 ?_
    refine lv_iload_n hx hb dLooker_isOutside_25 rfl (lv_at hl 2 rfl) ?_
    refine pu_Vi (rest := []) S hC (f9_Looks_isFixed l γ A κ φ ψ x1) meLooks_isFixed qw_3ab14e380a ⟨Nat.le_of_ble_eq_true rfl, Nat.le_of_ble_eq_true rfl⟩ (rv_9 hC hI) hG rfl hl.1 rfl (Nat.le_of_ble_eq_true rfl) dLooker_isOutside_26 ⟨Nat.zero_le _, Nat.zero_le _⟩ (fun r13 hr13 => ?_)
    obtain ⟨hr13, er13⟩ := hr13
    refine lv_if_eq (tgt := 60) hx hb dLooker_isOutside_29 (by decide) (fun c14 => ?_) (fun c14 => ?_)
    · refine lv_iconst (v := 0) hx hb dLooker_isOutside_60 (by decide) ?_
      exact hE _ _ _ rfl ⟨trivial, (by subst er13 er11 er10; exact (hO.tr ((if_pos c12).trans (if_pos c14))).symm)⟩ dLooker_isOutside_61
    · refine lv_iload_n hx hb dLooker_isOutside_32 rfl (lv_at hl 0 rfl) ?_
      refine lv_aload_n hx hb dLooker_isOutside_33 rfl (lv_at hl 1 rfl) ?_
      refine of_get S hC (of_8_2 hI) in_Looker rfl (by decide) qw_abb87946e7 dLooker_isOutside_34 ?_
      refine lv_iload_n hx hb dLooker_isOutside_37 rfl (lv_at hl 3 rfl) ?_
      refine pu_Vi (rest := [.int r10]) S hC (f3_Types_leftOf l γ A κ φ ψ x2) meTypes_leftOf qw_6a2da56b19 ⟨Nat.le_of_ble_eq_true rfl, Nat.le_of_ble_eq_true rfl⟩ (rv_3 hC hI) hG rfl hl.1 rfl (Nat.le_of_ble_eq_true rfl) dLooker_isOutside_38 ⟨Nat.zero_le _, Nat.zero_le _⟩ (fun r15 hr15 => ?_)
      obtain ⟨hr15, er15⟩ := hr15
      refine lv_icmp_lt (tgt := 56) hx hb dLooker_isOutside_41 (by decide) (fun c16 => ?_) (fun c16 => ?_)
      · exact J56 ls x1 x2 r10 (by subst er15 er13 er11 er10; exact hO.tr ((if_pos c12).trans ((if_neg c14).trans (if_pos c16)))) (lv_sub hl [1, 2, 3, 0] rfl)
      · refine lv_iload_n hx hb dLooker_isOutside_44 rfl (lv_at hl 0 rfl) ?_
        refine lv_aload_n hx hb dLooker_isOutside_45 rfl (lv_at hl 1 rfl) ?_
        refine of_get S hC (of_8_2 hI) in_Looker rfl (by decide) qw_abb87946e7 dLooker_isOutside_46 ?_
        refine lv_iload_n hx hb dLooker_isOutside_49 rfl (lv_at hl 3 rfl) ?_
        refine pu_Vi (rest := [.int r10]) S hC (f3_Types_rightOf l γ A κ φ ψ x2) meTypes_rightOf qw_860591b8df ⟨Nat.le_of_ble_eq_true rfl, Nat.le_of_ble_eq_true rfl⟩ (rv_3 hC hI) hG rfl hl.1 rfl (Nat.le_of_ble_eq_true rfl) dLooker_isOutside_50 ⟨Nat.zero_le _, Nat.zero_le _⟩ (fun r17 hr17 => ?_)
        obtain ⟨hr17, er17⟩ := hr17
        refine lv_icmp_le (tgt := 60) hx hb dLooker_isOutside_53 (by decide) (fun c18 => ?_) (fun c18 => ?_)
        · refine lv_iconst (v := 0) hx hb dLooker_isOutside_60 (by decide) ?_
          exact hE _ _ _ rfl ⟨trivial, (by subst er17 er15 er13 er11 er10; exact (hO.tr ((if_pos c12).trans ((if_neg c14).trans ((if_neg c16).trans (if_pos c18))))).symm)⟩ dLooker_isOutside_61
        · exact J56 ls x1 x2 r10 (by subst er17 er15 er13 er11 er10; exact hO.tr ((if_pos c12).trans ((if_neg c14).trans ((if_neg c16).trans (if_neg c18))))) (lv_sub hl [1, 2, 3, 0] rfl)

def P_Looker_judge_82 (κ : Nat → Nat) (φ : gF) (ψ : gG) (i1 : Int32) (i2 : Int32) (i3 : Int32) (i4 : Int32) (i5 : Int32) : Int32 := (P_Looker_earlier i1 i5)
def P_Looker_judge_55 (κ : Nat → Nat) (φ : gF) (ψ : gG) (i1 : Int32) (i2 : Int32) (i3 : Int32) (i4 : Int32) (i5 : Int32) : Int32 := (if i3 = (-1) then (P_Looker_judge_82 κ φ ψ  i1 i2 i3 i4 i5) else (if i1 = 0 then (if (P_Looker_isOutside κ φ ψ i2 i3) = 0 then (P_Looker_judge_82 κ φ ψ  i1 i2 i3 i4 i5) else (P_Looker_judge_82 κ φ ψ  i1 i2 i3 i4 (P_Looker_earlier i5 8))) else (P_Looker_judge_82 κ φ ψ  i1 i2 i3 i4 i5)))
def P_Looker_judge_35 (κ : Nat → Nat) (φ : gF) (ψ : gG) (i1 : Int32) (i2 : Int32) (i3 : Int32) (i4 : Int32) (t0 : Int32) : Int32 := (if i3 = (-1) then (P_Looker_judge_55 κ φ ψ  i1 i2 i3 i4 t0) else (P_Looker_judge_55 κ φ ψ  i1 i2 i3 i4 (P_Looker_earlier (P_Looker_classMisfit κ φ ψ i2 i3) t0)))
def P_Looker_judge_34 (κ : Nat → Nat) (φ : gF) (ψ : gG) (i1 : Int32) (i2 : Int32) (i3 : Int32) (i4 : Int32) : Int32 := (P_Looker_judge_35 κ φ ψ  i1 i2 i3 i4 0)
def P_Looker_judge_14 (κ : Nat → Nat) (φ : gF) (ψ : gG) (i1 : Int32) (i2 : Int32) (i3 : Int32) (i4 : Int32) : Int32 := (if i4 = 0 then (P_Looker_judge_34 κ φ ψ  i1 i2 i3 i4) else (if (P_Looks_isFixed (κ 7) (φ 9) i2) = 0 then (P_Looker_judge_35 κ φ ψ  i1 i2 i3 i4 5) else (P_Looker_judge_34 κ φ ψ  i1 i2 i3 i4)))
def P_Looker_judge (κ : Nat → Nat) (φ : gF) (ψ : gG) (x1 : Int32) (x2 : Int32) (x3 : Int32) (x4 : Int32) : Int32 := (if x1 = 0 then (P_Looker_judge_14 κ φ ψ  x1 x2 x3 x4) else (if (φ 1 2 0) = x2 then (P_Looker_judge_14 κ φ ψ  x1 x2 x3 x4) else x1))
set_option maxHeartbeats 4000000 in
set_option maxRecDepth 100000 in
theorem f_Looker_judge (l : Launch) (γ : gE) (A : Nat → Prop) (κ : Nat → Nat) (φ : gF) (ψ : gG) (x1 : Int32) (x2 : Int32) (x3 : Int32) (x4 : Int32)  : PU l yLooker_judge bLooker_judge 6 (some .int) 4 88 [.ref (γ.2.2.2 8), .int x1, .int x2, .int x3, .int x4] γ (INVF γ A κ φ ψ) (vp_Si (fun v : Int32 => (True) ∧ v = P_Looker_judge κ φ ψ x1 x2 x3 x4)) := by
  refine pu_openI (by decide) (Nat.le_of_ble_eq_true rfl) ?_
  intro p e s m args below meth c ls Q S hC hI hE hl
  obtain ⟨hx, hb, hml, hown, hW⟩ := id S
  have hG := hI
  have hI := inv_of hG
  have hl : lv_has ls 6 [(0, .ref (γ.2.2.2 8)), (1, .int x1), (2, .int x2), (3, .int x3), (4, .int x4)] := hl
  obtain ⟨OUT, hQ, hO⟩ : ∃ z, (z = P_Looker_judge κ φ ψ x1 x2 x3 x4) ∧ Oq z (P_Looker_judge κ φ ψ x1 x2 x3 x4) := ⟨_, rfl, rfl⟩
  rw [← hQ] at hE
  clear hQ
  have J82 : ∀ (ls : Array Slot)  (i1 : Int32) (i2 : Int32) (i3 : Int32) (i4 : Int32) (i5 : Int32), (Oq OUT (P_Looker_judge_82 κ φ ψ   i1 i2 i3 i4 i5)) → lv_has ls 6 [(0, .ref (γ.2.2.2 8)), (1, .int i1), (2, .int i2), (3, .int i3), (4, .int i4), (5, .int i5)] → W p l e (bs_rm 4 0 0 88) s m args below meth c s.heap [] 0 0 Q (F0 m 82 ls []) := by
    intro ls  i1 i2 i3 i4 i5 hO hl
    refine lv_iload_n hx hb dLooker_judge_82 rfl (lv_at hl 1 rfl) ?_
    refine lv_iload hx hb dLooker_judge_83 (lv_at hl 5 rfl) ?_
    refine pu_Si (rest := []) S hC (f_Looker_earlier l γ (INVF γ A κ φ ψ) i1 i5) meLooker_earlier qw_43e62466e9 ⟨Nat.le_of_ble_eq_true rfl, Nat.le_of_ble_eq_true rfl⟩ hG rfl hl.1 rfl (Nat.le_of_ble_eq_true rfl) dLooker_judge_85 ⟨Nat.zero_le _, Nat.zero_le _⟩ (fun r16 hr16 => ?_)
    obtain ⟨hr16, er16⟩ := hr16
    exact hE _ _ _ ⟨trivial, (by subst er16; exact (hO.tr rfl).symm)⟩ dLooker_judge_88
  have J55 : ∀ (ls : Array Slot)  (i1 : Int32) (i2 : Int32) (i3 : Int32) (i4 : Int32) (i5 : Int32), (Oq OUT (P_Looker_judge_55 κ φ ψ   i1 i2 i3 i4 i5)) → lv_has ls 6 [(0, .ref (γ.2.2.2 8)), (1, .int i1), (2, .int i2), (3, .int i3), (4, .int i4), (5, .int i5)] → W p l e (bs_rm 4 0 0 88) s m args below meth c s.heap [] 0 0 Q (F0 m 55 ls []) := by
    intro ls  i1 i2 i3 i4 i5 hO hl
    refine lv_iload_n hx hb dLooker_judge_55 rfl (lv_at hl 3 rfl) ?_
    refine lv_iconst (v := (-1)) hx hb dLooker_judge_56 (by decide) ?_
    refine lv_icmp_eq (tgt := 82) hx hb dLooker_judge_57 (by decide) (fun c17 => ?_) (fun c17 => ?_)
    · exact J82 ls i1 i2 i3 i4 i5 (by exact hO.tr (if_pos c17)) (lv_sub hl [0, 1, 2, 3, 4, 5] rfl)
    · refine lv_iload_n hx hb dLooker_judge_60 rfl (lv_at hl 1 rfl) ?_
      refine lv_if_ne (tgt := 82) hx hb dLooker_judge_61 (by decide) (fun c18 => ?_) (fun c18 => ?_)
      · exact J82 ls i1 i2 i3 i4 i5 (by exact hO.tr ((if_neg c17).trans (if_neg c18))) (lv_sub hl [0, 1, 2, 3, 4, 5] rfl)
      · refine lv_aload_n hx hb dLooker_judge_64 rfl (lv_at hl 0 rfl) ?_
        refine lv_iload_n hx hb dLooker_judge_65 rfl (lv_at hl 2 rfl) ?_
        refine lv_iload_n hx hb dLooker_judge_66 rfl (lv_at hl 3 rfl) ?_
        refine pu_Vi (rest := []) S hC (f_Looker_isOutside l γ A κ φ ψ i2 i3) meLooker_isOutside qw_37965fb84c ⟨Nat.le_of_ble_eq_true rfl, Nat.le_of_ble_eq_true rfl⟩ (rv_8 hC hI) hG rfl hl.1 rfl (Nat.le_of_ble_eq_true rfl) dLooker_judge_67 ⟨Nat.zero_le _, Nat.zero_le _⟩ (fun r19 hr19 => ?_)
        obtain ⟨hr19, er19⟩ := hr19
        refine lv_if_eq (tgt := 82) hx hb dLooker_judge_70 (by decide) (fun c20 => ?_) (fun c20 => ?_)
        · exact J82 ls i1 i2 i3 i4 i5 (by subst er19; exact hO.tr ((if_neg c17).trans ((if_pos c18).trans (if_pos c20)))) (lv_sub hl [0, 1, 2, 3, 4, 5] rfl)
        · refine lv_iload hx hb dLooker_judge_73 (lv_at hl 5 rfl) ?_
          refine lv_bipush (v := 8) hx hb dLooker_judge_75 (by decide) ?_
          refine pu_Si (rest := []) S hC (f_Looker_earlier l γ (INVF γ A κ φ ψ) i5 8) meLooker_earlier qw_43e62466e9 ⟨Nat.le_of_ble_eq_true rfl, Nat.le_of_ble_eq_true rfl⟩ hG rfl hl.1 rfl (Nat.le_of_ble_eq_true rfl) dLooker_judge_77 ⟨Nat.zero_le _, Nat.zero_le _⟩ (fun r21 hr21 => ?_)
          obtain ⟨hr21, er21⟩ := hr21
          refine lv_istore (lv' := [(5, .int r21), (0, .ref (γ.2.2.2 8)), (1, .int i1), (2, .int i2), (3, .int i3), (4, .int i4)]) hx hb dLooker_judge_80 hl (by decide) rfl (fun ls hl => ?_)
          exact J82 ls i1 i2 i3 i4 r21 (by subst er21 er19; exact hO.tr ((if_neg c17).trans ((if_pos c18).trans (if_neg c20)))) (lv_sub hl [1, 2, 3, 4, 5, 0] rfl)
  have J35 : ∀ (ls : Array Slot)  (i1 : Int32) (i2 : Int32) (i3 : Int32) (i4 : Int32) (t0 : Int32), (Oq OUT (P_Looker_judge_35 κ φ ψ   i1 i2 i3 i4 t0)) → lv_has ls 6 [(0, .ref (γ.2.2.2 8)), (1, .int i1), (2, .int i2), (3, .int i3), (4, .int i4)] → W p l e (bs_rm 4 0 0 88) s m args below meth c s.heap [] 0 0 Q (F0 m 35 ls [.int t0]) := by
    intro ls  i1 i2 i3 i4 t0 hO hl
    refine lv_istore (lv' := [(5, .int t0), (0, .ref (γ.2.2.2 8)), (1, .int i1), (2, .int i2), (3, .int i3), (4, .int i4)]) hx hb dLooker_judge_35 hl (by decide) rfl (fun ls hl => ?_)
    refine lv_iload_n hx hb dLooker_judge_37 rfl (lv_at hl 4 rfl) ?_
    refine lv_iconst (v := (-1)) hx hb dLooker_judge_38 (by decide) ?_
    refine lv_icmp_eq (tgt := 55) hx hb dLooker_judge_39 (by decide) (fun c22 => ?_) (fun c22 => ?_)
    · exact J55 ls i1 i2 i3 i4 t0 (by exact hO.tr (if_pos c22)) (lv_sub hl [1, 2, 3, 4, 5, 0] rfl)
    · refine lv_aload_n hx hb dLooker_judge_42 rfl (lv_at hl 1 rfl) ?_
      refine lv_iload_n hx hb dLooker_judge_43 rfl (lv_at hl 3 rfl) ?_
      refine lv_iload_n hx hb dLooker_judge_44 rfl (lv_at hl 4 rfl) ?_
      refine pu_Vi (rest := []) S hC (f_Looker_classMisfit l γ A κ φ ψ i2 i3) meLooker_classMisfit qw_8a98d268f4 ⟨Nat.le_of_ble_eq_true rfl, Nat.le_of_ble_eq_true rfl⟩ (rv_8 hC hI) hG rfl hl.1 rfl (Nat.le_of_ble_eq_true rfl) dLooker_judge_45 ⟨Nat.zero_le _, Nat.zero_le _⟩ (fun r23 hr23 => ?_)
      obtain ⟨hr23, er23⟩ := hr23
      refine lv_iload hx hb dLooker_judge_48 (lv_at hl 0 rfl) ?_
      refine pu_Si (rest := []) S hC (f_Looker_earlier l γ (INVF γ A κ φ ψ) r23 t0) meLooker_earlier qw_43e62466e9 ⟨Nat.le_of_ble_eq_true rfl, Nat.le_of_ble_eq_true rfl⟩ hG rfl hl.1 rfl (Nat.le_of_ble_eq_true rfl) dLooker_judge_50 ⟨Nat.zero_le _, Nat.zero_le _⟩ (fun r24 hr24 => ?_)
      obtain ⟨hr24, er24⟩ := hr24
      refine lv_istore (lv' := [(5, .int r24), (0, .ref (γ.2.2.2 8)), (1, .int i1), (2, .int i2), (3, .int i3), (4, .int i4)]) hx hb dLooker_judge_53 hl (by decide) rfl (fun ls hl => ?_)
      exact J55 ls i1 i2 i3 i4 r24 (by subst er24 er23; exact hO.tr (if_neg c22)) (lv_sub hl [1, 2, 3, 4, 5, 0] rfl)
  have J34 : ∀ (ls : Array Slot)  (i1 : Int32) (i2 : Int32) (i3 : Int32) (i4 : Int32), (Oq OUT (P_Looker_judge_34 κ φ ψ   i1 i2 i3 i4)) → lv_has ls 6 [(0, .ref (γ.2.2.2 8)), (1, .int i1), (2, .int i2), (3, .int i3), (4, .int i4)] → W p l e (bs_rm 4 0 0 88) s m args below meth c s.heap [] 0 0 Q (F0 m 34 ls []) := by
    intro ls  i1 i2 i3 i4 hO hl
    refine lv_iconst (v := 0) hx hb dLooker_judge_34 (by decide) ?_
    exact J35 ls i1 i2 i3 i4 0 (by exact hO.tr rfl) (lv_sub hl [0, 1, 2, 3, 4] rfl)
  have J14 : ∀ (ls : Array Slot)  (i1 : Int32) (i2 : Int32) (i3 : Int32) (i4 : Int32), (Oq OUT (P_Looker_judge_14 κ φ ψ   i1 i2 i3 i4)) → lv_has ls 6 [(0, .ref (γ.2.2.2 8)), (1, .int i1), (2, .int i2), (3, .int i3), (4, .int i4)] → W p l e (bs_rm 4 0 0 88) s m args below meth c s.heap [] 0 0 Q (F0 m 14 ls []) := by
    intro ls  i1 i2 i3 i4 hO hl
    refine lv_iload hx hb dLooker_judge_14 (lv_at hl 4 rfl) ?_
    refine lv_if_eq (tgt := 34) hx hb dLooker_judge_16 (by decide) (fun c25 => ?_) (fun c25 => ?_)
    · exact J34 ls i1 i2 i3 i4 (by exact hO.tr (if_pos c25)) (lv_sub hl [0, 1, 2, 3, 4] rfl)
    · refine lv_aload_n hx hb dLooker_judge_19 rfl (lv_at hl 0 rfl) ?_
      refine of_get S hC (of_8_3 hI) in_Looker rfl (by decide) qw_77aeadf252 dLooker_judge_20 ?_
      refine lv_iload_n hx hb dLooker_judge_23 rfl (lv_at hl 2 rfl) ?_
      refine pu_Vi (rest := []) S hC (f9_Looks_isFixed l γ A κ φ ψ i2) meLooks_isFixed qw_3ab14e380a ⟨Nat.le_of_ble_eq_true rfl, Nat.le_of_ble_eq_true rfl⟩ (rv_9 hC hI) hG rfl hl.1 rfl (Nat.le_of_ble_eq_true rfl) dLooker_judge_24 ⟨Nat.zero_le _, Nat.zero_le _⟩ (fun r26 hr26 => ?_)
      obtain ⟨hr26, er26⟩ := hr26
      refine lv_if_ne (tgt := 34) hx hb dLooker_judge_27 (by decide) (fun c27 => ?_) (fun c27 => ?_)
      · exact J34 ls i1 i2 i3 i4 (by subst er26; exact hO.tr ((if_neg c25).trans (if_neg c27))) (lv_sub hl [0, 1, 2, 3, 4] rfl)
      · refine lv_iconst (v := 5) hx hb dLooker_judge_30 (by decide) ?_
        refine lv_goto (tgt := 35) hx hb dLooker_judge_31 (by decide) ?_
        exact J35 ls i1 i2 i3 i4 5 (by subst er26; exact hO.tr ((if_neg c25).trans (if_pos c27))) (lv_sub hl [0, 1, 2, 3, 4] rfl)
  refine lv_iload_n hx hb dLooker_judge_0 rfl (lv_at hl 1 rfl) ?_
  refine lv_if_eq (tgt := 14) hx hb dLooker_judge_1 (by decide) (fun c28 => ?_) (fun c28 => ?_)
  · exact J14 ls x1 x2 x3 x4 (by exact hO.tr (if_pos c28)) (lv_sub hl [0, 1, 2, 3, 4] rfl)
  · refine lv_aload_n hx hb dLooker_judge_4 rfl (lv_at hl 0 rfl) ?_
    refine of_get S hC (og_8 hG) in_Looker rfl (by decide) qw_a0a252684f dLooker_judge_5 ?_
    refine lv_topi (fun v29 ev29 => ?_)
    refine lv_iload_n hx hb dLooker_judge_8 rfl (lv_at hl 2 rfl) ?_
    refine lv_icmp_eq (tgt := 14) hx hb dLooker_judge_9 (by decide) (fun c30 => ?_) (fun c30 => ?_)
    · exact J14 ls x1 x2 x3 x4 (by subst ev29; exact hO.tr ((if_neg c28).trans (if_pos c30))) (lv_sub hl [0, 1, 2, 3, 4] rfl)
    · refine lv_iload_n hx hb dLooker_judge_12 rfl (lv_at hl 1 rfl) ?_
      exact hE _ _ _ ⟨trivial, (by subst ev29; exact (hO.tr ((if_neg c28).trans (if_neg c30))).symm)⟩ dLooker_judge_13

def P_Looker_namedTypeFault (κ : Nat → Nat) (φ : gF) (ψ : gG) (x1 : Int32) : Int32 := (if (P_Trees_countOf (κ 0) (κ 1) (κ 11) (φ 2) x1) = 0 then (if (P_Names_find (κ 2) (κ 3) (κ 12) (φ 3) (P_Trees_valueOf (κ 0) (κ 1) (κ 11) (φ 2) x1)) = (-1) then 1 else (if (P_Names_sortOf (κ 2) (κ 3) (κ 12) (φ 3) (P_Names_find (κ 2) (κ 3) (κ 12) (φ 3) (P_Trees_valueOf (κ 0) (κ 1) (κ 11) (φ 2) x1))) = 1 then 0 else 2)) else 11)
set_option maxHeartbeats 4000000 in
set_option maxRecDepth 100000 in
theorem f_Looker_namedTypeFault (l : Launch) (γ : gE) (A : Nat → Prop) (κ : Nat → Nat) (φ : gF) (ψ : gG) (x1 : Int32)  : PU l yLooker_namedTypeFault bLooker_namedTypeFault 3 (some .int) 2 44 [.ref (γ.2.2.2 8), .int x1] γ (INVF γ A κ φ ψ) (vp_Si (fun v : Int32 => (True) ∧ v = P_Looker_namedTypeFault κ φ ψ x1)) := by
  refine pu_openI (by decide) (Nat.le_of_ble_eq_true rfl) ?_
  intro p e s m args below meth c ls Q S hC hI hE hl
  obtain ⟨hx, hb, hml, hown, hW⟩ := id S
  have hG := hI
  have hI := inv_of hG
  have hl : lv_has ls 3 [(0, .ref (γ.2.2.2 8)), (1, .int x1)] := hl
  obtain ⟨OUT, hQ, hO⟩ : ∃ z, (z = P_Looker_namedTypeFault κ φ ψ x1) ∧ Oq z (P_Looker_namedTypeFault κ φ ψ x1) := ⟨_, rfl, rfl⟩
  rw [← hQ] at hE
  clear hQ
  refine lv_aload_n hx hb dLooker_namedTypeFault_0 rfl (lv_at hl 0 rfl) ?_
  refine of_get S hC (of_8_0 hI) in_Looker rfl (by decide) qw_22d2793f25 dLooker_namedTypeFault_1 ?_
  refine lv_iload_n hx hb dLooker_namedTypeFault_4 rfl (lv_at hl 1 rfl) ?_
  refine pu_Vi (rest := []) S hC (f1_Trees_countOf l γ A κ φ ψ x1) meTrees_countOf qw_195048702c ⟨Nat.le_of_ble_eq_true rfl, Nat.le_of_ble_eq_true rfl⟩ (rv_1 hC hI) hG rfl hl.1 rfl (Nat.le_of_ble_eq_true rfl) dLooker_namedTypeFault_5 ⟨Nat.zero_le _, Nat.zero_le _⟩ (fun r8 hr8 => ?_)
  obtain ⟨hr8, er8⟩ := hr8
  refine lv_if_eq (tgt := 14) hx hb dLooker_namedTypeFault_8 (by decide) (fun c9 => ?_) (fun c9 => ?_)
  · refine lv_aload_n hx hb dLooker_namedTypeFault_14 rfl (lv_at hl 0 rfl) ?_
    refine of_get S hC (of_8_1 hI) in_Looker rfl (by decide) qw_213d2bb2ac dLooker_namedTypeFault_15 ?_
    refine lv_aload_n hx hb dLooker_namedTypeFault_18 rfl (lv_at hl 0 rfl) ?_
    refine of_get S hC (of_8_0 hI) in_Looker rfl (by decide) qw_22d2793f25 dLooker_namedTypeFault_19 ?_
    refine lv_iload_n hx hb dLooker_namedTypeFault_22 rfl (lv_at hl 1 rfl) ?_
    refine pu_Vi (rest := [.ref (γ.2.2.2 2)]) S hC (f1_Trees_valueOf l γ A κ φ ψ x1) meTrees_valueOf qw_ea9162cf9a ⟨Nat.le_of_ble_eq_true rfl, Nat.le_of_ble_eq_true rfl⟩ (rv_1 hC hI) hG rfl hl.1 rfl (Nat.le_of_ble_eq_true rfl) dLooker_namedTypeFault_23 ⟨Nat.zero_le _, Nat.zero_le _⟩ (fun r10 hr10 => ?_)
    obtain ⟨hr10, er10⟩ := hr10
    refine pu_Vi (rest := []) S hC (f2_Names_find l γ A κ φ ψ r10) meNames_find qw_a4a7b18094 ⟨Nat.le_of_ble_eq_true rfl, Nat.le_of_ble_eq_true rfl⟩ (rv_2 hC hI) hG rfl hl.1 rfl (Nat.le_of_ble_eq_true rfl) dLooker_namedTypeFault_26 ⟨Nat.zero_le _, Nat.zero_le _⟩ (fun r11 hr11 => ?_)
    obtain ⟨hr11, er11⟩ := hr11
    refine lv_istore_n (lv' := [(2, .int r11), (0, .ref (γ.2.2.2 8)), (1, .int x1)]) hx hb dLooker_namedTypeFault_29 rfl hl (by decide) rfl (fun ls hl => ?_)
    refine lv_iload_n hx hb dLooker_namedTypeFault_30 rfl (lv_at hl 0 rfl) ?_
    refine lv_iconst (v := (-1)) hx hb dLooker_namedTypeFault_31 (by decide) ?_
    refine lv_icmp_ne (tgt := 39) hx hb dLooker_namedTypeFault_32 (by decide) (fun c12 => ?_) (fun c12 => ?_)
    · refine lv_aload_n hx hb dLooker_namedTypeFault_39 rfl (lv_at hl 1 rfl) ?_
      refine of_get S hC (of_8_1 hI) in_Looker rfl (by decide) qw_213d2bb2ac dLooker_namedTypeFault_40 ?_
      refine lv_iload_n hx hb dLooker_namedTypeFault_43 rfl (lv_at hl 0 rfl) ?_
      refine pu_Vi (rest := []) S hC (f2_Names_sortOf l γ A κ φ ψ r11) meNames_sortOf qw_655d915bbc ⟨Nat.le_of_ble_eq_true rfl, Nat.le_of_ble_eq_true rfl⟩ (rv_2 hC hI) hG rfl hl.1 rfl (Nat.le_of_ble_eq_true rfl) dLooker_namedTypeFault_44 ⟨Nat.zero_le _, Nat.zero_le _⟩ (fun r13 hr13 => ?_)
      obtain ⟨hr13, er13⟩ := hr13
      refine lv_iconst (v := 1) hx hb dLooker_namedTypeFault_47 (by decide) ?_
      refine lv_icmp_ne (tgt := 55) hx hb dLooker_namedTypeFault_48 (by decide) (fun c14 => ?_) (fun c14 => ?_)
      · refine lv_iconst (v := 2) hx hb dLooker_namedTypeFault_55 (by decide) ?_
        exact hE _ _ _ ⟨trivial, (by subst er13 er11 er10 er8; exact (hO.tr ((if_pos c9).trans ((if_neg c12).trans (if_neg c14)))).symm)⟩ dLooker_namedTypeFault_56
      · refine lv_iconst (v := 0) hx hb dLooker_namedTypeFault_51 (by decide) ?_
        refine lv_goto (tgt := 56) hx hb dLooker_namedTypeFault_52 (by decide) ?_
        exact hE _ _ _ ⟨trivial, (by subst er13 er11 er10 er8; exact (hO.tr ((if_pos c9).trans ((if_neg c12).trans (if_pos c14)))).symm)⟩ dLooker_namedTypeFault_56
    · refine lv_iconst (v := 1) hx hb dLooker_namedTypeFault_35 (by decide) ?_
      refine lv_goto (tgt := 56) hx hb dLooker_namedTypeFault_36 (by decide) ?_
      exact hE _ _ _ ⟨trivial, (by subst er11 er10 er8; exact (hO.tr ((if_pos c9).trans (if_pos c12))).symm)⟩ dLooker_namedTypeFault_56
  · refine lv_bipush (v := 11) hx hb dLooker_namedTypeFault_11 (by decide) ?_
    exact hE _ _ _ ⟨trivial, (by subst er8; exact (hO.tr (if_neg c9)).symm)⟩ dLooker_namedTypeFault_13

def P_Looker_typeFault_67 (κ : Nat → Nat) (φ : gF) (ψ : gG) (i1 : Int32) (i2 : Int32) (t0 : Int32) (t1 : Int32) : Int32 := (if t1 = t0 then (if (P_Looks_classOf (κ 7) (φ 9) (P_Trees_leftOfTwo (κ 0) (κ 1) (κ 11) (φ 2) i1)) = 2 then (if (P_Looks_classOf (κ 7) (φ 9) (i1 - 1)) = 2 then (if (P_Looks_isFixed (κ 7) (φ 9) (P_Trees_leftOfTwo (κ 0) (κ 1) (κ 11) (φ 2) i1)) = 0 then 5 else (if (P_Looks_isFixed (κ 7) (φ 9) (i1 - 1)) = 0 then 5 else (P_Looker_boundsFault i2 (P_Looks_numberOf (κ 7) (φ 9) (P_Trees_leftOfTwo (κ 0) (κ 1) (κ 11) (φ 2) i1)) (P_Looks_numberOf (κ 7) (φ 9) (i1 - 1))))) else 3) else 3) else 2)
def P_Looker_typeFault (κ : Nat → Nat) (φ : gF) (ψ : gG) (x1 : Int32) : Int32 := (if (P_Trees_kindOf (κ 0) (κ 1) (κ 11) (φ 2) x1) = 10 then (P_Looker_namedTypeFault κ φ ψ x1) else (if (P_Trees_kindOf (κ 0) (κ 1) (κ 11) (φ 2) x1) < 11 then 11 else (if 13 < (P_Trees_kindOf (κ 0) (κ 1) (κ 11) (φ 2) x1) then 11 else (if (P_Trees_countOf (κ 0) (κ 1) (κ 11) (φ 2) x1) = 2 then (if (P_Trees_kindOf (κ 0) (κ 1) (κ 11) (φ 2) x1) = 11 then (P_Looker_typeFault_67 κ φ ψ  x1 (P_Trees_kindOf (κ 0) (κ 1) (κ 11) (φ 2) x1) 0 (P_Trees_valueOf (κ 0) (κ 1) (κ 11) (φ 2) x1)) else (P_Looker_typeFault_67 κ φ ψ  x1 (P_Trees_kindOf (κ 0) (κ 1) (κ 11) (φ 2) x1) 5 (P_Trees_valueOf (κ 0) (κ 1) (κ 11) (φ 2) x1))) else 11))))
set_option maxHeartbeats 4000000 in
set_option maxRecDepth 100000 in
theorem f_Looker_typeFault (l : Launch) (γ : gE) (A : Nat → Prop) (κ : Nat → Nat) (φ : gF) (ψ : gG) (x1 : Int32)  : PU l yLooker_typeFault bLooker_typeFault 5 (some .int) 3 66 [.ref (γ.2.2.2 8), .int x1] γ (INVF γ A κ φ ψ) (vp_Si (fun v : Int32 => (True) ∧ v = P_Looker_typeFault κ φ ψ x1)) := by
  refine pu_openI (by decide) (Nat.le_of_ble_eq_true rfl) ?_
  intro p e s m args below meth c ls Q S hC hI hE hl
  obtain ⟨hx, hb, hml, hown, hW⟩ := id S
  have hG := hI
  have hI := inv_of hG
  have hl : lv_has ls 5 [(0, .ref (γ.2.2.2 8)), (1, .int x1)] := hl
  obtain ⟨OUT, hQ, hO⟩ : ∃ z, (z = P_Looker_typeFault κ φ ψ x1) ∧ Oq z (P_Looker_typeFault κ φ ψ x1) := ⟨_, rfl, rfl⟩
  rw [← hQ] at hE
  clear hQ
  have J67 : ∀ (ls : Array Slot)  (i1 : Int32) (i2 : Int32) (t0 : Int32) (t1 : Int32), (Oq OUT (P_Looker_typeFault_67 κ φ ψ   i1 i2 t0 t1)) → lv_has ls 5 [(0, .ref (γ.2.2.2 8)), (1, .int i1), (2, .int i2)] → W p l e (bs_rm 3 0 0 66) s m args below meth c s.heap [] 0 0 Q (F0 m 67 ls [.int t0, .int t1]) := by
    intro ls  i1 i2 t0 t1 hO hl
    refine lv_icmp_eq (tgt := 72) hx hb dLooker_typeFault_67 (by decide) (fun c24 => ?_) (fun c24 => ?_)
    · refine lv_aload_n hx hb dLooker_typeFault_72 rfl (lv_at hl 0 rfl) ?_
      refine of_get S hC (of_8_0 hI) in_Looker rfl (by decide) qw_22d2793f25 dLooker_typeFault_73 ?_
      refine lv_iload_n hx hb dLooker_typeFault_76 rfl (lv_at hl 1 rfl) ?_
      refine pu_Vi (rest := []) S hC (f1_Trees_leftOfTwo l γ A κ φ ψ i1) meTrees_leftOfTwo qw_844ff72d87 ⟨Nat.le_of_ble_eq_true rfl, Nat.le_of_ble_eq_true rfl⟩ (rv_1 hC hI) hG rfl hl.1 rfl (Nat.le_of_ble_eq_true rfl) dLooker_typeFault_77 ⟨Nat.zero_le _, Nat.zero_le _⟩ (fun r25 hr25 => ?_)
      obtain ⟨hr25, er25⟩ := hr25
      refine lv_istore_n (lv' := [(3, .int r25), (0, .ref (γ.2.2.2 8)), (1, .int i1), (2, .int i2)]) hx hb dLooker_typeFault_80 rfl hl (by decide) rfl (fun ls hl => ?_)
      refine lv_iload_n hx hb dLooker_typeFault_81 rfl (lv_at hl 2 rfl) ?_
      refine lv_iconst (v := 1) hx hb dLooker_typeFault_82 (by decide) ?_
      refine lv_isub hx hb dLooker_typeFault_83 ?_
      refine lv_topi (fun v26 ev26 => ?_)
      refine lv_istore (lv' := [(4, .int v26), (3, .int r25), (0, .ref (γ.2.2.2 8)), (1, .int i1), (2, .int i2)]) hx hb dLooker_typeFault_84 hl (by decide) rfl (fun ls hl => ?_)
      refine lv_aload_n hx hb dLooker_typeFault_86 rfl (lv_at hl 2 rfl) ?_
      refine of_get S hC (of_8_3 hI) in_Looker rfl (by decide) qw_77aeadf252 dLooker_typeFault_87 ?_
      refine lv_iload_n hx hb dLooker_typeFault_90 rfl (lv_at hl 1 rfl) ?_
      refine pu_Vi (rest := []) S hC (f9_Looks_classOf l γ A κ φ ψ r25) meLooks_classOf qw_f23e8ec7f8 ⟨Nat.le_of_ble_eq_true rfl, Nat.le_of_ble_eq_true rfl⟩ (rv_9 hC hI) hG rfl hl.1 rfl (Nat.le_of_ble_eq_true rfl) dLooker_typeFault_91 ⟨Nat.zero_le _, Nat.zero_le _⟩ (fun r27 hr27 => ?_)
      obtain ⟨hr27, er27⟩ := hr27
      refine lv_iconst (v := 2) hx hb dLooker_typeFault_94 (by decide) ?_
      refine lv_icmp_ne (tgt := 111) hx hb dLooker_typeFault_95 (by decide) (fun c28 => ?_) (fun c28 => ?_)
      · refine lv_iconst (v := 3) hx hb dLooker_typeFault_111 (by decide) ?_
        exact hE _ _ _ ⟨trivial, (by subst er27 ev26 er25; exact (hO.tr ((if_pos c24).trans (if_neg c28))).symm)⟩ dLooker_typeFault_112
      · refine lv_aload_n hx hb dLooker_typeFault_98 rfl (lv_at hl 2 rfl) ?_
        refine of_get S hC (of_8_3 hI) in_Looker rfl (by decide) qw_77aeadf252 dLooker_typeFault_99 ?_
        refine lv_iload hx hb dLooker_typeFault_102 (lv_at hl 0 rfl) ?_
        refine pu_Vi (rest := []) S hC (f9_Looks_classOf l γ A κ φ ψ v26) meLooks_classOf qw_f23e8ec7f8 ⟨Nat.le_of_ble_eq_true rfl, Nat.le_of_ble_eq_true rfl⟩ (rv_9 hC hI) hG rfl hl.1 rfl (Nat.le_of_ble_eq_true rfl) dLooker_typeFault_104 ⟨Nat.zero_le _, Nat.zero_le _⟩ (fun r29 hr29 => ?_)
        obtain ⟨hr29, er29⟩ := hr29
        refine lv_iconst (v := 2) hx hb dLooker_typeFault_107 (by decide) ?_
        refine lv_icmp_eq (tgt := 113) hx hb dLooker_typeFault_108 (by decide) (fun c30 => ?_) (fun c30 => ?_)
        · refine lv_aload_n hx hb dLooker_typeFault_113 rfl (lv_at hl 2 rfl) ?_
          refine of_get S hC (of_8_3 hI) in_Looker rfl (by decide) qw_77aeadf252 dLooker_typeFault_114 ?_
          refine lv_iload_n hx hb dLooker_typeFault_117 rfl (lv_at hl 1 rfl) ?_
          refine pu_Vi (rest := []) S hC (f9_Looks_isFixed l γ A κ φ ψ r25) meLooks_isFixed qw_3ab14e380a ⟨Nat.le_of_ble_eq_true rfl, Nat.le_of_ble_eq_true rfl⟩ (rv_9 hC hI) hG rfl hl.1 rfl (Nat.le_of_ble_eq_true rfl) dLooker_typeFault_118 ⟨Nat.zero_le _, Nat.zero_le _⟩ (fun r31 hr31 => ?_)
          obtain ⟨hr31, er31⟩ := hr31
          refine lv_if_eq (tgt := 136) hx hb dLooker_typeFault_121 (by decide) (fun c32 => ?_) (fun c32 => ?_)
          · refine lv_iconst (v := 5) hx hb dLooker_typeFault_136 (by decide) ?_
            exact hE _ _ _ ⟨trivial, (by subst er31 er29 er27 ev26 er25; exact (hO.tr ((if_pos c24).trans ((if_pos c28).trans ((if_pos c30).trans (if_pos c32))))).symm)⟩ dLooker_typeFault_137
          · refine lv_aload_n hx hb dLooker_typeFault_124 rfl (lv_at hl 2 rfl) ?_
            refine of_get S hC (of_8_3 hI) in_Looker rfl (by decide) qw_77aeadf252 dLooker_typeFault_125 ?_
            refine lv_iload hx hb dLooker_typeFault_128 (lv_at hl 0 rfl) ?_
            refine pu_Vi (rest := []) S hC (f9_Looks_isFixed l γ A κ φ ψ v26) meLooks_isFixed qw_3ab14e380a ⟨Nat.le_of_ble_eq_true rfl, Nat.le_of_ble_eq_true rfl⟩ (rv_9 hC hI) hG rfl hl.1 rfl (Nat.le_of_ble_eq_true rfl) dLooker_typeFault_130 ⟨Nat.zero_le _, Nat.zero_le _⟩ (fun r33 hr33 => ?_)
            obtain ⟨hr33, er33⟩ := hr33
            refine lv_if_ne (tgt := 138) hx hb dLooker_typeFault_133 (by decide) (fun c34 => ?_) (fun c34 => ?_)
            · refine lv_iload_n hx hb dLooker_typeFault_138 rfl (lv_at hl 4 rfl) ?_
              refine lv_aload_n hx hb dLooker_typeFault_139 rfl (lv_at hl 2 rfl) ?_
              refine of_get S hC (of_8_3 hI) in_Looker rfl (by decide) qw_77aeadf252 dLooker_typeFault_140 ?_
              refine lv_iload_n hx hb dLooker_typeFault_143 rfl (lv_at hl 1 rfl) ?_
              refine pu_Vi (rest := [.int i2]) S hC (f9_Looks_numberOf l γ A κ φ ψ r25) meLooks_numberOf qw_7e695d47da ⟨Nat.le_of_ble_eq_true rfl, Nat.le_of_ble_eq_true rfl⟩ (rv_9 hC hI) hG rfl hl.1 rfl (Nat.le_of_ble_eq_true rfl) dLooker_typeFault_144 ⟨Nat.zero_le _, Nat.zero_le _⟩ (fun r35 hr35 => ?_)
              obtain ⟨hr35, er35⟩ := hr35
              refine lv_aload_n hx hb dLooker_typeFault_147 rfl (lv_at hl 2 rfl) ?_
              refine of_get S hC (of_8_3 hI) in_Looker rfl (by decide) qw_77aeadf252 dLooker_typeFault_148 ?_
              refine lv_iload hx hb dLooker_typeFault_151 (lv_at hl 0 rfl) ?_
              refine pu_Vi (rest := [.int r35, .int i2]) S hC (f9_Looks_numberOf l γ A κ φ ψ v26) meLooks_numberOf qw_7e695d47da ⟨Nat.le_of_ble_eq_true rfl, Nat.le_of_ble_eq_true rfl⟩ (rv_9 hC hI) hG rfl hl.1 rfl (Nat.le_of_ble_eq_true rfl) dLooker_typeFault_153 ⟨Nat.zero_le _, Nat.zero_le _⟩ (fun r36 hr36 => ?_)
              obtain ⟨hr36, er36⟩ := hr36
              refine pu_Si (rest := []) S hC (f_Looker_boundsFault l γ (INVF γ A κ φ ψ) i2 r35 r36) meLooker_boundsFault qw_dd79a0a1bc ⟨Nat.le_of_ble_eq_true rfl, Nat.le_of_ble_eq_true rfl⟩ hG rfl hl.1 rfl (Nat.le_of_ble_eq_true rfl) dLooker_typeFault_156 ⟨Nat.zero_le _, Nat.zero_le _⟩ (fun r37 hr37 => ?_)
              obtain ⟨hr37, er37⟩ := hr37
              exact hE _ _ _ ⟨trivial, (by subst er37 er36 er35 er33 er31 er29 er27 ev26 er25; exact (hO.tr ((if_pos c24).trans ((if_pos c28).trans ((if_pos c30).trans ((if_neg c32).trans (if_neg c34)))))).symm)⟩ dLooker_typeFault_159
            · refine lv_iconst (v := 5) hx hb dLooker_typeFault_136 (by decide) ?_
              exact hE _ _ _ ⟨trivial, (by subst er33 er31 er29 er27 ev26 er25; exact (hO.tr ((if_pos c24).trans ((if_pos c28).trans ((if_pos c30).trans ((if_neg c32).trans (if_pos c34)))))).symm)⟩ dLooker_typeFault_137
        · refine lv_iconst (v := 3) hx hb dLooker_typeFault_111 (by decide) ?_
          exact hE _ _ _ ⟨trivial, (by subst er29 er27 ev26 er25; exact (hO.tr ((if_pos c24).trans ((if_pos c28).trans (if_neg c30)))).symm)⟩ dLooker_typeFault_112
    · refine lv_iconst (v := 2) hx hb dLooker_typeFault_70 (by decide) ?_
      exact hE _ _ _ ⟨trivial, (by exact (hO.tr (if_neg c24)).symm)⟩ dLooker_typeFault_71
  refine lv_aload_n hx hb dLooker_typeFault_0 rfl (lv_at hl 0 rfl) ?_
  refine of_get S hC (of_8_0 hI) in_Looker rfl (by decide) qw_22d2793f25 dLooker_typeFault_1 ?_
  refine lv_iload_n hx hb dLooker_typeFault_4 rfl (lv_at hl 1 rfl) ?_
  refine pu_Vi (rest := []) S hC (f1_Trees_kindOf l γ A κ φ ψ x1) meTrees_kindOf qw_f48a4a6aed ⟨Nat.le_of_ble_eq_true rfl, Nat.le_of_ble_eq_true rfl⟩ (rv_1 hC hI) hG rfl hl.1 rfl (Nat.le_of_ble_eq_true rfl) dLooker_typeFault_5 ⟨Nat.zero_le _, Nat.zero_le _⟩ (fun r38 hr38 => ?_)
  obtain ⟨hr38, er38⟩ := hr38
  refine lv_istore_n (lv' := [(2, .int r38), (0, .ref (γ.2.2.2 8)), (1, .int x1)]) hx hb dLooker_typeFault_8 rfl hl (by decide) rfl (fun ls hl => ?_)
  refine lv_iload_n hx hb dLooker_typeFault_9 rfl (lv_at hl 0 rfl) ?_
  refine lv_bipush (v := 10) hx hb dLooker_typeFault_10 (by decide) ?_
  refine lv_icmp_ne (tgt := 21) hx hb dLooker_typeFault_12 (by decide) (fun c39 => ?_) (fun c39 => ?_)
  · refine lv_iload_n hx hb dLooker_typeFault_21 rfl (lv_at hl 0 rfl) ?_
    refine lv_bipush (v := 11) hx hb dLooker_typeFault_22 (by decide) ?_
    refine lv_icmp_lt (tgt := 45) hx hb dLooker_typeFault_24 (by decide) (fun c40 => ?_) (fun c40 => ?_)
    · refine lv_bipush (v := 11) hx hb dLooker_typeFault_45 (by decide) ?_
      exact hE _ _ _ ⟨trivial, (by subst er38; exact (hO.tr ((if_neg c39).trans (if_pos c40))).symm)⟩ dLooker_typeFault_47
    · refine lv_iload_n hx hb dLooker_typeFault_27 rfl (lv_at hl 0 rfl) ?_
      refine lv_bipush (v := 13) hx hb dLooker_typeFault_28 (by decide) ?_
      refine lv_icmp_gt (tgt := 45) hx hb dLooker_typeFault_30 (by decide) (fun c41 => ?_) (fun c41 => ?_)
      · refine lv_bipush (v := 11) hx hb dLooker_typeFault_45 (by decide) ?_
        exact hE _ _ _ ⟨trivial, (by subst er38; exact (hO.tr ((if_neg c39).trans ((if_neg c40).trans (if_pos c41)))).symm)⟩ dLooker_typeFault_47
      · refine lv_aload_n hx hb dLooker_typeFault_33 rfl (lv_at hl 1 rfl) ?_
        refine of_get S hC (of_8_0 hI) in_Looker rfl (by decide) qw_22d2793f25 dLooker_typeFault_34 ?_
        refine lv_iload_n hx hb dLooker_typeFault_37 rfl (lv_at hl 2 rfl) ?_
        refine pu_Vi (rest := []) S hC (f1_Trees_countOf l γ A κ φ ψ x1) meTrees_countOf qw_195048702c ⟨Nat.le_of_ble_eq_true rfl, Nat.le_of_ble_eq_true rfl⟩ (rv_1 hC hI) hG rfl hl.1 rfl (Nat.le_of_ble_eq_true rfl) dLooker_typeFault_38 ⟨Nat.zero_le _, Nat.zero_le _⟩ (fun r42 hr42 => ?_)
        obtain ⟨hr42, er42⟩ := hr42
        refine lv_iconst (v := 2) hx hb dLooker_typeFault_41 (by decide) ?_
        refine lv_icmp_eq (tgt := 48) hx hb dLooker_typeFault_42 (by decide) (fun c43 => ?_) (fun c43 => ?_)
        · refine lv_aload_n hx hb dLooker_typeFault_48 rfl (lv_at hl 1 rfl) ?_
          refine of_get S hC (of_8_0 hI) in_Looker rfl (by decide) qw_22d2793f25 dLooker_typeFault_49 ?_
          refine lv_iload_n hx hb dLooker_typeFault_52 rfl (lv_at hl 2 rfl) ?_
          refine pu_Vi (rest := []) S hC (f1_Trees_valueOf l γ A κ φ ψ x1) meTrees_valueOf qw_ea9162cf9a ⟨Nat.le_of_ble_eq_true rfl, Nat.le_of_ble_eq_true rfl⟩ (rv_1 hC hI) hG rfl hl.1 rfl (Nat.le_of_ble_eq_true rfl) dLooker_typeFault_53 ⟨Nat.zero_le _, Nat.zero_le _⟩ (fun r44 hr44 => ?_)
          obtain ⟨hr44, er44⟩ := hr44
          refine lv_iload_n hx hb dLooker_typeFault_56 rfl (lv_at hl 0 rfl) ?_
          refine lv_bipush (v := 11) hx hb dLooker_typeFault_57 (by decide) ?_
          refine lv_icmp_ne (tgt := 66) hx hb dLooker_typeFault_59 (by decide) (fun c45 => ?_) (fun c45 => ?_)
          · refine lv_iconst (v := 5) hx hb dLooker_typeFault_66 (by decide) ?_
            exact J67 ls x1 r38 5 r44 (by subst er44 er42 er38; exact hO.tr ((if_neg c39).trans ((if_neg c40).trans ((if_neg c41).trans ((if_pos c43).trans (if_neg c45)))))) (lv_sub hl [1, 2, 0] rfl)
          · refine lv_iconst (v := 0) hx hb dLooker_typeFault_62 (by decide) ?_
            refine lv_goto (tgt := 67) hx hb dLooker_typeFault_63 (by decide) ?_
            exact J67 ls x1 r38 0 r44 (by subst er44 er42 er38; exact hO.tr ((if_neg c39).trans ((if_neg c40).trans ((if_neg c41).trans ((if_pos c43).trans (if_pos c45)))))) (lv_sub hl [1, 2, 0] rfl)
        · refine lv_bipush (v := 11) hx hb dLooker_typeFault_45 (by decide) ?_
          exact hE _ _ _ ⟨trivial, (by subst er42 er38; exact (hO.tr ((if_neg c39).trans ((if_neg c40).trans ((if_neg c41).trans (if_neg c43))))).symm)⟩ dLooker_typeFault_47
  · refine lv_aload_n hx hb dLooker_typeFault_15 rfl (lv_at hl 1 rfl) ?_
    refine lv_iload_n hx hb dLooker_typeFault_16 rfl (lv_at hl 2 rfl) ?_
    refine pu_Vi (rest := []) S hC (f_Looker_namedTypeFault l γ A κ φ ψ x1) meLooker_namedTypeFault qw_63f3ae9b1e ⟨Nat.le_of_ble_eq_true rfl, Nat.le_of_ble_eq_true rfl⟩ (rv_8 hC hI) hG rfl hl.1 rfl (Nat.le_of_ble_eq_true rfl) dLooker_typeFault_17 ⟨Nat.zero_le _, Nat.zero_le _⟩ (fun r46 hr46 => ?_)
    obtain ⟨hr46, er46⟩ := hr46
    exact hE _ _ _ ⟨trivial, (by subst er46 er38; exact (hO.tr (if_pos c39)).symm)⟩ dLooker_typeFault_20

def P_Looker_namedType (κ : Nat → Nat) (φ : gF) (ψ : gG) (x1 : Int32) : Int32 := (P_Names_numberOf (κ 2) (κ 3) (κ 12) (φ 3) (P_Names_find (κ 2) (κ 3) (κ 12) (φ 3) (P_Trees_valueOf (κ 0) (κ 1) (κ 11) (φ 2) x1)))
set_option maxHeartbeats 4000000 in
set_option maxRecDepth 100000 in
theorem f_Looker_namedType (l : Launch) (γ : gE) (A : Nat → Prop) (κ : Nat → Nat) (φ : gF) (ψ : gG) (x1 : Int32)  : PU l yLooker_namedType bLooker_namedType 2 (some .int) 2 44 [.ref (γ.2.2.2 8), .int x1] γ (INVF γ A κ φ ψ) (vp_Si (fun v : Int32 => (True) ∧ v = P_Looker_namedType κ φ ψ x1)) := by
  refine pu_openI (by decide) (Nat.le_of_ble_eq_true rfl) ?_
  intro p e s m args below meth c ls Q S hC hI hE hl
  obtain ⟨hx, hb, hml, hown, hW⟩ := id S
  have hG := hI
  have hI := inv_of hG
  have hl : lv_has ls 2 [(0, .ref (γ.2.2.2 8)), (1, .int x1)] := hl
  obtain ⟨OUT, hQ, hO⟩ : ∃ z, (z = P_Looker_namedType κ φ ψ x1) ∧ Oq z (P_Looker_namedType κ φ ψ x1) := ⟨_, rfl, rfl⟩
  rw [← hQ] at hE
  clear hQ
  refine lv_aload_n hx hb dLooker_namedType_0 rfl (lv_at hl 0 rfl) ?_
  refine of_get S hC (of_8_1 hI) in_Looker rfl (by decide) qw_213d2bb2ac dLooker_namedType_1 ?_
  refine lv_aload_n hx hb dLooker_namedType_4 rfl (lv_at hl 0 rfl) ?_
  refine of_get S hC (of_8_1 hI) in_Looker rfl (by decide) qw_213d2bb2ac dLooker_namedType_5 ?_
  refine lv_aload_n hx hb dLooker_namedType_8 rfl (lv_at hl 0 rfl) ?_
  refine of_get S hC (of_8_0 hI) in_Looker rfl (by decide) qw_22d2793f25 dLooker_namedType_9 ?_
  refine lv_iload_n hx hb dLooker_namedType_12 rfl (lv_at hl 1 rfl) ?_
  refine pu_Vi (rest := [.ref (γ.2.2.2 2), .ref (γ.2.2.2 2)]) S hC (f1_Trees_valueOf l γ A κ φ ψ x1) meTrees_valueOf qw_ea9162cf9a ⟨Nat.le_of_ble_eq_true rfl, Nat.le_of_ble_eq_true rfl⟩ (rv_1 hC hI) hG rfl hl.1 rfl (Nat.le_of_ble_eq_true rfl) dLooker_namedType_13 ⟨Nat.zero_le _, Nat.zero_le _⟩ (fun r4 hr4 => ?_)
  obtain ⟨hr4, er4⟩ := hr4
  refine pu_Vi (rest := [.ref (γ.2.2.2 2)]) S hC (f2_Names_find l γ A κ φ ψ r4) meNames_find qw_a4a7b18094 ⟨Nat.le_of_ble_eq_true rfl, Nat.le_of_ble_eq_true rfl⟩ (rv_2 hC hI) hG rfl hl.1 rfl (Nat.le_of_ble_eq_true rfl) dLooker_namedType_16 ⟨Nat.zero_le _, Nat.zero_le _⟩ (fun r5 hr5 => ?_)
  obtain ⟨hr5, er5⟩ := hr5
  refine pu_Vi (rest := []) S hC (f2_Names_numberOf l γ A κ φ ψ r5) meNames_numberOf qw_108db87eb2 ⟨Nat.le_of_ble_eq_true rfl, Nat.le_of_ble_eq_true rfl⟩ (rv_2 hC hI) hG rfl hl.1 rfl (Nat.le_of_ble_eq_true rfl) dLooker_namedType_19 ⟨Nat.zero_le _, Nat.zero_le _⟩ (fun r6 hr6 => ?_)
  obtain ⟨hr6, er6⟩ := hr6
  exact hE _ _ _ ⟨trivial, (by subst er6 er5 er4; exact (hO.tr rfl).symm)⟩ dLooker_namedType_22

def P_Meanings_isConstant (κ : Nat → Nat) (φ : gF) (ψ : gG) (x1 : Int32) : Int32 := (if (P_Objects_whatOf (κ 5) (κ 14) (φ 5) x1) = 0 then 1 else 0)
set_option maxHeartbeats 4000000 in
set_option maxRecDepth 100000 in
theorem f_Meanings_isConstant (l : Launch) (γ : gE) (A : Nat → Prop) (κ : Nat → Nat) (φ : gF) (ψ : gG) (x1 : Int32)  : PU l yMeanings_isConstant bMeanings_isConstant 2 (some .boolean) 2 42 [.ref (γ.2.2.2 12), .int x1] γ (INVF γ A κ φ ψ) (vp_Si (fun v : Int32 => (True) ∧ v = P_Meanings_isConstant κ φ ψ x1)) := by
  refine pu_openZ (by decide) (Nat.le_of_ble_eq_true rfl) ?_
  intro p e s m args below meth c ls Q S hC hI hE hl
  obtain ⟨hx, hb, hml, hown, hW⟩ := id S
  have hG := hI
  have hI := inv_of hG
  have hl : lv_has ls 2 [(0, .ref (γ.2.2.2 12)), (1, .int x1)] := hl
  obtain ⟨OUT, hQ, hO⟩ : ∃ z, (z = P_Meanings_isConstant κ φ ψ x1) ∧ Oq z (P_Meanings_isConstant κ φ ψ x1) := ⟨_, rfl, rfl⟩
  rw [← hQ] at hE
  clear hQ
  refine lv_aload_n hx hb dMeanings_isConstant_0 rfl (lv_at hl 0 rfl) ?_
  refine of_get S hC (of_12_3 hI) in_Meanings rfl (by decide) qw_9bfdade5f5 dMeanings_isConstant_1 ?_
  refine lv_iload_n hx hb dMeanings_isConstant_4 rfl (lv_at hl 1 rfl) ?_
  refine pu_Vi (rest := []) S hC (f4_Objects_whatOf l γ A κ φ ψ x1) meObjects_whatOf qw_2c7313498c ⟨Nat.le_of_ble_eq_true rfl, Nat.le_of_ble_eq_true rfl⟩ (rv_4 hC hI) hG rfl hl.1 rfl (Nat.le_of_ble_eq_true rfl) dMeanings_isConstant_5 ⟨Nat.zero_le _, Nat.zero_le _⟩ (fun r3 hr3 => ?_)
  obtain ⟨hr3, er3⟩ := hr3
  refine lv_if_ne (tgt := 15) hx hb dMeanings_isConstant_8 (by decide) (fun c4 => ?_) (fun c4 => ?_)
  · refine lv_iconst (v := 0) hx hb dMeanings_isConstant_15 (by decide) ?_
    exact hE _ _ _ rfl ⟨trivial, (by subst er3; exact (hO.tr (if_neg c4)).symm)⟩ dMeanings_isConstant_16
  · refine lv_iconst (v := 1) hx hb dMeanings_isConstant_11 (by decide) ?_
    refine lv_goto (tgt := 16) hx hb dMeanings_isConstant_12 (by decide) ?_
    exact hE _ _ _ rfl ⟨trivial, (by subst er3; exact (hO.tr (if_pos c4)).symm)⟩ dMeanings_isConstant_16

def P_Meanings_isRow (κ : Nat → Nat) (φ : gF) (ψ : gG) (x1 : Int32) : Int32 := (if (P_Types_classOf (κ 4) (κ 13) (φ 4) (P_Objects_typeOfObject (κ 5) (κ 14) (φ 5) x1)) = 3 then 1 else 0)
set_option maxHeartbeats 4000000 in
set_option maxRecDepth 100000 in
theorem f_Meanings_isRow (l : Launch) (γ : gE) (A : Nat → Prop) (κ : Nat → Nat) (φ : gF) (ψ : gG) (x1 : Int32)  : PU l yMeanings_isRow bMeanings_isRow 2 (some .boolean) 2 42 [.ref (γ.2.2.2 12), .int x1] γ (INVF γ A κ φ ψ) (vp_Si (fun v : Int32 => (True) ∧ v = P_Meanings_isRow κ φ ψ x1)) := by
  refine pu_openZ (by decide) (Nat.le_of_ble_eq_true rfl) ?_
  intro p e s m args below meth c ls Q S hC hI hE hl
  obtain ⟨hx, hb, hml, hown, hW⟩ := id S
  have hG := hI
  have hI := inv_of hG
  have hl : lv_has ls 2 [(0, .ref (γ.2.2.2 12)), (1, .int x1)] := hl
  obtain ⟨OUT, hQ, hO⟩ : ∃ z, (z = P_Meanings_isRow κ φ ψ x1) ∧ Oq z (P_Meanings_isRow κ φ ψ x1) := ⟨_, rfl, rfl⟩
  rw [← hQ] at hE
  clear hQ
  refine lv_aload_n hx hb dMeanings_isRow_0 rfl (lv_at hl 0 rfl) ?_
  refine of_get S hC (of_12_2 hI) in_Meanings rfl (by decide) qw_e2a2dba4a9 dMeanings_isRow_1 ?_
  refine lv_aload_n hx hb dMeanings_isRow_4 rfl (lv_at hl 0 rfl) ?_
  refine of_get S hC (of_12_3 hI) in_Meanings rfl (by decide) qw_9bfdade5f5 dMeanings_isRow_5 ?_
  refine lv_iload_n hx hb dMeanings_isRow_8 rfl (lv_at hl 1 rfl) ?_
  refine pu_Vi (rest := [.ref (γ.2.2.2 3)]) S hC (f4_Objects_typeOfObject l γ A κ φ ψ x1) meObjects_typeOfObject qw_bc7306873f ⟨Nat.le_of_ble_eq_true rfl, Nat.le_of_ble_eq_true rfl⟩ (rv_4 hC hI) hG rfl hl.1 rfl (Nat.le_of_ble_eq_true rfl) dMeanings_isRow_9 ⟨Nat.zero_le _, Nat.zero_le _⟩ (fun r4 hr4 => ?_)
  obtain ⟨hr4, er4⟩ := hr4
  refine pu_Vi (rest := []) S hC (f3_Types_classOf l γ A κ φ ψ r4) meTypes_classOf qw_ac19273b21 ⟨Nat.le_of_ble_eq_true rfl, Nat.le_of_ble_eq_true rfl⟩ (rv_3 hC hI) hG rfl hl.1 rfl (Nat.le_of_ble_eq_true rfl) dMeanings_isRow_12 ⟨Nat.zero_le _, Nat.zero_le _⟩ (fun r5 hr5 => ?_)
  obtain ⟨hr5, er5⟩ := hr5
  refine lv_iconst (v := 3) hx hb dMeanings_isRow_15 (by decide) ?_
  refine lv_icmp_ne (tgt := 23) hx hb dMeanings_isRow_16 (by decide) (fun c6 => ?_) (fun c6 => ?_)
  · refine lv_iconst (v := 0) hx hb dMeanings_isRow_23 (by decide) ?_
    exact hE _ _ _ rfl ⟨trivial, (by subst er5 er4; exact (hO.tr (if_neg c6)).symm)⟩ dMeanings_isRow_24
  · refine lv_iconst (v := 1) hx hb dMeanings_isRow_19 (by decide) ?_
    refine lv_goto (tgt := 24) hx hb dMeanings_isRow_20 (by decide) ?_
    exact hE _ _ _ rfl ⟨trivial, (by subst er5 er4; exact (hO.tr (if_pos c6)).symm)⟩ dMeanings_isRow_24
