def P_TypeBook_takenEnumNode_34 (κ : Nat → Nat) (φ : gF) (ψ : gG) : Nat → Int32 → Int32 → Int32 → Int32 → Int32
  | 0, _, _, _, _ => default
  | n + 1, i1, i2, i3, i4 => (if i1 ≤ i4 then (-1) else (if (P_Trees_valueOf (κ 0) (κ 1) (κ 11) (φ 2) i4) = i2 then i4 else (if (P_Names_isTaken (κ 2) (κ 3) (κ 12) (φ 3) (P_Trees_valueOf (κ 0) (κ 1) (κ 11) (φ 2) i4)) = 0 then (if (P_TypeBook_isNameOfOneBefore κ φ ψ i3 i4) = 0 then (P_TypeBook_takenEnumNode_34 κ φ ψ n i1 i2 i3 (i4 + 1)) else i4) else i4)))
def P_TypeBook_takenEnumNode (κ : Nat → Nat) (φ : gF) (ψ : gG) (x1 : Int32) : Int32 := (if (P_Names_isTaken (κ 2) (κ 3) (κ 12) (φ 3) (P_Trees_valueOf (κ 0) (κ 1) (κ 11) (φ 2) x1)) = 0 then (P_TypeBook_takenEnumNode_34 κ φ ψ  ((2147483647 - (P_Trees_firstOf (κ 0) (κ 1) (κ 11) (φ 2) x1).toInt).toNat + 1) x1 (P_Trees_valueOf (κ 0) (κ 1) (κ 11) (φ 2) x1) (P_Trees_firstOf (κ 0) (κ 1) (κ 11) (φ 2) x1) (P_Trees_firstOf (κ 0) (κ 1) (κ 11) (φ 2) x1)) else x1)
set_option maxHeartbeats 4000000 in
set_option maxRecDepth 100000 in
theorem f_TypeBook_takenEnumNode (l : Launch) (γ : gE) (A : Nat → Prop) (κ : Nat → Nat) (φ : gF) (ψ : gG) (x1 : Int32)  : PU l yTypeBook_takenEnumNode bTypeBook_takenEnumNode 6 (some .int) 3 65 [.ref (γ.2.2.2 0), .int x1] γ (INVF γ A κ φ ψ) (vp_Si (fun v : Int32 => (True) ∧ v = P_TypeBook_takenEnumNode κ φ ψ x1)) := by
  refine pu_openI (by decide) (Nat.le_of_ble_eq_true rfl) ?_
  intro p e s m args below meth c ls Q S hC hI hE hl
  obtain ⟨hx, hb, hml, hown, hW⟩ := id S
  have hG := hI
  have hI := inv_of hG
  have hl : lv_has ls 6 [(0, .ref (γ.2.2.2 0)), (1, .int x1)] := hl
  obtain ⟨OUT, hQ, hO⟩ : ∃ z, (z = P_TypeBook_takenEnumNode κ φ ψ x1) ∧ Oq z (P_TypeBook_takenEnumNode κ φ ψ x1) := ⟨_, rfl, rfl⟩
  rw [← hQ] at hE
  clear hQ
  have J34 : ∀ (N34 : Nat) (ls : Array Slot)  (i1 : Int32) (i2 : Int32) (i3 : Int32) (i4 : Int32), (Oq OUT (P_TypeBook_takenEnumNode_34 κ φ ψ  (N34 + 1) i1 i2 i3 i4)) → (2147483647 - i4.toInt).toNat = N34 → lv_has ls 6 [(0, .ref (γ.2.2.2 0)), (1, .int i1), (2, .int i2), (3, .int i3), (4, .int i4)] → W p l e (bs_rm 3 0 0 65) s m args below meth c s.heap [] 0 0 Q (F0 m 34 ls []) := by
    intro N34
    induction N34 using Nat.strongRecOn with
    | ind N34 ih34 =>
      intro ls  i1 i2 i3 i4 hO hm34 hl
      refine lv_iload hx hb dTypeBook_takenEnumNode_34 (lv_at hl 4 rfl) ?_
      refine lv_iload_n hx hb dTypeBook_takenEnumNode_36 rfl (lv_at hl 1 rfl) ?_
      refine lv_icmp_ge (tgt := 88) hx hb dTypeBook_takenEnumNode_37 (by decide) (fun c13 => ?_) (fun c13 => ?_)
      · refine lv_iconst (v := (-1)) hx hb dTypeBook_takenEnumNode_88 (by decide) ?_
        exact hE _ _ _ ⟨trivial, (by exact (hO.tr (if_pos c13)).symm)⟩ dTypeBook_takenEnumNode_89
      · refine lv_aload_n hx hb dTypeBook_takenEnumNode_40 rfl (lv_at hl 0 rfl) ?_
        refine of_get S hC (of_0_0 hI) in_TypeBook rfl (by decide) qw_6151ee7924 dTypeBook_takenEnumNode_41 ?_
        refine lv_iload hx hb dTypeBook_takenEnumNode_44 (lv_at hl 4 rfl) ?_
        refine pu_Vi (rest := []) S hC (f1_Trees_valueOf l γ A κ φ ψ i4) meTrees_valueOf qw_1062a20d6a ⟨Nat.le_of_ble_eq_true rfl, Nat.le_of_ble_eq_true rfl⟩ (rv_1 hC hI) hG rfl hl.1 rfl (Nat.le_of_ble_eq_true rfl) dTypeBook_takenEnumNode_46 ⟨Nat.zero_le _, Nat.zero_le _⟩ (fun r14 hr14 => ?_)
        obtain ⟨hr14, er14⟩ := hr14
        refine lv_istore (lv' := [(5, .int r14), (0, .ref (γ.2.2.2 0)), (1, .int i1), (2, .int i2), (3, .int i3), (4, .int i4)]) hx hb dTypeBook_takenEnumNode_49 hl (by decide) rfl (fun ls hl => ?_)
        refine lv_iload hx hb dTypeBook_takenEnumNode_51 (lv_at hl 0 rfl) ?_
        refine lv_iload_n hx hb dTypeBook_takenEnumNode_53 rfl (lv_at hl 3 rfl) ?_
        refine lv_icmp_eq (tgt := 79) hx hb dTypeBook_takenEnumNode_54 (by decide) (fun c15 => ?_) (fun c15 => ?_)
        · refine lv_iload hx hb dTypeBook_takenEnumNode_79 (lv_at hl 5 rfl) ?_
          exact hE _ _ _ ⟨trivial, (by subst er14; exact (hO.tr ((if_neg c13).trans (if_pos c15))).symm)⟩ dTypeBook_takenEnumNode_81
        · refine lv_aload_n hx hb dTypeBook_takenEnumNode_57 rfl (lv_at hl 1 rfl) ?_
          refine of_get S hC (of_0_1 hI) in_TypeBook rfl (by decide) qw_a088f6ef48 dTypeBook_takenEnumNode_58 ?_
          refine lv_iload hx hb dTypeBook_takenEnumNode_61 (lv_at hl 0 rfl) ?_
          refine pu_Vi (rest := []) S hC (f2_Names_isTaken l γ A κ φ ψ r14) meNames_isTaken qw_5bf4c88d20 ⟨Nat.le_of_ble_eq_true rfl, Nat.le_of_ble_eq_true rfl⟩ (rv_2 hC hI) hG rfl hl.1 rfl (Nat.le_of_ble_eq_true rfl) dTypeBook_takenEnumNode_63 ⟨Nat.zero_le _, Nat.zero_le _⟩ (fun r16 hr16 => ?_)
          obtain ⟨hr16, er16⟩ := hr16
          refine lv_if_ne (tgt := 79) hx hb dTypeBook_takenEnumNode_66 (by decide) (fun c17 => ?_) (fun c17 => ?_)
          · refine lv_iload hx hb dTypeBook_takenEnumNode_79 (lv_at hl 5 rfl) ?_
            exact hE _ _ _ ⟨trivial, (by subst er16 er14; exact (hO.tr ((if_neg c13).trans ((if_neg c15).trans (if_neg c17)))).symm)⟩ dTypeBook_takenEnumNode_81
          · refine lv_aload_n hx hb dTypeBook_takenEnumNode_69 rfl (lv_at hl 1 rfl) ?_
            refine lv_iload_n hx hb dTypeBook_takenEnumNode_70 rfl (lv_at hl 4 rfl) ?_
            refine lv_iload hx hb dTypeBook_takenEnumNode_71 (lv_at hl 5 rfl) ?_
            refine pu_Vi (rest := []) S hC (f_TypeBook_isNameOfOneBefore l γ A κ φ ψ i3 i4) meTypeBook_isNameOfOneBefore qw_15066d379c ⟨Nat.le_of_ble_eq_true rfl, Nat.le_of_ble_eq_true rfl⟩ (rv_0 hC hI) hG rfl hl.1 rfl (Nat.le_of_ble_eq_true rfl) dTypeBook_takenEnumNode_73 ⟨Nat.zero_le _, Nat.zero_le _⟩ (fun r18 hr18 => ?_)
            obtain ⟨hr18, er18⟩ := hr18
            refine lv_if_eq (tgt := 82) hx hb dTypeBook_takenEnumNode_76 (by decide) (fun c19 => ?_) (fun c19 => ?_)
            · obtain ⟨v20, ev20⟩ : ∃ y : Int32, y = i4 + 1 := ⟨_, rfl⟩
              refine lv_iinc (v := v20) (lv' := [(4, .int v20), (5, .int r14), (0, .ref (γ.2.2.2 0)), (1, .int i1), (2, .int i2), (3, .int i3)]) hx hb dTypeBook_takenEnumNode_82 hl (k := 5) rfl (by rw [ev20]; rfl) (by decide) rfl (fun ls hl => ?_)
              refine lv_goto (tgt := 34) hx hb dTypeBook_takenEnumNode_85 (by decide) ?_
              exact ih34 _ (by have q1 : i4.toInt < 2147483647 := (by first | exact (mu_up (k := i4) (by assumption)).2 | assumption); have q2 := mu_lt q1; rw [← ev20] at q2; omega) ls i1 i2 i3 v20 (by have hN : N34 = (2147483647 - v20.toInt).toNat + 1 := (by have q1 : i4.toInt < 2147483647 := (by first | exact (mu_up (k := i4) (by assumption)).2 | assumption); have q2 := mu_lt q1; rw [← ev20] at q2; omega); rw [← hN]; clear hN; subst ev20 er18 er16 er14; exact hO.tr ((if_neg c13).trans ((if_neg c15).trans ((if_pos c17).trans (if_pos c19))))) rfl (lv_sub hl [2, 3, 4, 5, 0] rfl)
            · refine lv_iload hx hb dTypeBook_takenEnumNode_79 (lv_at hl 5 rfl) ?_
              exact hE _ _ _ ⟨trivial, (by subst er18 er16 er14; exact (hO.tr ((if_neg c13).trans ((if_neg c15).trans ((if_pos c17).trans (if_neg c19))))).symm)⟩ dTypeBook_takenEnumNode_81
  refine lv_aload_n hx hb dTypeBook_takenEnumNode_0 rfl (lv_at hl 0 rfl) ?_
  refine of_get S hC (of_0_0 hI) in_TypeBook rfl (by decide) qw_6151ee7924 dTypeBook_takenEnumNode_1 ?_
  refine lv_iload_n hx hb dTypeBook_takenEnumNode_4 rfl (lv_at hl 1 rfl) ?_
  refine pu_Vi (rest := []) S hC (f1_Trees_valueOf l γ A κ φ ψ x1) meTrees_valueOf qw_1062a20d6a ⟨Nat.le_of_ble_eq_true rfl, Nat.le_of_ble_eq_true rfl⟩ (rv_1 hC hI) hG rfl hl.1 rfl (Nat.le_of_ble_eq_true rfl) dTypeBook_takenEnumNode_5 ⟨Nat.zero_le _, Nat.zero_le _⟩ (fun r21 hr21 => ?_)
  obtain ⟨hr21, er21⟩ := hr21
  refine lv_istore_n (lv' := [(2, .int r21), (0, .ref (γ.2.2.2 0)), (1, .int x1)]) hx hb dTypeBook_takenEnumNode_8 rfl hl (by decide) rfl (fun ls hl => ?_)
  refine lv_aload_n hx hb dTypeBook_takenEnumNode_9 rfl (lv_at hl 1 rfl) ?_
  refine of_get S hC (of_0_1 hI) in_TypeBook rfl (by decide) qw_a088f6ef48 dTypeBook_takenEnumNode_10 ?_
  refine lv_iload_n hx hb dTypeBook_takenEnumNode_13 rfl (lv_at hl 0 rfl) ?_
  refine pu_Vi (rest := []) S hC (f2_Names_isTaken l γ A κ φ ψ r21) meNames_isTaken qw_5bf4c88d20 ⟨Nat.le_of_ble_eq_true rfl, Nat.le_of_ble_eq_true rfl⟩ (rv_2 hC hI) hG rfl hl.1 rfl (Nat.le_of_ble_eq_true rfl) dTypeBook_takenEnumNode_14 ⟨Nat.zero_le _, Nat.zero_le _⟩ (fun r22 hr22 => ?_)
  obtain ⟨hr22, er22⟩ := hr22
  refine lv_if_eq (tgt := 22) hx hb dTypeBook_takenEnumNode_17 (by decide) (fun c23 => ?_) (fun c23 => ?_)
  · refine lv_aload_n hx hb dTypeBook_takenEnumNode_22 rfl (lv_at hl 1 rfl) ?_
    refine of_get S hC (of_0_0 hI) in_TypeBook rfl (by decide) qw_6151ee7924 dTypeBook_takenEnumNode_23 ?_
    refine lv_iload_n hx hb dTypeBook_takenEnumNode_26 rfl (lv_at hl 2 rfl) ?_
    refine pu_Vi (rest := []) S hC (f1_Trees_firstOf l γ A κ φ ψ x1) meTrees_firstOf qw_cf09947176 ⟨Nat.le_of_ble_eq_true rfl, Nat.le_of_ble_eq_true rfl⟩ (rv_1 hC hI) hG rfl hl.1 rfl (Nat.le_of_ble_eq_true rfl) dTypeBook_takenEnumNode_27 ⟨Nat.zero_le _, Nat.zero_le _⟩ (fun r24 hr24 => ?_)
    obtain ⟨hr24, er24⟩ := hr24
    refine lv_istore_n (lv' := [(3, .int r24), (2, .int r21), (0, .ref (γ.2.2.2 0)), (1, .int x1)]) hx hb dTypeBook_takenEnumNode_30 rfl hl (by decide) rfl (fun ls hl => ?_)
    refine lv_iload_n hx hb dTypeBook_takenEnumNode_31 rfl (lv_at hl 0 rfl) ?_
    refine lv_istore (lv' := [(4, .int r24), (3, .int r24), (2, .int r21), (0, .ref (γ.2.2.2 0)), (1, .int x1)]) hx hb dTypeBook_takenEnumNode_32 hl (by decide) rfl (fun ls hl => ?_)
    exact J34 _ ls x1 r21 r24 r24 (by subst er24 er22 er21; exact hO.tr (if_pos c23)) rfl (lv_sub hl [3, 4, 2, 1, 0] rfl)
  · refine lv_iload_n hx hb dTypeBook_takenEnumNode_20 rfl (lv_at hl 2 rfl) ?_
    exact hE _ _ _ ⟨trivial, (by subst er22 er21; exact (hO.tr (if_neg c23)).symm)⟩ dTypeBook_takenEnumNode_21

-- writers of one component, said of the whole
theorem muf_upf {l : Launch} {y : MethodName} {bytes : ByteArray} {maxL fr lo mc ms : Nat} {ret : Option FieldType} {av : List Value} {γ : gE} {A : Nat → Prop} {κ : Nat → Nat} {φ : gF} {ψ : gG} {f' : gf} (i : Nat) (h1 : 1 ≤ i) (h2 : i ≤ 10)
    (hM : ∀ Z, MU l y bytes maxL ret fr lo mc ms av γ Z (cmp γ (FFG γ κ (φ i) (ψ i) i) Z) (mQv (cmp γ (FFG γ κ f' (ψ i) i) Z) Z)) : MU l y bytes maxL ret fr lo mc ms av γ A (INVF γ A κ φ ψ) (mQv (INVF γ A κ (up φ i f') ψ) A) :=
  met_x hM (fun a U h => by
    obtain ⟨ha, hC, hA, hI⟩ := h
    obtain ⟨Z, hc, hZn, hZA, hback⟩ := ing_lift hI hA i h1 h2
    refine ⟨Z, ⟨ha, hC, hZn, hc⟩, fun o t h => ?_, hZA⟩
    obtain ⟨⟨u, e1, e2, e3⟩, hz, hk⟩ := h
    exact ⟨⟨u, e1, e2, by have h9 := hback κ f' (ψ i) _ (fun _ _ _ _ _ _ => rfl) e3 hz hk; rw [up_id ψ i] at h9; exact h9⟩, hz, fun q h3 h4 => hk q h3 (fun h5 => h4 (hZA q h5))⟩)
theorem muf_upg {l : Launch} {y : MethodName} {bytes : ByteArray} {maxL fr lo mc ms : Nat} {ret : Option FieldType} {av : List Value} {γ : gE} {A : Nat → Prop} {κ : Nat → Nat} {φ : gF} {ψ : gG} {g' : gg} (i : Nat) (h1 : 1 ≤ i) (h2 : i ≤ 10)
    (hM : ∀ Z, MU l y bytes maxL ret fr lo mc ms av γ Z (cmp γ (FFG γ κ (φ i) (ψ i) i) Z) (mQv (cmp γ (FFG γ κ (φ i) g' i) Z) Z)) : MU l y bytes maxL ret fr lo mc ms av γ A (INVF γ A κ φ ψ) (mQv (INVF γ A κ φ (up ψ i g')) A) :=
  met_x hM (fun a U h => by
    obtain ⟨ha, hC, hA, hI⟩ := h
    obtain ⟨Z, hc, hZn, hZA, hback⟩ := ing_lift hI hA i h1 h2
    refine ⟨Z, ⟨ha, hC, hZn, hc⟩, fun o t h => ?_, hZA⟩
    obtain ⟨⟨u, e1, e2, e3⟩, hz, hk⟩ := h
    exact ⟨⟨u, e1, e2, by have h9 := hback κ (φ i) g' _ (fun _ _ _ _ _ _ => rfl) e3 hz hk; rw [up_id φ i] at h9; exact h9⟩, hz, fun q h3 h4 => hk q h3 (fun h5 => h4 (hZA q h5))⟩)
section FST
variable {p : Program} {l : Launch} {e : Env} {R : Room} {s : State} {m : MethodId} {args : Array Value} {below : List Frame} {meth : Method} {c : Code} {H : Heap} {locs : List Loc} {cells slots : Nat} {Q : State → Prop}
variable {cc : ByteArray} {pc : Nat} {ls : Array Slot} {rest : List Value} {A Z : Nat → Prop} {b : Nat} {H0 : Heap} {nL index : Nat} {own : String} {γ : gE} {κ : Nat → Nat} {φ : gF} {ψ : gG}
theorem ing_f {i : Nat} (hback : ∀ (κ' : Nat → Nat) (f' : gf) (g' : gg) (H1 : Heap), (∀ j, j ≠ i → 1 ≤ j → j ≤ 10 → ∀ f g, FFG γ κ' f g j = FFG γ κ f g j) → cmp γ (FFG γ κ' f' g' i) Z H1 → H.size ≤ H1.size → (∀ q : Nat, q < H.size → ¬ Z q → H1[q]? = H[q]?) → INVF γ A κ' (up φ i f') (up ψ i g') H1) (f' : gf) (H1 : Heap) (h1 : cmp γ (FFG γ κ f' (ψ i) i) Z H1) (h2 : H.size ≤ H1.size) (h3 : ∀ q : Nat, q < H.size → ¬ Z q → H1[q]? = H[q]?) : INVF γ A κ (up φ i f') ψ H1 := by
  have h9 := hback κ f' (ψ i) H1 (fun _ _ _ _ _ _ => rfl) h1 h2 h3
  rw [up_id ψ i] at h9
  exact h9
theorem ig_fault (S : bs_F p s m args c cc nL R_TypeBook) (hC : CX γ s) (hI : INVF γ A κ φ ψ H) (hA : ∀ q, H.size ≤ q → A q) (hS : va_S A H0 H locs) (lk : Cond.fieldLink R_TypeBook index R_TypeBook "faultNode" "I" ∈ bs_W0) {x : Int32} (hdg : decode cc pc = .ok (.putfield index, 3))
    (kk : ∀ (H1 : Heap) (locs1 : List Loc), INVF γ A κ (up φ 1 (Au (φ 1) 1 0 x)) ψ H1 → va_S A H0 H1 locs1 → W p l e R s m args below meth c H1 locs1 cells slots Q (F0 m (pc + 3) ls rest)) : W p l e R s m args below meth c H locs cells slots Q (F0 m pc ls (.int x :: .ref (γ.2.2.2 0) :: rest)) := by
  obtain ⟨Z, ⟨ws, ⟨b0, rfl, h1, h2⟩, hP, hD⟩, hZn, hZA, hback⟩ := ing_lift hI hA 1 (by decide) (by decide)
  refine st_put (D := γ.1) (ci := 0) (v := .int x) (ty := .int) (C := R_TypeBook) (T := T_TypeBook) (N := 7) S.1 S.2.1 S.2.2.2.2 in_TypeBook t_TypeBook t_TypeBook_ok n_TypeBook S.2.2.2.1 hC.1 hP hD hZA hS 0 rfl rfl 6 (by decide) (S.2.2.2.2 _ lk) (fun _ h => h) rfl (by decide +kernel) rfl rfl (Nat.le_of_ble_eq_true rfl) hdg (fun H1 locs1 hP1 hD1 hS1 hz ho => ?_)
  exact kk H1 locs1 (ing_f hback _ H1 ⟨_, ⟨b0, rfl, h1, h2⟩, hP1, hD1⟩ (Nat.le_of_eq hz.symm) (fun q _ hq => ho q (fun e9 => hq (by rw [e9]; exact hD.2 0 _ rfl)))) hS1
theorem ig_at (S : bs_F p s m args c cc nL R_Looker) (hC : CX γ s) (hI : INVF γ A κ φ ψ H) (hA : ∀ q, H.size ≤ q → A q) (hS : va_S A H0 H locs) (lk : Cond.fieldLink R_Looker index R_Looker "at" "I" ∈ bs_W0) {x : Int32} (hdg : decode cc pc = .ok (.putfield index, 3))
    (kk : ∀ (H1 : Heap) (locs1 : List Loc), INVF γ A κ (up φ 1 (Au (φ 1) 2 0 x)) ψ H1 → va_S A H0 H1 locs1 → W p l e R s m args below meth c H1 locs1 cells slots Q (F0 m (pc + 3) ls rest)) : W p l e R s m args below meth c H locs cells slots Q (F0 m pc ls (.int x :: .ref (γ.2.2.2 8) :: rest)) := by
  obtain ⟨Z, ⟨ws, ⟨b0, rfl, h1, h2⟩, hP, hD⟩, hZn, hZA, hback⟩ := ing_lift hI hA 1 (by decide) (by decide)
  refine st_put (D := γ.1) (ci := 7) (v := .int x) (ty := .int) (C := R_Looker) (T := T_Looker) (N := 8) S.1 S.2.1 S.2.2.2.2 in_Looker t_Looker t_Looker_ok n_Looker S.2.2.2.1 hC.1 hP hD hZA hS 1 rfl rfl 7 (by decide) (S.2.2.2.2 _ lk) (fun _ h => h) rfl (by decide +kernel) rfl rfl (Nat.le_of_ble_eq_true rfl) hdg (fun H1 locs1 hP1 hD1 hS1 hz ho => ?_)
  exact kk H1 locs1 (ing_f hback _ H1 ⟨_, ⟨b0, rfl, h1, h2⟩, hP1, hD1⟩ (Nat.le_of_eq hz.symm) (fun q _ hq => ho q (fun e9 => hq (by rw [e9]; exact hD.2 1 _ rfl)))) hS1
theorem ig_hid (S : bs_F p s m args c cc nL own) (hC : CX γ s) (hI : INVF γ A κ φ ψ H) (hA : ∀ q, H.size ≤ q → A q) (hS : va_S A H0 H locs) (hO : OF γ H (γ.2.2.2 8) 7 6 (.ref b)) {i x : Int32} (hin : vp_in i (κ 15)) (hdg : decode cc pc = .ok (.iastore, 1))
    (kk : ∀ (H1 : Heap) (locs1 : List Loc), INVF γ A κ (up φ 1 (Au (φ 1) 0 i.toNatClampNeg x)) ψ H1 → va_S A H0 H1 locs1 → W p l e R s m args below meth c H1 locs1 cells slots Q (F0 m (pc + 1) ls rest)) : W p l e R s m args below meth c H locs cells slots Q (F0 m pc ls (.int x :: .int i :: .ref b :: rest)) := by
  obtain ⟨Z, ⟨ws, ⟨b0, rfl, h1, h2⟩, hP, hD⟩, hZn, hZA, hback⟩ := ing_lift hI hA 1 (by decide) (by decide)
  have hO2 : OF γ H (γ.2.2.2 8) 7 6 (.ref b0) := ⟨_, fun k q hq => hP 1 q (by cases k with | zero => exact hq | succ k => cases hq), rfl⟩
  cases of_inj rfl (by decide) hO hO2
  refine st_iast S.1 S.2.1 hC.1 hP hD hZA hS 4 0 rfl rfl hin hdg (fun H1 locs1 hP1 hD1 hS1 hz ho => ?_)
  exact kk H1 locs1 (ing_f hback _ H1 ⟨_, ⟨b, rfl, h1, h2⟩, hP1, hD1⟩ (Nat.le_of_eq hz.symm) (fun q _ hq => ho q (fun e9 => hq (by rw [e9]; exact hD.2 4 _ rfl)))) hS1
theorem ig_onum (S : bs_F p s m args c cc nL own) (hC : CX γ s) (hI : INVF γ A κ φ ψ H) (hA : ∀ q, H.size ≤ q → A q) (hS : va_S A H0 H locs) (hO : OF γ H (γ.2.2.2 4) 4 2 (.ref b)) {i x r : Int32} (hr : r = 0 ∨ ∃ j, j < κ 5 ∧ i = nI j) (hc : ¬ r = 0) (hdg : decode cc pc = .ok (.iastore, 1))
    (kk : ∀ (H1 : Heap) (locs1 : List Loc), INVF γ A κ (up φ 5 (Au (φ 5) 2 i.toNatClampNeg x)) ψ H1 → va_S A H0 H1 locs1 → W p l e R s m args below meth c H1 locs1 cells slots Q (F0 m (pc + 1) ls rest)) : W p l e R s m args below meth c H locs cells slots Q (F0 m pc ls (.int x :: .int i :: .ref b :: rest)) := by
  obtain ⟨Z, ⟨ws, ⟨b0, b1, b2, rfl, h1, h2, h3⟩, hP, hD⟩, hZn, hZA, hback⟩ := ing_lift hI hA 5 (by decide) (by decide)
  have hO2 : OF γ H (γ.2.2.2 4) 4 2 (.ref b2) := ⟨_, fun k q hq => hP 0 q (by cases k with | zero => exact hq | succ k => cases hq), rfl⟩
  cases of_inj rfl (by decide) hO hO2
  refine st_iast S.1 S.2.1 hC.1 hP hD hZA hS 3 0 rfl rfl (in_has hr hc h1 (by omega)) hdg (fun H1 locs1 hP1 hD1 hS1 hz ho => ?_)
  exact kk H1 locs1 (ing_f hback _ H1 ⟨_, ⟨b0, b1, b, rfl, h1, h2, h3⟩, hP1, hD1⟩ (Nat.le_of_eq hz.symm) (fun q _ hq => ho q (fun e9 => hq (by rw [e9]; exact hD.2 3 _ rfl)))) hS1
end FST

def P_Looks_setMeaning (L : Nat) (f : gf) (x1 : Int32) (x2 : Int32) : gf := (if (P_Looks_has L f x1) = 0 then f else (Au f 2 x1.toNatClampNeg x2))
set_option maxHeartbeats 4000000 in
set_option maxRecDepth 100000 in
theorem fc_Looks_setMeaning (l : Launch) (γ : gE) (Z : Nat → Prop) (a rw L : Nat) (f : gf) (x1 : Int32) (x2 : Int32) : MU l yLooks_setMeaning bLooks_setMeaning 3 (none) 1 21 0 0 [.ref a, .int x1, .int x2] γ Z (cmp γ (gLooks γ a rw L f) Z) (mQv (fun H => cmp γ (gLooks γ a rw L (P_Looks_setMeaning L f x1 x2)) Z H) Z) := by
  refine mu_openV (by decide) (Nat.le_of_ble_eq_true rfl) ?_
  intro p e s m args below meth c ls Q S hnm hC hA hI hE hl
  obtain ⟨hx, hb, hml, hown, hW⟩ := id S
  have hS : va_S Z s.heap s.heap [] := va_S.rf
  have hl : lv_has ls 3 [(0, .ref a), (1, .int x1), (2, .int x2)] := hl
  obtain ⟨OUT, hQ, hO⟩ : ∃ z, (z = P_Looks_setMeaning L f x1 x2) ∧ Oq z (P_Looks_setMeaning L f x1 x2) := ⟨_, rfl, rfl⟩
  rw [← hQ] at hE
  clear hQ
  refine lv_aload_n hx hb dLooks_setMeaning_0 rfl (lv_at hl 0 rfl) ?_
  refine lv_iload_n hx hb dLooks_setMeaning_1 rfl (lv_at hl 1 rfl) ?_
  obtain ⟨ws_2, ⟨b0_2, b1_2, b2_2, b3_2, b4_2, rfl, h1_2, h2_2⟩, hP, hD⟩ := id hI
  have hP : va_P γ.1 vwCl [(a, .inr (6, [.ref b0_2, .ref b1_2, .ref b2_2, .ref b3_2, .ref b4_2, .ref rw])), (b0_2, .inl (γ.2.1, L, .inl (f 0))), (b1_2, .inl (γ.2.1, L, .inl (f 1))), (b2_2, .inl (γ.2.1, L, .inl (f 2))), (b3_2, .inl (γ.2.1, L, .inl (f 3))), (b4_2, .inl (γ.2.1, L, .inl (f 4)))] _ := hP
  have hD : va_D Z [(a, .inr (6, [.ref b0_2, .ref b1_2, .ref b2_2, .ref b3_2, .ref b4_2, .ref rw])), (b0_2, .inl (γ.2.1, L, .inl (f 0))), (b1_2, .inl (γ.2.1, L, .inl (f 1))), (b2_2, .inl (γ.2.1, L, .inl (f 2))), (b3_2, .inl (γ.2.1, L, .inl (f 3))), (b4_2, .inl (γ.2.1, L, .inl (f 4)))] := hD
  refine pu_Vi (rest := []) S hC (fc_Looks_has l γ Z a rw L f x1) meLooks_has qw_4e5fd4a1cd ⟨Nat.le_of_ble_eq_true rfl, Nat.le_of_ble_eq_true rfl⟩ (va_recv hC.1 hP (ci := 6) (q0 := 0) rfl rfl) hI rfl hl.1 rfl (Nat.le_of_ble_eq_true rfl) dLooks_setMeaning_2 ⟨Nat.zero_le _, Nat.zero_le _⟩ (fun r4 hr4 => ?_)
  obtain ⟨hr4, er4⟩ := hr4
  refine lv_if_eq (tgt := 15) hx hb dLooks_setMeaning_5 (by decide) (fun c5 => ?_) (fun c5 => ?_)
  · exact hE _ _ _ _ hS (by have hO2 : Oq OUT f := (by subst er4; exact hO.tr (if_pos c5)); rw [hO2.eq]; exact hI) dLooks_setMeaning_15
  · refine lv_aload_n hx hb dLooks_setMeaning_8 rfl (lv_at hl 0 rfl) ?_
    refine va_get (D := γ.1) (ci := 6) (v := .ref b2_2) (C := R_Looks) (T := T_Looks) (N := 6) (Ts := bs_W0) hx hb hW in_Looks hown hC.1 hP 0 rfl rfl 2 (by decide) (hW _ qw_427e012605) (fun _ h9 => h9) rfl dLooks_setMeaning_9 ?_
    refine lv_iload_n hx hb dLooks_setMeaning_12 rfl (lv_at hl 1 rfl) ?_
    refine lv_iload_n hx hb dLooks_setMeaning_13 rfl (lv_at hl 2 rfl) ?_
    refine va_iast hx hb hC.1 hP hD hS 3 0 rfl rfl (in_has (by assumption) (by assumption) (by omega) (by omega)) dLooks_setMeaning_14 (fun H locs hP hD hS => ?_)
    obtain ⟨fc6, efc6⟩ : ∃ z : gf, z = Au f 2 x1.toNatClampNeg x2 := ⟨_, rfl⟩
    have hP : va_P γ.1 vwCl [(a, .inr (6, [.ref b0_2, .ref b1_2, .ref b2_2, .ref b3_2, .ref b4_2, .ref rw])), (b0_2, .inl (γ.2.1, L, .inl (fc6 0))), (b1_2, .inl (γ.2.1, L, .inl (fc6 1))), (b2_2, .inl (γ.2.1, L, .inl (fc6 2))), (b3_2, .inl (γ.2.1, L, .inl (fc6 3))), (b4_2, .inl (γ.2.1, L, .inl (fc6 4)))] _ := (by rw [efc6]; exact hP)
    have hD : va_D Z [(a, .inr (6, [.ref b0_2, .ref b1_2, .ref b2_2, .ref b3_2, .ref b4_2, .ref rw])), (b0_2, .inl (γ.2.1, L, .inl (fc6 0))), (b1_2, .inl (γ.2.1, L, .inl (fc6 1))), (b2_2, .inl (γ.2.1, L, .inl (fc6 2))), (b3_2, .inl (γ.2.1, L, .inl (fc6 3))), (b4_2, .inl (γ.2.1, L, .inl (fc6 4)))] := (by rw [efc6]; exact hD)
    have hI : cmp γ (gLooks γ a rw L fc6) Z _ := ⟨_, ⟨b0_2, b1_2, b2_2, b3_2, b4_2, rfl, h1_2, h2_2⟩, hP, hD⟩
    exact hE _ _ _ _ hS (by have hO2 : Oq OUT fc6 := (by subst efc6 er4; exact hO.tr (if_neg c5)); rw [hO2.eq]; exact hI) dLooks_setMeaning_15
theorem f6_Looks_setMeaning (l : Launch) (γ : gE) (A : Nat → Prop) (κ : Nat → Nat) (φ : gF) (ψ : gG) (x1 : Int32) (x2 : Int32) : MU l yLooks_setMeaning bLooks_setMeaning 3 (none) 1 21 0 0 [.ref (γ.2.2.2 6), .int x1, .int x2] γ A (INVF γ A κ φ ψ) (mQv (fun H => INVF γ A κ (up φ 7 (P_Looks_setMeaning (κ 6) (φ 7) x1 x2)) ψ H) A) :=
  muf_upf 7 (by decide) (by decide) (fun Z => fc_Looks_setMeaning l γ Z (γ.2.2.2 6) (γ.2.2.2 7) (κ 6) (φ 7) x1 x2)
theorem f9_Looks_setMeaning (l : Launch) (γ : gE) (A : Nat → Prop) (κ : Nat → Nat) (φ : gF) (ψ : gG) (x1 : Int32) (x2 : Int32) : MU l yLooks_setMeaning bLooks_setMeaning 3 (none) 1 21 0 0 [.ref (γ.2.2.2 9), .int x1, .int x2] γ A (INVF γ A κ φ ψ) (mQv (fun H => INVF γ A κ (up φ 9 (P_Looks_setMeaning (κ 7) (φ 9) x1 x2)) ψ H) A) :=
  muf_upf 9 (by decide) (by decide) (fun Z => fc_Looks_setMeaning l γ Z (γ.2.2.2 9) (γ.2.2.2 10) (κ 7) (φ 9) x1 x2)

def P_Looks_setNumber (L : Nat) (f : gf) (x1 : Int32) (x2 : Int32) : gf := (if (P_Looks_has L f x1) = 0 then f else (Au f 3 x1.toNatClampNeg x2))
set_option maxHeartbeats 4000000 in
set_option maxRecDepth 100000 in
theorem fc_Looks_setNumber (l : Launch) (γ : gE) (Z : Nat → Prop) (a rw L : Nat) (f : gf) (x1 : Int32) (x2 : Int32) : MU l yLooks_setNumber bLooks_setNumber 3 (none) 1 21 0 0 [.ref a, .int x1, .int x2] γ Z (cmp γ (gLooks γ a rw L f) Z) (mQv (fun H => cmp γ (gLooks γ a rw L (P_Looks_setNumber L f x1 x2)) Z H) Z) := by
  refine mu_openV (by decide) (Nat.le_of_ble_eq_true rfl) ?_
  intro p e s m args below meth c ls Q S hnm hC hA hI hE hl
  obtain ⟨hx, hb, hml, hown, hW⟩ := id S
  have hS : va_S Z s.heap s.heap [] := va_S.rf
  have hl : lv_has ls 3 [(0, .ref a), (1, .int x1), (2, .int x2)] := hl
  obtain ⟨OUT, hQ, hO⟩ : ∃ z, (z = P_Looks_setNumber L f x1 x2) ∧ Oq z (P_Looks_setNumber L f x1 x2) := ⟨_, rfl, rfl⟩
  rw [← hQ] at hE
  clear hQ
  refine lv_aload_n hx hb dLooks_setNumber_0 rfl (lv_at hl 0 rfl) ?_
  refine lv_iload_n hx hb dLooks_setNumber_1 rfl (lv_at hl 1 rfl) ?_
  obtain ⟨ws_2, ⟨b0_2, b1_2, b2_2, b3_2, b4_2, rfl, h1_2, h2_2⟩, hP, hD⟩ := id hI
  have hP : va_P γ.1 vwCl [(a, .inr (6, [.ref b0_2, .ref b1_2, .ref b2_2, .ref b3_2, .ref b4_2, .ref rw])), (b0_2, .inl (γ.2.1, L, .inl (f 0))), (b1_2, .inl (γ.2.1, L, .inl (f 1))), (b2_2, .inl (γ.2.1, L, .inl (f 2))), (b3_2, .inl (γ.2.1, L, .inl (f 3))), (b4_2, .inl (γ.2.1, L, .inl (f 4)))] _ := hP
  have hD : va_D Z [(a, .inr (6, [.ref b0_2, .ref b1_2, .ref b2_2, .ref b3_2, .ref b4_2, .ref rw])), (b0_2, .inl (γ.2.1, L, .inl (f 0))), (b1_2, .inl (γ.2.1, L, .inl (f 1))), (b2_2, .inl (γ.2.1, L, .inl (f 2))), (b3_2, .inl (γ.2.1, L, .inl (f 3))), (b4_2, .inl (γ.2.1, L, .inl (f 4)))] := hD
  refine pu_Vi (rest := []) S hC (fc_Looks_has l γ Z a rw L f x1) meLooks_has qw_4e5fd4a1cd ⟨Nat.le_of_ble_eq_true rfl, Nat.le_of_ble_eq_true rfl⟩ (va_recv hC.1 hP (ci := 6) (q0 := 0) rfl rfl) hI rfl hl.1 rfl (Nat.le_of_ble_eq_true rfl) dLooks_setNumber_2 ⟨Nat.zero_le _, Nat.zero_le _⟩ (fun r4 hr4 => ?_)
  obtain ⟨hr4, er4⟩ := hr4
  refine lv_if_eq (tgt := 15) hx hb dLooks_setNumber_5 (by decide) (fun c5 => ?_) (fun c5 => ?_)
  · exact hE _ _ _ _ hS (by have hO2 : Oq OUT f := (by subst er4; exact hO.tr (if_pos c5)); rw [hO2.eq]; exact hI) dLooks_setNumber_15
  · refine lv_aload_n hx hb dLooks_setNumber_8 rfl (lv_at hl 0 rfl) ?_
    refine va_get (D := γ.1) (ci := 6) (v := .ref b3_2) (C := R_Looks) (T := T_Looks) (N := 6) (Ts := bs_W0) hx hb hW in_Looks hown hC.1 hP 0 rfl rfl 3 (by decide) (hW _ qw_5344cf30a3) (fun _ h9 => h9) rfl dLooks_setNumber_9 ?_
    refine lv_iload_n hx hb dLooks_setNumber_12 rfl (lv_at hl 1 rfl) ?_
    refine lv_iload_n hx hb dLooks_setNumber_13 rfl (lv_at hl 2 rfl) ?_
    refine va_iast hx hb hC.1 hP hD hS 4 0 rfl rfl (in_has (by assumption) (by assumption) (by omega) (by omega)) dLooks_setNumber_14 (fun H locs hP hD hS => ?_)
    obtain ⟨fc6, efc6⟩ : ∃ z : gf, z = Au f 3 x1.toNatClampNeg x2 := ⟨_, rfl⟩
    have hP : va_P γ.1 vwCl [(a, .inr (6, [.ref b0_2, .ref b1_2, .ref b2_2, .ref b3_2, .ref b4_2, .ref rw])), (b0_2, .inl (γ.2.1, L, .inl (fc6 0))), (b1_2, .inl (γ.2.1, L, .inl (fc6 1))), (b2_2, .inl (γ.2.1, L, .inl (fc6 2))), (b3_2, .inl (γ.2.1, L, .inl (fc6 3))), (b4_2, .inl (γ.2.1, L, .inl (fc6 4)))] _ := (by rw [efc6]; exact hP)
    have hD : va_D Z [(a, .inr (6, [.ref b0_2, .ref b1_2, .ref b2_2, .ref b3_2, .ref b4_2, .ref rw])), (b0_2, .inl (γ.2.1, L, .inl (fc6 0))), (b1_2, .inl (γ.2.1, L, .inl (fc6 1))), (b2_2, .inl (γ.2.1, L, .inl (fc6 2))), (b3_2, .inl (γ.2.1, L, .inl (fc6 3))), (b4_2, .inl (γ.2.1, L, .inl (fc6 4)))] := (by rw [efc6]; exact hD)
    have hI : cmp γ (gLooks γ a rw L fc6) Z _ := ⟨_, ⟨b0_2, b1_2, b2_2, b3_2, b4_2, rfl, h1_2, h2_2⟩, hP, hD⟩
    exact hE _ _ _ _ hS (by have hO2 : Oq OUT fc6 := (by subst efc6 er4; exact hO.tr (if_neg c5)); rw [hO2.eq]; exact hI) dLooks_setNumber_15
theorem f6_Looks_setNumber (l : Launch) (γ : gE) (A : Nat → Prop) (κ : Nat → Nat) (φ : gF) (ψ : gG) (x1 : Int32) (x2 : Int32) : MU l yLooks_setNumber bLooks_setNumber 3 (none) 1 21 0 0 [.ref (γ.2.2.2 6), .int x1, .int x2] γ A (INVF γ A κ φ ψ) (mQv (fun H => INVF γ A κ (up φ 7 (P_Looks_setNumber (κ 6) (φ 7) x1 x2)) ψ H) A) :=
  muf_upf 7 (by decide) (by decide) (fun Z => fc_Looks_setNumber l γ Z (γ.2.2.2 6) (γ.2.2.2 7) (κ 6) (φ 7) x1 x2)
theorem f9_Looks_setNumber (l : Launch) (γ : gE) (A : Nat → Prop) (κ : Nat → Nat) (φ : gF) (ψ : gG) (x1 : Int32) (x2 : Int32) : MU l yLooks_setNumber bLooks_setNumber 3 (none) 1 21 0 0 [.ref (γ.2.2.2 9), .int x1, .int x2] γ A (INVF γ A κ φ ψ) (mQv (fun H => INVF γ A κ (up φ 9 (P_Looks_setNumber (κ 7) (φ 9) x1 x2)) ψ H) A) :=
  muf_upf 9 (by decide) (by decide) (fun Z => fc_Looks_setNumber l γ Z (γ.2.2.2 9) (γ.2.2.2 10) (κ 7) (φ 9) x1 x2)

def P_Looks_note (L : Nat) (f : gf) (x1 : Int32) (x2 : Int32) (x3 : Int32) (x4 : Int32) : gf := (if (P_Looks_has L f x1) = 0 then f else (if x4 = 0 then (Au (Au (Au f 0 x1.toNatClampNeg x2) 1 x1.toNatClampNeg x3) 4 x1.toNatClampNeg 0) else (Au (Au (Au f 0 x1.toNatClampNeg x2) 1 x1.toNatClampNeg x3) 4 x1.toNatClampNeg 1)))
set_option maxHeartbeats 4000000 in
set_option maxRecDepth 100000 in
theorem fc_Looks_note (l : Launch) (γ : gE) (Z : Nat → Prop) (a rw L : Nat) (f : gf) (x1 : Int32) (x2 : Int32) (x3 : Int32) (x4 : Int32) : MU l yLooks_note bLooks_note 5 (none) 1 21 0 0 [.ref a, .int x1, .int x2, .int x3, .int x4] γ Z (cmp γ (gLooks γ a rw L f) Z) (mQv (fun H => cmp γ (gLooks γ a rw L (P_Looks_note L f x1 x2 x3 x4)) Z H) Z) := by
  refine mu_openV (by decide) (Nat.le_of_ble_eq_true rfl) ?_
  intro p e s m args below meth c ls Q S hnm hC hA hI hE hl
  obtain ⟨hx, hb, hml, hown, hW⟩ := id S
  have hS : va_S Z s.heap s.heap [] := va_S.rf
  have hl : lv_has ls 5 [(0, .ref a), (1, .int x1), (2, .int x2), (3, .int x3), (4, .int x4)] := hl
  obtain ⟨OUT, hQ, hO⟩ : ∃ z, (z = P_Looks_note L f x1 x2 x3 x4) ∧ Oq z (P_Looks_note L f x1 x2 x3 x4) := ⟨_, rfl, rfl⟩
  rw [← hQ] at hE
  clear hQ
  refine lv_aload_n hx hb dLooks_note_0 rfl (lv_at hl 0 rfl) ?_
  refine lv_iload_n hx hb dLooks_note_1 rfl (lv_at hl 1 rfl) ?_
  obtain ⟨ws_2, ⟨b0_2, b1_2, b2_2, b3_2, b4_2, rfl, h1_2, h2_2⟩, hP, hD⟩ := id hI
  have hP : va_P γ.1 vwCl [(a, .inr (6, [.ref b0_2, .ref b1_2, .ref b2_2, .ref b3_2, .ref b4_2, .ref rw])), (b0_2, .inl (γ.2.1, L, .inl (f 0))), (b1_2, .inl (γ.2.1, L, .inl (f 1))), (b2_2, .inl (γ.2.1, L, .inl (f 2))), (b3_2, .inl (γ.2.1, L, .inl (f 3))), (b4_2, .inl (γ.2.1, L, .inl (f 4)))] _ := hP
  have hD : va_D Z [(a, .inr (6, [.ref b0_2, .ref b1_2, .ref b2_2, .ref b3_2, .ref b4_2, .ref rw])), (b0_2, .inl (γ.2.1, L, .inl (f 0))), (b1_2, .inl (γ.2.1, L, .inl (f 1))), (b2_2, .inl (γ.2.1, L, .inl (f 2))), (b3_2, .inl (γ.2.1, L, .inl (f 3))), (b4_2, .inl (γ.2.1, L, .inl (f 4)))] := hD
  refine pu_Vi (rest := []) S hC (fc_Looks_has l γ Z a rw L f x1) meLooks_has qw_4e5fd4a1cd ⟨Nat.le_of_ble_eq_true rfl, Nat.le_of_ble_eq_true rfl⟩ (va_recv hC.1 hP (ci := 6) (q0 := 0) rfl rfl) hI rfl hl.1 rfl (Nat.le_of_ble_eq_true rfl) dLooks_note_2 ⟨Nat.zero_le _, Nat.zero_le _⟩ (fun r8 hr8 => ?_)
  obtain ⟨hr8, er8⟩ := hr8
  refine lv_if_eq (tgt := 38) hx hb dLooks_note_5 (by decide) (fun c9 => ?_) (fun c9 => ?_)
  · exact hE _ _ _ _ hS (by have hO2 : Oq OUT f := (by subst er8; exact hO.tr (if_pos c9)); rw [hO2.eq]; exact hI) dLooks_note_38
  · refine lv_aload_n hx hb dLooks_note_8 rfl (lv_at hl 0 rfl) ?_
    refine va_get (D := γ.1) (ci := 6) (v := .ref b0_2) (C := R_Looks) (T := T_Looks) (N := 6) (Ts := bs_W0) hx hb hW in_Looks hown hC.1 hP 0 rfl rfl 0 (by decide) (hW _ qw_ac7df03aa7) (fun _ h9 => h9) rfl dLooks_note_9 ?_
    refine lv_iload_n hx hb dLooks_note_12 rfl (lv_at hl 1 rfl) ?_
    refine lv_iload_n hx hb dLooks_note_13 rfl (lv_at hl 2 rfl) ?_
    refine va_iast hx hb hC.1 hP hD hS 1 0 rfl rfl (in_has (by assumption) (by assumption) (by omega) (by omega)) dLooks_note_14 (fun H locs hP hD hS => ?_)
    obtain ⟨fc10, efc10⟩ : ∃ z : gf, z = Au f 0 x1.toNatClampNeg x2 := ⟨_, rfl⟩
    have hP : va_P γ.1 vwCl [(a, .inr (6, [.ref b0_2, .ref b1_2, .ref b2_2, .ref b3_2, .ref b4_2, .ref rw])), (b0_2, .inl (γ.2.1, L, .inl (fc10 0))), (b1_2, .inl (γ.2.1, L, .inl (fc10 1))), (b2_2, .inl (γ.2.1, L, .inl (fc10 2))), (b3_2, .inl (γ.2.1, L, .inl (fc10 3))), (b4_2, .inl (γ.2.1, L, .inl (fc10 4)))] _ := (by rw [efc10]; exact hP)
    have hD : va_D Z [(a, .inr (6, [.ref b0_2, .ref b1_2, .ref b2_2, .ref b3_2, .ref b4_2, .ref rw])), (b0_2, .inl (γ.2.1, L, .inl (fc10 0))), (b1_2, .inl (γ.2.1, L, .inl (fc10 1))), (b2_2, .inl (γ.2.1, L, .inl (fc10 2))), (b3_2, .inl (γ.2.1, L, .inl (fc10 3))), (b4_2, .inl (γ.2.1, L, .inl (fc10 4)))] := (by rw [efc10]; exact hD)
    refine lv_aload_n hx hb dLooks_note_15 rfl (lv_at hl 0 rfl) ?_
    refine va_get (D := γ.1) (ci := 6) (v := .ref b1_2) (C := R_Looks) (T := T_Looks) (N := 6) (Ts := bs_W0) hx hb hW in_Looks hown hC.1 hP 0 rfl rfl 1 (by decide) (hW _ qw_7dd30c70bd) (fun _ h9 => h9) rfl dLooks_note_16 ?_
    refine lv_iload_n hx hb dLooks_note_19 rfl (lv_at hl 1 rfl) ?_
    refine lv_iload_n hx hb dLooks_note_20 rfl (lv_at hl 3 rfl) ?_
    refine va_iast hx hb hC.1 hP hD hS 2 0 rfl rfl (in_has (by assumption) (by assumption) (by omega) (by omega)) dLooks_note_21 (fun H locs hP hD hS => ?_)
    obtain ⟨fc11, efc11⟩ : ∃ z : gf, z = Au fc10 1 x1.toNatClampNeg x3 := ⟨_, rfl⟩
    have hP : va_P γ.1 vwCl [(a, .inr (6, [.ref b0_2, .ref b1_2, .ref b2_2, .ref b3_2, .ref b4_2, .ref rw])), (b0_2, .inl (γ.2.1, L, .inl (fc11 0))), (b1_2, .inl (γ.2.1, L, .inl (fc11 1))), (b2_2, .inl (γ.2.1, L, .inl (fc11 2))), (b3_2, .inl (γ.2.1, L, .inl (fc11 3))), (b4_2, .inl (γ.2.1, L, .inl (fc11 4)))] _ := (by rw [efc11]; exact hP)
    have hD : va_D Z [(a, .inr (6, [.ref b0_2, .ref b1_2, .ref b2_2, .ref b3_2, .ref b4_2, .ref rw])), (b0_2, .inl (γ.2.1, L, .inl (fc11 0))), (b1_2, .inl (γ.2.1, L, .inl (fc11 1))), (b2_2, .inl (γ.2.1, L, .inl (fc11 2))), (b3_2, .inl (γ.2.1, L, .inl (fc11 3))), (b4_2, .inl (γ.2.1, L, .inl (fc11 4)))] := (by rw [efc11]; exact hD)
    refine lv_aload_n hx hb dLooks_note_22 rfl (lv_at hl 0 rfl) ?_
    refine va_get (D := γ.1) (ci := 6) (v := .ref b4_2) (C := R_Looks) (T := T_Looks) (N := 6) (Ts := bs_W0) hx hb hW in_Looks hown hC.1 hP 0 rfl rfl 4 (by decide) (hW _ qw_d08a1abfac) (fun _ h9 => h9) rfl dLooks_note_23 ?_
    refine lv_iload_n hx hb dLooks_note_26 rfl (lv_at hl 1 rfl) ?_
    refine lv_iload hx hb dLooks_note_27 (lv_at hl 4 rfl) ?_
    refine lv_if_eq (tgt := 36) hx hb dLooks_note_29 (by decide) (fun c12 => ?_) (fun c12 => ?_)
    · refine lv_iconst (v := 0) hx hb dLooks_note_36 (by decide) ?_
      refine va_iast hx hb hC.1 hP hD hS 5 0 rfl rfl (in_has (by assumption) (by assumption) (by omega) (by omega)) dLooks_note_37 (fun H locs hP hD hS => ?_)
      obtain ⟨fc13, efc13⟩ : ∃ z : gf, z = Au fc11 4 x1.toNatClampNeg 0 := ⟨_, rfl⟩
      have hP : va_P γ.1 vwCl [(a, .inr (6, [.ref b0_2, .ref b1_2, .ref b2_2, .ref b3_2, .ref b4_2, .ref rw])), (b0_2, .inl (γ.2.1, L, .inl (fc13 0))), (b1_2, .inl (γ.2.1, L, .inl (fc13 1))), (b2_2, .inl (γ.2.1, L, .inl (fc13 2))), (b3_2, .inl (γ.2.1, L, .inl (fc13 3))), (b4_2, .inl (γ.2.1, L, .inl (fc13 4)))] _ := (by rw [efc13]; exact hP)
      have hD : va_D Z [(a, .inr (6, [.ref b0_2, .ref b1_2, .ref b2_2, .ref b3_2, .ref b4_2, .ref rw])), (b0_2, .inl (γ.2.1, L, .inl (fc13 0))), (b1_2, .inl (γ.2.1, L, .inl (fc13 1))), (b2_2, .inl (γ.2.1, L, .inl (fc13 2))), (b3_2, .inl (γ.2.1, L, .inl (fc13 3))), (b4_2, .inl (γ.2.1, L, .inl (fc13 4)))] := (by rw [efc13]; exact hD)
      have hI : cmp γ (gLooks γ a rw L fc13) Z _ := ⟨_, ⟨b0_2, b1_2, b2_2, b3_2, b4_2, rfl, h1_2, h2_2⟩, hP, hD⟩
      exact hE _ _ _ _ hS (by have hO2 : Oq OUT fc13 := (by subst efc13 efc11 efc10 er8; exact hO.tr ((if_neg c9).trans (if_pos c12))); rw [hO2.eq]; exact hI) dLooks_note_38
    · refine lv_iconst (v := 1) hx hb dLooks_note_32 (by decide) ?_
      refine lv_goto (tgt := 37) hx hb dLooks_note_33 (by decide) ?_
      refine va_iast hx hb hC.1 hP hD hS 5 0 rfl rfl (in_has (by assumption) (by assumption) (by omega) (by omega)) dLooks_note_37 (fun H locs hP hD hS => ?_)
      obtain ⟨fc14, efc14⟩ : ∃ z : gf, z = Au fc11 4 x1.toNatClampNeg 1 := ⟨_, rfl⟩
      have hP : va_P γ.1 vwCl [(a, .inr (6, [.ref b0_2, .ref b1_2, .ref b2_2, .ref b3_2, .ref b4_2, .ref rw])), (b0_2, .inl (γ.2.1, L, .inl (fc14 0))), (b1_2, .inl (γ.2.1, L, .inl (fc14 1))), (b2_2, .inl (γ.2.1, L, .inl (fc14 2))), (b3_2, .inl (γ.2.1, L, .inl (fc14 3))), (b4_2, .inl (γ.2.1, L, .inl (fc14 4)))] _ := (by rw [efc14]; exact hP)
      have hD : va_D Z [(a, .inr (6, [.ref b0_2, .ref b1_2, .ref b2_2, .ref b3_2, .ref b4_2, .ref rw])), (b0_2, .inl (γ.2.1, L, .inl (fc14 0))), (b1_2, .inl (γ.2.1, L, .inl (fc14 1))), (b2_2, .inl (γ.2.1, L, .inl (fc14 2))), (b3_2, .inl (γ.2.1, L, .inl (fc14 3))), (b4_2, .inl (γ.2.1, L, .inl (fc14 4)))] := (by rw [efc14]; exact hD)
      have hI : cmp γ (gLooks γ a rw L fc14) Z _ := ⟨_, ⟨b0_2, b1_2, b2_2, b3_2, b4_2, rfl, h1_2, h2_2⟩, hP, hD⟩
      exact hE _ _ _ _ hS (by have hO2 : Oq OUT fc14 := (by subst efc14 efc11 efc10 er8; exact hO.tr ((if_neg c9).trans (if_neg c12))); rw [hO2.eq]; exact hI) dLooks_note_38
theorem f6_Looks_note (l : Launch) (γ : gE) (A : Nat → Prop) (κ : Nat → Nat) (φ : gF) (ψ : gG) (x1 : Int32) (x2 : Int32) (x3 : Int32) (x4 : Int32) : MU l yLooks_note bLooks_note 5 (none) 1 21 0 0 [.ref (γ.2.2.2 6), .int x1, .int x2, .int x3, .int x4] γ A (INVF γ A κ φ ψ) (mQv (fun H => INVF γ A κ (up φ 7 (P_Looks_note (κ 6) (φ 7) x1 x2 x3 x4)) ψ H) A) :=
  muf_upf 7 (by decide) (by decide) (fun Z => fc_Looks_note l γ Z (γ.2.2.2 6) (γ.2.2.2 7) (κ 6) (φ 7) x1 x2 x3 x4)
theorem f9_Looks_note (l : Launch) (γ : gE) (A : Nat → Prop) (κ : Nat → Nat) (φ : gF) (ψ : gG) (x1 : Int32) (x2 : Int32) (x3 : Int32) (x4 : Int32) : MU l yLooks_note bLooks_note 5 (none) 1 21 0 0 [.ref (γ.2.2.2 9), .int x1, .int x2, .int x3, .int x4] γ A (INVF γ A κ φ ψ) (mQv (fun H => INVF γ A κ (up φ 9 (P_Looks_note (κ 7) (φ 9) x1 x2 x3 x4)) ψ H) A) :=
  muf_upf 9 (by decide) (by decide) (fun Z => fc_Looks_note l γ Z (γ.2.2.2 9) (γ.2.2.2 10) (κ 7) (φ 9) x1 x2 x3 x4)

def P_Looks_forget (L : Nat) (f : gf) (x1 : Int32) : gf := (if (P_Looks_has L f x1) = 0 then f else (Au (Au (Au (Au (Au f 0 x1.toNatClampNeg (-1)) 1 x1.toNatClampNeg 0) 2 x1.toNatClampNeg (-1)) 3 x1.toNatClampNeg 0) 4 x1.toNatClampNeg 0))
set_option maxHeartbeats 4000000 in
set_option maxRecDepth 100000 in
theorem fc_Looks_forget (l : Launch) (γ : gE) (Z : Nat → Prop) (a rw L : Nat) (f : gf) (x1 : Int32) : MU l yLooks_forget bLooks_forget 2 (none) 1 21 0 0 [.ref a, .int x1] γ Z (cmp γ (gLooks γ a rw L f) Z) (mQv (fun H => cmp γ (gLooks γ a rw L (P_Looks_forget L f x1)) Z H) Z) := by
  refine mu_openV (by decide) (Nat.le_of_ble_eq_true rfl) ?_
  intro p e s m args below meth c ls Q S hnm hC hA hI hE hl
  obtain ⟨hx, hb, hml, hown, hW⟩ := id S
  have hS : va_S Z s.heap s.heap [] := va_S.rf
  have hl : lv_has ls 2 [(0, .ref a), (1, .int x1)] := hl
  obtain ⟨OUT, hQ, hO⟩ : ∃ z, (z = P_Looks_forget L f x1) ∧ Oq z (P_Looks_forget L f x1) := ⟨_, rfl, rfl⟩
  rw [← hQ] at hE
  clear hQ
  refine lv_aload_n hx hb dLooks_forget_0 rfl (lv_at hl 0 rfl) ?_
  refine lv_iload_n hx hb dLooks_forget_1 rfl (lv_at hl 1 rfl) ?_
  obtain ⟨ws_2, ⟨b0_2, b1_2, b2_2, b3_2, b4_2, rfl, h1_2, h2_2⟩, hP, hD⟩ := id hI
  have hP : va_P γ.1 vwCl [(a, .inr (6, [.ref b0_2, .ref b1_2, .ref b2_2, .ref b3_2, .ref b4_2, .ref rw])), (b0_2, .inl (γ.2.1, L, .inl (f 0))), (b1_2, .inl (γ.2.1, L, .inl (f 1))), (b2_2, .inl (γ.2.1, L, .inl (f 2))), (b3_2, .inl (γ.2.1, L, .inl (f 3))), (b4_2, .inl (γ.2.1, L, .inl (f 4)))] _ := hP
  have hD : va_D Z [(a, .inr (6, [.ref b0_2, .ref b1_2, .ref b2_2, .ref b3_2, .ref b4_2, .ref rw])), (b0_2, .inl (γ.2.1, L, .inl (f 0))), (b1_2, .inl (γ.2.1, L, .inl (f 1))), (b2_2, .inl (γ.2.1, L, .inl (f 2))), (b3_2, .inl (γ.2.1, L, .inl (f 3))), (b4_2, .inl (γ.2.1, L, .inl (f 4)))] := hD
  refine pu_Vi (rest := []) S hC (fc_Looks_has l γ Z a rw L f x1) meLooks_has qw_4e5fd4a1cd ⟨Nat.le_of_ble_eq_true rfl, Nat.le_of_ble_eq_true rfl⟩ (va_recv hC.1 hP (ci := 6) (q0 := 0) rfl rfl) hI rfl hl.1 rfl (Nat.le_of_ble_eq_true rfl) dLooks_forget_2 ⟨Nat.zero_le _, Nat.zero_le _⟩ (fun r8 hr8 => ?_)
  obtain ⟨hr8, er8⟩ := hr8
  refine lv_if_eq (tgt := 43) hx hb dLooks_forget_5 (by decide) (fun c9 => ?_) (fun c9 => ?_)
  · exact hE _ _ _ _ hS (by have hO2 : Oq OUT f := (by subst er8; exact hO.tr (if_pos c9)); rw [hO2.eq]; exact hI) dLooks_forget_43
  · refine lv_aload_n hx hb dLooks_forget_8 rfl (lv_at hl 0 rfl) ?_
    refine va_get (D := γ.1) (ci := 6) (v := .ref b0_2) (C := R_Looks) (T := T_Looks) (N := 6) (Ts := bs_W0) hx hb hW in_Looks hown hC.1 hP 0 rfl rfl 0 (by decide) (hW _ qw_ac7df03aa7) (fun _ h9 => h9) rfl dLooks_forget_9 ?_
    refine lv_iload_n hx hb dLooks_forget_12 rfl (lv_at hl 1 rfl) ?_
    refine lv_iconst (v := (-1)) hx hb dLooks_forget_13 (by decide) ?_
    refine va_iast hx hb hC.1 hP hD hS 1 0 rfl rfl (in_has (by assumption) (by assumption) (by omega) (by omega)) dLooks_forget_14 (fun H locs hP hD hS => ?_)
    obtain ⟨fc10, efc10⟩ : ∃ z : gf, z = Au f 0 x1.toNatClampNeg (-1) := ⟨_, rfl⟩
    have hP : va_P γ.1 vwCl [(a, .inr (6, [.ref b0_2, .ref b1_2, .ref b2_2, .ref b3_2, .ref b4_2, .ref rw])), (b0_2, .inl (γ.2.1, L, .inl (fc10 0))), (b1_2, .inl (γ.2.1, L, .inl (fc10 1))), (b2_2, .inl (γ.2.1, L, .inl (fc10 2))), (b3_2, .inl (γ.2.1, L, .inl (fc10 3))), (b4_2, .inl (γ.2.1, L, .inl (fc10 4)))] _ := (by rw [efc10]; exact hP)
    have hD : va_D Z [(a, .inr (6, [.ref b0_2, .ref b1_2, .ref b2_2, .ref b3_2, .ref b4_2, .ref rw])), (b0_2, .inl (γ.2.1, L, .inl (fc10 0))), (b1_2, .inl (γ.2.1, L, .inl (fc10 1))), (b2_2, .inl (γ.2.1, L, .inl (fc10 2))), (b3_2, .inl (γ.2.1, L, .inl (fc10 3))), (b4_2, .inl (γ.2.1, L, .inl (fc10 4)))] := (by rw [efc10]; exact hD)
    refine lv_aload_n hx hb dLooks_forget_15 rfl (lv_at hl 0 rfl) ?_
    refine va_get (D := γ.1) (ci := 6) (v := .ref b1_2) (C := R_Looks) (T := T_Looks) (N := 6) (Ts := bs_W0) hx hb hW in_Looks hown hC.1 hP 0 rfl rfl 1 (by decide) (hW _ qw_7dd30c70bd) (fun _ h9 => h9) rfl dLooks_forget_16 ?_
    refine lv_iload_n hx hb dLooks_forget_19 rfl (lv_at hl 1 rfl) ?_
    refine lv_iconst (v := 0) hx hb dLooks_forget_20 (by decide) ?_
    refine va_iast hx hb hC.1 hP hD hS 2 0 rfl rfl (in_has (by assumption) (by assumption) (by omega) (by omega)) dLooks_forget_21 (fun H locs hP hD hS => ?_)
    obtain ⟨fc11, efc11⟩ : ∃ z : gf, z = Au fc10 1 x1.toNatClampNeg 0 := ⟨_, rfl⟩
    have hP : va_P γ.1 vwCl [(a, .inr (6, [.ref b0_2, .ref b1_2, .ref b2_2, .ref b3_2, .ref b4_2, .ref rw])), (b0_2, .inl (γ.2.1, L, .inl (fc11 0))), (b1_2, .inl (γ.2.1, L, .inl (fc11 1))), (b2_2, .inl (γ.2.1, L, .inl (fc11 2))), (b3_2, .inl (γ.2.1, L, .inl (fc11 3))), (b4_2, .inl (γ.2.1, L, .inl (fc11 4)))] _ := (by rw [efc11]; exact hP)
    have hD : va_D Z [(a, .inr (6, [.ref b0_2, .ref b1_2, .ref b2_2, .ref b3_2, .ref b4_2, .ref rw])), (b0_2, .inl (γ.2.1, L, .inl (fc11 0))), (b1_2, .inl (γ.2.1, L, .inl (fc11 1))), (b2_2, .inl (γ.2.1, L, .inl (fc11 2))), (b3_2, .inl (γ.2.1, L, .inl (fc11 3))), (b4_2, .inl (γ.2.1, L, .inl (fc11 4)))] := (by rw [efc11]; exact hD)
    refine lv_aload_n hx hb dLooks_forget_22 rfl (lv_at hl 0 rfl) ?_
    refine va_get (D := γ.1) (ci := 6) (v := .ref b2_2) (C := R_Looks) (T := T_Looks) (N := 6) (Ts := bs_W0) hx hb hW in_Looks hown hC.1 hP 0 rfl rfl 2 (by decide) (hW _ qw_427e012605) (fun _ h9 => h9) rfl dLooks_forget_23 ?_
    refine lv_iload_n hx hb dLooks_forget_26 rfl (lv_at hl 1 rfl) ?_
    refine lv_iconst (v := (-1)) hx hb dLooks_forget_27 (by decide) ?_
    refine va_iast hx hb hC.1 hP hD hS 3 0 rfl rfl (in_has (by assumption) (by assumption) (by omega) (by omega)) dLooks_forget_28 (fun H locs hP hD hS => ?_)
    obtain ⟨fc12, efc12⟩ : ∃ z : gf, z = Au fc11 2 x1.toNatClampNeg (-1) := ⟨_, rfl⟩
    have hP : va_P γ.1 vwCl [(a, .inr (6, [.ref b0_2, .ref b1_2, .ref b2_2, .ref b3_2, .ref b4_2, .ref rw])), (b0_2, .inl (γ.2.1, L, .inl (fc12 0))), (b1_2, .inl (γ.2.1, L, .inl (fc12 1))), (b2_2, .inl (γ.2.1, L, .inl (fc12 2))), (b3_2, .inl (γ.2.1, L, .inl (fc12 3))), (b4_2, .inl (γ.2.1, L, .inl (fc12 4)))] _ := (by rw [efc12]; exact hP)
    have hD : va_D Z [(a, .inr (6, [.ref b0_2, .ref b1_2, .ref b2_2, .ref b3_2, .ref b4_2, .ref rw])), (b0_2, .inl (γ.2.1, L, .inl (fc12 0))), (b1_2, .inl (γ.2.1, L, .inl (fc12 1))), (b2_2, .inl (γ.2.1, L, .inl (fc12 2))), (b3_2, .inl (γ.2.1, L, .inl (fc12 3))), (b4_2, .inl (γ.2.1, L, .inl (fc12 4)))] := (by rw [efc12]; exact hD)
    refine lv_aload_n hx hb dLooks_forget_29 rfl (lv_at hl 0 rfl) ?_
    refine va_get (D := γ.1) (ci := 6) (v := .ref b3_2) (C := R_Looks) (T := T_Looks) (N := 6) (Ts := bs_W0) hx hb hW in_Looks hown hC.1 hP 0 rfl rfl 3 (by decide) (hW _ qw_5344cf30a3) (fun _ h9 => h9) rfl dLooks_forget_30 ?_
    refine lv_iload_n hx hb dLooks_forget_33 rfl (lv_at hl 1 rfl) ?_
    refine lv_iconst (v := 0) hx hb dLooks_forget_34 (by decide) ?_
    refine va_iast hx hb hC.1 hP hD hS 4 0 rfl rfl (in_has (by assumption) (by assumption) (by omega) (by omega)) dLooks_forget_35 (fun H locs hP hD hS => ?_)
    obtain ⟨fc13, efc13⟩ : ∃ z : gf, z = Au fc12 3 x1.toNatClampNeg 0 := ⟨_, rfl⟩
    have hP : va_P γ.1 vwCl [(a, .inr (6, [.ref b0_2, .ref b1_2, .ref b2_2, .ref b3_2, .ref b4_2, .ref rw])), (b0_2, .inl (γ.2.1, L, .inl (fc13 0))), (b1_2, .inl (γ.2.1, L, .inl (fc13 1))), (b2_2, .inl (γ.2.1, L, .inl (fc13 2))), (b3_2, .inl (γ.2.1, L, .inl (fc13 3))), (b4_2, .inl (γ.2.1, L, .inl (fc13 4)))] _ := (by rw [efc13]; exact hP)
    have hD : va_D Z [(a, .inr (6, [.ref b0_2, .ref b1_2, .ref b2_2, .ref b3_2, .ref b4_2, .ref rw])), (b0_2, .inl (γ.2.1, L, .inl (fc13 0))), (b1_2, .inl (γ.2.1, L, .inl (fc13 1))), (b2_2, .inl (γ.2.1, L, .inl (fc13 2))), (b3_2, .inl (γ.2.1, L, .inl (fc13 3))), (b4_2, .inl (γ.2.1, L, .inl (fc13 4)))] := (by rw [efc13]; exact hD)
    refine lv_aload_n hx hb dLooks_forget_36 rfl (lv_at hl 0 rfl) ?_
    refine va_get (D := γ.1) (ci := 6) (v := .ref b4_2) (C := R_Looks) (T := T_Looks) (N := 6) (Ts := bs_W0) hx hb hW in_Looks hown hC.1 hP 0 rfl rfl 4 (by decide) (hW _ qw_d08a1abfac) (fun _ h9 => h9) rfl dLooks_forget_37 ?_
    refine lv_iload_n hx hb dLooks_forget_40 rfl (lv_at hl 1 rfl) ?_
    refine lv_iconst (v := 0) hx hb dLooks_forget_41 (by decide) ?_
    refine va_iast hx hb hC.1 hP hD hS 5 0 rfl rfl (in_has (by assumption) (by assumption) (by omega) (by omega)) dLooks_forget_42 (fun H locs hP hD hS => ?_)
    obtain ⟨fc14, efc14⟩ : ∃ z : gf, z = Au fc13 4 x1.toNatClampNeg 0 := ⟨_, rfl⟩
    have hP : va_P γ.1 vwCl [(a, .inr (6, [.ref b0_2, .ref b1_2, .ref b2_2, .ref b3_2, .ref b4_2, .ref rw])), (b0_2, .inl (γ.2.1, L, .inl (fc14 0))), (b1_2, .inl (γ.2.1, L, .inl (fc14 1))), (b2_2, .inl (γ.2.1, L, .inl (fc14 2))), (b3_2, .inl (γ.2.1, L, .inl (fc14 3))), (b4_2, .inl (γ.2.1, L, .inl (fc14 4)))] _ := (by rw [efc14]; exact hP)
    have hD : va_D Z [(a, .inr (6, [.ref b0_2, .ref b1_2, .ref b2_2, .ref b3_2, .ref b4_2, .ref rw])), (b0_2, .inl (γ.2.1, L, .inl (fc14 0))), (b1_2, .inl (γ.2.1, L, .inl (fc14 1))), (b2_2, .inl (γ.2.1, L, .inl (fc14 2))), (b3_2, .inl (γ.2.1, L, .inl (fc14 3))), (b4_2, .inl (γ.2.1, L, .inl (fc14 4)))] := (by rw [efc14]; exact hD)
    have hI : cmp γ (gLooks γ a rw L fc14) Z _ := ⟨_, ⟨b0_2, b1_2, b2_2, b3_2, b4_2, rfl, h1_2, h2_2⟩, hP, hD⟩
    exact hE _ _ _ _ hS (by have hO2 : Oq OUT fc14 := (by subst efc14 efc13 efc12 efc11 efc10 er8; exact hO.tr (if_neg c9)); rw [hO2.eq]; exact hI) dLooks_forget_43
theorem f6_Looks_forget (l : Launch) (γ : gE) (A : Nat → Prop) (κ : Nat → Nat) (φ : gF) (ψ : gG) (x1 : Int32) : MU l yLooks_forget bLooks_forget 2 (none) 1 21 0 0 [.ref (γ.2.2.2 6), .int x1] γ A (INVF γ A κ φ ψ) (mQv (fun H => INVF γ A κ (up φ 7 (P_Looks_forget (κ 6) (φ 7) x1)) ψ H) A) :=
  muf_upf 7 (by decide) (by decide) (fun Z => fc_Looks_forget l γ Z (γ.2.2.2 6) (γ.2.2.2 7) (κ 6) (φ 7) x1)
theorem f9_Looks_forget (l : Launch) (γ : gE) (A : Nat → Prop) (κ : Nat → Nat) (φ : gF) (ψ : gG) (x1 : Int32) : MU l yLooks_forget bLooks_forget 2 (none) 1 21 0 0 [.ref (γ.2.2.2 9), .int x1] γ A (INVF γ A κ φ ψ) (mQv (fun H => INVF γ A κ (up φ 9 (P_Looks_forget (κ 7) (φ 9) x1)) ψ H) A) :=
  muf_upf 9 (by decide) (by decide) (fun Z => fc_Looks_forget l γ Z (γ.2.2.2 9) (γ.2.2.2 10) (κ 7) (φ 9) x1)

def P_Rows_set (M : Nat) (g : gg) (x1 : Int32) (x2 : Int32) (x3 : Int32) : gg := (if x1 < 0 then g else (if ((nI (4 * M)) / 4) ≤ x1 then g else (if x2 < 0 then g else (if 64 ≤ x2 then g else (vp_updL g ((x1 * 4) + (x2 / 16)).toNatClampNeg (((g ((x1 * 4) + (x2 / 16)).toNatClampNeg) &&& ((15 <<< (((x2 - x2 / 16 * 16) * 4).toInt64 &&& 63)) ^^^ (-1))) ||| ((x3.toInt64) <<< (((x2 - x2 / 16 * 16) * 4).toInt64 &&& 63))))))))
set_option maxHeartbeats 4000000 in
set_option maxRecDepth 100000 in
theorem fc_Rows_set (l : Launch) (γ : gE) (Z : Nat → Prop) (a M : Nat) (g : gg) (x1 : Int32) (x2 : Int32) (x3 : Int32) : MU l yRows_set bRows_set 6 (none) 0 0 0 0 [.ref a, .int x1, .int x2, .int x3] γ Z (cmp γ (gRows γ a M g) Z) (mQv (fun H => cmp γ (gRows γ a M (P_Rows_set M g x1 x2 x3)) Z H) Z) := by
  refine mu_openV (by decide) (Nat.le_of_ble_eq_true rfl) ?_
  intro p e s m args below meth c ls Q S hnm hC hA hI hE hl
  obtain ⟨hx, hb, hml, hown, hW⟩ := id S
  have hS : va_S Z s.heap s.heap [] := va_S.rf
  have hl : lv_has ls 6 [(0, .ref a), (1, .int x1), (2, .int x2), (3, .int x3)] := hl
  obtain ⟨OUT, hQ, hO⟩ : ∃ z, (z = P_Rows_set M g x1 x2 x3) ∧ Oq z (P_Rows_set M g x1 x2 x3) := ⟨_, rfl, rfl⟩
  rw [← hQ] at hE
  clear hQ
  refine lv_iload_n hx hb dRows_set_0 rfl (lv_at hl 1 rfl) ?_
  refine lv_if_lt (tgt := 74) hx hb dRows_set_1 (by decide) (fun c20 => ?_) (fun c20 => ?_)
  · exact hE _ _ _ _ hS (by have hO2 : Oq OUT g := (by exact hO.tr (if_pos c20)); rw [hO2.eq]; exact hI) dRows_set_74
  · refine lv_iload_n hx hb dRows_set_4 rfl (lv_at hl 1 rfl) ?_
    refine lv_aload_n hx hb dRows_set_5 rfl (lv_at hl 0 rfl) ?_
    obtain ⟨ws_2, ⟨b0_2, rfl, h1_2, h2_2⟩, hP, hD⟩ := id hI
    have hP : va_P γ.1 vwCl [(a, .inr (5, [.ref b0_2])), (b0_2, .inl (γ.2.2.1, 4 * M, .inr (.inl g)))] _ := hP
    have hD : va_D Z [(a, .inr (5, [.ref b0_2])), (b0_2, .inl (γ.2.2.1, 4 * M, .inr (.inl g)))] := hD
    refine va_get (D := γ.1) (ci := 5) (v := .ref b0_2) (C := R_Rows) (T := T_Rows) (N := 1) (Ts := bs_W0) hx hb hW in_Rows hown hC.1 hP 0 rfl rfl 0 (by decide) (hW _ qw_05e9c8a29d) (fun _ h9 => h9) rfl dRows_set_6 ?_
    refine va_alen hx hb hC.1 hP 1 1 rfl rfl rfl dRows_set_9 ?_
    refine lv_topi (fun v21 ev21 => ?_)
    have ev21 : v21 = nI (4 * M) := ev21
    refine lv_iconst (v := 4) hx hb dRows_set_10 (by decide) ?_
    refine lv_idiv hx hb dRows_set_11 (by decide) ?_
    refine lv_topi (fun v22 ev22 => ?_)
    refine lv_icmp_ge (tgt := 74) hx hb dRows_set_12 (by decide) (fun c23 => ?_) (fun c23 => ?_)
    · exact hE _ _ _ _ hS (by have hO2 : Oq OUT g := (by subst ev22 ev21; exact hO.tr ((if_neg c20).trans (if_pos c23))); rw [hO2.eq]; exact hI) dRows_set_74
    · refine lv_iload_n hx hb dRows_set_15 rfl (lv_at hl 2 rfl) ?_
      refine lv_if_lt (tgt := 74) hx hb dRows_set_16 (by decide) (fun c24 => ?_) (fun c24 => ?_)
      · exact hE _ _ _ _ hS (by have hO2 : Oq OUT g := (by subst ev22 ev21; exact hO.tr ((if_neg c20).trans ((if_neg c23).trans (if_pos c24)))); rw [hO2.eq]; exact hI) dRows_set_74
      · refine lv_iload_n hx hb dRows_set_19 rfl (lv_at hl 2 rfl) ?_
        refine lv_bipush (v := 64) hx hb dRows_set_20 (by decide) ?_
        refine lv_icmp_ge (tgt := 74) hx hb dRows_set_22 (by decide) (fun c25 => ?_) (fun c25 => ?_)
        · exact hE _ _ _ _ hS (by have hO2 : Oq OUT g := (by subst ev22 ev21; exact hO.tr ((if_neg c20).trans ((if_neg c23).trans ((if_neg c24).trans (if_pos c25))))); rw [hO2.eq]; exact hI) dRows_set_74
        · refine lv_iload_n hx hb dRows_set_25 rfl (lv_at hl 1 rfl) ?_
          refine lv_iconst (v := 4) hx hb dRows_set_26 (by decide) ?_
          refine lv_imul hx hb dRows_set_27 ?_
          refine lv_topi (fun v26 ev26 => ?_)
          refine lv_iload_n hx hb dRows_set_28 rfl (lv_at hl 2 rfl) ?_
          refine lv_bipush (v := 16) hx hb dRows_set_29 (by decide) ?_
          refine lv_idiv hx hb dRows_set_31 (by decide) ?_
          refine lv_topi (fun v27 ev27 => ?_)
          refine lv_iadd hx hb dRows_set_32 ?_
          refine lv_topi (fun v28 ev28 => ?_)
          refine lv_istore (lv' := [(4, .int v28), (0, .ref a), (1, .int x1), (2, .int x2), (3, .int x3)]) hx hb dRows_set_33 hl (by decide) rfl (fun ls hl => ?_)
          refine lv_iload_n hx hb dRows_set_35 rfl (lv_at hl 3 rfl) ?_
          refine lv_bipush (v := 16) hx hb dRows_set_36 (by decide) ?_
          refine lv_irem hx hb dRows_set_38 (by decide) ?_
          refine lv_topi (fun v29 ev29 => ?_)
          refine lv_iconst (v := 4) hx hb dRows_set_39 (by decide) ?_
          refine lv_imul hx hb dRows_set_40 ?_
          refine lv_topi (fun v30 ev30 => ?_)
          refine lv_istore (lv' := [(5, .int v30), (4, .int v28), (0, .ref a), (1, .int x1), (2, .int x2), (3, .int x3)]) hx hb dRows_set_41 hl (by decide) rfl (fun ls hl => ?_)
          refine lv_aload_n hx hb dRows_set_43 rfl (lv_at hl 2 rfl) ?_
          refine va_get (D := γ.1) (ci := 5) (v := .ref b0_2) (C := R_Rows) (T := T_Rows) (N := 1) (Ts := bs_W0) hx hb hW in_Rows hown hC.1 hP 0 rfl rfl 0 (by decide) (hW _ qw_05e9c8a29d) (fun _ h9 => h9) rfl dRows_set_44 ?_
          refine lv_iload hx hb dRows_set_47 (lv_at hl 1 rfl) ?_
          refine lv_aload_n hx hb dRows_set_49 rfl (lv_at hl 2 rfl) ?_
          refine va_get (D := γ.1) (ci := 5) (v := .ref b0_2) (C := R_Rows) (T := T_Rows) (N := 1) (Ts := bs_W0) hx hb hW in_Rows hown hC.1 hP 0 rfl rfl 0 (by decide) (hW _ qw_05e9c8a29d) (fun _ h9 => h9) rfl dRows_set_50 ?_
          refine lv_iload hx hb dRows_set_53 (lv_at hl 1 rfl) ?_
          refine va_lald hx hb hC.1 hP 1 1 rfl rfl (by subst_vars; exact rows_ix (by assumption) (by assumption) (by assumption) (by first | assumption | exact lt_nge (by assumption)) (by omega)) dRows_set_55 ?_
          refine lv_topl (fun v31 ev31 => ?_)
          refine lv_ldc2 (v := 15) hx hb hown (hW _ qw_4a6bff5ab0) dRows_set_56 ?_
          refine lv_iload hx hb dRows_set_59 (lv_at hl 0 rfl) ?_
          refine lv_lshl hx hb dRows_set_61 rfl ?_
          refine lv_topl (fun v32 ev32 => ?_)
          refine lv_ldc2 (v := (-1)) hx hb hown (hW _ qw_14d339857e) dRows_set_62 ?_
          refine lv_lxor hx hb dRows_set_65 ?_
          refine lv_topl (fun v33 ev33 => ?_)
          refine lv_land hx hb dRows_set_66 ?_
          refine lv_topl (fun v34 ev34 => ?_)
          refine lv_iload_n hx hb dRows_set_67 rfl (lv_at hl 5 rfl) ?_
          refine lv_i2l hx hb dRows_set_68 rfl ?_
          refine lv_topl (fun v35 ev35 => ?_)
          refine lv_iload hx hb dRows_set_69 (lv_at hl 0 rfl) ?_
          refine lv_lshl hx hb dRows_set_71 rfl ?_
          refine lv_topl (fun v36 ev36 => ?_)
          refine lv_lor hx hb dRows_set_72 ?_
          refine lv_topl (fun v37 ev37 => ?_)
          refine va_last hx hb hC.1 hP hD hS 1 1 rfl rfl (by subst_vars; exact rows_ix (by assumption) (by assumption) (by assumption) (by first | assumption | exact lt_nge (by assumption)) (by omega)) dRows_set_73 (fun H locs hP hD hS => ?_)
          obtain ⟨gc38, egc38⟩ : ∃ z : gg, z = vp_updL g v28.toNatClampNeg v37 := ⟨_, rfl⟩
          have hP : va_P γ.1 vwCl [(a, .inr (5, [.ref b0_2])), (b0_2, .inl (γ.2.2.1, 4 * M, .inr (.inl gc38)))] _ := (by rw [egc38]; exact hP)
          have hD : va_D Z [(a, .inr (5, [.ref b0_2])), (b0_2, .inl (γ.2.2.1, 4 * M, .inr (.inl gc38)))] := (by rw [egc38]; exact hD)
          have hI : cmp γ (gRows γ a M gc38) Z _ := ⟨_, ⟨b0_2, rfl, h1_2, h2_2⟩, hP, hD⟩
          exact hE _ _ _ _ hS (by have hO2 : Oq OUT gc38 := (by subst egc38 ev37 ev36 ev35 ev34 ev33 ev32 ev31 ev30 ev29 ev28 ev27 ev26 ev22 ev21; exact hO.tr ((if_neg c20).trans ((if_neg c23).trans ((if_neg c24).trans (if_neg c25))))); rw [hO2.eq]; exact hI) dRows_set_74
theorem f10_Rows_set (l : Launch) (γ : gE) (A : Nat → Prop) (κ : Nat → Nat) (φ : gF) (ψ : gG) (x1 : Int32) (x2 : Int32) (x3 : Int32) : MU l yRows_set bRows_set 6 (none) 0 0 0 0 [.ref (γ.2.2.2 10), .int x1, .int x2, .int x3] γ A (INVF γ A κ φ ψ) (mQv (fun H => INVF γ A κ φ (up ψ 10 (P_Rows_set (κ 10) (ψ 10) x1 x2 x3)) H) A) :=
  muf_upg 10 (by decide) (by decide) (fun Z => fc_Rows_set l γ Z (γ.2.2.2 10) (κ 10) (ψ 10) x1 x2 x3)
def P_Rows_setBits_36 (M : Nat) (k3 : gg → Int32 → Int32 → Int64 → Int32 → gg) (g : gg) (i1 : Int32) (i2 : Int32) (j3 : Int64) (i5 : Int32) (t0 : Int32) (t1 : Int32) (t2 : Int32) : gg := (k3 (P_Rows_set M g t2 t1 t0) i1 i2 j3 (i5 + 1))
def P_Rows_setBits_3 (M : Nat) : Nat → gg → Int32 → Int32 → Int64 → Int32 → gg
  | 0, _, _, _, _, _ => default
  | n + 1, g, i1, i2, j3, i5 => (if i2 ≤ i5 then g else (if 64 ≤ i5 then g else (if (lg_cmp (((j3.toUInt64 >>> (i5.toInt64.toUInt64 &&& Int64.toUInt64 63)).toInt64) &&& 1) 1) = 0 then (P_Rows_setBits_36 M (fun a0 a1 a2 a3 a4 => P_Rows_setBits_3 M  n a0 a1 a2 a3 a4) g i1 i2 j3 i5 3 i5 i1) else (P_Rows_setBits_36 M (fun a0 a1 a2 a3 a4 => P_Rows_setBits_3 M  n a0 a1 a2 a3 a4) g i1 i2 j3 i5 2 i5 i1))))
def P_Rows_setBits (M : Nat) (g : gg) (x1 : Int32) (x2 : Int32) (x3 : Int64) : gg := (P_Rows_setBits_3 M  ((2147483647 - (0 : Int32).toInt).toNat + 1) g x1 x2 x3 0)
set_option maxHeartbeats 4000000 in
set_option maxRecDepth 100000 in
theorem fc_Rows_setBits (l : Launch) (γ : gE) (Z : Nat → Prop) (a M : Nat) (g : gg) (x1 : Int32) (x2 : Int32) (x3 : Int64) : MU l yRows_setBits bRows_setBits 6 (none) 1 25 0 0 [.ref a, .int x1, .int x2, .long x3] γ Z (cmp γ (gRows γ a M g) Z) (mQv (fun H => cmp γ (gRows γ a M (P_Rows_setBits M g x1 x2 x3)) Z H) Z) := by
  refine mu_openV (by decide) (Nat.le_of_ble_eq_true rfl) ?_
  intro p e s m args below meth c ls Q S hnm hC hA hI hE hl
  obtain ⟨hx, hb, hml, hown, hW⟩ := id S
  have hS : va_S Z s.heap s.heap [] := va_S.rf
  have hl : lv_has ls 6 [(0, .ref a), (1, .int x1), (2, .int x2), (3, .long x3)] := hl
  obtain ⟨OUT, hQ, hO⟩ : ∃ z, (z = P_Rows_setBits M g x1 x2 x3) ∧ Oq z (P_Rows_setBits M g x1 x2 x3) := ⟨_, rfl, rfl⟩
  rw [← hQ] at hE
  clear hQ
  have J3 : ∀ (N3 : Nat) (ls : Array Slot) (H : Heap) (locs : List Loc) (g : gg) (i1 : Int32) (i2 : Int32) (j3 : Int64) (i5 : Int32), cmp γ (gRows γ a M g) Z H → va_S Z s.heap H locs → (Oq OUT (P_Rows_setBits_3 M  (N3 + 1) g i1 i2 j3 i5)) → (2147483647 - i5.toInt).toNat = N3 → lv_has ls 6 [(0, .ref a), (1, .int i1), (2, .int i2), (3, .long j3), (5, .int i5)] → W p l e (bs_rm 1 0 0 25) s m args below meth c H locs 0 0 Q (F0 m 3 ls []) := by
    intro N3
    induction N3 using Nat.strongRecOn with
    | ind N3 ih3 =>
      intro ls H locs g i1 i2 j3 i5 hI hS hO hm3 hl
      have J36 : ∀ (ls : Array Slot) (H : Heap) (locs : List Loc) (g : gg) (i1 : Int32) (i2 : Int32) (j3 : Int64) (i5 : Int32) (t0 : Int32) (t1 : Int32) (t2 : Int32), cmp γ (gRows γ a M g) Z H → va_S Z s.heap H locs → (i5.toInt < 2147483647 ∧ (2147483647 - i5.toInt).toNat = N3) → (Oq OUT (P_Rows_setBits_36 M (fun a0 a1 a2 a3 a4 => P_Rows_setBits_3 M N3 a0 a1 a2 a3 a4)  g i1 i2 j3 i5 t0 t1 t2)) → lv_has ls 6 [(0, .ref a), (1, .int i1), (2, .int i2), (3, .long j3), (5, .int i5)] → W p l e (bs_rm 1 0 0 25) s m args below meth c H locs 0 0 Q (F0 m 36 ls [.int t0, .int t1, .int t2, .ref a]) := by
        intro ls H locs g i1 i2 j3 i5 t0 t1 t2 hI hS ⟨hf3a, hf3b⟩ hO hl
        obtain ⟨ws_2, ⟨b0_2, rfl, h1_2, h2_2⟩, hP, hD⟩ := id hI
        have hP : va_P γ.1 vwCl [(a, .inr (5, [.ref b0_2])), (b0_2, .inl (γ.2.2.1, 4 * M, .inr (.inl g)))] _ := hP
        have hD : va_D Z [(a, .inr (5, [.ref b0_2])), (b0_2, .inl (γ.2.2.1, 4 * M, .inr (.inl g)))] := hD
        refine mu_Vv (rest := []) S hC (fun q h => hA q (Nat.le_trans hS.1 h)) (fun q h => h) hS (fc_Rows_set l γ Z a M g t2 t1 t0) meRows_set qw_b8cf967c79 ⟨Nat.le_of_ble_eq_true rfl, Nat.le_of_ble_eq_true rfl⟩ (va_recv hC.1 hP (ci := 5) (q0 := 0) rfl rfl) hI rfl hl.1 rfl (Nat.le_of_ble_eq_true rfl) dRows_setBits_36 ⟨Nat.le_refl _, Nat.le_refl _⟩ (fun H locs hI hS _ _ => ?_)
        obtain ⟨gc9, egc9⟩ : ∃ z : gg, z = P_Rows_set M g t2 t1 t0 := ⟨_, rfl⟩
        rw [← egc9] at hI
        obtain ⟨v10, ev10⟩ : ∃ y : Int32, y = i5 + 1 := ⟨_, rfl⟩
        refine lv_iinc (v := v10) (lv' := [(5, .int v10), (0, .ref a), (1, .int i1), (2, .int i2), (3, .long j3)]) hx hb dRows_setBits_39 hl (k := 4) rfl (by rw [ev10]; rfl) (by decide) rfl (fun ls hl => ?_)
        refine lv_goto (tgt := 3) hx hb dRows_setBits_42 (by decide) ?_
        exact ih3 _ (by have q1 : i5.toInt < 2147483647 := (by first | exact (mu_up (k := i5) (by assumption)).2 | assumption); have q2 := mu_lt q1; rw [← ev10] at q2; omega) ls _ _ gc9 i1 i2 j3 v10 hI hS (by have hN : N3 = (2147483647 - v10.toInt).toNat + 1 := (by have q1 : i5.toInt < 2147483647 := (by first | exact (mu_up (k := i5) (by assumption)).2 | assumption); have q2 := mu_lt q1; rw [← ev10] at q2; omega); rw [← hN]; clear hN; subst ev10 egc9; exact hO.tr rfl) rfl (lv_sub hl [1, 2, 3, 4, 0] rfl)
      refine lv_iload hx hb dRows_setBits_3 (lv_at hl 4 rfl) ?_
      refine lv_iload_n hx hb dRows_setBits_5 rfl (lv_at hl 2 rfl) ?_
      refine lv_icmp_ge (tgt := 45) hx hb dRows_setBits_6 (by decide) (fun c11 => ?_) (fun c11 => ?_)
      · exact hE _ _ _ _ hS (by have hO2 : Oq OUT g := (by exact hO.tr (if_pos c11)); rw [hO2.eq]; exact hI) dRows_setBits_45
      · refine lv_iload hx hb dRows_setBits_9 (lv_at hl 4 rfl) ?_
        refine lv_bipush (v := 64) hx hb dRows_setBits_11 (by decide) ?_
        refine lv_icmp_ge (tgt := 45) hx hb dRows_setBits_13 (by decide) (fun c12 => ?_) (fun c12 => ?_)
        · exact hE _ _ _ _ hS (by have hO2 : Oq OUT g := (by exact hO.tr ((if_neg c11).trans (if_pos c12))); rw [hO2.eq]; exact hI) dRows_setBits_45
        · refine lv_aload_n hx hb dRows_setBits_16 rfl (lv_at hl 0 rfl) ?_
          refine lv_iload_n hx hb dRows_setBits_17 rfl (lv_at hl 1 rfl) ?_
          refine lv_iload hx hb dRows_setBits_18 (lv_at hl 4 rfl) ?_
          refine lv_lload_n hx hb dRows_setBits_20 rfl (lv_at hl 3 rfl) ?_
          refine lv_iload hx hb dRows_setBits_21 (lv_at hl 4 rfl) ?_
          refine lv_lushr hx hb dRows_setBits_23 rfl ?_
          refine lv_topl (fun v13 ev13 => ?_)
          refine lv_lconst (v := 1) hx hb dRows_setBits_24 (by decide) ?_
          refine lv_land hx hb dRows_setBits_25 ?_
          refine lv_topl (fun v14 ev14 => ?_)
          refine lv_lconst (v := 1) hx hb dRows_setBits_26 (by decide) ?_
          refine W.lcmp hx hb dRows_setBits_27 ?_
          refine lv_topi (fun v15 ev15 => ?_)
          refine lv_if_ne (tgt := 35) hx hb dRows_setBits_28 (by decide) (fun c16 => ?_) (fun c16 => ?_)
          · refine lv_iconst (v := 2) hx hb dRows_setBits_35 (by decide) ?_
            exact J36 ls _ _ g i1 i2 j3 i5 2 i5 i1 hI hS (by first | exact ⟨(mu_up (k := i5) (by assumption)).2, by assumption⟩ | exact ⟨by assumption, by assumption⟩) (by subst ev15 ev14 ev13; exact hO.tr ((if_neg c11).trans ((if_neg c12).trans (if_neg c16)))) (lv_sub hl [0, 1, 2, 3, 4] rfl)
          · refine lv_iconst (v := 3) hx hb dRows_setBits_31 (by decide) ?_
            refine lv_goto (tgt := 36) hx hb dRows_setBits_32 (by decide) ?_
            exact J36 ls _ _ g i1 i2 j3 i5 3 i5 i1 hI hS (by first | exact ⟨(mu_up (k := i5) (by assumption)).2, by assumption⟩ | exact ⟨by assumption, by assumption⟩) (by subst ev15 ev14 ev13; exact hO.tr ((if_neg c11).trans ((if_neg c12).trans (if_pos c16)))) (lv_sub hl [0, 1, 2, 3, 4] rfl)
  refine lv_iconst (v := 0) hx hb dRows_setBits_0 (by decide) ?_
  refine lv_istore (lv' := [(5, .int 0), (0, .ref a), (1, .int x1), (2, .int x2), (3, .long x3)]) hx hb dRows_setBits_1 hl (by decide) rfl (fun ls hl => ?_)
  exact J3 _ ls _ _ g x1 x2 x3 0 hI hS (by exact hO.tr rfl) rfl (lv_sub hl [1, 2, 3, 4, 0] rfl)
theorem f10_Rows_setBits (l : Launch) (γ : gE) (A : Nat → Prop) (κ : Nat → Nat) (φ : gF) (ψ : gG) (x1 : Int32) (x2 : Int32) (x3 : Int64) : MU l yRows_setBits bRows_setBits 6 (none) 1 25 0 0 [.ref (γ.2.2.2 10), .int x1, .int x2, .long x3] γ A (INVF γ A κ φ ψ) (mQv (fun H => INVF γ A κ φ (up ψ 10 (P_Rows_setBits (κ 10) (ψ 10) x1 x2 x3)) H) A) :=
  muf_upg 10 (by decide) (by decide) (fun Z => fc_Rows_setBits l γ Z (γ.2.2.2 10) (κ 10) (ψ 10) x1 x2 x3)

def P_Rows_setAll_3 (M : Nat) : Nat → gg → Int32 → Int32 → Int32 → Int32 → gg
  | 0, _, _, _, _, _ => default
  | n + 1, g, i1, i2, i3, i4 => (if i2 ≤ i4 then g else (if 64 ≤ i4 then g else (P_Rows_setAll_3 M n (P_Rows_set M g i1 i4 i3) i1 i2 i3 (i4 + 1))))
def P_Rows_setAll (M : Nat) (g : gg) (x1 : Int32) (x2 : Int32) (x3 : Int32) : gg := (P_Rows_setAll_3 M  ((2147483647 - (0 : Int32).toInt).toNat + 1) g x1 x2 x3 0)
set_option maxHeartbeats 4000000 in
set_option maxRecDepth 100000 in
theorem fc_Rows_setAll (l : Launch) (γ : gE) (Z : Nat → Prop) (a M : Nat) (g : gg) (x1 : Int32) (x2 : Int32) (x3 : Int32) : MU l yRows_setAll bRows_setAll 5 (none) 1 25 0 0 [.ref a, .int x1, .int x2, .int x3] γ Z (cmp γ (gRows γ a M g) Z) (mQv (fun H => cmp γ (gRows γ a M (P_Rows_setAll M g x1 x2 x3)) Z H) Z) := by
  refine mu_openV (by decide) (Nat.le_of_ble_eq_true rfl) ?_
  intro p e s m args below meth c ls Q S hnm hC hA hI hE hl
  obtain ⟨hx, hb, hml, hown, hW⟩ := id S
  have hS : va_S Z s.heap s.heap [] := va_S.rf
  have hl : lv_has ls 5 [(0, .ref a), (1, .int x1), (2, .int x2), (3, .int x3)] := hl
  obtain ⟨OUT, hQ, hO⟩ : ∃ z, (z = P_Rows_setAll M g x1 x2 x3) ∧ Oq z (P_Rows_setAll M g x1 x2 x3) := ⟨_, rfl, rfl⟩
  rw [← hQ] at hE
  clear hQ
  have J3 : ∀ (N3 : Nat) (ls : Array Slot) (H : Heap) (locs : List Loc) (g : gg) (i1 : Int32) (i2 : Int32) (i3 : Int32) (i4 : Int32), cmp γ (gRows γ a M g) Z H → va_S Z s.heap H locs → (Oq OUT (P_Rows_setAll_3 M  (N3 + 1) g i1 i2 i3 i4)) → (2147483647 - i4.toInt).toNat = N3 → lv_has ls 5 [(0, .ref a), (1, .int i1), (2, .int i2), (3, .int i3), (4, .int i4)] → W p l e (bs_rm 1 0 0 25) s m args below meth c H locs 0 0 Q (F0 m 3 ls []) := by
    intro N3
    induction N3 using Nat.strongRecOn with
    | ind N3 ih3 =>
      intro ls H locs g i1 i2 i3 i4 hI hS hO hm3 hl
      refine lv_iload hx hb dRows_setAll_3 (lv_at hl 4 rfl) ?_
      refine lv_iload_n hx hb dRows_setAll_5 rfl (lv_at hl 2 rfl) ?_
      refine lv_icmp_ge (tgt := 30) hx hb dRows_setAll_6 (by decide) (fun c5 => ?_) (fun c5 => ?_)
      · exact hE _ _ _ _ hS (by have hO2 : Oq OUT g := (by exact hO.tr (if_pos c5)); rw [hO2.eq]; exact hI) dRows_setAll_30
      · refine lv_iload hx hb dRows_setAll_9 (lv_at hl 4 rfl) ?_
        refine lv_bipush (v := 64) hx hb dRows_setAll_11 (by decide) ?_
        refine lv_icmp_ge (tgt := 30) hx hb dRows_setAll_13 (by decide) (fun c6 => ?_) (fun c6 => ?_)
        · exact hE _ _ _ _ hS (by have hO2 : Oq OUT g := (by exact hO.tr ((if_neg c5).trans (if_pos c6))); rw [hO2.eq]; exact hI) dRows_setAll_30
        · refine lv_aload_n hx hb dRows_setAll_16 rfl (lv_at hl 0 rfl) ?_
          refine lv_iload_n hx hb dRows_setAll_17 rfl (lv_at hl 1 rfl) ?_
          refine lv_iload hx hb dRows_setAll_18 (lv_at hl 4 rfl) ?_
          refine lv_iload_n hx hb dRows_setAll_20 rfl (lv_at hl 3 rfl) ?_
          obtain ⟨ws_2, ⟨b0_2, rfl, h1_2, h2_2⟩, hP, hD⟩ := id hI
          have hP : va_P γ.1 vwCl [(a, .inr (5, [.ref b0_2])), (b0_2, .inl (γ.2.2.1, 4 * M, .inr (.inl g)))] _ := hP
          have hD : va_D Z [(a, .inr (5, [.ref b0_2])), (b0_2, .inl (γ.2.2.1, 4 * M, .inr (.inl g)))] := hD
          refine mu_Vv (rest := []) S hC (fun q h => hA q (Nat.le_trans hS.1 h)) (fun q h => h) hS (fc_Rows_set l γ Z a M g i1 i4 i3) meRows_set qw_b8cf967c79 ⟨Nat.le_of_ble_eq_true rfl, Nat.le_of_ble_eq_true rfl⟩ (va_recv hC.1 hP (ci := 5) (q0 := 0) rfl rfl) hI rfl hl.1 rfl (Nat.le_of_ble_eq_true rfl) dRows_setAll_21 ⟨Nat.le_refl _, Nat.le_refl _⟩ (fun H locs hI hS _ _ => ?_)
          obtain ⟨gc7, egc7⟩ : ∃ z : gg, z = P_Rows_set M g i1 i4 i3 := ⟨_, rfl⟩
          rw [← egc7] at hI
          obtain ⟨v8, ev8⟩ : ∃ y : Int32, y = i4 + 1 := ⟨_, rfl⟩
          refine lv_iinc (v := v8) (lv' := [(4, .int v8), (0, .ref a), (1, .int i1), (2, .int i2), (3, .int i3)]) hx hb dRows_setAll_24 hl (k := 4) rfl (by rw [ev8]; rfl) (by decide) rfl (fun ls hl => ?_)
          refine lv_goto (tgt := 3) hx hb dRows_setAll_27 (by decide) ?_
          exact ih3 _ (by have q1 : i4.toInt < 2147483647 := (by first | exact (mu_up (k := i4) (by assumption)).2 | assumption); have q2 := mu_lt q1; rw [← ev8] at q2; omega) ls _ _ gc7 i1 i2 i3 v8 hI hS (by have hN : N3 = (2147483647 - v8.toInt).toNat + 1 := (by have q1 : i4.toInt < 2147483647 := (by first | exact (mu_up (k := i4) (by assumption)).2 | assumption); have q2 := mu_lt q1; rw [← ev8] at q2; omega); rw [← hN]; clear hN; subst ev8 egc7; exact hO.tr ((if_neg c5).trans (if_neg c6))) rfl (lv_sub hl [1, 2, 3, 4, 0] rfl)
  refine lv_iconst (v := 0) hx hb dRows_setAll_0 (by decide) ?_
  refine lv_istore (lv' := [(4, .int 0), (0, .ref a), (1, .int x1), (2, .int x2), (3, .int x3)]) hx hb dRows_setAll_1 hl (by decide) rfl (fun ls hl => ?_)
  exact J3 _ ls _ _ g x1 x2 x3 0 hI hS (by exact hO.tr rfl) rfl (lv_sub hl [1, 2, 3, 4, 0] rfl)
theorem f10_Rows_setAll (l : Launch) (γ : gE) (A : Nat → Prop) (κ : Nat → Nat) (φ : gF) (ψ : gG) (x1 : Int32) (x2 : Int32) (x3 : Int32) : MU l yRows_setAll bRows_setAll 5 (none) 1 25 0 0 [.ref (γ.2.2.2 10), .int x1, .int x2, .int x3] γ A (INVF γ A κ φ ψ) (mQv (fun H => INVF γ A κ φ (up ψ 10 (P_Rows_setAll (κ 10) (ψ 10) x1 x2 x3)) H) A) :=
  muf_upg 10 (by decide) (by decide) (fun Z => fc_Rows_setAll l γ Z (γ.2.2.2 10) (κ 10) (ψ 10) x1 x2 x3)

def P_Rows_copy (M M0 : Nat) (g g0 : gg) (x1 x3 : Int32) : gg := if P_Rows_has M g x1 = 0 then g else if P_Rows_has M0 g0 x3 = 0 then g else va_cpy g0 g (x3 * 4).toNatClampNeg (x1 * 4).toNatClampNeg (4 : Int32).toNatClampNeg

set_option maxHeartbeats 4000000 in
set_option maxRecDepth 100000 in
theorem f5_Rows_copy (l : Launch) (γ : gE) (A : Nat → Prop) (κ : Nat → Nat) (φ : gF) (ψ : gG) (x1 : Int32) (x3 : Int32) : MU l yRows_copy bRows_copy 4 (none) 1 60 0 0 [.ref (γ.2.2.2 5), .int x1, .ref (γ.2.2.2 7), .int x3] γ A (INVF γ A κ φ ψ) (mQv (fun H => INVF γ A κ φ (up ψ 6 (P_Rows_copy (κ 8) (κ 9) (ψ 6) (ψ 8) x1 x3)) H) A) := by
  refine mu_openV (by decide) (Nat.le_of_ble_eq_true rfl) ?_
  intro p e s m args below meth c ls Q S hnm hC hA hG hE hl
  obtain ⟨hx, hb, hml, hown, hW⟩ := id S
  have hI := inv_of hG
  have hS : va_S A s.heap s.heap [] := va_S.rf
  have hl : lv_has ls 4 [(0, .ref (γ.2.2.2 5)), (1, .int x1), (2, .ref (γ.2.2.2 7)), (3, .int x3)] := hl
  refine lv_aload_n hx hb dRows_copy_0 rfl (lv_at hl 0 rfl) ?_
  refine lv_iload_n hx hb dRows_copy_1 rfl (lv_at hl 1 rfl) ?_
  refine pu_Vi (rest := []) S hC (f5_Rows_has l γ A κ φ ψ x1) meRows_has qw_0778b52d37 ⟨Nat.le_of_ble_eq_true rfl, Nat.le_of_ble_eq_true rfl⟩ (rv_5 hC hI) hG rfl hl.1 rfl (Nat.le_of_ble_eq_true rfl) dRows_copy_2 ⟨Nat.zero_le _, Nat.zero_le _⟩ (fun r1 hr1 => ?_)
  obtain ⟨hr1, er1⟩ := hr1
  refine lv_if_eq (tgt := 34) hx hb dRows_copy_5 (by decide) (fun c1 => ?_) (fun c1 => ?_)
  · exact hE _ _ _ _ hS (by have h9 : P_Rows_copy (κ 8) (κ 9) (ψ 6) (ψ 8) x1 x3 = ψ 6 := (by subst er1; exact if_pos c1); rw [h9, up_id]; exact hG) dRows_copy_34
  refine lv_aload_n hx hb dRows_copy_8 rfl (lv_at hl 2 rfl) ?_
  refine lv_iload_n hx hb dRows_copy_9 rfl (lv_at hl 3 rfl) ?_
  refine pu_Vi (rest := []) S hC (f7_Rows_has l γ A κ φ ψ x3) meRows_has qw_0778b52d37 ⟨Nat.le_of_ble_eq_true rfl, Nat.le_of_ble_eq_true rfl⟩ (rv_7 hC hI) hG rfl hl.1 rfl (Nat.le_of_ble_eq_true rfl) dRows_copy_10 ⟨Nat.zero_le _, Nat.zero_le _⟩ (fun r2 hr2 => ?_)
  obtain ⟨hr2, er2⟩ := hr2
  refine lv_if_eq (tgt := 34) hx hb dRows_copy_13 (by decide) (fun c2 => ?_) (fun c2 => ?_)
  · exact hE _ _ _ _ hS (by have h9 : P_Rows_copy (κ 8) (κ 9) (ψ 6) (ψ 8) x1 x3 = ψ 6 := (by subst er1 er2; exact (if_neg c1).trans (if_pos c2)); rw [h9, up_id]; exact hG) dRows_copy_34
  obtain ⟨Z0, ws0, ⟨b0, rfl, h01, h02⟩, hP0, hD0⟩ := ing_c hG 8 (by decide) (by decide)
  obtain ⟨Z, ⟨ws1, ⟨b1, rfl, h11, h12⟩, hP1, hD1⟩, hZn, hZA, hback⟩ := ing_lift hG hA 6 (by decide) (by decide)
  have hP0 : va_P γ.1 vwCl [(γ.2.2.2 7, .inr (5, [.ref b0])), (b0, .inl (γ.2.2.1, 4 * (κ 9), .inr (.inl (ψ 8))))] s.heap := hP0
  have hP1 : va_P γ.1 vwCl [(γ.2.2.2 5, .inr (5, [.ref b1])), (b1, .inl (γ.2.2.1, 4 * (κ 8), .inr (.inl (ψ 6))))] s.heap := hP1
  have hD1 : va_D Z [(γ.2.2.2 5, .inr (5, [.ref b1])), (b1, .inl (γ.2.2.1, 4 * (κ 8), .inr (.inl (ψ 6))))] := hD1
  have q1 := row4 hr1 c1 h11
  have q2 := row4 hr2 c2 h01
  refine lv_aload_n hx hb dRows_copy_16 rfl (lv_at hl 2 rfl) ?_
  refine va_get (D := γ.1) (ci := 5) (v := .ref b0) (C := R_Rows) (T := T_Rows) (N := 1) (Ts := bs_W0) hx hb hW in_Rows hown hC.1 hP0 0 rfl rfl 0 (by decide) (hW _ qw_05e9c8a29d) (fun _ h9 => h9) rfl dRows_copy_17 ?_
  refine lv_iload_n hx hb dRows_copy_20 rfl (lv_at hl 3 rfl) ?_
  refine lv_iconst (v := 4) hx hb dRows_copy_21 (by decide) ?_
  refine lv_imul hx hb dRows_copy_22 ?_
  refine lv_aload_n hx hb dRows_copy_23 rfl (lv_at hl 0 rfl) ?_
  refine va_get (D := γ.1) (ci := 5) (v := .ref b1) (C := R_Rows) (T := T_Rows) (N := 1) (Ts := bs_W0) hx hb hW in_Rows hown hC.1 hP1 0 rfl rfl 0 (by decide) (hW _ qw_05e9c8a29d) (fun _ h9 => h9) rfl dRows_copy_24 ?_
  refine lv_iload_n hx hb dRows_copy_27 rfl (lv_at hl 1 rfl) ?_
  refine lv_iconst (v := 4) hx hb dRows_copy_28 (by decide) ?_
  refine lv_imul hx hb dRows_copy_29 ?_
  refine lv_iconst (v := 4) hx hb dRows_copy_30 (by decide) ?_
  refine st_copyl hx hb (hml.trans hl.1.symm) hown (hW _ qw_c9d4ab67c5) (hW _ qw_d8fd3cc6ff) (hW _ qw_fe691cbd75) (hW _ qw_3f8a6f3ebd) hC.1 hP1 hD1 hZA hS 1 1 1 (hP0 1 _ rfl) rfl rfl rfl q2.1 q1.1 (by decide) q2.2 q1.2 (Nat.le_of_ble_eq_true rfl) (Nat.le_of_ble_eq_true rfl) dRows_copy_31 (fun H locs hP hD hS hz ho => ?_)
  exact hE _ _ _ _ hS (by
    have h9 : P_Rows_copy (κ 8) (κ 9) (ψ 6) (ψ 8) x1 x3 = va_cpy (ψ 8) (ψ 6) (x3 * 4).toNatClampNeg (x1 * 4).toNatClampNeg (4 : Int32).toNatClampNeg := (by subst er1 er2; exact (if_neg c1).trans (if_neg c2))
    rw [h9]
    have h8 := hback κ (φ 6) (va_cpy (ψ 8) (ψ 6) (x3 * 4).toNatClampNeg (x1 * 4).toNatClampNeg (4 : Int32).toNatClampNeg) H (fun _ _ _ _ _ _ => rfl) ⟨_, ⟨b1, rfl, h11, h12⟩, hP, hD⟩ (Nat.le_of_eq hz.symm) (fun q _ hq => ho q (fun e9 => hq (by rw [e9]; exact hD1.2 1 _ rfl)))
    rw [up_id φ 6] at h8
    exact h8) dRows_copy_34

set_option maxHeartbeats 4000000 in
set_option maxRecDepth 100000 in
theorem f7_Rows_copy (l : Launch) (γ : gE) (A : Nat → Prop) (κ : Nat → Nat) (φ : gF) (ψ : gG) (x1 : Int32) (x3 : Int32) : MU l yRows_copy bRows_copy 4 (none) 1 60 0 0 [.ref (γ.2.2.2 7), .int x1, .ref (γ.2.2.2 10), .int x3] γ A (INVF γ A κ φ ψ) (mQv (fun H => INVF γ A κ φ (up ψ 8 (P_Rows_copy (κ 9) (κ 10) (ψ 8) (ψ 10) x1 x3)) H) A) := by
  refine mu_openV (by decide) (Nat.le_of_ble_eq_true rfl) ?_
  intro p e s m args below meth c ls Q S hnm hC hA hG hE hl
  obtain ⟨hx, hb, hml, hown, hW⟩ := id S
  have hI := inv_of hG
  have hS : va_S A s.heap s.heap [] := va_S.rf
  have hl : lv_has ls 4 [(0, .ref (γ.2.2.2 7)), (1, .int x1), (2, .ref (γ.2.2.2 10)), (3, .int x3)] := hl
  refine lv_aload_n hx hb dRows_copy_0 rfl (lv_at hl 0 rfl) ?_
  refine lv_iload_n hx hb dRows_copy_1 rfl (lv_at hl 1 rfl) ?_
  refine pu_Vi (rest := []) S hC (f7_Rows_has l γ A κ φ ψ x1) meRows_has qw_0778b52d37 ⟨Nat.le_of_ble_eq_true rfl, Nat.le_of_ble_eq_true rfl⟩ (rv_7 hC hI) hG rfl hl.1 rfl (Nat.le_of_ble_eq_true rfl) dRows_copy_2 ⟨Nat.zero_le _, Nat.zero_le _⟩ (fun r1 hr1 => ?_)
  obtain ⟨hr1, er1⟩ := hr1
  refine lv_if_eq (tgt := 34) hx hb dRows_copy_5 (by decide) (fun c1 => ?_) (fun c1 => ?_)
  · exact hE _ _ _ _ hS (by have h9 : P_Rows_copy (κ 9) (κ 10) (ψ 8) (ψ 10) x1 x3 = ψ 8 := (by subst er1; exact if_pos c1); rw [h9, up_id]; exact hG) dRows_copy_34
  refine lv_aload_n hx hb dRows_copy_8 rfl (lv_at hl 2 rfl) ?_
  refine lv_iload_n hx hb dRows_copy_9 rfl (lv_at hl 3 rfl) ?_
  refine pu_Vi (rest := []) S hC (f10_Rows_has l γ A κ φ ψ x3) meRows_has qw_0778b52d37 ⟨Nat.le_of_ble_eq_true rfl, Nat.le_of_ble_eq_true rfl⟩ (rv_10 hC hI) hG rfl hl.1 rfl (Nat.le_of_ble_eq_true rfl) dRows_copy_10 ⟨Nat.zero_le _, Nat.zero_le _⟩ (fun r2 hr2 => ?_)
  obtain ⟨hr2, er2⟩ := hr2
  refine lv_if_eq (tgt := 34) hx hb dRows_copy_13 (by decide) (fun c2 => ?_) (fun c2 => ?_)
  · exact hE _ _ _ _ hS (by have h9 : P_Rows_copy (κ 9) (κ 10) (ψ 8) (ψ 10) x1 x3 = ψ 8 := (by subst er1 er2; exact (if_neg c1).trans (if_pos c2)); rw [h9, up_id]; exact hG) dRows_copy_34
  obtain ⟨Z0, ws0, ⟨b0, rfl, h01, h02⟩, hP0, hD0⟩ := ing_c hG 10 (by decide) (by decide)
  obtain ⟨Z, ⟨ws1, ⟨b1, rfl, h11, h12⟩, hP1, hD1⟩, hZn, hZA, hback⟩ := ing_lift hG hA 8 (by decide) (by decide)
  have hP0 : va_P γ.1 vwCl [(γ.2.2.2 10, .inr (5, [.ref b0])), (b0, .inl (γ.2.2.1, 4 * (κ 10), .inr (.inl (ψ 10))))] s.heap := hP0
  have hP1 : va_P γ.1 vwCl [(γ.2.2.2 7, .inr (5, [.ref b1])), (b1, .inl (γ.2.2.1, 4 * (κ 9), .inr (.inl (ψ 8))))] s.heap := hP1
  have hD1 : va_D Z [(γ.2.2.2 7, .inr (5, [.ref b1])), (b1, .inl (γ.2.2.1, 4 * (κ 9), .inr (.inl (ψ 8))))] := hD1
  have q1 := row4 hr1 c1 h11
  have q2 := row4 hr2 c2 h01
  refine lv_aload_n hx hb dRows_copy_16 rfl (lv_at hl 2 rfl) ?_
  refine va_get (D := γ.1) (ci := 5) (v := .ref b0) (C := R_Rows) (T := T_Rows) (N := 1) (Ts := bs_W0) hx hb hW in_Rows hown hC.1 hP0 0 rfl rfl 0 (by decide) (hW _ qw_05e9c8a29d) (fun _ h9 => h9) rfl dRows_copy_17 ?_
  refine lv_iload_n hx hb dRows_copy_20 rfl (lv_at hl 3 rfl) ?_
  refine lv_iconst (v := 4) hx hb dRows_copy_21 (by decide) ?_
  refine lv_imul hx hb dRows_copy_22 ?_
  refine lv_aload_n hx hb dRows_copy_23 rfl (lv_at hl 0 rfl) ?_
  refine va_get (D := γ.1) (ci := 5) (v := .ref b1) (C := R_Rows) (T := T_Rows) (N := 1) (Ts := bs_W0) hx hb hW in_Rows hown hC.1 hP1 0 rfl rfl 0 (by decide) (hW _ qw_05e9c8a29d) (fun _ h9 => h9) rfl dRows_copy_24 ?_
  refine lv_iload_n hx hb dRows_copy_27 rfl (lv_at hl 1 rfl) ?_
  refine lv_iconst (v := 4) hx hb dRows_copy_28 (by decide) ?_
  refine lv_imul hx hb dRows_copy_29 ?_
  refine lv_iconst (v := 4) hx hb dRows_copy_30 (by decide) ?_
  refine st_copyl hx hb (hml.trans hl.1.symm) hown (hW _ qw_c9d4ab67c5) (hW _ qw_d8fd3cc6ff) (hW _ qw_fe691cbd75) (hW _ qw_3f8a6f3ebd) hC.1 hP1 hD1 hZA hS 1 1 1 (hP0 1 _ rfl) rfl rfl rfl q2.1 q1.1 (by decide) q2.2 q1.2 (Nat.le_of_ble_eq_true rfl) (Nat.le_of_ble_eq_true rfl) dRows_copy_31 (fun H locs hP hD hS hz ho => ?_)
  exact hE _ _ _ _ hS (by
    have h9 : P_Rows_copy (κ 9) (κ 10) (ψ 8) (ψ 10) x1 x3 = va_cpy (ψ 10) (ψ 8) (x3 * 4).toNatClampNeg (x1 * 4).toNatClampNeg (4 : Int32).toNatClampNeg := (by subst er1 er2; exact (if_neg c1).trans (if_neg c2))
    rw [h9]
    have h8 := hback κ (φ 8) (va_cpy (ψ 10) (ψ 8) (x3 * 4).toNatClampNeg (x1 * 4).toNatClampNeg (4 : Int32).toNatClampNeg) H (fun _ _ _ _ _ _ => rfl) ⟨_, ⟨b1, rfl, h11, h12⟩, hP, hD⟩ (Nat.le_of_eq hz.symm) (fun q _ hq => ho q (fun e9 => hq (by rw [e9]; exact hD1.2 1 _ rfl)))
    rw [up_id φ 8] at h8
    exact h8) dRows_copy_34

set_option maxHeartbeats 4000000 in
set_option maxRecDepth 100000 in
theorem f10_Rows_copy (l : Launch) (γ : gE) (A : Nat → Prop) (κ : Nat → Nat) (φ : gF) (ψ : gG) (x1 : Int32) (x3 : Int32) : MU l yRows_copy bRows_copy 4 (none) 1 60 0 0 [.ref (γ.2.2.2 10), .int x1, .ref (γ.2.2.2 5), .int x3] γ A (INVF γ A κ φ ψ) (mQv (fun H => INVF γ A κ φ (up ψ 10 (P_Rows_copy (κ 10) (κ 8) (ψ 10) (ψ 6) x1 x3)) H) A) := by
  refine mu_openV (by decide) (Nat.le_of_ble_eq_true rfl) ?_
  intro p e s m args below meth c ls Q S hnm hC hA hG hE hl
  obtain ⟨hx, hb, hml, hown, hW⟩ := id S
  have hI := inv_of hG
  have hS : va_S A s.heap s.heap [] := va_S.rf
  have hl : lv_has ls 4 [(0, .ref (γ.2.2.2 10)), (1, .int x1), (2, .ref (γ.2.2.2 5)), (3, .int x3)] := hl
  refine lv_aload_n hx hb dRows_copy_0 rfl (lv_at hl 0 rfl) ?_
  refine lv_iload_n hx hb dRows_copy_1 rfl (lv_at hl 1 rfl) ?_
  refine pu_Vi (rest := []) S hC (f10_Rows_has l γ A κ φ ψ x1) meRows_has qw_0778b52d37 ⟨Nat.le_of_ble_eq_true rfl, Nat.le_of_ble_eq_true rfl⟩ (rv_10 hC hI) hG rfl hl.1 rfl (Nat.le_of_ble_eq_true rfl) dRows_copy_2 ⟨Nat.zero_le _, Nat.zero_le _⟩ (fun r1 hr1 => ?_)
  obtain ⟨hr1, er1⟩ := hr1
  refine lv_if_eq (tgt := 34) hx hb dRows_copy_5 (by decide) (fun c1 => ?_) (fun c1 => ?_)
  · exact hE _ _ _ _ hS (by have h9 : P_Rows_copy (κ 10) (κ 8) (ψ 10) (ψ 6) x1 x3 = ψ 10 := (by subst er1; exact if_pos c1); rw [h9, up_id]; exact hG) dRows_copy_34
  refine lv_aload_n hx hb dRows_copy_8 rfl (lv_at hl 2 rfl) ?_
  refine lv_iload_n hx hb dRows_copy_9 rfl (lv_at hl 3 rfl) ?_
  refine pu_Vi (rest := []) S hC (f5_Rows_has l γ A κ φ ψ x3) meRows_has qw_0778b52d37 ⟨Nat.le_of_ble_eq_true rfl, Nat.le_of_ble_eq_true rfl⟩ (rv_5 hC hI) hG rfl hl.1 rfl (Nat.le_of_ble_eq_true rfl) dRows_copy_10 ⟨Nat.zero_le _, Nat.zero_le _⟩ (fun r2 hr2 => ?_)
  obtain ⟨hr2, er2⟩ := hr2
  refine lv_if_eq (tgt := 34) hx hb dRows_copy_13 (by decide) (fun c2 => ?_) (fun c2 => ?_)
  · exact hE _ _ _ _ hS (by have h9 : P_Rows_copy (κ 10) (κ 8) (ψ 10) (ψ 6) x1 x3 = ψ 10 := (by subst er1 er2; exact (if_neg c1).trans (if_pos c2)); rw [h9, up_id]; exact hG) dRows_copy_34
  obtain ⟨Z0, ws0, ⟨b0, rfl, h01, h02⟩, hP0, hD0⟩ := ing_c hG 6 (by decide) (by decide)
  obtain ⟨Z, ⟨ws1, ⟨b1, rfl, h11, h12⟩, hP1, hD1⟩, hZn, hZA, hback⟩ := ing_lift hG hA 10 (by decide) (by decide)
  have hP0 : va_P γ.1 vwCl [(γ.2.2.2 5, .inr (5, [.ref b0])), (b0, .inl (γ.2.2.1, 4 * (κ 8), .inr (.inl (ψ 6))))] s.heap := hP0
  have hP1 : va_P γ.1 vwCl [(γ.2.2.2 10, .inr (5, [.ref b1])), (b1, .inl (γ.2.2.1, 4 * (κ 10), .inr (.inl (ψ 10))))] s.heap := hP1
  have hD1 : va_D Z [(γ.2.2.2 10, .inr (5, [.ref b1])), (b1, .inl (γ.2.2.1, 4 * (κ 10), .inr (.inl (ψ 10))))] := hD1
  have q1 := row4 hr1 c1 h11
  have q2 := row4 hr2 c2 h01
  refine lv_aload_n hx hb dRows_copy_16 rfl (lv_at hl 2 rfl) ?_
  refine va_get (D := γ.1) (ci := 5) (v := .ref b0) (C := R_Rows) (T := T_Rows) (N := 1) (Ts := bs_W0) hx hb hW in_Rows hown hC.1 hP0 0 rfl rfl 0 (by decide) (hW _ qw_05e9c8a29d) (fun _ h9 => h9) rfl dRows_copy_17 ?_
  refine lv_iload_n hx hb dRows_copy_20 rfl (lv_at hl 3 rfl) ?_
  refine lv_iconst (v := 4) hx hb dRows_copy_21 (by decide) ?_
  refine lv_imul hx hb dRows_copy_22 ?_
  refine lv_aload_n hx hb dRows_copy_23 rfl (lv_at hl 0 rfl) ?_
  refine va_get (D := γ.1) (ci := 5) (v := .ref b1) (C := R_Rows) (T := T_Rows) (N := 1) (Ts := bs_W0) hx hb hW in_Rows hown hC.1 hP1 0 rfl rfl 0 (by decide) (hW _ qw_05e9c8a29d) (fun _ h9 => h9) rfl dRows_copy_24 ?_
  refine lv_iload_n hx hb dRows_copy_27 rfl (lv_at hl 1 rfl) ?_
  refine lv_iconst (v := 4) hx hb dRows_copy_28 (by decide) ?_
  refine lv_imul hx hb dRows_copy_29 ?_
  refine lv_iconst (v := 4) hx hb dRows_copy_30 (by decide) ?_
  refine st_copyl hx hb (hml.trans hl.1.symm) hown (hW _ qw_c9d4ab67c5) (hW _ qw_d8fd3cc6ff) (hW _ qw_fe691cbd75) (hW _ qw_3f8a6f3ebd) hC.1 hP1 hD1 hZA hS 1 1 1 (hP0 1 _ rfl) rfl rfl rfl q2.1 q1.1 (by decide) q2.2 q1.2 (Nat.le_of_ble_eq_true rfl) (Nat.le_of_ble_eq_true rfl) dRows_copy_31 (fun H locs hP hD hS hz ho => ?_)
  exact hE _ _ _ _ hS (by
    have h9 : P_Rows_copy (κ 10) (κ 8) (ψ 10) (ψ 6) x1 x3 = va_cpy (ψ 6) (ψ 10) (x3 * 4).toNatClampNeg (x1 * 4).toNatClampNeg (4 : Int32).toNatClampNeg := (by subst er1 er2; exact (if_neg c1).trans (if_neg c2))
    rw [h9]
    have h8 := hback κ (φ 10) (va_cpy (ψ 6) (ψ 10) (x3 * 4).toNatClampNeg (x1 * 4).toNatClampNeg (4 : Int32).toNatClampNeg) H (fun _ _ _ _ _ _ => rfl) ⟨_, ⟨b1, rfl, h11, h12⟩, hP, hD⟩ (Nat.le_of_eq hz.symm) (fun q _ hq => ho q (fun e9 => hq (by rw [e9]; exact hD1.2 1 _ rfl)))
    rw [up_id φ 10] at h8
    exact h8) dRows_copy_34

def P_TypeBook_refused (κ : Nat → Nat) (φ : gF) (ψ : gG) (x1 : Int32) (x2 : Int32) : Int32 × gF × gG := ((-x1), (up φ 1 (Au (φ 1) 1 0 x2)), ψ)
set_option maxHeartbeats 4000000 in
set_option maxRecDepth 100000 in
theorem f_TypeBook_refused (l : Launch) (γ : gE) (A : Nat → Prop) (κ : Nat → Nat) (φ : gF) (ψ : gG) (x1 : Int32) (x2 : Int32) : MU l yTypeBook_refused bTypeBook_refused 3 (some .int) 0 0 0 0 [.ref (γ.2.2.2 0), .int x1, .int x2] γ A (INVF γ A κ φ ψ) (mQi (fun r H => r = (P_TypeBook_refused κ φ ψ x1 x2).1 ∧ INVF γ A κ (P_TypeBook_refused κ φ ψ x1 x2).2.1 (P_TypeBook_refused κ φ ψ x1 x2).2.2 H) A) := by
  refine mu_openI (by decide) (Nat.le_of_ble_eq_true rfl) ?_
  intro p e s m args below meth c ls Q S hnm hC hA hG hE hl
  obtain ⟨hx, hb, hml, hown, hW⟩ := id S
  have hI := inv_of hG
  have hS : va_S A s.heap s.heap [] := va_S.rf
  have hl : lv_has ls 3 [(0, .ref (γ.2.2.2 0)), (1, .int x1), (2, .int x2)] := hl
  obtain ⟨OUT, hQ, hO⟩ : ∃ z, (z = P_TypeBook_refused κ φ ψ x1 x2) ∧ Oq z (P_TypeBook_refused κ φ ψ x1 x2) := ⟨_, rfl, rfl⟩
  rw [← hQ] at hE
  clear hQ
  refine lv_aload_n hx hb dTypeBook_refused_0 rfl (lv_at hl 0 rfl) ?_
  refine lv_iload_n hx hb dTypeBook_refused_1 rfl (lv_at hl 2 rfl) ?_
  refine ig_fault S hC hG (fun q h => hA q (Nat.le_trans hS.1 h)) hS qw_464f80981e dTypeBook_refused_2 (fun H locs hG hS => ?_)
  obtain ⟨φ3, eφ3⟩ : ∃ z : gF, z = up φ 1 (Au (φ 1) 1 0 x2) := ⟨_, rfl⟩
  rw [← eφ3] at hG
  have hI := inv_of hG
  refine lv_iload_n hx hb dTypeBook_refused_5 rfl (lv_at hl 1 rfl) ?_
  refine lv_ineg hx hb dTypeBook_refused_6 ?_
  refine lv_topi (fun v4 ev4 => ?_)
  exact hE _ _ _ _ _ hS (by have hO2 : Oq OUT (v4, φ3, ψ) := (by subst ev4 eφ3; exact hO.tr rfl); rw [hO2.eq]; exact ⟨rfl, hG⟩) dTypeBook_refused_7

def P_Operators_computeUnary_164 (κ : Nat → Nat) (φ : gF) (ψ : gG) (i1 : Int32) (i2 : Int32) (i3 : Int32) (i4 : Int32) (t0 : Int32) (t1 : Int32) : gF × gG := ((up φ 9 (P_Looks_setNumber (κ 7) (φ 9) t1 t0)), ψ)
def P_Operators_computeUnary_82 (κ : Nat → Nat) : Nat → gF → gG → Int32 → Int32 → Int32 → Int32 → Int32 → gF × gG
  | 0, _, _, _, _, _, _, _ => default
  | n + 1, φ, ψ, i1, i2, i3, i4, i5 => (if (P_Looks_extentOf (κ 7) (φ 9) i3) ≤ i5 then (φ, ψ) else (P_Operators_computeUnary_82 κ n φ (up ψ 10 (P_Rows_set (κ 10) (ψ 10) i1 i5 (P_Logic_not (P_Rows_get (κ 10) (ψ 10) i3 i5)))) i1 i2 i3 i4 (i5 + 1)))
def P_Operators_computeUnary (κ : Nat → Nat) (φ : gF) (ψ : gG) (x1 : Int32) (x2 : Int32) (x3 : Int32) : gF × gG := (if (P_Looks_classOf (κ 7) (φ 9) x3) = 0 then ((up φ 9 (P_Looks_setNumber (κ 7) (φ 9) x1 (P_Logic_not (P_Looks_numberOf (κ 7) (φ 9) x3)))), ψ) else (if (P_Looks_classOf (κ 7) (φ 9) x3) = 1 then ((up φ 9 (P_Looks_setNumber (κ 7) (φ 9) x1 (1 - (P_Looks_numberOf (κ 7) (φ 9) x3)))), ψ) else (if (P_Looks_classOf (κ 7) (φ 9) x3) = 2 then (if x2 = 1 then (P_Operators_computeUnary_164 κ  φ ψ x1 x2 x3 (P_Looks_numberOf (κ 7) (φ 9) x3) (-(P_Looks_numberOf (κ 7) (φ 9) x3)) x1) else (if x2 = 3 then (P_Operators_computeUnary_164 κ  φ ψ x1 x2 x3 (P_Looks_numberOf (κ 7) (φ 9) x3) (if 0 ≤ (P_Looks_numberOf (κ 7) (φ 9) x3) then (P_Looks_numberOf (κ 7) (φ 9) x3) else 0 - (P_Looks_numberOf (κ 7) (φ 9) x3)) x1) else (P_Operators_computeUnary_164 κ  φ ψ x1 x2 x3 (P_Looks_numberOf (κ 7) (φ 9) x3) (P_Looks_numberOf (κ 7) (φ 9) x3) x1))) else (if (P_Looks_classOf (κ 7) (φ 9) x3) = 3 then (P_Operators_computeUnary_82 κ  ((2147483647 - (0 : Int32).toInt).toNat + 1) φ ψ x1 x2 x3 (P_Looks_numberOf (κ 7) (φ 9) x3) 0) else (if x2 = 1 then (P_Operators_computeUnary_164 κ  φ ψ x1 x2 x3 (P_Looks_numberOf (κ 7) (φ 9) x3) (-(P_Looks_numberOf (κ 7) (φ 9) x3)) x1) else (if x2 = 3 then (P_Operators_computeUnary_164 κ  φ ψ x1 x2 x3 (P_Looks_numberOf (κ 7) (φ 9) x3) (if 0 ≤ (P_Looks_numberOf (κ 7) (φ 9) x3) then (P_Looks_numberOf (κ 7) (φ 9) x3) else 0 - (P_Looks_numberOf (κ 7) (φ 9) x3)) x1) else (P_Operators_computeUnary_164 κ  φ ψ x1 x2 x3 (P_Looks_numberOf (κ 7) (φ 9) x3) (P_Looks_numberOf (κ 7) (φ 9) x3) x1)))))))
set_option maxHeartbeats 4000000 in
set_option maxRecDepth 100000 in
theorem f_Operators_computeUnary (l : Launch) (γ : gE) (A : Nat → Prop) (κ : Nat → Nat) (φ : gF) (ψ : gG) (x1 : Int32) (x2 : Int32) (x3 : Int32) : MU l yOperators_computeUnary bOperators_computeUnary 6 (none) 2 43 0 0 [.ref (γ.2.2.2 11), .int x1, .int x2, .int x3] γ A (INVF γ A κ φ ψ) (mQv (fun H => INVF γ A κ (P_Operators_computeUnary κ φ ψ x1 x2 x3).1 (P_Operators_computeUnary κ φ ψ x1 x2 x3).2 H) A) := by
  refine mu_openV (by decide) (Nat.le_of_ble_eq_true rfl) ?_
  intro p e s m args below meth c ls Q S hnm hC hA hG hE hl
  obtain ⟨hx, hb, hml, hown, hW⟩ := id S
  have hI := inv_of hG
  have hS : va_S A s.heap s.heap [] := va_S.rf
  have hl : lv_has ls 6 [(0, .ref (γ.2.2.2 11)), (1, .int x1), (2, .int x2), (3, .int x3)] := hl
  obtain ⟨OUT, hQ, hO⟩ : ∃ z, (z = P_Operators_computeUnary κ φ ψ x1 x2 x3) ∧ Oq z (P_Operators_computeUnary κ φ ψ x1 x2 x3) := ⟨_, rfl, rfl⟩
  rw [← hQ] at hE
  clear hQ
  have J164 : ∀ (ls : Array Slot) (H : Heap) (locs : List Loc) (φ : gF) (ψ : gG) (i1 : Int32) (i2 : Int32) (i3 : Int32) (i4 : Int32) (t0 : Int32) (t1 : Int32), INVF γ A κ φ ψ H → va_S A s.heap H locs → (Oq OUT (P_Operators_computeUnary_164 κ   φ ψ i1 i2 i3 i4 t0 t1)) → lv_has ls 6 [(0, .ref (γ.2.2.2 11)), (1, .int i1), (2, .int i2), (3, .int i3), (4, .int i4)] → W p l e (bs_rm 2 0 0 43) s m args below meth c H locs 0 0 Q (F0 m 164 ls [.int t0, .int t1, .ref (γ.2.2.2 9)]) := by
    intro ls H locs φ ψ i1 i2 i3 i4 t0 t1 hG hS hO hl
    have hI := inv_of hG
    refine mu_Vv (rest := []) S hC (fun q h => hA q (Nat.le_trans hS.1 h)) (fun q h => h) hS (f9_Looks_setNumber l γ A κ φ ψ t1 t0) meLooks_setNumber qw_6899d83413 ⟨Nat.le_of_ble_eq_true rfl, Nat.le_of_ble_eq_true rfl⟩ (rv_9 hC hI) hG rfl hl.1 rfl (Nat.le_of_ble_eq_true rfl) dOperators_computeUnary_164 ⟨Nat.le_refl _, Nat.le_refl _⟩ (fun H locs hG hS _ _ => ?_)
    obtain ⟨φ31, eφ31⟩ : ∃ z : gF, z = up φ 9 (P_Looks_setNumber (κ 7) (φ 9) t1 t0) := ⟨_, rfl⟩
    rw [← eφ31] at hG
    have hI := inv_of hG
    exact hE _ _ _ _ hS (by have hO2 : Oq OUT (φ31, ψ) := (by subst eφ31; exact hO.tr rfl); rw [hO2.eq]; exact hG) dOperators_computeUnary_167
  have J82 : ∀ (N82 : Nat) (ls : Array Slot) (H : Heap) (locs : List Loc) (φ : gF) (ψ : gG) (i1 : Int32) (i2 : Int32) (i3 : Int32) (i4 : Int32) (i5 : Int32), INVF γ A κ φ ψ H → va_S A s.heap H locs → (Oq OUT (P_Operators_computeUnary_82 κ  (N82 + 1) φ ψ i1 i2 i3 i4 i5)) → (2147483647 - i5.toInt).toNat = N82 → lv_has ls 6 [(0, .ref (γ.2.2.2 11)), (1, .int i1), (2, .int i2), (3, .int i3), (4, .int i4), (5, .int i5)] → W p l e (bs_rm 2 0 0 43) s m args below meth c H locs 0 0 Q (F0 m 82 ls []) := by
    intro N82
    induction N82 using Nat.strongRecOn with
    | ind N82 ih82 =>
      intro ls H locs φ ψ i1 i2 i3 i4 i5 hG hS hO hm82 hl
      have hI := inv_of hG
      refine lv_iload hx hb dOperators_computeUnary_82 (lv_at hl 5 rfl) ?_
      refine lv_aload_n hx hb dOperators_computeUnary_84 rfl (lv_at hl 0 rfl) ?_
      refine of_get S hC (of_11_0 hI) in_Operators rfl (by decide) qw_46160f6e07 dOperators_computeUnary_85 ?_
      refine lv_iload_n hx hb dOperators_computeUnary_88 rfl (lv_at hl 3 rfl) ?_
      refine pu_Vi (rest := [.int i5]) S hC (f9_Looks_extentOf l γ A κ φ ψ i3) meLooks_extentOf qw_b0051a6c7a ⟨Nat.le_of_ble_eq_true rfl, Nat.le_of_ble_eq_true rfl⟩ (rv_9 hC hI) hG rfl hl.1 rfl (Nat.le_of_ble_eq_true rfl) dOperators_computeUnary_89 ⟨Nat.zero_le _, Nat.zero_le _⟩ (fun r32 hr32 => ?_)
      obtain ⟨hr32, er32⟩ := hr32
      refine lv_icmp_ge (tgt := 130) hx hb dOperators_computeUnary_92 (by decide) (fun c33 => ?_) (fun c33 => ?_)
      · refine lv_goto (tgt := 167) hx hb dOperators_computeUnary_130 (by decide) ?_
        exact hE _ _ _ _ hS (by have hO2 : Oq OUT (φ, ψ) := (by subst er32; exact hO.tr (if_pos c33)); rw [hO2.eq]; exact hG) dOperators_computeUnary_167
      · refine lv_aload_n hx hb dOperators_computeUnary_95 rfl (lv_at hl 0 rfl) ?_
        refine of_get S hC (of_11_0 hI) in_Operators rfl (by decide) qw_46160f6e07 dOperators_computeUnary_96 ?_
        refine of_getN S hC (of_9_5 hI) in_Looks rfl (by decide) qn_de7362ca2e dOperators_computeUnary_99 ?_
        refine lv_iload_n hx hb dOperators_computeUnary_102 rfl (lv_at hl 1 rfl) ?_
        refine lv_iload hx hb dOperators_computeUnary_103 (lv_at hl 5 rfl) ?_
        refine lv_aload_n hx hb dOperators_computeUnary_105 rfl (lv_at hl 0 rfl) ?_
        refine of_get S hC (of_11_0 hI) in_Operators rfl (by decide) qw_46160f6e07 dOperators_computeUnary_106 ?_
        refine of_getN S hC (of_9_5 hI) in_Looks rfl (by decide) qn_de7362ca2e dOperators_computeUnary_109 ?_
        refine lv_iload_n hx hb dOperators_computeUnary_112 rfl (lv_at hl 3 rfl) ?_
        refine lv_iload hx hb dOperators_computeUnary_113 (lv_at hl 5 rfl) ?_
        refine pu_Vi (rest := [.int i5, .int i1, .ref (γ.2.2.2 10)]) S hC (f10_Rows_get l γ A κ φ ψ i3 i5) meRows_get qw_2b8ebea4b9 ⟨Nat.le_of_ble_eq_true rfl, Nat.le_of_ble_eq_true rfl⟩ (rv_10 hC hI) hG rfl hl.1 rfl (Nat.le_of_ble_eq_true rfl) dOperators_computeUnary_115 ⟨Nat.zero_le _, Nat.zero_le _⟩ (fun r34 hr34 => ?_)
        obtain ⟨hr34, er34⟩ := hr34
        refine pu_Si (rest := [.int i5, .int i1, .ref (γ.2.2.2 10)]) S hC (f_Logic_not l γ (INVF γ A κ φ ψ) r34) meLogic_not qw_b87aa9f9e0 ⟨Nat.le_of_ble_eq_true rfl, Nat.le_of_ble_eq_true rfl⟩ hG rfl hl.1 rfl (Nat.le_of_ble_eq_true rfl) dOperators_computeUnary_118 ⟨Nat.zero_le _, Nat.zero_le _⟩ (fun r35 hr35 => ?_)
        obtain ⟨hr35, er35⟩ := hr35
        refine mu_Vv (rest := []) S hC (fun q h => hA q (Nat.le_trans hS.1 h)) (fun q h => h) hS (f10_Rows_set l γ A κ φ ψ i1 i5 r35) meRows_set qw_33d0c54276 ⟨Nat.le_of_ble_eq_true rfl, Nat.le_of_ble_eq_true rfl⟩ (rv_10 hC hI) hG rfl hl.1 rfl (Nat.le_of_ble_eq_true rfl) dOperators_computeUnary_121 ⟨Nat.le_refl _, Nat.le_refl _⟩ (fun H locs hG hS _ _ => ?_)
        obtain ⟨ψ37, eψ37⟩ : ∃ z : gG, z = up ψ 10 (P_Rows_set (κ 10) (ψ 10) i1 i5 r35) := ⟨_, rfl⟩
        rw [← eψ37] at hG
        have hI := inv_of hG
        obtain ⟨v38, ev38⟩ : ∃ y : Int32, y = i5 + 1 := ⟨_, rfl⟩
        refine lv_iinc (v := v38) (lv' := [(5, .int v38), (0, .ref (γ.2.2.2 11)), (1, .int i1), (2, .int i2), (3, .int i3), (4, .int i4)]) hx hb dOperators_computeUnary_124 hl (k := 5) rfl (by rw [ev38]; rfl) (by decide) rfl (fun ls hl => ?_)
        refine lv_goto (tgt := 82) hx hb dOperators_computeUnary_127 (by decide) ?_
        exact ih82 _ (by have q1 : i5.toInt < 2147483647 := (by first | exact (mu_up (k := i5) (by assumption)).2 | assumption); have q2 := mu_lt q1; rw [← ev38] at q2; omega) ls _ _ φ ψ37 i1 i2 i3 i4 v38 hG hS (by have hN : N82 = (2147483647 - v38.toInt).toNat + 1 := (by have q1 : i5.toInt < 2147483647 := (by first | exact (mu_up (k := i5) (by assumption)).2 | assumption); have q2 := mu_lt q1; rw [← ev38] at q2; omega); rw [← hN]; clear hN; subst ev38 eψ37 er35 er34 er32; exact hO.tr (if_neg c33)) rfl (lv_sub hl [1, 2, 3, 4, 5, 0] rfl)
  refine lv_aload_n hx hb dOperators_computeUnary_0 rfl (lv_at hl 0 rfl) ?_
  refine of_get S hC (of_11_0 hI) in_Operators rfl (by decide) qw_46160f6e07 dOperators_computeUnary_1 ?_
  refine lv_iload_n hx hb dOperators_computeUnary_4 rfl (lv_at hl 3 rfl) ?_
  refine pu_Vi (rest := []) S hC (f9_Looks_numberOf l γ A κ φ ψ x3) meLooks_numberOf qw_567f1aae5f ⟨Nat.le_of_ble_eq_true rfl, Nat.le_of_ble_eq_true rfl⟩ (rv_9 hC hI) hG rfl hl.1 rfl (Nat.le_of_ble_eq_true rfl) dOperators_computeUnary_5 ⟨Nat.zero_le _, Nat.zero_le _⟩ (fun r39 hr39 => ?_)
  obtain ⟨hr39, er39⟩ := hr39
  refine lv_istore (lv' := [(4, .int r39), (0, .ref (γ.2.2.2 11)), (1, .int x1), (2, .int x2), (3, .int x3)]) hx hb dOperators_computeUnary_8 hl (by decide) rfl (fun ls hl => ?_)
  refine lv_aload_n hx hb dOperators_computeUnary_10 rfl (lv_at hl 1 rfl) ?_
  refine of_get S hC (of_11_0 hI) in_Operators rfl (by decide) qw_46160f6e07 dOperators_computeUnary_11 ?_
  refine lv_iload_n hx hb dOperators_computeUnary_14 rfl (lv_at hl 4 rfl) ?_
  refine pu_Vi (rest := []) S hC (f9_Looks_classOf l γ A κ φ ψ x3) meLooks_classOf qw_2e1b0e0eff ⟨Nat.le_of_ble_eq_true rfl, Nat.le_of_ble_eq_true rfl⟩ (rv_9 hC hI) hG rfl hl.1 rfl (Nat.le_of_ble_eq_true rfl) dOperators_computeUnary_15 ⟨Nat.zero_le _, Nat.zero_le _⟩ (fun r40 hr40 => ?_)
  obtain ⟨hr40, er40⟩ := hr40
  by_cases k41 : r40 = 0
  · rw [k41]
    refine lv_tableIn (tgt := 63) hx hb dOperators_computeUnary_18 (by decide) (by decide) rfl (by decide) ?_
    refine lv_aload_n hx hb dOperators_computeUnary_63 rfl (lv_at hl 1 rfl) ?_
    refine of_get S hC (of_11_0 hI) in_Operators rfl (by decide) qw_46160f6e07 dOperators_computeUnary_64 ?_
    refine lv_iload_n hx hb dOperators_computeUnary_67 rfl (lv_at hl 2 rfl) ?_
    refine lv_iload hx hb dOperators_computeUnary_68 (lv_at hl 0 rfl) ?_
    refine pu_Si (rest := [.int x1, .ref (γ.2.2.2 9)]) S hC (f_Logic_not l γ (INVF γ A κ φ ψ) r39) meLogic_not qw_b87aa9f9e0 ⟨Nat.le_of_ble_eq_true rfl, Nat.le_of_ble_eq_true rfl⟩ hG rfl hl.1 rfl (Nat.le_of_ble_eq_true rfl) dOperators_computeUnary_70 ⟨Nat.zero_le _, Nat.zero_le _⟩ (fun r42 hr42 => ?_)
    obtain ⟨hr42, er42⟩ := hr42
    refine mu_Vv (rest := []) S hC (fun q h => hA q (Nat.le_trans hS.1 h)) (fun q h => h) hS (f9_Looks_setNumber l γ A κ φ ψ x1 r42) meLooks_setNumber qw_6899d83413 ⟨Nat.le_of_ble_eq_true rfl, Nat.le_of_ble_eq_true rfl⟩ (rv_9 hC hI) hG rfl hl.1 rfl (Nat.le_of_ble_eq_true rfl) dOperators_computeUnary_73 ⟨Nat.le_refl _, Nat.le_refl _⟩ (fun H locs hG hS _ _ => ?_)
    obtain ⟨φ44, eφ44⟩ : ∃ z : gF, z = up φ 9 (P_Looks_setNumber (κ 7) (φ 9) x1 r42) := ⟨_, rfl⟩
    rw [← eφ44] at hG
    have hI := inv_of hG
    refine lv_goto (tgt := 167) hx hb dOperators_computeUnary_76 (by decide) ?_
    exact hE _ _ _ _ hS (by have hO2 : Oq OUT (φ44, ψ) := (by subst eφ44 er42 er40 er39; exact hO.tr (if_pos k41)); rw [hO2.eq]; exact hG) dOperators_computeUnary_167
  by_cases k45 : r40 = 1
  · rw [k45]
    refine lv_tableIn (tgt := 48) hx hb dOperators_computeUnary_18 (by decide) (by decide) rfl (by decide) ?_
    refine lv_aload_n hx hb dOperators_computeUnary_48 rfl (lv_at hl 1 rfl) ?_
    refine of_get S hC (of_11_0 hI) in_Operators rfl (by decide) qw_46160f6e07 dOperators_computeUnary_49 ?_
    refine lv_iload_n hx hb dOperators_computeUnary_52 rfl (lv_at hl 2 rfl) ?_
    refine lv_iconst (v := 1) hx hb dOperators_computeUnary_53 (by decide) ?_
    refine lv_iload hx hb dOperators_computeUnary_54 (lv_at hl 0 rfl) ?_
    refine lv_isub hx hb dOperators_computeUnary_56 ?_
    refine lv_topi (fun v46 ev46 => ?_)
    refine mu_Vv (rest := []) S hC (fun q h => hA q (Nat.le_trans hS.1 h)) (fun q h => h) hS (f9_Looks_setNumber l γ A κ φ ψ x1 v46) meLooks_setNumber qw_6899d83413 ⟨Nat.le_of_ble_eq_true rfl, Nat.le_of_ble_eq_true rfl⟩ (rv_9 hC hI) hG rfl hl.1 rfl (Nat.le_of_ble_eq_true rfl) dOperators_computeUnary_57 ⟨Nat.le_refl _, Nat.le_refl _⟩ (fun H locs hG hS _ _ => ?_)
    obtain ⟨φ48, eφ48⟩ : ∃ z : gF, z = up φ 9 (P_Looks_setNumber (κ 7) (φ 9) x1 v46) := ⟨_, rfl⟩
    rw [← eφ48] at hG
    have hI := inv_of hG
    refine lv_goto (tgt := 167) hx hb dOperators_computeUnary_60 (by decide) ?_
    exact hE _ _ _ _ hS (by have hO2 : Oq OUT (φ48, ψ) := (by subst eφ48 ev46 er40 er39; exact hO.tr ((if_neg k41).trans (if_pos k45))); rw [hO2.eq]; exact hG) dOperators_computeUnary_167
  by_cases k49 : r40 = 2
  · rw [k49]
    refine lv_tableIn (tgt := 133) hx hb dOperators_computeUnary_18 (by decide) (by decide) rfl (by decide) ?_
    refine lv_aload_n hx hb dOperators_computeUnary_133 rfl (lv_at hl 1 rfl) ?_
    refine of_get S hC (of_11_0 hI) in_Operators rfl (by decide) qw_46160f6e07 dOperators_computeUnary_134 ?_
    refine lv_iload_n hx hb dOperators_computeUnary_137 rfl (lv_at hl 2 rfl) ?_
    refine lv_iload_n hx hb dOperators_computeUnary_138 rfl (lv_at hl 3 rfl) ?_
    refine lv_iconst (v := 1) hx hb dOperators_computeUnary_139 (by decide) ?_
    refine lv_icmp_ne (tgt := 149) hx hb dOperators_computeUnary_140 (by decide) (fun c50 => ?_) (fun c50 => ?_)
    · refine lv_iload_n hx hb dOperators_computeUnary_149 rfl (lv_at hl 3 rfl) ?_
      refine lv_iconst (v := 3) hx hb dOperators_computeUnary_150 (by decide) ?_
      refine lv_icmp_ne (tgt := 162) hx hb dOperators_computeUnary_151 (by decide) (fun c51 => ?_) (fun c51 => ?_)
      · refine lv_iload hx hb dOperators_computeUnary_162 (lv_at hl 0 rfl) ?_
        exact J164 ls _ _ φ ψ x1 x2 x3 r39 r39 x1 hG hS (by subst er40 er39; exact hO.tr ((if_neg k41).trans ((if_neg k45).trans ((if_pos k49).trans ((if_neg c50).trans (if_neg c51)))))) (lv_sub hl [1, 2, 3, 4, 0] rfl)
      · refine lv_iload hx hb dOperators_computeUnary_154 (lv_at hl 0 rfl) ?_
        refine va_mabs (rest := [.int x1, .ref (γ.2.2.2 9)]) hx hb (hml.trans hl.1.symm) hown (hW _ qw_f99ad17fe5) (hW _ qw_788fc9f3dd) (hW _ qw_0001fcaade) (hW _ qw_970e918a43) (Nat.le_of_ble_eq_true rfl) (Nat.le_of_ble_eq_true rfl) (Nat.zero_le _) (Nat.zero_le _) dOperators_computeUnary_156 ?_
        refine lv_topi (fun v52 ev52 => ?_)
        refine lv_goto (tgt := 164) hx hb dOperators_computeUnary_159 (by decide) ?_
        exact J164 ls _ _ φ ψ x1 x2 x3 r39 v52 x1 hG hS (by subst ev52 er40 er39; exact hO.tr ((if_neg k41).trans ((if_neg k45).trans ((if_pos k49).trans ((if_neg c50).trans (if_pos c51)))))) (lv_sub hl [1, 2, 3, 4, 0] rfl)
    · refine lv_iload hx hb dOperators_computeUnary_143 (lv_at hl 0 rfl) ?_
      refine lv_ineg hx hb dOperators_computeUnary_145 ?_
      refine lv_topi (fun v53 ev53 => ?_)
      refine lv_goto (tgt := 164) hx hb dOperators_computeUnary_146 (by decide) ?_
      exact J164 ls _ _ φ ψ x1 x2 x3 r39 v53 x1 hG hS (by subst ev53 er40 er39; exact hO.tr ((if_neg k41).trans ((if_neg k45).trans ((if_pos k49).trans (if_pos c50))))) (lv_sub hl [1, 2, 3, 4, 0] rfl)
  by_cases k54 : r40 = 3
  · rw [k54]
    refine lv_tableIn (tgt := 79) hx hb dOperators_computeUnary_18 (by decide) (by decide) rfl (by decide) ?_
    refine lv_iconst (v := 0) hx hb dOperators_computeUnary_79 (by decide) ?_
    refine lv_istore (lv' := [(5, .int 0), (4, .int r39), (0, .ref (γ.2.2.2 11)), (1, .int x1), (2, .int x2), (3, .int x3)]) hx hb dOperators_computeUnary_80 hl (by decide) rfl (fun ls hl => ?_)
    exact J82 _ ls _ _ φ ψ x1 x2 x3 r39 0 hG hS (by subst er40 er39; exact hO.tr ((if_neg k41).trans ((if_neg k45).trans ((if_neg k49).trans (if_pos k54))))) rfl (lv_sub hl [2, 3, 4, 5, 1, 0] rfl)
  refine lv_tableOut (tgt := 133) hx hb dOperators_computeUnary_18 (by have qk41 := lv_neT (a := 0) k41 (by decide); have qk45 := lv_neT (a := 1) k45 (by decide); have qk49 := lv_neT (a := 2) k49 (by decide); have qk54 := lv_neT (a := 3) k54 (by decide); omega) (by decide) ?_
  refine lv_aload_n hx hb dOperators_computeUnary_133 rfl (lv_at hl 1 rfl) ?_
  refine of_get S hC (of_11_0 hI) in_Operators rfl (by decide) qw_46160f6e07 dOperators_computeUnary_134 ?_
  refine lv_iload_n hx hb dOperators_computeUnary_137 rfl (lv_at hl 2 rfl) ?_
  refine lv_iload_n hx hb dOperators_computeUnary_138 rfl (lv_at hl 3 rfl) ?_
  refine lv_iconst (v := 1) hx hb dOperators_computeUnary_139 (by decide) ?_
  refine lv_icmp_ne (tgt := 149) hx hb dOperators_computeUnary_140 (by decide) (fun c55 => ?_) (fun c55 => ?_)
  · refine lv_iload_n hx hb dOperators_computeUnary_149 rfl (lv_at hl 3 rfl) ?_
    refine lv_iconst (v := 3) hx hb dOperators_computeUnary_150 (by decide) ?_
    refine lv_icmp_ne (tgt := 162) hx hb dOperators_computeUnary_151 (by decide) (fun c56 => ?_) (fun c56 => ?_)
    · refine lv_iload hx hb dOperators_computeUnary_162 (lv_at hl 0 rfl) ?_
      exact J164 ls _ _ φ ψ x1 x2 x3 r39 r39 x1 hG hS (by subst er40 er39; exact hO.tr ((if_neg k41).trans ((if_neg k45).trans ((if_neg k49).trans ((if_neg k54).trans ((if_neg c55).trans (if_neg c56))))))) (lv_sub hl [1, 2, 3, 4, 0] rfl)
    · refine lv_iload hx hb dOperators_computeUnary_154 (lv_at hl 0 rfl) ?_
      refine va_mabs (rest := [.int x1, .ref (γ.2.2.2 9)]) hx hb (hml.trans hl.1.symm) hown (hW _ qw_f99ad17fe5) (hW _ qw_788fc9f3dd) (hW _ qw_0001fcaade) (hW _ qw_970e918a43) (Nat.le_of_ble_eq_true rfl) (Nat.le_of_ble_eq_true rfl) (Nat.zero_le _) (Nat.zero_le _) dOperators_computeUnary_156 ?_
      refine lv_topi (fun v57 ev57 => ?_)
      refine lv_goto (tgt := 164) hx hb dOperators_computeUnary_159 (by decide) ?_
      exact J164 ls _ _ φ ψ x1 x2 x3 r39 v57 x1 hG hS (by subst ev57 er40 er39; exact hO.tr ((if_neg k41).trans ((if_neg k45).trans ((if_neg k49).trans ((if_neg k54).trans ((if_neg c55).trans (if_pos c56))))))) (lv_sub hl [1, 2, 3, 4, 0] rfl)
  · refine lv_iload hx hb dOperators_computeUnary_143 (lv_at hl 0 rfl) ?_
    refine lv_ineg hx hb dOperators_computeUnary_145 ?_
    refine lv_topi (fun v58 ev58 => ?_)
    refine lv_goto (tgt := 164) hx hb dOperators_computeUnary_146 (by decide) ?_
    exact J164 ls _ _ φ ψ x1 x2 x3 r39 v58 x1 hG hS (by subst ev58 er40 er39; exact hO.tr ((if_neg k41).trans ((if_neg k45).trans ((if_neg k49).trans ((if_neg k54).trans (if_pos c55)))))) (lv_sub hl [1, 2, 3, 4, 0] rfl)
