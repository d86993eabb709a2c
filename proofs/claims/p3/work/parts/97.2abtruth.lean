set_option maxHeartbeats 4000000 in
set_option maxRecDepth 100000 in
theorem m_truth (l : Launch) (γ : gE) (P : Heap → Prop) (x0 : Int32) (x1 : Int32) (x2 : Int32) : PU l yModel_truth bModel_truth 4 (some .boolean) 0 0 [.int x0, .int x1, .int x2] γ P (vp_Si (fun v : Int32 => True)) := by
  refine pu_openZ (by decide) (Nat.le_of_ble_eq_true rfl) ?_
  intro p e s m args below meth c ls Q S hC hM hE hl
  obtain ⟨hx, hb, hml, hown, hW⟩ := id S
  have hl : lv_has ls 4 [(0, .int x0), (1, .int x1), (2, .int x2)] := hl
  refine lv_iload_n hx hb dModel_truth_0 rfl (lv_at hl 0 rfl) ?_
  have J61 : ∀ (ls : Array Slot) (t0_61 : Int32), lv_has ls 4 [(0, .int x0), (1, .int x1), (2, .int x2)] → W p l e (bs_rm 0 0 0 0) s m args below meth c s.heap [] 0 0 Q (F0 m 61 ls [.int t0_61]) := by
    intro ls t0_61 hl
    refine lv_istore_n (lv' := [(3, .int t0_61), (0, .int x0), (1, .int x1), (2, .int x2)]) hx hb dModel_truth_61 rfl hl (by decide) rfl (fun ls hl => ?_)
    refine lv_iload_n hx hb dModel_truth_62 rfl (lv_at hl 1 rfl) ?_
    refine lv_iconst (v := 2) hx hb dModel_truth_63 (by decide) ?_
    have J82 : ∀ (ls : Array Slot) (t0_82 : Int32), lv_has ls 4 [(0, .int x0), (1, .int x1), (2, .int x2), (3, .int t0_61)] → W p l e (bs_rm 0 0 0 0) s m args below meth c s.heap [] 0 0 Q (F0 m 82 ls [.int t0_82]) := by
      intro ls t0_82 hl
      refine lv_iload_n hx hb dModel_truth_82 rfl (lv_at hl 3 rfl) ?_
      refine lv_icmp_eq (tgt := 90) hx hb dModel_truth_83 (by decide) (fun c18 => ?_) (fun c18 => ?_)
      · refine lv_iconst (v := 0) hx hb dModel_truth_90 (by decide) ?_
        exact hE _ _ _ rfl trivial dModel_truth_91
      · refine lv_iconst (v := 1) hx hb dModel_truth_86 (by decide) ?_
        refine lv_goto (tgt := 91) hx hb dModel_truth_87 (by decide) ?_
        exact hE _ _ _ rfl trivial dModel_truth_91
    have J77 : ∀ (ls : Array Slot), lv_has ls 4 [(0, .int x0), (1, .int x1), (2, .int x2), (3, .int t0_61)] → W p l e (bs_rm 0 0 0 0) s m args below meth c s.heap [] 0 0 Q (F0 m 77 ls []) := by
      intro ls hl
      refine lv_iconst (v := 1) hx hb dModel_truth_77 (by decide) ?_
      refine lv_goto (tgt := 82) hx hb dModel_truth_78 (by decide) ?_
      exact J82 ls 1 (lv_sub hl [0, 1, 2, 3] rfl)
    refine lv_icmp_eq (tgt := 77) hx hb dModel_truth_64 (by decide) (fun c19 => ?_) (fun c19 => ?_)
    · exact J77 ls  (lv_sub hl [1, 2, 3, 0] rfl)
    · refine lv_iload_n hx hb dModel_truth_67 rfl (lv_at hl 1 rfl) ?_
      refine lv_iconst (v := 3) hx hb dModel_truth_68 (by decide) ?_
      refine lv_icmp_eq (tgt := 77) hx hb dModel_truth_69 (by decide) (fun c20 => ?_) (fun c20 => ?_)
      · exact J77 ls  (lv_sub hl [1, 2, 3, 0] rfl)
      · refine lv_iload_n hx hb dModel_truth_72 rfl (lv_at hl 1 rfl) ?_
        refine lv_iconst (v := 5) hx hb dModel_truth_73 (by decide) ?_
        refine lv_icmp_ne (tgt := 81) hx hb dModel_truth_74 (by decide) (fun c21 => ?_) (fun c21 => ?_)
        · refine lv_iconst (v := 0) hx hb dModel_truth_81 (by decide) ?_
          exact J82 ls 0 (lv_sub hl [1, 2, 3, 0] rfl)
        · exact J77 ls  (lv_sub hl [1, 2, 3, 0] rfl)
  have J9 : ∀ (ls : Array Slot), lv_has ls 4 [(0, .int x0), (1, .int x1), (2, .int x2)] → W p l e (bs_rm 0 0 0 0) s m args below meth c s.heap [] 0 0 Q (F0 m 9 ls []) := by
    intro ls hl
    refine lv_iload_n hx hb dModel_truth_9 rfl (lv_at hl 1 rfl) ?_
    have J21 : ∀ (ls : Array Slot), lv_has ls 4 [(0, .int x0), (1, .int x1), (2, .int x2)] → W p l e (bs_rm 0 0 0 0) s m args below meth c s.heap [] 0 0 Q (F0 m 21 ls []) := by
      intro ls hl
      refine lv_iconst (v := 0) hx hb dModel_truth_21 (by decide) ?_
      refine lv_goto (tgt := 61) hx hb dModel_truth_22 (by decide) ?_
      exact J61 ls 0 (lv_sub hl [0, 1, 2] rfl)
    refine lv_if_eq (tgt := 21) hx hb dModel_truth_10 (by decide) (fun c24 => ?_) (fun c24 => ?_)
    · exact J21 ls  (lv_sub hl [0, 1, 2] rfl)
    · refine lv_iload_n hx hb dModel_truth_13 rfl (lv_at hl 2 rfl) ?_
      refine lv_if_eq (tgt := 21) hx hb dModel_truth_14 (by decide) (fun c25 => ?_) (fun c25 => ?_)
      · exact J21 ls  (lv_sub hl [0, 1, 2] rfl)
      · refine lv_iconst (v := 1) hx hb dModel_truth_17 (by decide) ?_
        refine lv_goto (tgt := 61) hx hb dModel_truth_18 (by decide) ?_
        exact J61 ls 1 (lv_sub hl [0, 1, 2] rfl)
  refine lv_if_eq (tgt := 9) hx hb dModel_truth_1 (by decide) (fun c26 => ?_) (fun c26 => ?_)
  · exact J9 ls  (lv_sub hl [0, 1, 2] rfl)
  · refine lv_iload_n hx hb dModel_truth_4 rfl (lv_at hl 0 rfl) ?_
    refine lv_iconst (v := 2) hx hb dModel_truth_5 (by decide) ?_
    refine lv_icmp_ne (tgt := 25) hx hb dModel_truth_6 (by decide) (fun c27 => ?_) (fun c27 => ?_)
    · refine lv_iload_n hx hb dModel_truth_25 rfl (lv_at hl 0 rfl) ?_
      refine lv_iconst (v := 1) hx hb dModel_truth_26 (by decide) ?_
      have J35 : ∀ (ls : Array Slot), lv_has ls 4 [(0, .int x0), (1, .int x1), (2, .int x2)] → W p l e (bs_rm 0 0 0 0) s m args below meth c s.heap [] 0 0 Q (F0 m 35 ls []) := by
        intro ls hl
        refine lv_iload_n hx hb dModel_truth_35 rfl (lv_at hl 1 rfl) ?_
        have J43 : ∀ (ls : Array Slot), lv_has ls 4 [(0, .int x0), (1, .int x1), (2, .int x2)] → W p l e (bs_rm 0 0 0 0) s m args below meth c s.heap [] 0 0 Q (F0 m 43 ls []) := by
          intro ls hl
          refine lv_iconst (v := 1) hx hb dModel_truth_43 (by decide) ?_
          refine lv_goto (tgt := 61) hx hb dModel_truth_44 (by decide) ?_
          exact J61 ls 1 (lv_sub hl [0, 1, 2] rfl)
        refine lv_if_ne (tgt := 43) hx hb dModel_truth_36 (by decide) (fun c35 => ?_) (fun c35 => ?_)
        · exact J43 ls  (lv_sub hl [0, 1, 2] rfl)
        · refine lv_iload_n hx hb dModel_truth_39 rfl (lv_at hl 2 rfl) ?_
          refine lv_if_eq (tgt := 47) hx hb dModel_truth_40 (by decide) (fun c36 => ?_) (fun c36 => ?_)
          · refine lv_iconst (v := 0) hx hb dModel_truth_47 (by decide) ?_
            refine lv_goto (tgt := 61) hx hb dModel_truth_48 (by decide) ?_
            exact J61 ls 0 (lv_sub hl [0, 1, 2] rfl)
          · exact J43 ls  (lv_sub hl [0, 1, 2] rfl)
      refine lv_icmp_eq (tgt := 35) hx hb dModel_truth_27 (by decide) (fun c37 => ?_) (fun c37 => ?_)
      · exact J35 ls  (lv_sub hl [0, 1, 2] rfl)
      · refine lv_iload_n hx hb dModel_truth_30 rfl (lv_at hl 0 rfl) ?_
        refine lv_iconst (v := 3) hx hb dModel_truth_31 (by decide) ?_
        refine lv_icmp_ne (tgt := 51) hx hb dModel_truth_32 (by decide) (fun c38 => ?_) (fun c38 => ?_)
        · refine lv_iload_n hx hb dModel_truth_51 rfl (lv_at hl 1 rfl) ?_
          refine lv_iload_n hx hb dModel_truth_52 rfl (lv_at hl 2 rfl) ?_
          refine lv_icmp_eq (tgt := 60) hx hb dModel_truth_53 (by decide) (fun c39 => ?_) (fun c39 => ?_)
          · refine lv_iconst (v := 0) hx hb dModel_truth_60 (by decide) ?_
            exact J61 ls 0 (lv_sub hl [0, 1, 2] rfl)
          · refine lv_iconst (v := 1) hx hb dModel_truth_56 (by decide) ?_
            refine lv_goto (tgt := 61) hx hb dModel_truth_57 (by decide) ?_
            exact J61 ls 1 (lv_sub hl [0, 1, 2] rfl)
        · exact J35 ls  (lv_sub hl [0, 1, 2] rfl)
    · exact J9 ls  (lv_sub hl [0, 1, 2] rfl)
theorem qw_f42008621b : (Cond.fieldLink R_Model 105 R_Model "nodes" "I") ∈ bs_W0 := bs_in (in_tables_1_5 (List.mem_of_getElem? (i := 159) rfl)) rfl
set_option maxHeartbeats 4000000 in
set_option maxRecDepth 100000 in
theorem m_noNode (l : Launch) (γ : gE) (a : Nat) (B : Nat → Nat) (Z : Nat → Prop) (κ b mn : Nat → Nat) (ν : Nat → Int32) (τ : Nat → Nat → Int32) (σ : Nat → Int32) (F : Nat → Nat → Int32) (nu : Nat → Int64) (hT : ST κ b mn ν τ) (x1 : Int32)  : PU l yModel_noNode bModel_noNode 2 (some .boolean) 0 0 [.ref a, .int x1] γ (MD γ a B Z ν τ σ F nu) (vp_Si (fun v : Int32 => v = 0 → vp_in x1 (κ 0))) := by
  refine pu_openZ (by decide) (Nat.le_of_ble_eq_true rfl) ?_
  intro p e s m args below meth c ls Q S hC hM hE hl
  obtain ⟨hx, hb, hml, hown, hW⟩ := id S
  obtain ⟨⟨hs0, hs1, hs2, hs3, hs4, hs5, hs6⟩, ⟨hv6, hv8, hv21, hv24, hv30, hv31⟩, hTR, hTY, hOB, hNM⟩ := id hT
  have hl : lv_has ls 2 [(0, .ref a), (1, .int x1)] := hl
  refine lv_iload_n hx hb dModel_noNode_0 rfl (lv_at hl 1 rfl) ?_
  have J12 : ∀ (ls : Array Slot), lv_has ls 2 [(0, .ref a), (1, .int x1)] → W p l e (bs_rm 0 0 0 0) s m args below meth c s.heap [] 0 0 Q (F0 m 12 ls []) := by
    intro ls hl
    refine lv_iconst (v := 1) hx hb dModel_noNode_12 (by decide) ?_
    refine lv_goto (tgt := 17) hx hb dModel_noNode_13 (by decide) ?_
    exact hE _ _ _ rfl (by first | exact (fun h => absurd h (by decide)) | exact (fun _ => vcmp (by assumption) (by assumption) (lt_nge (by assumption)) (by omega))) dModel_noNode_17
  refine lv_if_lt (tgt := 12) hx hb dModel_noNode_1 (by decide) (fun c4 => ?_) (fun c4 => ?_)
  · exact J12 ls  (lv_sub hl [0, 1] rfl)
  · refine lv_iload_n hx hb dModel_noNode_4 rfl (lv_at hl 1 rfl) ?_
    refine lv_aload_n hx hb dModel_noNode_5 rfl (lv_at hl 0 rfl) ?_
    refine md_gI S hC hM 6 (v := nI (κ 0)) hv6 (by decide) rfl qw_f42008621b dModel_noNode_6 ?_
    refine lv_topi (fun v5 ev5 => ?_)
    refine lv_icmp_lt (tgt := 16) hx hb dModel_noNode_9 (by decide) (fun c6 => ?_) (fun c6 => ?_)
    · refine lv_iconst (v := 0) hx hb dModel_noNode_16 (by decide) ?_
      exact hE _ _ _ rfl (by first | exact (fun h => absurd h (by decide)) | exact (fun _ => vcmp (by assumption) (by assumption) (lt_nge (by assumption)) (by omega))) dModel_noNode_17
    · exact J12 ls  (lv_sub hl [0, 1] rfl)
theorem qw_c82bee9e97 : (Cond.fieldLink R_Model 102 R_Model "types" "I") ∈ bs_W0 := bs_in (in_tables_1_5 (List.mem_of_getElem? (i := 174) rfl)) rfl
set_option maxHeartbeats 4000000 in
set_option maxRecDepth 100000 in
theorem m_noType (l : Launch) (γ : gE) (a : Nat) (B : Nat → Nat) (Z : Nat → Prop) (κ b mn : Nat → Nat) (ν : Nat → Int32) (τ : Nat → Nat → Int32) (σ : Nat → Int32) (F : Nat → Nat → Int32) (nu : Nat → Int64) (hT : ST κ b mn ν τ) (x1 : Int32)  : PU l yModel_noType bModel_noType 2 (some .boolean) 0 0 [.ref a, .int x1] γ (MD γ a B Z ν τ σ F nu) (vp_Si (fun v : Int32 => v = 0 → vp_in x1 (κ 2))) := by
  refine pu_openZ (by decide) (Nat.le_of_ble_eq_true rfl) ?_
  intro p e s m args below meth c ls Q S hC hM hE hl
  obtain ⟨hx, hb, hml, hown, hW⟩ := id S
  obtain ⟨⟨hs0, hs1, hs2, hs3, hs4, hs5, hs6⟩, ⟨hv6, hv8, hv21, hv24, hv30, hv31⟩, hTR, hTY, hOB, hNM⟩ := id hT
  have hl : lv_has ls 2 [(0, .ref a), (1, .int x1)] := hl
  refine lv_iload_n hx hb dModel_noType_0 rfl (lv_at hl 1 rfl) ?_
  have J12 : ∀ (ls : Array Slot), lv_has ls 2 [(0, .ref a), (1, .int x1)] → W p l e (bs_rm 0 0 0 0) s m args below meth c s.heap [] 0 0 Q (F0 m 12 ls []) := by
    intro ls hl
    refine lv_iconst (v := 1) hx hb dModel_noType_12 (by decide) ?_
    refine lv_goto (tgt := 17) hx hb dModel_noType_13 (by decide) ?_
    exact hE _ _ _ rfl (by first | exact (fun h => absurd h (by decide)) | exact (fun _ => vcmp (by assumption) (by assumption) (lt_nge (by assumption)) (by omega))) dModel_noType_17
  refine lv_if_lt (tgt := 12) hx hb dModel_noType_1 (by decide) (fun c4 => ?_) (fun c4 => ?_)
  · exact J12 ls  (lv_sub hl [0, 1] rfl)
  · refine lv_iload_n hx hb dModel_noType_4 rfl (lv_at hl 1 rfl) ?_
    refine lv_aload_n hx hb dModel_noType_5 rfl (lv_at hl 0 rfl) ?_
    refine md_gI S hC hM 21 (v := nI (κ 2)) hv21 (by decide) rfl qw_c82bee9e97 dModel_noType_6 ?_
    refine lv_topi (fun v5 ev5 => ?_)
    refine lv_icmp_lt (tgt := 16) hx hb dModel_noType_9 (by decide) (fun c6 => ?_) (fun c6 => ?_)
    · refine lv_iconst (v := 0) hx hb dModel_noType_16 (by decide) ?_
      exact hE _ _ _ rfl (by first | exact (fun h => absurd h (by decide)) | exact (fun _ => vcmp (by assumption) (by assumption) (lt_nge (by assumption)) (by omega))) dModel_noType_17
    · exact J12 ls  (lv_sub hl [0, 1] rfl)
theorem qw_7e4081a75e : (Cond.fieldLink R_Model 23 R_Model "begin" "[I") ∈ bs_W0 := bs_in (in_tables_1_5 (List.mem_of_getElem? (i := 158) rfl)) rfl
set_option maxHeartbeats 4000000 in
set_option maxRecDepth 100000 in
theorem m_child (l : Launch) (γ : gE) (a : Nat) (B : Nat → Nat) (Z : Nat → Prop) (κ b mn : Nat → Nat) (ν : Nat → Int32) (τ : Nat → Nat → Int32) (σ : Nat → Int32) (F : Nat → Nat → Int32) (nu : Nat → Int64) (hT : ST κ b mn ν τ) (x1 : Int32) (x2 : Int32) (hp : vp_in x1 (κ 0)) (hj : vp_in x2 (mn x1.toNatClampNeg)) : PU l yModel_child bModel_child 5 (some .int) 0 0 [.ref a, .int x1, .int x2] γ (MD γ a B Z ν τ σ F nu) (vp_Si (fun v : Int32 => v = nI (tX b x1.toNatClampNeg x2.toNatClampNeg - 1))) := by
  refine pu_openI (by decide) (Nat.le_of_ble_eq_true rfl) ?_
  intro p e s m args below meth c ls Q S hC hM hE hl
  obtain ⟨hx, hb, hml, hown, hW⟩ := id S
  obtain ⟨⟨hs0, hs1, hs2, hs3, hs4, hs5, hs6⟩, ⟨hv6, hv8, hv21, hv24, hv30, hv31⟩, hTR, hTY, hOB, hNM⟩ := id hT
  have hmx : mn x1.toNatClampNeg ≤ 4000 := (hTR.2.1 _ (vix hp)).2.1
  have hl : lv_has ls 5 [(0, .ref a), (1, .int x1), (2, .int x2)] := hl
  have hone : 1 ≤ x1.toNatClampNeg := (hTR.2.1 _ (vix hp)).2.2.1 0 (by have := vix hj; omega)
  refine lv_iload_n hx hb dModel_child_0 rfl (lv_at hl 1 rfl) ?_
  refine lv_iconst (v := 1) hx hb dModel_child_1 (by decide) ?_
  refine lv_isub hx hb dModel_child_2 ?_
  refine lv_topi (fun v1 ev1 => ?_)
  refine lv_istore_n (lv' := [(3, .int v1), (0, .ref a), (1, .int x1), (2, .int x2)]) hx hb dModel_child_3 rfl hl (by decide) rfl (fun ls hl => ?_)
  refine lv_iconst (v := 0) hx hb dModel_child_4 (by decide) ?_
  refine lv_istore (lv' := [(4, .int 0), (3, .int v1), (0, .ref a), (1, .int x1), (2, .int x2)]) hx hb dModel_child_5 hl (by decide) rfl (fun ls hl => ?_)
  have J7 : ∀ (N7 : Nat) (ls : Array Slot) (i4_7 : Int32) (i3_7 : Int32), (∃ i, i ≤ x2.toNatClampNeg ∧ i4_7 = nI i ∧ i3_7 = nI (tX b x1.toNatClampNeg i - 1)) → (2147483647 - i4_7.toInt).toNat = N7 → lv_has ls 5 [(0, .ref a), (1, .int x1), (2, .int x2), (3, .int i3_7), (4, .int i4_7)] → W p l e (bs_rm 0 0 0 0) s m args below meth c s.heap [] 0 0 Q (F0 m 7 ls []) := by
    intro N7
    induction N7 using Nat.strongRecOn with
    | ind N7 ih7 =>
      intro ls i4_7 i3_7 hch hm7 hl
      refine lv_iload hx hb dModel_child_7 (lv_at hl 4 rfl) ?_
      refine lv_iload_n hx hb dModel_child_9 rfl (lv_at hl 2 rfl) ?_
      refine lv_icmp_ge (tgt := 28) hx hb dModel_child_10 (by decide) (fun c2 => ?_) (fun c2 => ?_)
      · obtain ⟨i, hi1, hi2, hi3⟩ := hch
        have hge : x2.toNatClampNeg ≤ i := (nI_leI (by have := vix hj; omega) (by have := vix hj; omega)).mp (by rw [← vnI hj, ← hi2]; assumption)
        obtain rfl : i = x2.toNatClampNeg := by omega
        refine lv_iload_n hx hb dModel_child_28 rfl (lv_at hl 3 rfl) ?_
        exact hE _ _ _ hi3 dModel_child_29
      · obtain ⟨i, hi1, hi2, hi3⟩ := hch
        have hlt : i < x2.toNatClampNeg := nge_ok (by assumption) (vnI hj) (by assumption) (by have := vix hj; omega) (by have := vix hj; omega)
        have hst := ch_step hTR hs0 (vix hp) (show i < mn x1.toNatClampNeg by have := vix hj; omega) hi3
        have hone2 : 1 ≤ tX b x1.toNatClampNeg (i + 1) := (hTR.2.1 _ (vix hp)).2.2.1 (i + 1) (by have := vix hj; omega)
        refine lv_aload_n hx hb dModel_child_13 rfl (lv_at hl 0 rfl) ?_
        refine md_gA S hC hM 5 (by decide) rfl qw_7e4081a75e dModel_child_14 ?_
        refine lv_iload_n hx hb dModel_child_17 rfl (lv_at hl 3 rfl) ?_
        refine md_ild S hC hM 5 3 4000 (τ 5) rfl rfl (by decide) rfl rfl (vin hst.1 (by omega)) dModel_child_18 ?_
        refine lv_topi (fun v3 ev3 => ?_)
        refine lv_iconst (v := 1) hx hb dModel_child_19 (by decide) ?_
        refine lv_isub hx hb dModel_child_20 ?_
        refine lv_topi (fun v4 ev4 => ?_)
        refine lv_istore_n (lv' := [(3, .int v4), (0, .ref a), (1, .int x1), (2, .int x2), (4, .int i4_7)]) hx hb dModel_child_21 rfl hl (by decide) rfl (fun ls hl => ?_)
        obtain ⟨v5, ev5⟩ : ∃ y : Int32, y = i4_7 + 1 := ⟨_, rfl⟩
        refine lv_iinc (v := v5) (lv' := [(4, .int v5), (3, .int v4), (0, .ref a), (1, .int x1), (2, .int x2)]) hx hb dModel_child_22 hl (k := 4) rfl (by rw [ev5]; rfl) (by decide) rfl (fun ls hl => ?_)
        refine lv_goto (tgt := 7) hx hb dModel_child_25 (by decide) ?_
        exact ih7 _ (by have q1 : i4_7.toInt < 2147483647 := (by first | assumption | exact (mu_up (k := i4_7) (by assumption)).2); have q2 := mu_lt q1; rw [← ev5] at q2; omega) ls v5 v4 ⟨i + 1, by omega, by rw [ev5, hi2]; exact (nI_succ i).symm, by rw [ev4, ev3, hst.2]; exact nI_sub1 hone2⟩ rfl (lv_sub hl [2, 3, 4, 1, 0] rfl)
  exact J7 _ ls 0 v1 ⟨0, Nat.zero_le _, rfl, by rw [ev1]; have h9 := nI_sub1 (n := x1.toNatClampNeg) hone; rw [← vnI hp] at h9; exact h9⟩ rfl (lv_sub hl [2, 3, 4, 1, 0] rfl)
theorem qw_8d5d48b583 : (Cond.fieldLink R_Model 115 R_Model "nameCount" "I") ∈ bs_W0 := bs_in (in_tables_1_5 (List.mem_of_getElem? (i := 183) rfl)) rfl
theorem qw_0f8ce80864 : (Cond.fieldLink R_Model 75 R_Model "names" "[I") ∈ bs_W0 := bs_in (in_tables_1_5 (List.mem_of_getElem? (i := 178) rfl)) rfl
theorem qw_6551c8877a : (Cond.fieldLink R_Model 87 R_Model "deep" "[I") ∈ bs_W0 := bs_in (in_tables_1_5 (List.mem_of_getElem? (i := 182) rfl)) rfl
theorem qw_e3979b88d4 : (Cond.fieldLink R_Model 90 R_Model "scopes" "I") ∈ bs_W0 := bs_in (in_tables_1_5 (List.mem_of_getElem? (i := 184) rfl)) rfl
set_option maxHeartbeats 4000000 in
set_option maxRecDepth 100000 in
theorem m_hasHere (l : Launch) (γ : gE) (a : Nat) (B : Nat → Nat) (Z : Nat → Prop) (κ b mn : Nat → Nat) (ν : Nat → Int32) (τ : Nat → Nat → Int32) (σ : Nat → Int32) (F : Nat → Nat → Int32) (nu : Nat → Int64) (hT : ST κ b mn ν τ) (x1 : Int32)  : PU l yModel_hasHere bModel_hasHere 4 (some .boolean) 0 0 [.ref a, .int x1] γ (MD γ a B Z ν τ σ F nu) (vp_Si (fun v : Int32 => True)) := by
  refine pu_openZ (by decide) (Nat.le_of_ble_eq_true rfl) ?_
  intro p e s m args below meth c ls Q S hC hM hE hl
  obtain ⟨hx, hb, hml, hown, hW⟩ := id S
  obtain ⟨⟨hs0, hs1, hs2, hs3, hs4, hs5, hs6⟩, ⟨hv6, hv8, hv21, hv24, hv30, hv31⟩, hTR, hTY, hOB, hNM⟩ := id hT
  have hl : lv_has ls 4 [(0, .ref a), (1, .int x1)] := hl
  refine lv_iconst (v := 0) hx hb dModel_hasHere_0 (by decide) ?_
  refine lv_istore_n (lv' := [(2, .int 0), (0, .ref a), (1, .int x1)]) hx hb dModel_hasHere_1 rfl hl (by decide) rfl (fun ls hl => ?_)
  refine lv_iconst (v := 0) hx hb dModel_hasHere_2 (by decide) ?_
  refine lv_istore_n (lv' := [(3, .int 0), (2, .int 0), (0, .ref a), (1, .int x1)]) hx hb dModel_hasHere_3 rfl hl (by decide) rfl (fun ls hl => ?_)
  have J4 : ∀ (N4 : Nat) (ls : Array Slot) (i3_4 : Int32) (i2_4 : Int32), (¬ i3_4 < 0) → (i2_4 = 0 ∨ i2_4 = 1) → (2147483647 - i3_4.toInt).toNat = N4 → lv_has ls 4 [(0, .ref a), (1, .int x1), (2, .int i2_4), (3, .int i3_4)] → W p l e (bs_rm 0 0 0 0) s m args below meth c s.heap [] 0 0 Q (F0 m 4 ls []) := by
    intro N4
    induction N4 using Nat.strongRecOn with
    | ind N4 ih4 =>
      intro ls i3_4 i2_4 hi3_4 hi2_4 hm4 hl
      refine lv_iload_n hx hb dModel_hasHere_4 rfl (lv_at hl 3 rfl) ?_
      refine lv_aload_n hx hb dModel_hasHere_5 rfl (lv_at hl 0 rfl) ?_
      refine md_gI S hC hM 30 (v := nI (κ 4)) hv30 (by decide) rfl qw_8d5d48b583 dModel_hasHere_6 ?_
      refine lv_topi (fun v1 ev1 => ?_)
      refine lv_icmp_ge (tgt := 51) hx hb dModel_hasHere_9 (by decide) (fun c2 => ?_) (fun c2 => ?_)
      · refine lv_iload_n hx hb dModel_hasHere_51 rfl (lv_at hl 2 rfl) ?_
        exact hE _ _ _ (by rcases (show i2_4 = 0 ∨ i2_4 = 1 by first | assumption | exact Or.inl rfl | exact Or.inr rfl) with h9 | h9 <;> rw [h9] <;> rfl) trivial dModel_hasHere_52
      · have hin3 : vp_in i3_4 (κ 4) := vcmp (by assumption) (by assumption) (by assumption) (by omega)
        refine lv_iload_n hx hb dModel_hasHere_12 rfl (lv_at hl 2 rfl) ?_
        have J44 : ∀ (ls : Array Slot) (t0_44 : Int32), (t0_44 = 0 ∨ t0_44 = 1) → lv_has ls 4 [(0, .ref a), (1, .int x1), (2, .int i2_4), (3, .int i3_4)] → W p l e (bs_rm 0 0 0 0) s m args below meth c s.heap [] 0 0 Q (F0 m 44 ls [.int t0_44]) := by
          intro ls t0_44 ht0_44 hl
          refine lv_istore_n (lv' := [(2, .int t0_44), (0, .ref a), (1, .int x1), (3, .int i3_4)]) hx hb dModel_hasHere_44 rfl hl (by decide) rfl (fun ls hl => ?_)
          obtain ⟨v10, ev10⟩ : ∃ y : Int32, y = i3_4 + 1 := ⟨_, rfl⟩
          refine lv_iinc (v := v10) (lv' := [(3, .int v10), (2, .int t0_44), (0, .ref a), (1, .int x1)]) hx hb dModel_hasHere_45 hl (k := 3) rfl (by rw [ev10]; rfl) (by decide) rfl (fun ls hl => ?_)
          refine lv_goto (tgt := 4) hx hb dModel_hasHere_48 (by decide) ?_
          exact ih4 _ (by have q1 : i3_4.toInt < 2147483647 := (by first | assumption | exact (mu_up (k := i3_4) (by assumption)).2); have q2 := mu_lt q1; rw [← ev10] at q2; omega) ls v10 t0_44 (by first | decide | exact nn_inc (by assumption) (by assumption) (by assumption)) (by first | assumption | exact Or.inl rfl | exact Or.inr rfl) rfl (lv_sub hl [2, 3, 1, 0] rfl)
        have J39 : ∀ (ls : Array Slot), lv_has ls 4 [(0, .ref a), (1, .int x1), (2, .int i2_4), (3, .int i3_4)] → W p l e (bs_rm 0 0 0 0) s m args below meth c s.heap [] 0 0 Q (F0 m 39 ls []) := by
          intro ls hl
          refine lv_iconst (v := 1) hx hb dModel_hasHere_39 (by decide) ?_
          refine lv_goto (tgt := 44) hx hb dModel_hasHere_40 (by decide) ?_
          exact J44 ls 1 (by first | assumption | exact Or.inl rfl | exact Or.inr rfl) (lv_sub hl [0, 1, 2, 3] rfl)
        refine lv_if_ne (tgt := 39) hx hb dModel_hasHere_13 (by decide) (fun c11 => ?_) (fun c11 => ?_)
        · exact J39 ls  (lv_sub hl [0, 1, 2, 3] rfl)
        · refine lv_aload_n hx hb dModel_hasHere_16 rfl (lv_at hl 0 rfl) ?_
          refine md_gA S hC hM 25 (by decide) rfl qw_0f8ce80864 dModel_hasHere_17 ?_
          refine lv_iload_n hx hb dModel_hasHere_20 rfl (lv_at hl 3 rfl) ?_
          refine md_ild S hC hM 25 19 3000 (τ 25) rfl rfl (by decide) rfl rfl (vin (by assumption) (by omega)) dModel_hasHere_21 ?_
          refine lv_topi (fun v12 ev12 => ?_)
          refine lv_iload_n hx hb dModel_hasHere_22 rfl (lv_at hl 1 rfl) ?_
          have J43 : ∀ (ls : Array Slot), lv_has ls 4 [(0, .ref a), (1, .int x1), (2, .int i2_4), (3, .int i3_4)] → W p l e (bs_rm 0 0 0 0) s m args below meth c s.heap [] 0 0 Q (F0 m 43 ls []) := by
            intro ls hl
            refine lv_iconst (v := 0) hx hb dModel_hasHere_43 (by decide) ?_
            exact J44 ls 0 (by first | assumption | exact Or.inl rfl | exact Or.inr rfl) (lv_sub hl [0, 1, 2, 3] rfl)
          refine lv_icmp_ne (tgt := 43) hx hb dModel_hasHere_23 (by decide) (fun c17 => ?_) (fun c17 => ?_)
          · exact J43 ls  (lv_sub hl [0, 1, 2, 3] rfl)
          · refine lv_aload_n hx hb dModel_hasHere_26 rfl (lv_at hl 0 rfl) ?_
            refine md_gA S hC hM 29 (by decide) rfl qw_6551c8877a dModel_hasHere_27 ?_
            refine lv_iload_n hx hb dModel_hasHere_30 rfl (lv_at hl 3 rfl) ?_
            refine md_ild S hC hM 29 23 3000 (τ 29) rfl rfl (by decide) rfl rfl (vin (by assumption) (by omega)) dModel_hasHere_31 ?_
            refine lv_topi (fun v18 ev18 => ?_)
            refine lv_aload_n hx hb dModel_hasHere_32 rfl (lv_at hl 0 rfl) ?_
            refine md_gI S hC hM 31 (v := nI (κ 5)) hv31 (by decide) rfl qw_e3979b88d4 dModel_hasHere_33 ?_
            refine lv_topi (fun v19 ev19 => ?_)
            refine lv_icmp_ne (tgt := 43) hx hb dModel_hasHere_36 (by decide) (fun c20 => ?_) (fun c20 => ?_)
            · exact J43 ls  (lv_sub hl [0, 1, 2, 3] rfl)
            · exact J39 ls  (lv_sub hl [0, 1, 2, 3] rfl)
  exact J4 _ ls 0 0 (by first | decide | exact nn_inc (by assumption) (by assumption) (by assumption)) (by first | assumption | exact Or.inl rfl | exact Or.inr rfl) rfl (lv_sub hl [2, 3, 1, 0] rfl)
