set_option maxHeartbeats 4000000 in
set_option maxRecDepth 100000 in
theorem m_truth (l : Launch) (γ : gE) (P : Heap → Prop) (x0 : Int32) (x1 : Int32) (x2 : Int32) : PU l yModel_truth bModel_truth 4 (some .boolean) 0 0 [.int x0, .int x1, .int x2] γ P (vp_Si (fun v : Int32 => True)) := by
  refine pu_openZ (by decide) (Nat.le_of_ble_eq_true rfl) ?_
  intro p e s m args below meth c ls Q S hC hM hE hl
  obtain ⟨hx, hb, hml, hown, hW⟩ := id S
  have hl : lv_has ls 4 [(0, .int x0), (1, .int x1), (2, .int x2)] := hl
  refine lv_iload_n hx hb dModel_truth_0 rfl (lv_at hl 0 rfl) ?_
  have J61 : ∀ (ls : Array Slot) (t0_61 : Int32), lv_has ls 4 [(0, .int x0), (1, .int x1), (2, .int x2)] → W p l e (bs_rm 0 0 0 0) s m args below meth c s.heap [] 0 0 Q (F0 m 61 ls [.int t0_61]) := by
    intro ls t0_61 hl
    refine lv_istore_n (lv' := [(3, .int t0_61), (0, .int x0), (1, .int x1), (2, .int x2)]) hx hb dModel_truth_61 rfl hl (by decide) rfl (fun ls hl => ?_)
    refine lv_iload_n hx hb dModel_truth_62 rfl (lv_at hl 1 rfl) ?_
    refine lv_iconst (v := 2) hx hb dModel_truth_63 (by decide) ?_
    have J82 : ∀ (ls : Array Slot) (t0_82 : Int32), lv_has ls 4 [(0, .int x0), (1, .int x1), (2, .int x2), (3, .int t0_61)] → W p l e (bs_rm 0 0 0 0) s m args below meth c s.heap [] 0 0 Q (F0 m 82 ls [.int t0_82]) := by
      intro ls t0_82 hl
      refine lv_iload_n hx hb dModel_truth_82 rfl (lv_at hl 3 rfl) ?_
      refine lv_icmp_eq (tgt := 90) hx hb dModel_truth_83 (by decide) (fun c18 => ?_) (fun c18 => ?_)
      · refine lv_iconst (v := 0) hx hb dModel_truth_90 (by decide) ?_
        exact hE _ _ _ rfl trivial dModel_truth_91
      · refine lv_iconst (v := 1) hx hb dModel_truth_86 (by decide) ?_
        refine lv_goto (tgt := 91) hx hb dModel_truth_87 (by decide) ?_
        exact hE _ _ _ rfl trivial dModel_truth_91
    have J77 : ∀ (ls : Array Slot), lv_has ls 4 [(0, .int x0), (1, .int x1), (2, .int x2), (3, .int t0_61)] → W p l e (bs_rm 0 0 0 0) s m args below meth c s.heap [] 0 0 Q (F0 m 77 ls []) := by
      intro ls hl
      refine lv_iconst (v := 1) hx hb dModel_truth_77 (by decide) ?_
      refine lv_goto (tgt := 82) hx hb dModel_truth_78 (by decide) ?_
      exact J82 ls 1 (lv_sub hl [0, 1, 2, 3] rfl)
    refine lv_icmp_eq (tgt := 77) hx hb dModel_truth_64 (by decide) (fun c19 => ?_) (fun c19 => ?_)
    · exact J77 ls  (lv_sub hl [1, 2, 3, 0] rfl)
    · refine lv_iload_n hx hb dModel_truth_67 rfl (lv_at hl 1 rfl) ?_
      refine lv_iconst (v := 3) hx hb dModel_truth_68 (by decide) ?_
      refine lv_icmp_eq (tgt := 77) hx hb dModel_truth_69 (by decide) (fun c20 => ?_) (fun c20 => ?_)
      · exact J77 ls  (lv_sub hl [1, 2, 3, 0] rfl)
      · refine lv_iload_n hx hb dModel_truth_72 rfl (lv_at hl 1 rfl) ?_
        refine lv_iconst (v := 5) hx hb dModel_truth_73 (by decide) ?_
        refine lv_icmp_ne (tgt := 81) hx hb dModel_truth_74 (by decide) (fun c21 => ?_) (fun c21 => ?_)
        · refine lv_iconst (v := 0) hx hb dModel_truth_81 (by decide) ?_
          exact J82 ls 0 (lv_sub hl [1, 2, 3, 0] rfl)
        · exact J77 ls  (lv_sub hl [1, 2, 3, 0] rfl)
  have J9 : ∀ (ls : Array Slot), lv_has ls 4 [(0, .int x0), (1, .int x1), (2, .int x2)] → W p l e (bs_rm 0 0 0 0) s m args below meth c s.heap [] 0 0 Q (F0 m 9 ls []) := by
    intro ls hl
    refine lv_iload_n hx hb dModel_truth_9 rfl (lv_at hl 1 rfl) ?_
    have J21 : ∀ (ls : Array Slot), lv_has ls 4 [(0, .int x0), (1, .int x1), (2, .int x2)] → W p l e (bs_rm 0 0 0 0) s m args below meth c s.heap [] 0 0 Q (F0 m 21 ls []) := by
      intro ls hl
      refine lv_iconst (v := 0) hx hb dModel_truth_21 (by decide) ?_
      refine lv_goto (tgt := 61) hx hb dModel_truth_22 (by decide) ?_
      exact J61 ls 0 (lv_sub hl [0, 1, 2] rfl)
    refine lv_if_eq (tgt := 21) hx hb dModel_truth_10 (by decide) (fun c24 => ?_) (fun c24 => ?_)
    · exact J21 ls  (lv_sub hl [0, 1, 2] rfl)
    · refine lv_iload_n hx hb dModel_truth_13 rfl (lv_at hl 2 rfl) ?_
      refine lv_if_eq (tgt := 21) hx hb dModel_truth_14 (by decide) (fun c25 => ?_) (fun c25 => ?_)
      · exact J21 ls  (lv_sub hl [0, 1, 2] rfl)
      · refine lv_iconst (v := 1) hx hb dModel_truth_17 (by decide) ?_
        refine lv_goto (tgt := 61) hx hb dModel_truth_18 (by decide) ?_
        exact J61 ls 1 (lv_sub hl [0, 1, 2] rfl)
  refine lv_if_eq (tgt := 9) hx hb dModel_truth_1 (by decide) (fun c26 => ?_) (fun c26 => ?_)
  · exact J9 ls  (lv_sub hl [0, 1, 2] rfl)
  · refine lv_iload_n hx hb dModel_truth_4 rfl (lv_at hl 0 rfl) ?_
    refine lv_iconst (v := 2) hx hb dModel_truth_5 (by decide) ?_
    refine lv_icmp_ne (tgt := 25) hx hb dModel_truth_6 (by decide) (fun c27 => ?_) (fun c27 => ?_)
    · refine lv_iload_n hx hb dModel_truth_25 rfl (lv_at hl 0 rfl) ?_
      refine lv_iconst (v := 1) hx hb dModel_truth_26 (by decide) ?_
      have J35 : ∀ (ls : Array Slot), lv_has ls 4 [(0, .int x0), (1, .int x1), (2, .int x2)] → W p l e (bs_rm 0 0 0 0) s m args below meth c s.heap [] 0 0 Q (F0 m 35 ls []) := by
        intro ls hl
        refine lv_iload_n hx hb dModel_truth_35 rfl (lv_at hl 1 rfl) ?_
        have J43 : ∀ (ls : Array Slot), lv_has ls 4 [(0, .int x0), (1, .int x1), (2, .int x2)] → W p l e (bs_rm 0 0 0 0) s m args below meth c s.heap [] 0 0 Q (F0 m 43 ls []) := by
          intro ls hl
          refine lv_iconst (v := 1) hx hb dModel_truth_43 (by decide) ?_
          refine lv_goto (tgt := 61) hx hb dModel_truth_44 (by decide) ?_
          exact J61 ls 1 (lv_sub hl [0, 1, 2] rfl)
        refine lv_if_ne (tgt := 43) hx hb dModel_truth_36 (by decide) (fun c35 => ?_) (fun c35 => ?_)
        · exact J43 ls  (lv_sub hl [0, 1, 2] rfl)
        · refine lv_iload_n hx hb dModel_truth_39 rfl (lv_at hl 2 rfl) ?_
          refine lv_if_eq (tgt := 47) hx hb dModel_truth_40 (by decide) (fun c36 => ?_) (fun c36 => ?_)
          · refine lv_iconst (v := 0) hx hb dModel_truth_47 (by decide) ?_
            refine lv_goto (tgt := 61) hx hb dModel_truth_48 (by decide) ?_
            exact J61 ls 0 (lv_sub hl [0, 1, 2] rfl)
          · exact J43 ls  (lv_sub hl [0, 1, 2] rfl)
      refine lv_icmp_eq (tgt := 35) hx hb dModel_truth_27 (by decide) (fun c37 => ?_) (fun c37 => ?_)
      · exact J35 ls  (lv_sub hl [0, 1, 2] rfl)
      · refine lv_iload_n hx hb dModel_truth_30 rfl (lv_at hl 0 rfl) ?_
        refine lv_iconst (v := 3) hx hb dModel_truth_31 (by decide) ?_
        refine lv_icmp_ne (tgt := 51) hx hb dModel_truth_32 (by decide) (fun c38 => ?_) (fun c38 => ?_)
        · refine lv_iload_n hx hb dModel_truth_51 rfl (lv_at hl 1 rfl) ?_
          refine lv_iload_n hx hb dModel_truth_52 rfl (lv_at hl 2 rfl) ?_
          refine lv_icmp_eq (tgt := 60) hx hb dModel_truth_53 (by decide) (fun c39 => ?_) (fun c39 => ?_)
          · refine lv_iconst (v := 0) hx hb dModel_truth_60 (by decide) ?_
            exact J61 ls 0 (lv_sub hl [0, 1, 2] rfl)
          · refine lv_iconst (v := 1) hx hb dModel_truth_56 (by decide) ?_
            refine lv_goto (tgt := 61) hx hb dModel_truth_57 (by decide) ?_
            exact J61 ls 1 (lv_sub hl [0, 1, 2] rfl)
        · exact J35 ls  (lv_sub hl [0, 1, 2] rfl)
    · exact J9 ls  (lv_sub hl [0, 1, 2] rfl)
theorem qw_53e275eed6 : (Cond.fieldLink R_Model 99 R_Model "code" "I") ∈ bs_W0 := bs_in (in_tables_1_5 (List.mem_of_getElem? (i := 153) rfl)) rfl
set_option maxHeartbeats 4000000 in
set_option maxRecDepth 100000 in
theorem m_thrown (l : Launch) (γ : gE) (a : Nat) (B : Nat → Nat) (Z : Nat → Prop) (κ b mn : Nat → Nat) (ν : Nat → Int32) (τ : Nat → Nat → Int32) (σ : Nat → Int32) (F : Nat → Nat → Int32) (nu : Nat → Int64) (hT : ST κ b mn ν τ)   : PU l yModel_thrown bModel_thrown 1 (some .int) 0 0 [.ref a] γ (MD γ a B Z ν τ σ F nu) (vp_Si (fun v : Int32 => v = σ 0)) := by
  refine pu_openI (by decide) (Nat.le_of_ble_eq_true rfl) ?_
  intro p e s m args below meth c ls Q S hC hM hE hl
  obtain ⟨hx, hb, hml, hown, hW⟩ := id S
  obtain ⟨⟨hs0, hs1, hs2, hs3, hs4, hs5, hs6⟩, ⟨hv6, hv8, hv21, hv24, hv30, hv31⟩, hTR, hTY, hOB, hNM⟩ := id hT
  have hl : lv_has ls 1 [(0, .ref a)] := hl
  refine lv_aload_n hx hb dModel_thrown_0 rfl (lv_at hl 0 rfl) ?_
  refine md_gI S hC hM 0 (v := σ 0) rfl (by decide) rfl qw_53e275eed6 dModel_thrown_1 ?_
  refine lv_topi (fun v1 ev1 => ?_)
  exact hE _ _ _ ev1 dModel_thrown_4
theorem qw_f42008621b : (Cond.fieldLink R_Model 105 R_Model "nodes" "I") ∈ bs_W0 := bs_in (in_tables_1_5 (List.mem_of_getElem? (i := 159) rfl)) rfl
set_option maxHeartbeats 4000000 in
set_option maxRecDepth 100000 in
theorem m_noNode (l : Launch) (γ : gE) (a : Nat) (B : Nat → Nat) (Z : Nat → Prop) (κ b mn : Nat → Nat) (ν : Nat → Int32) (τ : Nat → Nat → Int32) (σ : Nat → Int32) (F : Nat → Nat → Int32) (nu : Nat → Int64) (hT : ST κ b mn ν τ) (x1 : Int32)  : PU l yModel_noNode bModel_noNode 2 (some .boolean) 0 0 [.ref a, .int x1] γ (MD γ a B Z ν τ σ F nu) (vp_Si (fun v : Int32 => v = 0 → vp_in x1 (κ 0))) := by
  refine pu_openZ (by decide) (Nat.le_of_ble_eq_true rfl) ?_
  intro p e s m args below meth c ls Q S hC hM hE hl
  obtain ⟨hx, hb, hml, hown, hW⟩ := id S
  obtain ⟨⟨hs0, hs1, hs2, hs3, hs4, hs5, hs6⟩, ⟨hv6, hv8, hv21, hv24, hv30, hv31⟩, hTR, hTY, hOB, hNM⟩ := id hT
  have hl : lv_has ls 2 [(0, .ref a), (1, .int x1)] := hl
  refine lv_iload_n hx hb dModel_noNode_0 rfl (lv_at hl 1 rfl) ?_
  have J12 : ∀ (ls : Array Slot), lv_has ls 2 [(0, .ref a), (1, .int x1)] → W p l e (bs_rm 0 0 0 0) s m args below meth c s.heap [] 0 0 Q (F0 m 12 ls []) := by
    intro ls hl
    refine lv_iconst (v := 1) hx hb dModel_noNode_12 (by decide) ?_
    refine lv_goto (tgt := 17) hx hb dModel_noNode_13 (by decide) ?_
    exact hE _ _ _ rfl (by first | exact (fun h => absurd h (by decide)) | exact (fun _ => vcmp (by assumption) (by assumption) (lt_nge (by assumption)) (by omega))) dModel_noNode_17
  refine lv_if_lt (tgt := 12) hx hb dModel_noNode_1 (by decide) (fun c4 => ?_) (fun c4 => ?_)
  · exact J12 ls  (lv_sub hl [0, 1] rfl)
  · refine lv_iload_n hx hb dModel_noNode_4 rfl (lv_at hl 1 rfl) ?_
    refine lv_aload_n hx hb dModel_noNode_5 rfl (lv_at hl 0 rfl) ?_
    refine md_gI S hC hM 6 (v := nI (κ 0)) hv6 (by decide) rfl qw_f42008621b dModel_noNode_6 ?_
    refine lv_topi (fun v5 ev5 => ?_)
    refine lv_icmp_lt (tgt := 16) hx hb dModel_noNode_9 (by decide) (fun c6 => ?_) (fun c6 => ?_)
    · refine lv_iconst (v := 0) hx hb dModel_noNode_16 (by decide) ?_
      exact hE _ _ _ rfl (by first | exact (fun h => absurd h (by decide)) | exact (fun _ => vcmp (by assumption) (by assumption) (lt_nge (by assumption)) (by omega))) dModel_noNode_17
    · exact J12 ls  (lv_sub hl [0, 1] rfl)
theorem qw_c82bee9e97 : (Cond.fieldLink R_Model 102 R_Model "types" "I") ∈ bs_W0 := bs_in (in_tables_1_5 (List.mem_of_getElem? (i := 174) rfl)) rfl
set_option maxHeartbeats 4000000 in
set_option maxRecDepth 100000 in
theorem m_noType (l : Launch) (γ : gE) (a : Nat) (B : Nat → Nat) (Z : Nat → Prop) (κ b mn : Nat → Nat) (ν : Nat → Int32) (τ : Nat → Nat → Int32) (σ : Nat → Int32) (F : Nat → Nat → Int32) (nu : Nat → Int64) (hT : ST κ b mn ν τ) (x1 : Int32)  : PU l yModel_noType bModel_noType 2 (some .boolean) 0 0 [.ref a, .int x1] γ (MD γ a B Z ν τ σ F nu) (vp_Si (fun v : Int32 => v = 0 → vp_in x1 (κ 2))) := by
  refine pu_openZ (by decide) (Nat.le_of_ble_eq_true rfl) ?_
  intro p e s m args below meth c ls Q S hC hM hE hl
  obtain ⟨hx, hb, hml, hown, hW⟩ := id S
  obtain ⟨⟨hs0, hs1, hs2, hs3, hs4, hs5, hs6⟩, ⟨hv6, hv8, hv21, hv24, hv30, hv31⟩, hTR, hTY, hOB, hNM⟩ := id hT
  have hl : lv_has ls 2 [(0, .ref a), (1, .int x1)] := hl
  refine lv_iload_n hx hb dModel_noType_0 rfl (lv_at hl 1 rfl) ?_
  have J12 : ∀ (ls : Array Slot), lv_has ls 2 [(0, .ref a), (1, .int x1)] → W p l e (bs_rm 0 0 0 0) s m args below meth c s.heap [] 0 0 Q (F0 m 12 ls []) := by
    intro ls hl
    refine lv_iconst (v := 1) hx hb dModel_noType_12 (by decide) ?_
    refine lv_goto (tgt := 17) hx hb dModel_noType_13 (by decide) ?_
    exact hE _ _ _ rfl (by first | exact (fun h => absurd h (by decide)) | exact (fun _ => vcmp (by assumption) (by assumption) (lt_nge (by assumption)) (by omega))) dModel_noType_17
  refine lv_if_lt (tgt := 12) hx hb dModel_noType_1 (by decide) (fun c4 => ?_) (fun c4 => ?_)
  · exact J12 ls  (lv_sub hl [0, 1] rfl)
  · refine lv_iload_n hx hb dModel_noType_4 rfl (lv_at hl 1 rfl) ?_
    refine lv_aload_n hx hb dModel_noType_5 rfl (lv_at hl 0 rfl) ?_
    refine md_gI S hC hM 21 (v := nI (κ 2)) hv21 (by decide) rfl qw_c82bee9e97 dModel_noType_6 ?_
    refine lv_topi (fun v5 ev5 => ?_)
    refine lv_icmp_lt (tgt := 16) hx hb dModel_noType_9 (by decide) (fun c6 => ?_) (fun c6 => ?_)
    · refine lv_iconst (v := 0) hx hb dModel_noType_16 (by decide) ?_
      exact hE _ _ _ rfl (by first | exact (fun h => absurd h (by decide)) | exact (fun _ => vcmp (by assumption) (by assumption) (lt_nge (by assumption)) (by omega))) dModel_noType_17
    · exact J12 ls  (lv_sub hl [0, 1] rfl)
theorem qw_7e4081a75e : (Cond.fieldLink R_Model 23 R_Model "begin" "[I") ∈ bs_W0 := bs_in (in_tables_1_5 (List.mem_of_getElem? (i := 158) rfl)) rfl
set_option maxHeartbeats 4000000 in
set_option maxRecDepth 100000 in
theorem m_child (l : Launch) (γ : gE) (a : Nat) (B : Nat → Nat) (Z : Nat → Prop) (κ b mn : Nat → Nat) (ν : Nat → Int32) (τ : Nat → Nat → Int32) (σ : Nat → Int32) (F : Nat → Nat → Int32) (nu : Nat → Int64) (hT : ST κ b mn ν τ) (x1 : Int32) (x2 : Int32) (hp : vp_in x1 (κ 0)) (hj : vp_in x2 (mn x1.toNatClampNeg)) : PU l yModel_child bModel_child 5 (some .int) 0 0 [.ref a, .int x1, .int x2] γ (MD γ a B Z ν τ σ F nu) (vp_Si (fun v : Int32 => v = nI (tX b x1.toNatClampNeg x2.toNatClampNeg - 1))) := by
  refine pu_openI (by decide) (Nat.le_of_ble_eq_true rfl) ?_
  intro p e s m args below meth c ls Q S hC hM hE hl
  obtain ⟨hx, hb, hml, hown, hW⟩ := id S
  obtain ⟨⟨hs0, hs1, hs2, hs3, hs4, hs5, hs6⟩, ⟨hv6, hv8, hv21, hv24, hv30, hv31⟩, hTR, hTY, hOB, hNM⟩ := id hT
  have hmx : mn x1.toNatClampNeg ≤ 4000 := (hTR.2.1 _ (vix hp)).2.1
  have hl : lv_has ls 5 [(0, .ref a), (1, .int x1), (2, .int x2)] := hl
  have hone : 1 ≤ x1.toNatClampNeg := (hTR.2.1 _ (vix hp)).2.2.1 0 (by have := vix hj; omega)
  refine lv_iload_n hx hb dModel_child_0 rfl (lv_at hl 1 rfl) ?_
  refine lv_iconst (v := 1) hx hb dModel_child_1 (by decide) ?_
  refine lv_isub hx hb dModel_child_2 ?_
  refine lv_topi (fun v1 ev1 => ?_)
  refine lv_istore_n (lv' := [(3, .int v1), (0, .ref a), (1, .int x1), (2, .int x2)]) hx hb dModel_child_3 rfl hl (by decide) rfl (fun ls hl => ?_)
  refine lv_iconst (v := 0) hx hb dModel_child_4 (by decide) ?_
  refine lv_istore (lv' := [(4, .int 0), (3, .int v1), (0, .ref a), (1, .int x1), (2, .int x2)]) hx hb dModel_child_5 hl (by decide) rfl (fun ls hl => ?_)
  have J7 : ∀ (N7 : Nat) (ls : Array Slot) (i4_7 : Int32) (i3_7 : Int32), (∃ i, i ≤ x2.toNatClampNeg ∧ i4_7 = nI i ∧ i3_7 = nI (tX b x1.toNatClampNeg i - 1)) → (2147483647 - i4_7.toInt).toNat = N7 → lv_has ls 5 [(0, .ref a), (1, .int x1), (2, .int x2), (3, .int i3_7), (4, .int i4_7)] → W p l e (bs_rm 0 0 0 0) s m args below meth c s.heap [] 0 0 Q (F0 m 7 ls []) := by
    intro N7
    induction N7 using Nat.strongRecOn with
    | ind N7 ih7 =>
      intro ls i4_7 i3_7 hch hm7 hl
      refine lv_iload hx hb dModel_child_7 (lv_at hl 4 rfl) ?_
      refine lv_iload_n hx hb dModel_child_9 rfl (lv_at hl 2 rfl) ?_
      refine lv_icmp_ge (tgt := 28) hx hb dModel_child_10 (by decide) (fun c2 => ?_) (fun c2 => ?_)
      · obtain ⟨i, hi1, hi2, hi3⟩ := hch
        have hge : x2.toNatClampNeg ≤ i := (nI_leI (by have := vix hj; omega) (by have := vix hj; omega)).mp (by rw [← vnI hj, ← hi2]; assumption)
        obtain rfl : i = x2.toNatClampNeg := by omega
        refine lv_iload_n hx hb dModel_child_28 rfl (lv_at hl 3 rfl) ?_
        exact hE _ _ _ hi3 dModel_child_29
      · obtain ⟨i, hi1, hi2, hi3⟩ := hch
        have hlt : i < x2.toNatClampNeg := nge_ok (by assumption) (vnI hj) (by assumption) (by have := vix hj; omega) (by have := vix hj; omega)
        have hst := ch_step hTR hs0 (vix hp) (show i < mn x1.toNatClampNeg by have := vix hj; omega) hi3
        have hone2 : 1 ≤ tX b x1.toNatClampNeg (i + 1) := (hTR.2.1 _ (vix hp)).2.2.1 (i + 1) (by have := vix hj; omega)
        refine lv_aload_n hx hb dModel_child_13 rfl (lv_at hl 0 rfl) ?_
        refine md_gA S hC hM 5 (by decide) rfl qw_7e4081a75e dModel_child_14 ?_
        refine lv_iload_n hx hb dModel_child_17 rfl (lv_at hl 3 rfl) ?_
        refine md_ild S hC hM 5 3 4000 (τ 5) rfl rfl (by decide) rfl rfl (vin hst.1 (by omega)) dModel_child_18 ?_
        refine lv_topi (fun v3 ev3 => ?_)
        refine lv_iconst (v := 1) hx hb dModel_child_19 (by decide) ?_
        refine lv_isub hx hb dModel_child_20 ?_
        refine lv_topi (fun v4 ev4 => ?_)
        refine lv_istore_n (lv' := [(3, .int v4), (0, .ref a), (1, .int x1), (2, .int x2), (4, .int i4_7)]) hx hb dModel_child_21 rfl hl (by decide) rfl (fun ls hl => ?_)
        obtain ⟨v5, ev5⟩ : ∃ y : Int32, y = i4_7 + 1 := ⟨_, rfl⟩
        refine lv_iinc (v := v5) (lv' := [(4, .int v5), (3, .int v4), (0, .ref a), (1, .int x1), (2, .int x2)]) hx hb dModel_child_22 hl (k := 4) rfl (by rw [ev5]; rfl) (by decide) rfl (fun ls hl => ?_)
        refine lv_goto (tgt := 7) hx hb dModel_child_25 (by decide) ?_
        exact ih7 _ (by have q1 : i4_7.toInt < 2147483647 := (by first | assumption | exact (mu_up (k := i4_7) (by assumption)).2); have q2 := mu_lt q1; rw [← ev5] at q2; omega) ls v5 v4 ⟨i + 1, by omega, by rw [ev5, hi2]; exact (nI_succ i).symm, by rw [ev4, ev3, hst.2]; exact nI_sub1 hone2⟩ rfl (lv_sub hl [2, 3, 4, 1, 0] rfl)
  exact J7 _ ls 0 v1 ⟨0, Nat.zero_le _, rfl, by rw [ev1]; have h9 := nI_sub1 (n := x1.toNatClampNeg) hone; rw [← vnI hp] at h9; exact h9⟩ rfl (lv_sub hl [2, 3, 4, 1, 0] rfl)
theorem qw_8d5d48b583 : (Cond.fieldLink R_Model 115 R_Model "nameCount" "I") ∈ bs_W0 := bs_in (in_tables_1_5 (List.mem_of_getElem? (i := 183) rfl)) rfl
theorem qw_0f8ce80864 : (Cond.fieldLink R_Model 75 R_Model "names" "[I") ∈ bs_W0 := bs_in (in_tables_1_5 (List.mem_of_getElem? (i := 178) rfl)) rfl
theorem qw_6551c8877a : (Cond.fieldLink R_Model 87 R_Model "deep" "[I") ∈ bs_W0 := bs_in (in_tables_1_5 (List.mem_of_getElem? (i := 182) rfl)) rfl
theorem qw_e3979b88d4 : (Cond.fieldLink R_Model 90 R_Model "scopes" "I") ∈ bs_W0 := bs_in (in_tables_1_5 (List.mem_of_getElem? (i := 184) rfl)) rfl
set_option maxHeartbeats 4000000 in
set_option maxRecDepth 100000 in
theorem m_hasHere (l : Launch) (γ : gE) (a : Nat) (B : Nat → Nat) (Z : Nat → Prop) (κ b mn : Nat → Nat) (ν : Nat → Int32) (τ : Nat → Nat → Int32) (σ : Nat → Int32) (F : Nat → Nat → Int32) (nu : Nat → Int64) (hT : ST κ b mn ν τ) (x1 : Int32)  : PU l yModel_hasHere bModel_hasHere 4 (some .boolean) 0 0 [.ref a, .int x1] γ (MD γ a B Z ν τ σ F nu) (vp_Si (fun v : Int32 => True)) := by
  refine pu_openZ (by decide) (Nat.le_of_ble_eq_true rfl) ?_
  intro p e s m args below meth c ls Q S hC hM hE hl
  obtain ⟨hx, hb, hml, hown, hW⟩ := id S
  obtain ⟨⟨hs0, hs1, hs2, hs3, hs4, hs5, hs6⟩, ⟨hv6, hv8, hv21, hv24, hv30, hv31⟩, hTR, hTY, hOB, hNM⟩ := id hT
  have hl : lv_has ls 4 [(0, .ref a), (1, .int x1)] := hl
  refine lv_iconst (v := 0) hx hb dModel_hasHere_0 (by decide) ?_
  refine lv_istore_n (lv' := [(2, .int 0), (0, .ref a), (1, .int x1)]) hx hb dModel_hasHere_1 rfl hl (by decide) rfl (fun ls hl => ?_)
  refine lv_iconst (v := 0) hx hb dModel_hasHere_2 (by decide) ?_
  refine lv_istore_n (lv' := [(3, .int 0), (2, .int 0), (0, .ref a), (1, .int x1)]) hx hb dModel_hasHere_3 rfl hl (by decide) rfl (fun ls hl => ?_)
  have J4 : ∀ (N4 : Nat) (ls : Array Slot) (i3_4 : Int32) (i2_4 : Int32), (¬ i3_4 < 0) → (i2_4 = 0 ∨ i2_4 = 1) → (2147483647 - i3_4.toInt).toNat = N4 → lv_has ls 4 [(0, .ref a), (1, .int x1), (2, .int i2_4), (3, .int i3_4)] → W p l e (bs_rm 0 0 0 0) s m args below meth c s.heap [] 0 0 Q (F0 m 4 ls []) := by
    intro N4
    induction N4 using Nat.strongRecOn with
    | ind N4 ih4 =>
      intro ls i3_4 i2_4 hi3_4 hi2_4 hm4 hl
      refine lv_iload_n hx hb dModel_hasHere_4 rfl (lv_at hl 3 rfl) ?_
      refine lv_aload_n hx hb dModel_hasHere_5 rfl (lv_at hl 0 rfl) ?_
      refine md_gI S hC hM 30 (v := nI (κ 4)) hv30 (by decide) rfl qw_8d5d48b583 dModel_hasHere_6 ?_
      refine lv_topi (fun v1 ev1 => ?_)
      refine lv_icmp_ge (tgt := 51) hx hb dModel_hasHere_9 (by decide) (fun c2 => ?_) (fun c2 => ?_)
      · refine lv_iload_n hx hb dModel_hasHere_51 rfl (lv_at hl 2 rfl) ?_
        exact hE _ _ _ (by rcases (show i2_4 = 0 ∨ i2_4 = 1 by first | assumption | exact Or.inl rfl | exact Or.inr rfl) with h9 | h9 <;> rw [h9] <;> rfl) trivial dModel_hasHere_52
      · have hin3 : vp_in i3_4 (κ 4) := vcmp (by assumption) (by assumption) (by assumption) (by omega)
        refine lv_iload_n hx hb dModel_hasHere_12 rfl (lv_at hl 2 rfl) ?_
        have J44 : ∀ (ls : Array Slot) (t0_44 : Int32), (t0_44 = 0 ∨ t0_44 = 1) → lv_has ls 4 [(0, .ref a), (1, .int x1), (2, .int i2_4), (3, .int i3_4)] → W p l e (bs_rm 0 0 0 0) s m args below meth c s.heap [] 0 0 Q (F0 m 44 ls [.int t0_44]) := by
          intro ls t0_44 ht0_44 hl
          refine lv_istore_n (lv' := [(2, .int t0_44), (0, .ref a), (1, .int x1), (3, .int i3_4)]) hx hb dModel_hasHere_44 rfl hl (by decide) rfl (fun ls hl => ?_)
          obtain ⟨v10, ev10⟩ : ∃ y : Int32, y = i3_4 + 1 := ⟨_, rfl⟩
          refine lv_iinc (v := v10) (lv' := [(3, .int v10), (2, .int t0_44), (0, .ref a), (1, .int x1)]) hx hb dModel_hasHere_45 hl (k := 3) rfl (by rw [ev10]; rfl) (by decide) rfl (fun ls hl => ?_)
          refine lv_goto (tgt := 4) hx hb dModel_hasHere_48 (by decide) ?_
          exact ih4 _ (by have q1 : i3_4.toInt < 2147483647 := (by first | assumption | exact (mu_up (k := i3_4) (by assumption)).2); have q2 := mu_lt q1; rw [← ev10] at q2; omega) ls v10 t0_44 (by first | decide | exact nn_inc (by assumption) (by assumption) (by assumption)) (by first | assumption | exact Or.inl rfl | exact Or.inr rfl) rfl (lv_sub hl [2, 3, 1, 0] rfl)
        have J39 : ∀ (ls : Array Slot), lv_has ls 4 [(0, .ref a), (1, .int x1), (2, .int i2_4), (3, .int i3_4)] → W p l e (bs_rm 0 0 0 0) s m args below meth c s.heap [] 0 0 Q (F0 m 39 ls []) := by
          intro ls hl
          refine lv_iconst (v := 1) hx hb dModel_hasHere_39 (by decide) ?_
          refine lv_goto (tgt := 44) hx hb dModel_hasHere_40 (by decide) ?_
          exact J44 ls 1 (by first | assumption | exact Or.inl rfl | exact Or.inr rfl) (lv_sub hl [0, 1, 2, 3] rfl)
        refine lv_if_ne (tgt := 39) hx hb dModel_hasHere_13 (by decide) (fun c11 => ?_) (fun c11 => ?_)
        · exact J39 ls  (lv_sub hl [0, 1, 2, 3] rfl)
        · refine lv_aload_n hx hb dModel_hasHere_16 rfl (lv_at hl 0 rfl) ?_
          refine md_gA S hC hM 25 (by decide) rfl qw_0f8ce80864 dModel_hasHere_17 ?_
          refine lv_iload_n hx hb dModel_hasHere_20 rfl (lv_at hl 3 rfl) ?_
          refine md_ild S hC hM 25 19 3000 (τ 25) rfl rfl (by decide) rfl rfl (vin (by assumption) (by omega)) dModel_hasHere_21 ?_
          refine lv_topi (fun v12 ev12 => ?_)
          refine lv_iload_n hx hb dModel_hasHere_22 rfl (lv_at hl 1 rfl) ?_
          have J43 : ∀ (ls : Array Slot), lv_has ls 4 [(0, .ref a), (1, .int x1), (2, .int i2_4), (3, .int i3_4)] → W p l e (bs_rm 0 0 0 0) s m args below meth c s.heap [] 0 0 Q (F0 m 43 ls []) := by
            intro ls hl
            refine lv_iconst (v := 0) hx hb dModel_hasHere_43 (by decide) ?_
            exact J44 ls 0 (by first | assumption | exact Or.inl rfl | exact Or.inr rfl) (lv_sub hl [0, 1, 2, 3] rfl)
          refine lv_icmp_ne (tgt := 43) hx hb dModel_hasHere_23 (by decide) (fun c17 => ?_) (fun c17 => ?_)
          · exact J43 ls  (lv_sub hl [0, 1, 2, 3] rfl)
          · refine lv_aload_n hx hb dModel_hasHere_26 rfl (lv_at hl 0 rfl) ?_
            refine md_gA S hC hM 29 (by decide) rfl qw_6551c8877a dModel_hasHere_27 ?_
            refine lv_iload_n hx hb dModel_hasHere_30 rfl (lv_at hl 3 rfl) ?_
            refine md_ild S hC hM 29 23 3000 (τ 29) rfl rfl (by decide) rfl rfl (vin (by assumption) (by omega)) dModel_hasHere_31 ?_
            refine lv_topi (fun v18 ev18 => ?_)
            refine lv_aload_n hx hb dModel_hasHere_32 rfl (lv_at hl 0 rfl) ?_
            refine md_gI S hC hM 31 (v := nI (κ 5)) hv31 (by decide) rfl qw_e3979b88d4 dModel_hasHere_33 ?_
            refine lv_topi (fun v19 ev19 => ?_)
            refine lv_icmp_ne (tgt := 43) hx hb dModel_hasHere_36 (by decide) (fun c20 => ?_) (fun c20 => ?_)
            · exact J43 ls  (lv_sub hl [0, 1, 2, 3] rfl)
            · exact J39 ls  (lv_sub hl [0, 1, 2, 3] rfl)
  exact J4 _ ls 0 0 (by first | decide | exact nn_inc (by assumption) (by assumption) (by assumption)) (by first | assumption | exact Or.inl rfl | exact Or.inr rfl) rfl (lv_sub hl [2, 3, 1, 0] rfl)
theorem qw_e487507e04 : (Cond.fieldLink R_Model 47 R_Model "elements" "[B") ∈ bs_W0 := bs_in (in_tables_1_5 (List.mem_of_getElem? (i := 167) rfl)) rfl
set_option maxHeartbeats 4000000 in
set_option maxRecDepth 100000 in
theorem m_element (l : Launch) (γ : gE) (a : Nat) (B : Nat → Nat) (Z : Nat → Prop) (κ b mn : Nat → Nat) (ν : Nat → Int32) (τ : Nat → Nat → Int32) (σ : Nat → Int32) (F : Nat → Nat → Int32) (nu : Nat → Int64) (hT : ST κ b mn ν τ) (x1 : Int32) (x2 : Int32) (he : vp_in (64 * x1 + x2) 640000) : PU l yModel_element bModel_element 3 (some .int) 0 0 [.ref a, .int x1, .int x2] γ (MD γ a B Z ν τ σ F nu) (vp_Si (fun v : Int32 => True)) := by
  refine pu_openI (by decide) (Nat.le_of_ble_eq_true rfl) ?_
  intro p e s m args below meth c ls Q S hC hM hE hl
  obtain ⟨hx, hb, hml, hown, hW⟩ := id S
  obtain ⟨⟨hs0, hs1, hs2, hs3, hs4, hs5, hs6⟩, ⟨hv6, hv8, hv21, hv24, hv30, hv31⟩, hTR, hTY, hOB, hNM⟩ := id hT
  have hl : lv_has ls 3 [(0, .ref a), (1, .int x1), (2, .int x2)] := hl
  refine lv_aload_n hx hb dModel_element_0 rfl (lv_at hl 0 rfl) ?_
  refine md_gA S hC hM 14 (by decide) rfl qw_e487507e04 dModel_element_1 ?_
  refine lv_bipush (v := 64) hx hb dModel_element_4 (by decide) ?_
  refine lv_iload_n hx hb dModel_element_6 rfl (lv_at hl 1 rfl) ?_
  refine lv_imul hx hb dModel_element_7 ?_
  refine lv_topi (fun v1 ev1 => ?_)
  refine lv_iload_n hx hb dModel_element_8 rfl (lv_at hl 2 rfl) ?_
  refine lv_iadd hx hb dModel_element_9 ?_
  refine lv_topi (fun v2 ev2 => ?_)
  refine md_bld S hC hM 14 10 640000 (F 14) rfl rfl (by decide) rfl rfl (by subst_vars; exact he) dModel_element_10 ?_
  refine lv_topi (fun v3 ev3 => ?_)
  exact hE _ _ _ trivial dModel_element_11
set_option maxHeartbeats 4000000 in
set_option maxRecDepth 100000 in
theorem m_setElement (l : Launch) (γ : gE) (a : Nat) (B : Nat → Nat) (Z : Nat → Prop) (κ b mn : Nat → Nat) (ν : Nat → Int32) (τ : Nat → Nat → Int32) (σ : Nat → Int32) (F : Nat → Nat → Int32) (nu : Nat → Int64) (hT : ST κ b mn ν τ) (x1 : Int32) (x2 : Int32) (x3 : Int32) (he : vp_in (64 * x1 + x2) 640000) : MU l yModel_setElement bModel_setElement 4 (none) 0 0 0 0 [.ref a, .int x1, .int x2, .int x3] γ Z (MD γ a B Z ν τ σ F nu) (mQv (fun H => ∃ F' : Nat → Nat → Int32, MD γ a B Z ν τ σ F' nu H ∧ EQ14 F F') Z) := by
  refine mu_openV (by decide) (Nat.le_of_ble_eq_true rfl) ?_
  intro p e s m args below meth c ls Q S hnm hC hA hM hE hl
  have hS : va_S Z s.heap s.heap [] := va_S.rf
  obtain ⟨hx, hb, hml, hown, hW⟩ := id S
  obtain ⟨⟨hs0, hs1, hs2, hs3, hs4, hs5, hs6⟩, ⟨hv6, hv8, hv21, hv24, hv30, hv31⟩, hTR, hTY, hOB, hNM⟩ := id hT
  have hl : lv_has ls 4 [(0, .ref a), (1, .int x1), (2, .int x2), (3, .int x3)] := hl
  refine lv_aload_n hx hb dModel_setElement_0 rfl (lv_at hl 0 rfl) ?_
  refine md_gA S hC hM 14 (by decide) rfl qw_e487507e04 dModel_setElement_1 ?_
  refine lv_bipush (v := 64) hx hb dModel_setElement_4 (by decide) ?_
  refine lv_iload_n hx hb dModel_setElement_6 rfl (lv_at hl 1 rfl) ?_
  refine lv_imul hx hb dModel_setElement_7 ?_
  refine lv_topi (fun v1 ev1 => ?_)
  refine lv_iload_n hx hb dModel_setElement_8 rfl (lv_at hl 2 rfl) ?_
  refine lv_iadd hx hb dModel_setElement_9 ?_
  refine lv_topi (fun v2 ev2 => ?_)
  refine lv_iload_n hx hb dModel_setElement_10 rfl (lv_at hl 3 rfl) ?_
  refine lv_i2b hx hb dModel_setElement_11 rfl ?_
  refine lv_topi (fun v3 ev3 => ?_)
  refine md_bstD S hC hM hS 14 10 640000 rfl rfl (by decide) rfl rfl (by subst_vars; exact he) dModel_setElement_12 (fun H locs hM hS => ?_)
  obtain ⟨F4, eF4⟩ : ∃ z : Nat → Nat → Int32, z = Au F 14 v2.toNatClampNeg (vp_nar .byte v3) := ⟨_, rfl⟩
  rw [← eF4] at hM
  exact hE _ _ _ _ hS ⟨F4, hM, EQ14.au eF4⟩ dModel_setElement_13
theorem qw_bd0251c605 : (Cond.fieldLink R_Model 32 R_Model "size" "[I") ∈ bs_W0 := bs_in (in_tables_1_5 (List.mem_of_getElem? (i := 163) rfl)) rfl
theorem qw_ceb3d87d61 : (Cond.methodLink R_Model 131 yModel_element) ∈ bs_W0 := bs_in (in_tables_1_6 (List.mem_of_getElem? (i := 75) rfl)) rfl
set_option maxHeartbeats 4000000 in
set_option maxRecDepth 100000 in
theorem m_isClear (l : Launch) (γ : gE) (a : Nat) (B : Nat → Nat) (Z : Nat → Prop) (κ b mn : Nat → Nat) (ν : Nat → Int32) (τ : Nat → Nat → Int32) (σ : Nat → Int32) (F : Nat → Nat → Int32) (nu : Nat → Int64) (hT : ST κ b mn ν τ) (x1 : Int32) (hx1 : vp_in x1 (4000)) (hZ : SZ F) : PU l yModel_isClear bModel_isClear 4 (some .boolean) 1 22 [.ref a, .int x1] γ (MD γ a B Z ν τ σ F nu) (vp_Si (fun v : Int32 => True)) := by
  refine pu_openZ (by decide) (Nat.le_of_ble_eq_true rfl) ?_
  intro p e s m args below meth c ls Q S hC hM hE hl
  obtain ⟨hx, hb, hml, hown, hW⟩ := id S
  obtain ⟨⟨hs0, hs1, hs2, hs3, hs4, hs5, hs6⟩, ⟨hv6, hv8, hv21, hv24, hv30, hv31⟩, hTR, hTY, hOB, hNM⟩ := id hT
  have hl : lv_has ls 4 [(0, .ref a), (1, .int x1)] := hl
  refine lv_iconst (v := 1) hx hb dModel_isClear_0 (by decide) ?_
  refine lv_istore_n (lv' := [(2, .int 1), (0, .ref a), (1, .int x1)]) hx hb dModel_isClear_1 rfl hl (by decide) rfl (fun ls hl => ?_)
  refine lv_iconst (v := 0) hx hb dModel_isClear_2 (by decide) ?_
  refine lv_istore_n (lv' := [(3, .int 0), (2, .int 1), (0, .ref a), (1, .int x1)]) hx hb dModel_isClear_3 rfl hl (by decide) rfl (fun ls hl => ?_)
  have J4 : ∀ (N4 : Nat) (ls : Array Slot) (i3_4 : Int32) (i2_4 : Int32), (¬ i3_4 < 0) → (i2_4 = 0 ∨ i2_4 = 1) → (2147483647 - i3_4.toInt).toNat = N4 → lv_has ls 4 [(0, .ref a), (1, .int x1), (2, .int i2_4), (3, .int i3_4)] → W p l e (bs_rm 1 0 0 22) s m args below meth c s.heap [] 0 0 Q (F0 m 4 ls []) := by
    intro N4
    induction N4 using Nat.strongRecOn with
    | ind N4 ih4 =>
      intro ls i3_4 i2_4 hi3_4 hi2_4 hm4 hl
      refine lv_iload_n hx hb dModel_isClear_4 rfl (lv_at hl 3 rfl) ?_
      refine lv_aload_n hx hb dModel_isClear_5 rfl (lv_at hl 0 rfl) ?_
      refine md_gA S hC hM 10 (by decide) rfl qw_bd0251c605 dModel_isClear_6 ?_
      refine lv_iload_n hx hb dModel_isClear_9 rfl (lv_at hl 1 rfl) ?_
      refine md_ild S hC hM 10 6 10000 (F 10) rfl rfl (by decide) rfl rfl (vin (by assumption) (by omega)) dModel_isClear_10 ?_
      refine lv_topi (fun v1 ev1 => ?_)
      refine lv_icmp_ge (tgt := 54) hx hb dModel_isClear_11 (by decide) (fun c2 => ?_) (fun c2 => ?_)
      · refine lv_iload_n hx hb dModel_isClear_54 rfl (lv_at hl 2 rfl) ?_
        exact hE _ _ _ (by rcases (show i2_4 = 0 ∨ i2_4 = 1 by first | assumption | exact Or.inl rfl | exact Or.inr rfl) with h9 | h9 <;> rw [h9] <;> rfl) trivial dModel_isClear_55
      · have hin3 : vp_in i3_4 1000 := vsz hZ (vix (vin hx1 (by omega))) (by assumption) (by assumption) (by assumption)
        refine lv_iload_n hx hb dModel_isClear_14 rfl (lv_at hl 2 rfl) ?_
        have J47 : ∀ (ls : Array Slot) (t0_47 : Int32), (t0_47 = 0 ∨ t0_47 = 1) → lv_has ls 4 [(0, .ref a), (1, .int x1), (2, .int i2_4), (3, .int i3_4)] → W p l e (bs_rm 1 0 0 22) s m args below meth c s.heap [] 0 0 Q (F0 m 47 ls [.int t0_47]) := by
          intro ls t0_47 ht0_47 hl
          refine lv_istore_n (lv' := [(2, .int t0_47), (0, .ref a), (1, .int x1), (3, .int i3_4)]) hx hb dModel_isClear_47 rfl hl (by decide) rfl (fun ls hl => ?_)
          obtain ⟨v11, ev11⟩ : ∃ y : Int32, y = i3_4 + 1 := ⟨_, rfl⟩
          refine lv_iinc (v := v11) (lv' := [(3, .int v11), (2, .int t0_47), (0, .ref a), (1, .int x1)]) hx hb dModel_isClear_48 hl (k := 3) rfl (by rw [ev11]; rfl) (by decide) rfl (fun ls hl => ?_)
          refine lv_goto (tgt := 4) hx hb dModel_isClear_51 (by decide) ?_
          exact ih4 _ (by have q1 : i3_4.toInt < 2147483647 := (by first | assumption | exact (mu_up (k := i3_4) (by assumption)).2); have q2 := mu_lt q1; rw [← ev11] at q2; omega) ls v11 t0_47 (by first | decide | exact nn_inc (by assumption) (by assumption) (by assumption)) (by first | assumption | exact Or.inl rfl | exact Or.inr rfl) rfl (lv_sub hl [2, 3, 1, 0] rfl)
        have J46 : ∀ (ls : Array Slot), lv_has ls 4 [(0, .ref a), (1, .int x1), (2, .int i2_4), (3, .int i3_4)] → W p l e (bs_rm 1 0 0 22) s m args below meth c s.heap [] 0 0 Q (F0 m 46 ls []) := by
          intro ls hl
          refine lv_iconst (v := 0) hx hb dModel_isClear_46 (by decide) ?_
          exact J47 ls 0 (by first | assumption | exact Or.inl rfl | exact Or.inr rfl) (lv_sub hl [0, 1, 2, 3] rfl)
        refine lv_if_eq (tgt := 46) hx hb dModel_isClear_15 (by decide) (fun c12 => ?_) (fun c12 => ?_)
        · exact J46 ls  (lv_sub hl [0, 1, 2, 3] rfl)
        · refine lv_aload_n hx hb dModel_isClear_18 rfl (lv_at hl 0 rfl) ?_
          refine lv_iload_n hx hb dModel_isClear_19 rfl (lv_at hl 1 rfl) ?_
          refine lv_iload_n hx hb dModel_isClear_20 rfl (lv_at hl 3 rfl) ?_
          refine pu_Vi (rest := []) S hC (m_element l γ a B Z κ b mn ν τ σ F nu hT x1 i3_4 (el_in (by assumption) (by assumption) (by omega))) meModel_element qw_ceb3d87d61 ⟨Nat.le_of_ble_eq_true rfl, Nat.le_of_ble_eq_true rfl⟩ (md_rv hC hM) hM rfl hl.1 rfl (Nat.le_of_ble_eq_true rfl) dModel_isClear_21 ⟨Nat.zero_le _, Nat.zero_le _⟩ (fun r13 hr13 => ?_)
          refine pu_Si (rest := []) S hC (m_isLow l γ _ r13) meModel_isLow qw_50d7321591 ⟨Nat.le_of_ble_eq_true rfl, Nat.le_of_ble_eq_true rfl⟩ hM rfl hl.1 rfl (Nat.le_of_ble_eq_true rfl) dModel_isClear_24 ⟨Nat.zero_le _, Nat.zero_le _⟩ (fun r14 hr14 => ?_)
          have J42 : ∀ (ls : Array Slot), lv_has ls 4 [(0, .ref a), (1, .int x1), (2, .int i2_4), (3, .int i3_4)] → W p l e (bs_rm 1 0 0 22) s m args below meth c s.heap [] 0 0 Q (F0 m 42 ls []) := by
            intro ls hl
            refine lv_iconst (v := 1) hx hb dModel_isClear_42 (by decide) ?_
            refine lv_goto (tgt := 47) hx hb dModel_isClear_43 (by decide) ?_
            exact J47 ls 1 (by first | assumption | exact Or.inl rfl | exact Or.inr rfl) (lv_sub hl [0, 1, 2, 3] rfl)
          refine lv_if_ne (tgt := 42) hx hb dModel_isClear_27 (by decide) (fun c19 => ?_) (fun c19 => ?_)
          · exact J42 ls  (lv_sub hl [0, 1, 2, 3] rfl)
          · refine lv_aload_n hx hb dModel_isClear_30 rfl (lv_at hl 0 rfl) ?_
            refine lv_iload_n hx hb dModel_isClear_31 rfl (lv_at hl 1 rfl) ?_
            refine lv_iload_n hx hb dModel_isClear_32 rfl (lv_at hl 3 rfl) ?_
            refine pu_Vi (rest := []) S hC (m_element l γ a B Z κ b mn ν τ σ F nu hT x1 i3_4 (el_in (by assumption) (by assumption) (by omega))) meModel_element qw_ceb3d87d61 ⟨Nat.le_of_ble_eq_true rfl, Nat.le_of_ble_eq_true rfl⟩ (md_rv hC hM) hM rfl hl.1 rfl (Nat.le_of_ble_eq_true rfl) dModel_isClear_33 ⟨Nat.zero_le _, Nat.zero_le _⟩ (fun r20 hr20 => ?_)
            refine pu_Si (rest := []) S hC (m_isHigh l γ _ r20) meModel_isHigh qw_7b38890176 ⟨Nat.le_of_ble_eq_true rfl, Nat.le_of_ble_eq_true rfl⟩ hM rfl hl.1 rfl (Nat.le_of_ble_eq_true rfl) dModel_isClear_36 ⟨Nat.zero_le _, Nat.zero_le _⟩ (fun r21 hr21 => ?_)
            refine lv_if_eq (tgt := 46) hx hb dModel_isClear_39 (by decide) (fun c22 => ?_) (fun c22 => ?_)
            · exact J46 ls  (lv_sub hl [0, 1, 2, 3] rfl)
            · exact J42 ls  (lv_sub hl [0, 1, 2, 3] rfl)
  exact J4 _ ls 0 1 (by first | decide | exact nn_inc (by assumption) (by assumption) (by assumption)) (by first | assumption | exact Or.inl rfl | exact Or.inr rfl) rfl (lv_sub hl [2, 3, 1, 0] rfl)
theorem qw_6824d59f67 : (Cond.constantLong R_Model 141 2) ∈ bs_W0 := bs_in (in_tables_1_6 (List.mem_of_getElem? (i := 155) rfl)) rfl
set_option maxHeartbeats 4000000 in
set_option maxRecDepth 100000 in
theorem m_numberOf (l : Launch) (γ : gE) (a : Nat) (B : Nat → Nat) (Z : Nat → Prop) (κ b mn : Nat → Nat) (ν : Nat → Int32) (τ : Nat → Nat → Int32) (σ : Nat → Int32) (F : Nat → Nat → Int32) (nu : Nat → Int64) (hT : ST κ b mn ν τ) (x1 : Int32) (hx1 : vp_in x1 (4000)) (hZ : SZ F) : PU l yModel_numberOf bModel_numberOf 5 (some .long) 1 22 [.ref a, .int x1] γ (MD γ a B Z ν τ σ F nu) (vp_Sl (fun v : Int64 => True)) := by
  refine pu_openJ (by decide) (Nat.le_of_ble_eq_true rfl) ?_
  intro p e s m args below meth c ls Q S hC hM hE hl
  obtain ⟨hx, hb, hml, hown, hW⟩ := id S
  obtain ⟨⟨hs0, hs1, hs2, hs3, hs4, hs5, hs6⟩, ⟨hv6, hv8, hv21, hv24, hv30, hv31⟩, hTR, hTY, hOB, hNM⟩ := id hT
  have hl : lv_has ls 5 [(0, .ref a), (1, .int x1)] := hl
  refine lv_lconst (v := 0) hx hb dModel_numberOf_0 (by decide) ?_
  refine lv_lstore_n (lv' := [(2, .long 0), (0, .ref a), (1, .int x1)]) hx hb dModel_numberOf_1 rfl hl (by decide) rfl (fun ls hl => ?_)
  refine lv_aload_n hx hb dModel_numberOf_2 rfl (lv_at hl 1 rfl) ?_
  refine md_gA S hC hM 10 (by decide) rfl qw_bd0251c605 dModel_numberOf_3 ?_
  refine lv_iload_n hx hb dModel_numberOf_6 rfl (lv_at hl 2 rfl) ?_
  refine md_ild S hC hM 10 6 10000 (F 10) rfl rfl (by decide) rfl rfl (vin (by assumption) (by omega)) dModel_numberOf_7 ?_
  refine lv_topi (fun v1 ev1 => ?_)
  refine lv_iconst (v := 1) hx hb dModel_numberOf_8 (by decide) ?_
  refine lv_isub hx hb dModel_numberOf_9 ?_
  refine lv_topi (fun v2 ev2 => ?_)
  refine lv_istore (lv' := [(4, .int v2), (2, .long 0), (0, .ref a), (1, .int x1)]) hx hb dModel_numberOf_10 hl (by decide) rfl (fun ls hl => ?_)
  have J12 : ∀ (N12 : Nat) (ls : Array Slot) (i4_12 : Int32) (i2_12 : Int64), (i4_12.toInt < 1000) → (i4_12.toInt + 2147483648).toNat = N12 → lv_has ls 5 [(0, .ref a), (1, .int x1), (2, .long i2_12), (4, .int i4_12)] → W p l e (bs_rm 1 0 0 22) s m args below meth c s.heap [] 0 0 Q (F0 m 12 ls []) := by
    intro N12
    induction N12 using Nat.strongRecOn with
    | ind N12 ih12 =>
      intro ls i4_12 i2_12 hi4 hm12 hl
      refine lv_iload hx hb dModel_numberOf_12 (lv_at hl 3 rfl) ?_
      refine lv_if_lt (tgt := 48) hx hb dModel_numberOf_14 (by decide) (fun c3 => ?_) (fun c3 => ?_)
      · refine lv_lload_n hx hb dModel_numberOf_48 rfl (lv_at hl 2 rfl) ?_
        exact hE _ _ _ trivial dModel_numberOf_49
      · have hnn := i0_int (by assumption)
        have hin4 : vp_in i4_12 1000 := vin_le (by assumption) hi4
        have hdn : -2147483648 < i4_12.toInt := by omega
        refine lv_ldc2 (v := 2) hx hb hown (hW _ qw_6824d59f67) dModel_numberOf_17 ?_
        refine lv_lload_n hx hb dModel_numberOf_20 rfl (lv_at hl 2 rfl) ?_
        refine lv_lmul hx hb dModel_numberOf_21 ?_
        refine lv_topl (fun v4 ev4 => ?_)
        refine lv_aload_n hx hb dModel_numberOf_22 rfl (lv_at hl 0 rfl) ?_
        refine lv_iload_n hx hb dModel_numberOf_23 rfl (lv_at hl 1 rfl) ?_
        refine lv_iload hx hb dModel_numberOf_24 (lv_at hl 3 rfl) ?_
        refine pu_Vi (rest := [.long v4]) S hC (m_element l γ a B Z κ b mn ν τ σ F nu hT x1 i4_12 (el_in (by assumption) (by assumption) (by omega))) meModel_element qw_ceb3d87d61 ⟨Nat.le_of_ble_eq_true rfl, Nat.le_of_ble_eq_true rfl⟩ (md_rv hC hM) hM rfl hl.1 rfl (Nat.le_of_ble_eq_true rfl) dModel_numberOf_26 ⟨Nat.zero_le _, Nat.zero_le _⟩ (fun r5 hr5 => ?_)
        refine pu_Si (rest := [.long v4]) S hC (m_isHigh l γ _ r5) meModel_isHigh qw_7b38890176 ⟨Nat.le_of_ble_eq_true rfl, Nat.le_of_ble_eq_true rfl⟩ hM rfl hl.1 rfl (Nat.le_of_ble_eq_true rfl) dModel_numberOf_29 ⟨Nat.zero_le _, Nat.zero_le _⟩ (fun r6 hr6 => ?_)
        have J40 : ∀ (ls : Array Slot) (t0_40 : Int64), lv_has ls 5 [(0, .ref a), (1, .int x1), (2, .long i2_12), (4, .int i4_12)] → W p l e (bs_rm 1 0 0 22) s m args below meth c s.heap [] 0 0 Q (F0 m 40 ls [.long t0_40, .long v4]) := by
          intro ls t0_40 hl
          refine lv_ladd hx hb dModel_numberOf_40 ?_
          refine lv_topl (fun v10 ev10 => ?_)
          refine lv_lstore_n (lv' := [(2, .long v10), (0, .ref a), (1, .int x1), (4, .int i4_12)]) hx hb dModel_numberOf_41 rfl hl (by decide) rfl (fun ls hl => ?_)
          obtain ⟨v11, ev11⟩ : ∃ y : Int32, y = i4_12 + (-1) := ⟨_, rfl⟩
          refine lv_iinc (v := v11) (lv' := [(4, .int v11), (2, .long v10), (0, .ref a), (1, .int x1)]) hx hb dModel_numberOf_42 hl (k := 3) rfl (by rw [ev11]; rfl) (by decide) rfl (fun ls hl => ?_)
          refine lv_goto (tgt := 12) hx hb dModel_numberOf_45 (by decide) ?_
          exact ih12 _ (by have q1 : -2147483648 < i4_12.toInt := (by first | assumption | omega); have q2 := mu_dn q1; rw [← ev11] at q2; omega) ls v11 v10 (by have q1 := mu_dn (k := i4_12) (by assumption); rw [← ev11] at q1; omega) rfl (lv_sub hl [2, 3, 1, 0] rfl)
        refine lv_if_eq (tgt := 39) hx hb dModel_numberOf_32 (by decide) (fun c12 => ?_) (fun c12 => ?_)
        · refine lv_lconst (v := 0) hx hb dModel_numberOf_39 (by decide) ?_
          exact J40 ls 0 (lv_sub hl [0, 1, 2, 3] rfl)
        · refine lv_lconst (v := 1) hx hb dModel_numberOf_35 (by decide) ?_
          refine lv_goto (tgt := 40) hx hb dModel_numberOf_36 (by decide) ?_
          exact J40 ls 1 (lv_sub hl [0, 1, 2, 3] rfl)
  exact J12 _ ls v2 0 (by rw [ev2]; exact sz_pred hZ (vix (vin hx1 (by omega))) (by assumption)) rfl (lv_sub hl [2, 3, 1, 0] rfl)
theorem qw_143403ccb9 : (Cond.methodLink R_Model 127 yModel_setElement) ∈ bs_W0 := bs_in (in_tables_1_6 (List.mem_of_getElem? (i := 79) rfl)) rfl
set_option maxHeartbeats 4000000 in
set_option maxRecDepth 100000 in
theorem m_bits (l : Launch) (γ : gE) (a : Nat) (B : Nat → Nat) (Z : Nat → Prop) (κ b mn : Nat → Nat) (ν : Nat → Int32) (τ : Nat → Nat → Int32) (σ : Nat → Int32) (F : Nat → Nat → Int32) (nu : Nat → Int64) (hT : ST κ b mn ν τ) (x1 : Int32) (x2 : Int64) (hx1 : vp_in x1 (4000)) (hZ : SZ F) : MU l yModel_bits bModel_bits 5 (none) 1 23 0 0 [.ref a, .int x1, .long x2] γ Z (MD γ a B Z ν τ σ F nu) (mQv (fun H => ∃ F' : Nat → Nat → Int32, MD γ a B Z ν τ σ F' nu H ∧ EQ14 F F') Z) := by
  refine mu_openV (by decide) (Nat.le_of_ble_eq_true rfl) ?_
  intro p e s m args below meth c ls Q S hnm hC hA hM hE hl
  have hS : va_S Z s.heap s.heap [] := va_S.rf
  obtain ⟨hx, hb, hml, hown, hW⟩ := id S
  obtain ⟨⟨hs0, hs1, hs2, hs3, hs4, hs5, hs6⟩, ⟨hv6, hv8, hv21, hv24, hv30, hv31⟩, hTR, hTY, hOB, hNM⟩ := id hT
  have hl : lv_has ls 5 [(0, .ref a), (1, .int x1), (2, .long x2)] := hl
  have hE4 : EQ14 F F := EQ14.rf
  refine lv_iconst (v := 0) hx hb dModel_bits_0 (by decide) ?_
  refine lv_istore (lv' := [(4, .int 0), (0, .ref a), (1, .int x1), (2, .long x2)]) hx hb dModel_bits_1 hl (by decide) rfl (fun ls hl => ?_)
  have J3 : ∀ (N3 : Nat) (ls : Array Slot) (H : Heap) (locs : List Loc) (F_3 : Nat → Nat → Int32) (i4_3 : Int32), MD γ a B Z ν τ σ F_3 nu H → va_S Z s.heap H locs → (EQ14 F F_3) → (SZ F_3) → (¬ i4_3 < 0) → (2147483647 - i4_3.toInt).toNat = N3 → lv_has ls 5 [(0, .ref a), (1, .int x1), (2, .long x2), (4, .int i4_3)] → W p l e (bs_rm 1 0 0 23) s m args below meth c H locs 0 0 Q (F0 m 3 ls []) := by
    intro N3
    induction N3 using Nat.strongRecOn with
    | ind N3 ih3 =>
      intro ls H locs F_3 i4_3 hM hS hE4 hZ hi4_3 hm3 hl
      refine lv_iload hx hb dModel_bits_3 (lv_at hl 3 rfl) ?_
      refine lv_aload_n hx hb dModel_bits_5 rfl (lv_at hl 0 rfl) ?_
      refine md_gA S hC hM 10 (by decide) rfl qw_bd0251c605 dModel_bits_6 ?_
      refine lv_iload_n hx hb dModel_bits_9 rfl (lv_at hl 1 rfl) ?_
      refine md_ild S hC hM 10 6 10000 (F_3 10) rfl rfl (by decide) rfl rfl (vin (by assumption) (by omega)) dModel_bits_10 ?_
      refine lv_topi (fun v1 ev1 => ?_)
      refine lv_icmp_ge (tgt := 43) hx hb dModel_bits_11 (by decide) (fun c2 => ?_) (fun c2 => ?_)
      · exact hE _ _ _ _ hS ⟨F_3, hM, hE4⟩ dModel_bits_43
      · have hin4 : vp_in i4_3 1000 := vsz hZ (vix (vin hx1 (by omega))) (by assumption) (by assumption) (by assumption)
        refine lv_aload_n hx hb dModel_bits_14 rfl (lv_at hl 0 rfl) ?_
        refine lv_iload_n hx hb dModel_bits_15 rfl (lv_at hl 1 rfl) ?_
        refine lv_iload hx hb dModel_bits_16 (lv_at hl 3 rfl) ?_
        refine lv_lload_n hx hb dModel_bits_18 rfl (lv_at hl 2 rfl) ?_
        refine lv_iload hx hb dModel_bits_19 (lv_at hl 3 rfl) ?_
        refine lv_lshr hx hb dModel_bits_21 rfl ?_
        refine lv_topl (fun v3 ev3 => ?_)
        refine lv_lconst (v := 1) hx hb dModel_bits_22 (by decide) ?_
        refine lv_land hx hb dModel_bits_23 ?_
        refine lv_topl (fun v4 ev4 => ?_)
        refine lv_lconst (v := 1) hx hb dModel_bits_24 (by decide) ?_
        refine W.lcmp hx hb dModel_bits_25 ?_
        refine lv_topi (fun v5 ev5 => ?_)
        have J34 : ∀ (ls : Array Slot) (t0_34 : Int32), lv_has ls 5 [(0, .ref a), (1, .int x1), (2, .long x2), (4, .int i4_3)] → W p l e (bs_rm 1 0 0 23) s m args below meth c H locs 0 0 Q (F0 m 34 ls [.int t0_34, .int i4_3, .int x1, .ref a]) := by
          intro ls t0_34 hl
          refine mu_Vv (rest := []) S hC (fun q h => hA q (Nat.le_trans hS.1 h)) (fun q h => h) hS (m_setElement l γ a B Z κ b mn ν τ σ F_3 nu hT x1 i4_3 t0_34 (el_in (by assumption) (by assumption) (by omega))) meModel_setElement qw_143403ccb9 ⟨Nat.le_of_ble_eq_true rfl, Nat.le_of_ble_eq_true rfl⟩ (md_rv hC hM) hM rfl hl.1 rfl (Nat.le_of_ble_eq_true rfl) dModel_bits_34 ⟨Nat.le_refl _, Nat.le_refl _⟩ (fun H locs hPO hS _ _ => ?_)
          obtain ⟨Fr9, hM, hqr9⟩ := hPO
          have hZ : SZ Fr9 := hZ.e14 hqr9
          have hE4 : EQ14 F Fr9 := hE4.trans hqr9
          obtain ⟨v10, ev10⟩ : ∃ y : Int32, y = i4_3 + 1 := ⟨_, rfl⟩
          refine lv_iinc (v := v10) (lv' := [(4, .int v10), (0, .ref a), (1, .int x1), (2, .long x2)]) hx hb dModel_bits_37 hl (k := 3) rfl (by rw [ev10]; rfl) (by decide) rfl (fun ls hl => ?_)
          refine lv_goto (tgt := 3) hx hb dModel_bits_40 (by decide) ?_
          exact ih3 _ (by have q1 : i4_3.toInt < 2147483647 := (by first | assumption | exact (mu_up (k := i4_3) (by assumption)).2); have q2 := mu_lt q1; rw [← ev10] at q2; omega) ls _ _ Fr9 v10 hM hS hE4 hZ (by first | decide | exact nn_inc (by assumption) (by assumption) (by assumption)) rfl (lv_sub hl [1, 2, 3, 0] rfl)
        refine lv_if_ne (tgt := 33) hx hb dModel_bits_26 (by decide) (fun c11 => ?_) (fun c11 => ?_)
        · refine lv_iconst (v := 2) hx hb dModel_bits_33 (by decide) ?_
          exact J34 ls 2 (lv_sub hl [0, 1, 2, 3] rfl)
        · refine lv_iconst (v := 3) hx hb dModel_bits_29 (by decide) ?_
          refine lv_goto (tgt := 34) hx hb dModel_bits_30 (by decide) ?_
          exact J34 ls 3 (lv_sub hl [0, 1, 2, 3] rfl)
  exact J3 _ ls _ _ F 0 hM hS hE4 hZ (by first | decide | exact nn_inc (by assumption) (by assumption) (by assumption)) rfl (lv_sub hl [1, 2, 3, 0] rfl)
theorem qw_a119aeeca0 : (Cond.fieldLink R_Model 29 R_Model "is" "[I") ∈ bs_W0 := bs_in (in_tables_1_5 (List.mem_of_getElem? (i := 162) rfl)) rfl
theorem qw_88b9028ba7 : (Cond.fieldLink R_Model 35 R_Model "constant" "[Z") ∈ bs_W0 := bs_in (in_tables_1_5 (List.mem_of_getElem? (i := 164) rfl)) rfl
theorem qw_19df235c4a : (Cond.fieldLink R_Model 39 R_Model "meaning" "[I") ∈ bs_W0 := bs_in (in_tables_1_5 (List.mem_of_getElem? (i := 165) rfl)) rfl
theorem qw_7b809afc8c : (Cond.fieldLink R_Model 42 R_Model "number" "[J") ∈ bs_W0 := bs_in (in_tables_1_5 (List.mem_of_getElem? (i := 166) rfl)) rfl
set_option maxHeartbeats 4000000 in
set_option maxRecDepth 100000 in
theorem m_fact (l : Launch) (γ : gE) (a : Nat) (B : Nat → Nat) (Z : Nat → Prop) (κ b mn : Nat → Nat) (ν : Nat → Int32) (τ : Nat → Nat → Int32) (σ : Nat → Int32) (F : Nat → Nat → Int32) (nu : Nat → Int64) (hT : ST κ b mn ν τ) (x1 : Int32) (x2 : Int32) (x3 : Int32) (x4 : Int32) (hx1 : vp_in x1 (10000)) (hn : ∃ j, j ≤ 1000 ∧ x3 = nI j) : MU l yModel_fact bModel_fact 6 (none) 1 23 0 0 [.ref a, .int x1, .int x2, .int x3, .int x4] γ Z (MD γ a B Z ν τ σ F nu) (mQv (fun H => ∃ (F' : Nat → Nat → Int32) (nu' : Nat → Int64), MD γ a B Z ν τ σ F' nu' H ∧ SLT x1.toNatClampNeg x2 x3 0 F nu F' nu' ∧ F' 11 = upd (F 11) x1.toNatClampNeg (vp_nar .boolean x4)) Z) := by
  refine mu_openV (by decide) (Nat.le_of_ble_eq_true rfl) ?_
  intro p e s m args below meth c ls Q S hnm hC hA hM hE hl
  have hS : va_S Z s.heap s.heap [] := va_S.rf
  obtain ⟨hx, hb, hml, hown, hW⟩ := id S
  obtain ⟨⟨hs0, hs1, hs2, hs3, hs4, hs5, hs6⟩, ⟨hv6, hv8, hv21, hv24, hv30, hv31⟩, hTR, hTY, hOB, hNM⟩ := id hT
  have hl : lv_has ls 6 [(0, .ref a), (1, .int x1), (2, .int x2), (3, .int x3), (4, .int x4)] := hl
  refine lv_aload_n hx hb dModel_fact_0 rfl (lv_at hl 0 rfl) ?_
  refine md_gA S hC hM 9 (by decide) rfl qw_a119aeeca0 dModel_fact_1 ?_
  refine lv_iload_n hx hb dModel_fact_4 rfl (lv_at hl 1 rfl) ?_
  refine lv_iload_n hx hb dModel_fact_5 rfl (lv_at hl 2 rfl) ?_
  refine md_istD S hC hM hS 9 5 10000 rfl rfl (by decide) rfl rfl (vin (by assumption) (by omega)) dModel_fact_6 (fun H locs hM hS => ?_)
  obtain ⟨F1, eF1⟩ : ∃ z : Nat → Nat → Int32, z = Au F 9 x1.toNatClampNeg x2 := ⟨_, rfl⟩
  rw [← eF1] at hM
  refine lv_aload_n hx hb dModel_fact_7 rfl (lv_at hl 0 rfl) ?_
  refine md_gA S hC hM 10 (by decide) rfl qw_bd0251c605 dModel_fact_8 ?_
  refine lv_iload_n hx hb dModel_fact_11 rfl (lv_at hl 1 rfl) ?_
  refine lv_iload_n hx hb dModel_fact_12 rfl (lv_at hl 3 rfl) ?_
  refine md_istD S hC hM hS 10 6 10000 rfl rfl (by decide) rfl rfl (vin (by assumption) (by omega)) dModel_fact_13 (fun H locs hM hS => ?_)
  obtain ⟨F2, eF2⟩ : ∃ z : Nat → Nat → Int32, z = Au F1 10 x1.toNatClampNeg x3 := ⟨_, rfl⟩
  rw [← eF2] at hM
  refine lv_aload_n hx hb dModel_fact_14 rfl (lv_at hl 0 rfl) ?_
  refine md_gA S hC hM 11 (by decide) rfl qw_88b9028ba7 dModel_fact_15 ?_
  refine lv_iload_n hx hb dModel_fact_18 rfl (lv_at hl 1 rfl) ?_
  refine lv_iload hx hb dModel_fact_19 (lv_at hl 4 rfl) ?_
  refine md_zstD S hC hM hS 11 7 10000 rfl rfl (by decide) rfl rfl (vin (by assumption) (by omega)) dModel_fact_21 (fun H locs hM hS => ?_)
  obtain ⟨F3, eF3⟩ : ∃ z : Nat → Nat → Int32, z = Au F2 11 x1.toNatClampNeg (vp_nar .boolean x4) := ⟨_, rfl⟩
  rw [← eF3] at hM
  refine lv_aload_n hx hb dModel_fact_22 rfl (lv_at hl 0 rfl) ?_
  refine md_gA S hC hM 12 (by decide) rfl qw_19df235c4a dModel_fact_23 ?_
  refine lv_iload_n hx hb dModel_fact_26 rfl (lv_at hl 1 rfl) ?_
  refine lv_iconst (v := (-1)) hx hb dModel_fact_27 (by decide) ?_
  refine md_istD S hC hM hS 12 8 10000 rfl rfl (by decide) rfl rfl (vin (by assumption) (by omega)) dModel_fact_28 (fun H locs hM hS => ?_)
  obtain ⟨F4, eF4⟩ : ∃ z : Nat → Nat → Int32, z = Au F3 12 x1.toNatClampNeg (-1) := ⟨_, rfl⟩
  rw [← eF4] at hM
  refine lv_aload_n hx hb dModel_fact_29 rfl (lv_at hl 0 rfl) ?_
  refine md_gA S hC hM 13 (by decide) rfl qw_7b809afc8c dModel_fact_30 ?_
  refine lv_iload_n hx hb dModel_fact_33 rfl (lv_at hl 1 rfl) ?_
  refine lv_lconst (v := 0) hx hb dModel_fact_34 (by decide) ?_
  refine md_lst S hC hM hS (vin (by assumption) (by omega)) dModel_fact_35 (fun H locs hM hS => ?_)
  obtain ⟨nu5, enu5⟩ : ∃ z : Nat → Int64, z = vp_updL nu x1.toNatClampNeg 0 := ⟨_, rfl⟩
  rw [← enu5] at hM
  have hE4 : EQ14 F4 F4 := EQ14.rf
  refine lv_iconst (v := 0) hx hb dModel_fact_36 (by decide) ?_
  refine lv_istore (lv' := [(5, .int 0), (0, .ref a), (1, .int x1), (2, .int x2), (3, .int x3), (4, .int x4)]) hx hb dModel_fact_37 hl (by decide) rfl (fun ls hl => ?_)
  have J39 : ∀ (N39 : Nat) (ls : Array Slot) (H : Heap) (locs : List Loc) (F_39 : Nat → Nat → Int32) (i5_39 : Int32), MD γ a B Z ν τ σ F_39 nu5 H → va_S Z s.heap H locs → (EQ14 F4 F_39) → (¬ i5_39 < 0) → (2147483647 - i5_39.toInt).toNat = N39 → lv_has ls 6 [(0, .ref a), (1, .int x1), (2, .int x2), (3, .int x3), (4, .int x4), (5, .int i5_39)] → W p l e (bs_rm 1 0 0 23) s m args below meth c H locs 0 0 Q (F0 m 39 ls []) := by
    intro N39
    induction N39 using Nat.strongRecOn with
    | ind N39 ih39 =>
      intro ls H locs F_39 i5_39 hM hS hE4 hi5_39 hm39 hl
      refine lv_iload hx hb dModel_fact_39 (lv_at hl 5 rfl) ?_
      refine lv_bipush (v := 64) hx hb dModel_fact_41 (by decide) ?_
      refine lv_icmp_ge (tgt := 60) hx hb dModel_fact_43 (by decide) (fun c6 => ?_) (fun c6 => ?_)
      · exact hE _ _ _ _ hS (by have h9 := slt_fact eF1 eF2 eF3 eF4 hE4 enu5; exact ⟨F_39, nu5, hM, h9.1, h9.2⟩) dModel_fact_60
      · have hin5 : vp_in i5_39 64 := in_cmp (by assumption) (by assumption) (by omega)
        refine lv_aload_n hx hb dModel_fact_46 rfl (lv_at hl 0 rfl) ?_
        refine lv_iload_n hx hb dModel_fact_47 rfl (lv_at hl 1 rfl) ?_
        refine lv_iload hx hb dModel_fact_48 (lv_at hl 5 rfl) ?_
        refine lv_iconst (v := 0) hx hb dModel_fact_50 (by decide) ?_
        refine mu_Vv (rest := []) S hC (fun q h => hA q (Nat.le_trans hS.1 h)) (fun q h => h) hS (m_setElement l γ a B Z κ b mn ν τ σ F_39 nu5 hT x1 i5_39 0 (el_in (by assumption) (by assumption) (by omega))) meModel_setElement qw_143403ccb9 ⟨Nat.le_of_ble_eq_true rfl, Nat.le_of_ble_eq_true rfl⟩ (md_rv hC hM) hM rfl hl.1 rfl (Nat.le_of_ble_eq_true rfl) dModel_fact_51 ⟨Nat.le_refl _, Nat.le_refl _⟩ (fun H locs hPO hS _ _ => ?_)
        obtain ⟨Fr7, hM, hqr7⟩ := hPO
        have hE4 : EQ14 F4 Fr7 := hE4.trans hqr7
        obtain ⟨v8, ev8⟩ : ∃ y : Int32, y = i5_39 + 1 := ⟨_, rfl⟩
        refine lv_iinc (v := v8) (lv' := [(5, .int v8), (0, .ref a), (1, .int x1), (2, .int x2), (3, .int x3), (4, .int x4)]) hx hb dModel_fact_54 hl (k := 5) rfl (by rw [ev8]; rfl) (by decide) rfl (fun ls hl => ?_)
        refine lv_goto (tgt := 39) hx hb dModel_fact_57 (by decide) ?_
        exact ih39 _ (by have q1 : i5_39.toInt < 2147483647 := (by first | assumption | exact (mu_up (k := i5_39) (by assumption)).2); have q2 := mu_lt q1; rw [← ev8] at q2; omega) ls _ _ Fr7 v8 hM hS hE4 (by first | decide | exact nn_inc (by assumption) (by assumption) (by assumption)) rfl (lv_sub hl [1, 2, 3, 4, 5, 0] rfl)
  exact J39 _ ls _ _ F4 0 hM hS hE4 (by first | decide | exact nn_inc (by assumption) (by assumption) (by assumption)) rfl (lv_sub hl [1, 2, 3, 4, 5, 0] rfl)
set_option maxHeartbeats 4000000 in
set_option maxRecDepth 100000 in
theorem m_copy (l : Launch) (γ : gE) (a : Nat) (B : Nat → Nat) (Z : Nat → Prop) (κ b mn : Nat → Nat) (ν : Nat → Int32) (τ : Nat → Nat → Int32) (σ : Nat → Int32) (F : Nat → Nat → Int32) (nu : Nat → Int64) (hT : ST κ b mn ν τ) (x1 : Int32) (x2 : Int32) (hx1 : vp_in x1 (10000)) (hx2 : vp_in x2 (10000)) : MU l yModel_copy bModel_copy 4 (none) 1 23 0 0 [.ref a, .int x1, .int x2] γ Z (MD γ a B Z ν τ σ F nu) (mQv (fun H => ∃ (F' : Nat → Nat → Int32) (nu' : Nat → Int64), MD γ a B Z ν τ σ F' nu' H ∧ SLT x2.toNatClampNeg (F 9 x1.toNatClampNeg) (F 10 x1.toNatClampNeg) (nu x1.toNatClampNeg) F nu F' nu') Z) := by
  refine mu_openV (by decide) (Nat.le_of_ble_eq_true rfl) ?_
  intro p e s m args below meth c ls Q S hnm hC hA hM hE hl
  have hS : va_S Z s.heap s.heap [] := va_S.rf
  obtain ⟨hx, hb, hml, hown, hW⟩ := id S
  obtain ⟨⟨hs0, hs1, hs2, hs3, hs4, hs5, hs6⟩, ⟨hv6, hv8, hv21, hv24, hv30, hv31⟩, hTR, hTY, hOB, hNM⟩ := id hT
  have hl : lv_has ls 4 [(0, .ref a), (1, .int x1), (2, .int x2)] := hl
  refine lv_aload_n hx hb dModel_copy_0 rfl (lv_at hl 0 rfl) ?_
  refine md_gA S hC hM 9 (by decide) rfl qw_a119aeeca0 dModel_copy_1 ?_
  refine lv_iload_n hx hb dModel_copy_4 rfl (lv_at hl 2 rfl) ?_
  refine lv_aload_n hx hb dModel_copy_5 rfl (lv_at hl 0 rfl) ?_
  refine md_gA S hC hM 9 (by decide) rfl qw_a119aeeca0 dModel_copy_6 ?_
  refine lv_iload_n hx hb dModel_copy_9 rfl (lv_at hl 1 rfl) ?_
  refine md_ild S hC hM 9 5 10000 (F 9) rfl rfl (by decide) rfl rfl (vin (by assumption) (by omega)) dModel_copy_10 ?_
  refine lv_topi (fun v1 ev1 => ?_)
  refine md_istD S hC hM hS 9 5 10000 rfl rfl (by decide) rfl rfl (vin (by assumption) (by omega)) dModel_copy_11 (fun H locs hM hS => ?_)
  obtain ⟨F2, eF2⟩ : ∃ z : Nat → Nat → Int32, z = Au F 9 x2.toNatClampNeg v1 := ⟨_, rfl⟩
  rw [← eF2] at hM
  refine lv_aload_n hx hb dModel_copy_12 rfl (lv_at hl 0 rfl) ?_
  refine md_gA S hC hM 10 (by decide) rfl qw_bd0251c605 dModel_copy_13 ?_
  refine lv_iload_n hx hb dModel_copy_16 rfl (lv_at hl 2 rfl) ?_
  refine lv_aload_n hx hb dModel_copy_17 rfl (lv_at hl 0 rfl) ?_
  refine md_gA S hC hM 10 (by decide) rfl qw_bd0251c605 dModel_copy_18 ?_
  refine lv_iload_n hx hb dModel_copy_21 rfl (lv_at hl 1 rfl) ?_
  refine md_ild S hC hM 10 6 10000 (F2 10) rfl rfl (by decide) rfl rfl (vin (by assumption) (by omega)) dModel_copy_22 ?_
  refine lv_topi (fun v3 ev3 => ?_)
  refine md_istD S hC hM hS 10 6 10000 rfl rfl (by decide) rfl rfl (vin (by assumption) (by omega)) dModel_copy_23 (fun H locs hM hS => ?_)
  obtain ⟨F4, eF4⟩ : ∃ z : Nat → Nat → Int32, z = Au F2 10 x2.toNatClampNeg v3 := ⟨_, rfl⟩
  rw [← eF4] at hM
  refine lv_aload_n hx hb dModel_copy_24 rfl (lv_at hl 0 rfl) ?_
  refine md_gA S hC hM 11 (by decide) rfl qw_88b9028ba7 dModel_copy_25 ?_
  refine lv_iload_n hx hb dModel_copy_28 rfl (lv_at hl 2 rfl) ?_
  refine lv_aload_n hx hb dModel_copy_29 rfl (lv_at hl 0 rfl) ?_
  refine md_gA S hC hM 11 (by decide) rfl qw_88b9028ba7 dModel_copy_30 ?_
  refine lv_iload_n hx hb dModel_copy_33 rfl (lv_at hl 1 rfl) ?_
  refine md_zld S hC hM 11 7 10000 (F4 11) rfl rfl (by decide) rfl rfl (vin (by assumption) (by omega)) dModel_copy_34 ?_
  refine lv_topi (fun v5 ev5 => ?_)
  refine md_zstD S hC hM hS 11 7 10000 rfl rfl (by decide) rfl rfl (vin (by assumption) (by omega)) dModel_copy_35 (fun H locs hM hS => ?_)
  obtain ⟨F6, eF6⟩ : ∃ z : Nat → Nat → Int32, z = Au F4 11 x2.toNatClampNeg (vp_nar .boolean v5) := ⟨_, rfl⟩
  rw [← eF6] at hM
  refine lv_aload_n hx hb dModel_copy_36 rfl (lv_at hl 0 rfl) ?_
  refine md_gA S hC hM 12 (by decide) rfl qw_19df235c4a dModel_copy_37 ?_
  refine lv_iload_n hx hb dModel_copy_40 rfl (lv_at hl 2 rfl) ?_
  refine lv_aload_n hx hb dModel_copy_41 rfl (lv_at hl 0 rfl) ?_
  refine md_gA S hC hM 12 (by decide) rfl qw_19df235c4a dModel_copy_42 ?_
  refine lv_iload_n hx hb dModel_copy_45 rfl (lv_at hl 1 rfl) ?_
  refine md_ild S hC hM 12 8 10000 (F6 12) rfl rfl (by decide) rfl rfl (vin (by assumption) (by omega)) dModel_copy_46 ?_
  refine lv_topi (fun v7 ev7 => ?_)
  refine md_istD S hC hM hS 12 8 10000 rfl rfl (by decide) rfl rfl (vin (by assumption) (by omega)) dModel_copy_47 (fun H locs hM hS => ?_)
  obtain ⟨F8, eF8⟩ : ∃ z : Nat → Nat → Int32, z = Au F6 12 x2.toNatClampNeg v7 := ⟨_, rfl⟩
  rw [← eF8] at hM
  refine lv_aload_n hx hb dModel_copy_48 rfl (lv_at hl 0 rfl) ?_
  refine md_gA S hC hM 13 (by decide) rfl qw_7b809afc8c dModel_copy_49 ?_
  refine lv_iload_n hx hb dModel_copy_52 rfl (lv_at hl 2 rfl) ?_
  refine lv_aload_n hx hb dModel_copy_53 rfl (lv_at hl 0 rfl) ?_
  refine md_gA S hC hM 13 (by decide) rfl qw_7b809afc8c dModel_copy_54 ?_
  refine lv_iload_n hx hb dModel_copy_57 rfl (lv_at hl 1 rfl) ?_
  refine md_lld S hC hM (vin (by assumption) (by omega)) dModel_copy_58 ?_
  refine lv_topl (fun v9 ev9 => ?_)
  have ev9 : v9 = nu x1.toNatClampNeg := ev9
  refine md_lst S hC hM hS (vin (by assumption) (by omega)) dModel_copy_59 (fun H locs hM hS => ?_)
  obtain ⟨nu10, enu10⟩ : ∃ z : Nat → Int64, z = vp_updL nu x2.toNatClampNeg v9 := ⟨_, rfl⟩
  rw [← enu10] at hM
  have hE4 : EQ14 F8 F8 := EQ14.rf
  refine lv_iconst (v := 0) hx hb dModel_copy_60 (by decide) ?_
  refine lv_istore_n (lv' := [(3, .int 0), (0, .ref a), (1, .int x1), (2, .int x2)]) hx hb dModel_copy_61 rfl hl (by decide) rfl (fun ls hl => ?_)
  have J62 : ∀ (N62 : Nat) (ls : Array Slot) (H : Heap) (locs : List Loc) (F_62 : Nat → Nat → Int32) (i3_62 : Int32), MD γ a B Z ν τ σ F_62 nu10 H → va_S Z s.heap H locs → (EQ14 F8 F_62) → (¬ i3_62 < 0) → (2147483647 - i3_62.toInt).toNat = N62 → lv_has ls 4 [(0, .ref a), (1, .int x1), (2, .int x2), (3, .int i3_62)] → W p l e (bs_rm 1 0 0 23) s m args below meth c H locs 0 0 Q (F0 m 62 ls []) := by
    intro N62
    induction N62 using Nat.strongRecOn with
    | ind N62 ih62 =>
      intro ls H locs F_62 i3_62 hM hS hE4 hi3_62 hm62 hl
      refine lv_iload_n hx hb dModel_copy_62 rfl (lv_at hl 3 rfl) ?_
      refine lv_bipush (v := 64) hx hb dModel_copy_63 (by decide) ?_
      refine lv_icmp_ge (tgt := 86) hx hb dModel_copy_65 (by decide) (fun c11 => ?_) (fun c11 => ?_)
      · exact hE _ _ _ _ hS (by have h9 := slt_fact eF2 eF4 eF6 eF8 hE4 enu10; rw [ev1, ev3, ev9, au_10 eF2] at h9; exact ⟨F_62, nu10, hM, h9.1⟩) dModel_copy_86
      · have hin3 : vp_in i3_62 64 := in_cmp (by assumption) (by assumption) (by omega)
        refine lv_aload_n hx hb dModel_copy_68 rfl (lv_at hl 0 rfl) ?_
        refine lv_iload_n hx hb dModel_copy_69 rfl (lv_at hl 2 rfl) ?_
        refine lv_iload_n hx hb dModel_copy_70 rfl (lv_at hl 3 rfl) ?_
        refine lv_aload_n hx hb dModel_copy_71 rfl (lv_at hl 0 rfl) ?_
        refine lv_iload_n hx hb dModel_copy_72 rfl (lv_at hl 1 rfl) ?_
        refine lv_iload_n hx hb dModel_copy_73 rfl (lv_at hl 3 rfl) ?_
        refine pu_Vi (rest := [.int i3_62, .int x2, .ref a]) S hC (m_element l γ a B Z κ b mn ν τ σ F_62 nu10 hT x1 i3_62 (el_in (by assumption) (by assumption) (by omega))) meModel_element qw_ceb3d87d61 ⟨Nat.le_of_ble_eq_true rfl, Nat.le_of_ble_eq_true rfl⟩ (md_rv hC hM) hM rfl hl.1 rfl (Nat.le_of_ble_eq_true rfl) dModel_copy_74 ⟨Nat.zero_le _, Nat.zero_le _⟩ (fun r12 hr12 => ?_)
        refine mu_Vv (rest := []) S hC (fun q h => hA q (Nat.le_trans hS.1 h)) (fun q h => h) hS (m_setElement l γ a B Z κ b mn ν τ σ F_62 nu10 hT x2 i3_62 r12 (el_in (by assumption) (by assumption) (by omega))) meModel_setElement qw_143403ccb9 ⟨Nat.le_of_ble_eq_true rfl, Nat.le_of_ble_eq_true rfl⟩ (md_rv hC hM) hM rfl hl.1 rfl (Nat.le_of_ble_eq_true rfl) dModel_copy_77 ⟨Nat.le_refl _, Nat.le_refl _⟩ (fun H locs hPO hS _ _ => ?_)
        obtain ⟨Fr13, hM, hqr13⟩ := hPO
        have hE4 : EQ14 F8 Fr13 := hE4.trans hqr13
        obtain ⟨v14, ev14⟩ : ∃ y : Int32, y = i3_62 + 1 := ⟨_, rfl⟩
        refine lv_iinc (v := v14) (lv' := [(3, .int v14), (0, .ref a), (1, .int x1), (2, .int x2)]) hx hb dModel_copy_80 hl (k := 3) rfl (by rw [ev14]; rfl) (by decide) rfl (fun ls hl => ?_)
        refine lv_goto (tgt := 62) hx hb dModel_copy_83 (by decide) ?_
        exact ih62 _ (by have q1 : i3_62.toInt < 2147483647 := (by first | assumption | exact (mu_up (k := i3_62) (by assumption)).2); have q2 := mu_lt q1; rw [← ev14] at q2; omega) ls _ _ Fr13 v14 hM hS hE4 (by first | decide | exact nn_inc (by assumption) (by assumption) (by assumption)) rfl (lv_sub hl [1, 2, 3, 0] rfl)
  exact J62 _ ls _ _ F8 0 hM hS hE4 (by first | decide | exact nn_inc (by assumption) (by assumption) (by assumption)) rfl (lv_sub hl [1, 2, 3, 0] rfl)
set_option maxHeartbeats 4000000 in
set_option maxRecDepth 100000 in
theorem m_known (l : Launch) (γ : gE) (a : Nat) (B : Nat → Nat) (Z : Nat → Prop) (κ b mn : Nat → Nat) (ν : Nat → Int32) (τ : Nat → Nat → Int32) (σ : Nat → Int32) (F : Nat → Nat → Int32) (nu : Nat → Int64) (hT : ST κ b mn ν τ) (x1 : Int32) (hx1 : vp_in x1 (4000)) : MU l yModel_known bModel_known 3 (some .int) 1 23 0 0 [.ref a, .int x1] γ Z (MD γ a B Z ν τ σ F nu) (mQi (fun r H => r = 0 ∧ ∃ (F' : Nat → Nat → Int32) (nu' : Nat → Int64), MD γ a B Z ν τ σ F' nu' H ∧ EQ14 F F' ∧ (nu' = nu ∨ nu' = vp_updL nu x1.toNatClampNeg 0)) Z) := by
  refine mu_openI (by decide) (Nat.le_of_ble_eq_true rfl) ?_
  intro p e s m args below meth c ls Q S hnm hC hA hM hE hl
  have hS : va_S Z s.heap s.heap [] := va_S.rf
  obtain ⟨hx, hb, hml, hown, hW⟩ := id S
  obtain ⟨⟨hs0, hs1, hs2, hs3, hs4, hs5, hs6⟩, ⟨hv6, hv8, hv21, hv24, hv30, hv31⟩, hTR, hTY, hOB, hNM⟩ := id hT
  have hl : lv_has ls 3 [(0, .ref a), (1, .int x1)] := hl
  have hE4 : EQ14 F F := EQ14.rf
  refine lv_aload_n hx hb dModel_known_0 rfl (lv_at hl 0 rfl) ?_
  refine md_gA S hC hM 11 (by decide) rfl qw_88b9028ba7 dModel_known_1 ?_
  refine lv_iload_n hx hb dModel_known_4 rfl (lv_at hl 1 rfl) ?_
  refine md_zld S hC hM 11 7 10000 (F 11) rfl rfl (by decide) rfl rfl (vin (by assumption) (by omega)) dModel_known_5 ?_
  refine lv_topi (fun v1 ev1 => ?_)
  refine lv_if_ne (tgt := 37) hx hb dModel_known_6 (by decide) (fun c2 => ?_) (fun c2 => ?_)
  · refine lv_iconst (v := 0) hx hb dModel_known_37 (by decide) ?_
    exact hE _ _ _ _ _ hS ⟨rfl, F, nu, hM, hE4, Or.inl rfl⟩ dModel_known_38
  · refine lv_aload_n hx hb dModel_known_9 rfl (lv_at hl 0 rfl) ?_
    refine md_gA S hC hM 13 (by decide) rfl qw_7b809afc8c dModel_known_10 ?_
    refine lv_iload_n hx hb dModel_known_13 rfl (lv_at hl 1 rfl) ?_
    refine lv_lconst (v := 0) hx hb dModel_known_14 (by decide) ?_
    refine md_lst S hC hM hS (vin (by assumption) (by omega)) dModel_known_15 (fun H locs hM hS => ?_)
    obtain ⟨nu3, enu3⟩ : ∃ z : Nat → Int64, z = vp_updL nu x1.toNatClampNeg 0 := ⟨_, rfl⟩
    rw [← enu3] at hM
    refine lv_iconst (v := 0) hx hb dModel_known_16 (by decide) ?_
    refine lv_istore_n (lv' := [(2, .int 0), (0, .ref a), (1, .int x1)]) hx hb dModel_known_17 rfl hl (by decide) rfl (fun ls hl => ?_)
    have J18 : ∀ (N18 : Nat) (ls : Array Slot) (H : Heap) (locs : List Loc) (F_18 : Nat → Nat → Int32) (i2_18 : Int32), MD γ a B Z ν τ σ F_18 nu3 H → va_S Z s.heap H locs → (EQ14 F F_18) → (¬ i2_18 < 0) → (2147483647 - i2_18.toInt).toNat = N18 → lv_has ls 3 [(0, .ref a), (1, .int x1), (2, .int i2_18)] → W p l e (bs_rm 1 0 0 23) s m args below meth c H locs 0 0 Q (F0 m 18 ls []) := by
      intro N18
      induction N18 using Nat.strongRecOn with
      | ind N18 ih18 =>
        intro ls H locs F_18 i2_18 hM hS hE4 hi2_18 hm18 hl
        refine lv_iload_n hx hb dModel_known_18 rfl (lv_at hl 2 rfl) ?_
        refine lv_bipush (v := 64) hx hb dModel_known_19 (by decide) ?_
        refine lv_icmp_ge (tgt := 37) hx hb dModel_known_21 (by decide) (fun c4 => ?_) (fun c4 => ?_)
        · refine lv_iconst (v := 0) hx hb dModel_known_37 (by decide) ?_
          exact hE _ _ _ _ _ hS ⟨rfl, F_18, nu3, hM, hE4, Or.inr enu3⟩ dModel_known_38
        · have hin2 : vp_in i2_18 64 := in_cmp (by assumption) (by assumption) (by omega)
          refine lv_aload_n hx hb dModel_known_24 rfl (lv_at hl 0 rfl) ?_
          refine lv_iload_n hx hb dModel_known_25 rfl (lv_at hl 1 rfl) ?_
          refine lv_iload_n hx hb dModel_known_26 rfl (lv_at hl 2 rfl) ?_
          refine lv_iconst (v := 0) hx hb dModel_known_27 (by decide) ?_
          refine mu_Vv (rest := []) S hC (fun q h => hA q (Nat.le_trans hS.1 h)) (fun q h => h) hS (m_setElement l γ a B Z κ b mn ν τ σ F_18 nu3 hT x1 i2_18 0 (el_in (by assumption) (by assumption) (by omega))) meModel_setElement qw_143403ccb9 ⟨Nat.le_of_ble_eq_true rfl, Nat.le_of_ble_eq_true rfl⟩ (md_rv hC hM) hM rfl hl.1 rfl (Nat.le_of_ble_eq_true rfl) dModel_known_28 ⟨Nat.le_refl _, Nat.le_refl _⟩ (fun H locs hPO hS _ _ => ?_)
          obtain ⟨Fr5, hM, hqr5⟩ := hPO
          have hE4 : EQ14 F Fr5 := hE4.trans hqr5
          obtain ⟨v6, ev6⟩ : ∃ y : Int32, y = i2_18 + 1 := ⟨_, rfl⟩
          refine lv_iinc (v := v6) (lv' := [(2, .int v6), (0, .ref a), (1, .int x1)]) hx hb dModel_known_31 hl (k := 2) rfl (by rw [ev6]; rfl) (by decide) rfl (fun ls hl => ?_)
          refine lv_goto (tgt := 18) hx hb dModel_known_34 (by decide) ?_
          exact ih18 _ (by have q1 : i2_18.toInt < 2147483647 := (by first | assumption | exact (mu_up (k := i2_18) (by assumption)).2); have q2 := mu_lt q1; rw [← ev6] at q2; omega) ls _ _ Fr5 v6 hM hS hE4 (by first | decide | exact nn_inc (by assumption) (by assumption) (by assumption)) rfl (lv_sub hl [1, 2, 0] rfl)
    exact J18 _ ls _ _ F 0 hM hS hE4 (by first | decide | exact nn_inc (by assumption) (by assumption) (by assumption)) rfl (lv_sub hl [1, 2, 0] rfl)
theorem qw_9bd8ea24bb : (Cond.fieldLink R_Model 54 R_Model "typeClass" "[I") ∈ bs_W0 := bs_in (in_tables_1_5 (List.mem_of_getElem? (i := 169) rfl)) rfl
theorem qw_c139dbceda : (Cond.fieldLink R_Model 63 R_Model "count" "[I") ∈ bs_W0 := bs_in (in_tables_1_5 (List.mem_of_getElem? (i := 172) rfl)) rfl
theorem qw_02871250ec : (Cond.methodLink R_Model 147 yModel_fact) ∈ bs_W0 := bs_in (in_tables_1_6 (List.mem_of_getElem? (i := 87) rfl)) rfl
set_option maxHeartbeats 4000000 in
set_option maxRecDepth 100000 in
theorem m_factOfType (l : Launch) (γ : gE) (a : Nat) (B : Nat → Nat) (Z : Nat → Prop) (κ b mn : Nat → Nat) (ν : Nat → Int32) (τ : Nat → Nat → Int32) (σ : Nat → Int32) (F : Nat → Nat → Int32) (nu : Nat → Int64) (hT : ST κ b mn ν τ) (x1 : Int32) (x2 : Int32) (hx1 : vp_in x1 (10000)) (hx2 : vp_in x2 (1000)) : MU l yModel_factOfType bModel_factOfType 3 (none) 2 48 0 0 [.ref a, .int x1, .int x2] γ Z (MD γ a B Z ν τ σ F nu) (mQv (fun H => ∃ (F' : Nat → Nat → Int32) (nu' : Nat → Int64) (c n : Int32), MD γ a B Z ν τ σ F' nu' H ∧ SLT x1.toNatClampNeg c n 0 F nu F' nu' ∧ ∃ j, j ≤ 1000 ∧ n = nI j) Z) := by
  refine mu_openV (by decide) (Nat.le_of_ble_eq_true rfl) ?_
  intro p e s m args below meth c ls Q S hnm hC hA hM hE hl
  have hS : va_S Z s.heap s.heap [] := va_S.rf
  obtain ⟨hx, hb, hml, hown, hW⟩ := id S
  obtain ⟨⟨hs0, hs1, hs2, hs3, hs4, hs5, hs6⟩, ⟨hv6, hv8, hv21, hv24, hv30, hv31⟩, hTR, hTY, hOB, hNM⟩ := id hT
  have hl : lv_has ls 3 [(0, .ref a), (1, .int x1), (2, .int x2)] := hl
  refine lv_aload_n hx hb dModel_factOfType_0 rfl (lv_at hl 0 rfl) ?_
  refine lv_iload_n hx hb dModel_factOfType_1 rfl (lv_at hl 1 rfl) ?_
  refine lv_aload_n hx hb dModel_factOfType_2 rfl (lv_at hl 0 rfl) ?_
  refine md_gA S hC hM 16 (by decide) rfl qw_9bd8ea24bb dModel_factOfType_3 ?_
  refine lv_iload_n hx hb dModel_factOfType_6 rfl (lv_at hl 2 rfl) ?_
  refine md_ild S hC hM 16 12 1000 (τ 16) rfl rfl (by decide) rfl rfl (vin (by assumption) (by omega)) dModel_factOfType_7 ?_
  refine lv_topi (fun v1 ev1 => ?_)
  refine lv_aload_n hx hb dModel_factOfType_8 rfl (lv_at hl 0 rfl) ?_
  refine md_gA S hC hM 16 (by decide) rfl qw_9bd8ea24bb dModel_factOfType_9 ?_
  refine lv_iload_n hx hb dModel_factOfType_12 rfl (lv_at hl 2 rfl) ?_
  refine md_ild S hC hM 16 12 1000 (τ 16) rfl rfl (by decide) rfl rfl (vin (by assumption) (by omega)) dModel_factOfType_13 ?_
  refine lv_topi (fun v2 ev2 => ?_)
  refine lv_iconst (v := 3) hx hb dModel_factOfType_14 (by decide) ?_
  have J42 : ∀ (ls : Array Slot) (t0_42 : Int32), (∃ j, j ≤ 1000 ∧ t0_42 = nI j) → lv_has ls 3 [(0, .ref a), (1, .int x1), (2, .int x2)] → W p l e (bs_rm 2 0 0 48) s m args below meth c s.heap [] 0 0 Q (F0 m 42 ls [.int t0_42, .int v1, .int x1, .ref a]) := by
    intro ls t0_42 ht0_42 hl
    refine lv_iconst (v := 0) hx hb dModel_factOfType_42 (by decide) ?_
    have hnr8 : ∃ j, j ≤ 1000 ∧ t0_42 = nI j := ht0_42
    refine mu_Vv (rest := []) S hC (fun q h => hA q (Nat.le_trans hS.1 h)) (fun q h => h) hS (m_fact l γ a B Z κ b mn ν τ σ F nu hT x1 v1 t0_42 0 (vin (by assumption) (by omega)) hnr8) meModel_fact qw_02871250ec ⟨Nat.le_of_ble_eq_true rfl, Nat.le_of_ble_eq_true rfl⟩ (md_rv hC hM) hM rfl hl.1 rfl (Nat.le_of_ble_eq_true rfl) dModel_factOfType_43 ⟨Nat.le_refl _, Nat.le_refl _⟩ (fun H locs hPO hS _ _ => ?_)
    obtain ⟨Fr8, nur8, hM, hqr8, hcr8⟩ := hPO
    exact hE _ _ _ _ hS ⟨Fr8, nur8, _, _, hM, hqr8, ht0_42⟩ dModel_factOfType_46
  refine lv_icmp_ne (tgt := 27) hx hb dModel_factOfType_15 (by decide) (fun c9 => ?_) (fun c9 => ?_)
  · refine lv_aload_n hx hb dModel_factOfType_27 rfl (lv_at hl 0 rfl) ?_
    refine md_gA S hC hM 16 (by decide) rfl qw_9bd8ea24bb dModel_factOfType_28 ?_
    refine lv_iload_n hx hb dModel_factOfType_31 rfl (lv_at hl 2 rfl) ?_
    refine md_ild S hC hM 16 12 1000 (τ 16) rfl rfl (by decide) rfl rfl (vin (by assumption) (by omega)) dModel_factOfType_32 ?_
    refine lv_topi (fun v10 ev10 => ?_)
    refine lv_iconst (v := 4) hx hb dModel_factOfType_33 (by decide) ?_
    refine lv_icmp_ne (tgt := 41) hx hb dModel_factOfType_34 (by decide) (fun c11 => ?_) (fun c11 => ?_)
    · refine lv_iconst (v := 0) hx hb dModel_factOfType_41 (by decide) ?_
      exact J42 ls 0 (by first | exact ⟨0, by omega, rfl⟩ | exact ⟨_, Nat.le_of_lt (vix hx2), vnI hx2⟩ | exact ft_row hTY hx2 (by assumption) (by assumption) (by assumption)) (lv_sub hl [0, 1, 2] rfl)
    · refine lv_iload_n hx hb dModel_factOfType_37 rfl (lv_at hl 2 rfl) ?_
      refine lv_goto (tgt := 42) hx hb dModel_factOfType_38 (by decide) ?_
      exact J42 ls x2 (by first | exact ⟨0, by omega, rfl⟩ | exact ⟨_, Nat.le_of_lt (vix hx2), vnI hx2⟩ | exact ft_row hTY hx2 (by assumption) (by assumption) (by assumption)) (lv_sub hl [0, 1, 2] rfl)
  · refine lv_aload_n hx hb dModel_factOfType_18 rfl (lv_at hl 0 rfl) ?_
    refine md_gA S hC hM 19 (by decide) rfl qw_c139dbceda dModel_factOfType_19 ?_
    refine lv_iload_n hx hb dModel_factOfType_22 rfl (lv_at hl 2 rfl) ?_
    refine md_ild S hC hM 19 15 1000 (τ 19) rfl rfl (by decide) rfl rfl (vin (by assumption) (by omega)) dModel_factOfType_23 ?_
    refine lv_topi (fun v12 ev12 => ?_)
    refine lv_goto (tgt := 42) hx hb dModel_factOfType_24 (by decide) ?_
    exact J42 ls v12 (by first | exact ⟨0, by omega, rfl⟩ | exact ⟨_, Nat.le_of_lt (vix hx2), vnI hx2⟩ | exact ft_row hTY hx2 (by assumption) (by assumption) (by assumption)) (lv_sub hl [0, 1, 2] rfl)
theorem qw_9d5e299446 : (Cond.fieldLink R_Model 118 R_Model "found" "I") ∈ bs_W0 := bs_in (in_tables_1_5 (List.mem_of_getElem? (i := 185) rfl)) rfl
theorem qw_c60a40a4a7 : (Cond.fieldLink R_Model 121 R_Model "foundNumber" "I") ∈ bs_W0 := bs_in (in_tables_1_5 (List.mem_of_getElem? (i := 186) rfl)) rfl
theorem qw_6a7082029c : (Cond.fieldLink R_Model 124 R_Model "foundPlace" "I") ∈ bs_W0 := bs_in (in_tables_1_5 (List.mem_of_getElem? (i := 187) rfl)) rfl
theorem qw_e95de6bb1e : (Cond.fieldLink R_Model 78 R_Model "means" "[I") ∈ bs_W0 := bs_in (in_tables_1_5 (List.mem_of_getElem? (i := 179) rfl)) rfl
theorem qw_5b2f86bc41 : (Cond.fieldLink R_Model 81 R_Model "which" "[I") ∈ bs_W0 := bs_in (in_tables_1_5 (List.mem_of_getElem? (i := 180) rfl)) rfl
theorem qw_73fdadc701 : (Cond.fieldLink R_Model 84 R_Model "placeOf" "[I") ∈ bs_W0 := bs_in (in_tables_1_5 (List.mem_of_getElem? (i := 181) rfl)) rfl
set_option maxHeartbeats 4000000 in
set_option maxRecDepth 100000 in
theorem m_find (l : Launch) (γ : gE) (a : Nat) (B : Nat → Nat) (Z : Nat → Prop) (κ b mn : Nat → Nat) (ν : Nat → Int32) (τ : Nat → Nat → Int32) (σ : Nat → Int32) (F : Nat → Nat → Int32) (nu : Nat → Int64) (hT : ST κ b mn ν τ) (x1 : Int32)  : MU l yModel_find bModel_find 3 (none) 0 0 0 0 [.ref a, .int x1] γ Z (MD γ a B Z ν τ σ F nu) (mQv (fun H => ∃ σ' : Nat → Int32, MD γ a B Z ν τ σ' F nu H ∧ FD σ') Z) := by
  refine mu_openV (by decide) (Nat.le_of_ble_eq_true rfl) ?_
  intro p e s m args below meth c ls Q S hnm hC hA hM hE hl
  have hS : va_S Z s.heap s.heap [] := va_S.rf
  obtain ⟨hx, hb, hml, hown, hW⟩ := id S
  obtain ⟨⟨hs0, hs1, hs2, hs3, hs4, hs5, hs6⟩, ⟨hv6, hv8, hv21, hv24, hv30, hv31⟩, hTR, hTY, hOB, hNM⟩ := id hT
  have hl : lv_has ls 3 [(0, .ref a), (1, .int x1)] := hl
  refine lv_aload_n hx hb dModel_find_0 rfl (lv_at hl 0 rfl) ?_
  refine lv_iload_n hx hb dModel_find_1 rfl (lv_at hl 1 rfl) ?_
  refine lv_iconst (v := 5) hx hb dModel_find_2 (by decide) ?_
  have J41 : ∀ (ls : Array Slot) (t0_41 : Int32), (¬ t0_41 = 1 ∧ ¬ t0_41 = 2 ∧ (t0_41 = 4 → ¬ 12 ≤ x1)) → lv_has ls 3 [(0, .ref a), (1, .int x1)] → W p l e (bs_rm 0 0 0 0) s m args below meth c s.heap [] 0 0 Q (F0 m 41 ls [.int t0_41, .ref a]) := by
    intro ls t0_41 ht0_41 hl
    refine md_pD S hC hM hS 32 rfl (by decide) rfl qw_9d5e299446 rfl (by decide +kernel) dModel_find_41 (fun H locs hM hS => ?_)
    obtain ⟨σ24, eσ24⟩ : ∃ z : Nat → Int32, z = upd σ 32 t0_41 := ⟨_, rfl⟩
    rw [← eσ24] at hM
    refine lv_aload_n hx hb dModel_find_44 rfl (lv_at hl 0 rfl) ?_
    refine lv_iload_n hx hb dModel_find_45 rfl (lv_at hl 1 rfl) ?_
    have J90 : ∀ (ls : Array Slot) (t0_90 : Int32), (t0_90 = x1 ∨ ¬ 11 < t0_90) → lv_has ls 3 [(0, .ref a), (1, .int x1)] → W p l e (bs_rm 0 0 0 0) s m args below meth c H locs 0 0 Q (F0 m 90 ls [.int t0_90, .ref a]) := by
      intro ls t0_90 ht0_90 hl
      refine md_pD S hC hM hS 33 rfl (by decide) rfl qw_c60a40a4a7 rfl (by decide +kernel) dModel_find_90 (fun H locs hM hS => ?_)
      obtain ⟨σ43, eσ43⟩ : ∃ z : Nat → Int32, z = upd σ24 33 t0_90 := ⟨_, rfl⟩
      rw [← eσ43] at hM
      refine lv_aload_n hx hb dModel_find_93 rfl (lv_at hl 0 rfl) ?_
      refine lv_iconst (v := 0) hx hb dModel_find_94 (by decide) ?_
      refine md_pD S hC hM hS 34 rfl (by decide) rfl qw_6a7082029c rfl (by decide +kernel) dModel_find_95 (fun H locs hM hS => ?_)
      obtain ⟨σ44, eσ44⟩ : ∃ z : Nat → Int32, z = upd σ43 34 0 := ⟨_, rfl⟩
      rw [← eσ44] at hM
      refine lv_iconst (v := 0) hx hb dModel_find_98 (by decide) ?_
      refine lv_istore_n (lv' := [(2, .int 0), (0, .ref a), (1, .int x1)]) hx hb dModel_find_99 rfl hl (by decide) rfl (fun ls hl => ?_)
      have J100 : ∀ (N100 : Nat) (ls : Array Slot) (H : Heap) (locs : List Loc) (σ_100 : Nat → Int32) (i2_100 : Int32), MD γ a B Z ν τ σ_100 F nu H → va_S Z s.heap H locs → (¬ i2_100 < 0) → (FD σ_100) → (2147483647 - i2_100.toInt).toNat = N100 → lv_has ls 3 [(0, .ref a), (1, .int x1), (2, .int i2_100)] → W p l e (bs_rm 0 0 0 0) s m args below meth c H locs 0 0 Q (F0 m 100 ls []) := by
        intro N100
        induction N100 using Nat.strongRecOn with
        | ind N100 ih100 =>
          intro ls H locs σ_100 i2_100 hM hS hi2_100 hF hm100 hl
          refine lv_iload_n hx hb dModel_find_100 rfl (lv_at hl 2 rfl) ?_
          refine lv_aload_n hx hb dModel_find_101 rfl (lv_at hl 0 rfl) ?_
          refine md_gI S hC hM 30 (v := nI (κ 4)) hv30 (by decide) rfl qw_8d5d48b583 dModel_find_102 ?_
          refine lv_topi (fun v45 ev45 => ?_)
          refine lv_icmp_ge (tgt := 154) hx hb dModel_find_105 (by decide) (fun c46 => ?_) (fun c46 => ?_)
          · exact hE _ _ _ _ hS ⟨σ_100, hM, hF⟩ dModel_find_154
          · have hin2 : vp_in i2_100 (κ 4) := vcmp (by assumption) (by assumption) (by assumption) (by omega)
            refine lv_aload_n hx hb dModel_find_108 rfl (lv_at hl 0 rfl) ?_
            refine md_gA S hC hM 25 (by decide) rfl qw_0f8ce80864 dModel_find_109 ?_
            refine lv_iload_n hx hb dModel_find_112 rfl (lv_at hl 2 rfl) ?_
            refine md_ild S hC hM 25 19 3000 (τ 25) rfl rfl (by decide) rfl rfl (vin (by assumption) (by omega)) dModel_find_113 ?_
            refine lv_topi (fun v47 ev47 => ?_)
            refine lv_iload_n hx hb dModel_find_114 rfl (lv_at hl 1 rfl) ?_
            have J148 : ∀ (ls : Array Slot) (H : Heap) (locs : List Loc) (σ_148 : Nat → Int32), MD γ a B Z ν τ σ_148 F nu H → va_S Z s.heap H locs → (FD σ_148) → lv_has ls 3 [(0, .ref a), (1, .int x1), (2, .int i2_100)] → W p l e (bs_rm 0 0 0 0) s m args below meth c H locs 0 0 Q (F0 m 148 ls []) := by
              intro ls H locs σ_148 hM hS hF hl
              obtain ⟨v56, ev56⟩ : ∃ y : Int32, y = i2_100 + 1 := ⟨_, rfl⟩
              refine lv_iinc (v := v56) (lv' := [(2, .int v56), (0, .ref a), (1, .int x1)]) hx hb dModel_find_148 hl (k := 2) rfl (by rw [ev56]; rfl) (by decide) rfl (fun ls hl => ?_)
              refine lv_goto (tgt := 100) hx hb dModel_find_151 (by decide) ?_
              exact ih100 _ (by have q1 : i2_100.toInt < 2147483647 := (by first | assumption | exact (mu_up (k := i2_100) (by assumption)).2); have q2 := mu_lt q1; rw [← ev56] at q2; omega) ls _ _ σ_148 v56 hM hS (by first | decide | exact nn_inc (by assumption) (by assumption) (by assumption)) hF rfl (lv_sub hl [1, 2, 0] rfl)
            refine lv_icmp_ne (tgt := 148) hx hb dModel_find_115 (by decide) (fun c57 => ?_) (fun c57 => ?_)
            · exact J148 ls _ _ σ_100 hM hS (by first | assumption | exact fd_nm hNM (vix (vin hin2 (by omega))) ev49 ev51 eσ50 eσ52 eσ_100) (lv_sub hl [0, 1, 2] rfl)
            · refine lv_aload_n hx hb dModel_find_118 rfl (lv_at hl 0 rfl) ?_
              refine lv_aload_n hx hb dModel_find_119 rfl (lv_at hl 0 rfl) ?_
              refine md_gA S hC hM 26 (by decide) rfl qw_e95de6bb1e dModel_find_120 ?_
              refine lv_iload_n hx hb dModel_find_123 rfl (lv_at hl 2 rfl) ?_
              refine md_ild S hC hM 26 20 3000 (τ 26) rfl rfl (by decide) rfl rfl (vin (by assumption) (by omega)) dModel_find_124 ?_
              refine lv_topi (fun v58 ev58 => ?_)
              refine md_pD S hC hM hS 32 rfl (by decide) rfl qw_9d5e299446 rfl (by decide +kernel) dModel_find_125 (fun H locs hM hS => ?_)
              obtain ⟨σ59, eσ59⟩ : ∃ z : Nat → Int32, z = upd σ_100 32 v58 := ⟨_, rfl⟩
              rw [← eσ59] at hM
              refine lv_aload_n hx hb dModel_find_128 rfl (lv_at hl 0 rfl) ?_
              refine lv_aload_n hx hb dModel_find_129 rfl (lv_at hl 0 rfl) ?_
              refine md_gA S hC hM 27 (by decide) rfl qw_5b2f86bc41 dModel_find_130 ?_
              refine lv_iload_n hx hb dModel_find_133 rfl (lv_at hl 2 rfl) ?_
              refine md_ild S hC hM 27 21 3000 (τ 27) rfl rfl (by decide) rfl rfl (vin (by assumption) (by omega)) dModel_find_134 ?_
              refine lv_topi (fun v60 ev60 => ?_)
              refine md_pD S hC hM hS 33 rfl (by decide) rfl qw_c60a40a4a7 rfl (by decide +kernel) dModel_find_135 (fun H locs hM hS => ?_)
              obtain ⟨σ61, eσ61⟩ : ∃ z : Nat → Int32, z = upd σ59 33 v60 := ⟨_, rfl⟩
              rw [← eσ61] at hM
              refine lv_aload_n hx hb dModel_find_138 rfl (lv_at hl 0 rfl) ?_
              refine lv_aload_n hx hb dModel_find_139 rfl (lv_at hl 0 rfl) ?_
              refine md_gA S hC hM 28 (by decide) rfl qw_73fdadc701 dModel_find_140 ?_
              refine lv_iload_n hx hb dModel_find_143 rfl (lv_at hl 2 rfl) ?_
              refine md_ild S hC hM 28 22 3000 (τ 28) rfl rfl (by decide) rfl rfl (vin (by assumption) (by omega)) dModel_find_144 ?_
              refine lv_topi (fun v62 ev62 => ?_)
              refine md_pD S hC hM hS 34 rfl (by decide) rfl qw_6a7082029c rfl (by decide +kernel) dModel_find_145 (fun H locs hM hS => ?_)
              obtain ⟨σ63, eσ63⟩ : ∃ z : Nat → Int32, z = upd σ61 34 v62 := ⟨_, rfl⟩
              rw [← eσ63] at hM
              exact J148 ls _ _ σ63 hM hS (by first | assumption | exact fd_nm hNM (vix (vin hin2 (by omega))) ev58 ev60 eσ59 eσ61 eσ63) (lv_sub hl [0, 1, 2] rfl)
      exact J100 _ ls _ _ σ44 0 hM hS (by first | decide | exact nn_inc (by assumption) (by assumption) (by assumption)) (fd_3 eσ24 eσ43 eσ44 ht0_41 ht0_90) rfl (lv_sub hl [1, 2, 0] rfl)
    refine lv_if_ne (tgt := 53) hx hb dModel_find_46 (by decide) (fun c64 => ?_) (fun c64 => ?_)
    · refine lv_iload_n hx hb dModel_find_53 rfl (lv_at hl 1 rfl) ?_
      refine lv_iconst (v := 1) hx hb dModel_find_54 (by decide) ?_
      refine lv_icmp_ne (tgt := 62) hx hb dModel_find_55 (by decide) (fun c65 => ?_) (fun c65 => ?_)
      · refine lv_iload_n hx hb dModel_find_62 rfl (lv_at hl 1 rfl) ?_
        refine lv_iconst (v := 2) hx hb dModel_find_63 (by decide) ?_
        refine lv_icmp_ne (tgt := 71) hx hb dModel_find_64 (by decide) (fun c66 => ?_) (fun c66 => ?_)
        · refine lv_iload_n hx hb dModel_find_71 rfl (lv_at hl 1 rfl) ?_
          refine lv_iconst (v := 3) hx hb dModel_find_72 (by decide) ?_
          refine lv_icmp_ne (tgt := 80) hx hb dModel_find_73 (by decide) (fun c67 => ?_) (fun c67 => ?_)
          · refine lv_iload_n hx hb dModel_find_80 rfl (lv_at hl 1 rfl) ?_
            refine lv_iconst (v := 4) hx hb dModel_find_81 (by decide) ?_
            refine lv_icmp_ne (tgt := 89) hx hb dModel_find_82 (by decide) (fun c68 => ?_) (fun c68 => ?_)
            · refine lv_iload_n hx hb dModel_find_89 rfl (lv_at hl 1 rfl) ?_
              exact J90 ls x1 (by first | exact Or.inl rfl | exact Or.inr (by decide)) (lv_sub hl [0, 1] rfl)
            · refine lv_iconst (v := 0) hx hb dModel_find_85 (by decide) ?_
              refine lv_goto (tgt := 90) hx hb dModel_find_86 (by decide) ?_
              exact J90 ls 0 (by first | exact Or.inl rfl | exact Or.inr (by decide)) (lv_sub hl [0, 1] rfl)
          · refine lv_iconst (v := 1) hx hb dModel_find_76 (by decide) ?_
            refine lv_goto (tgt := 90) hx hb dModel_find_77 (by decide) ?_
            exact J90 ls 1 (by first | exact Or.inl rfl | exact Or.inr (by decide)) (lv_sub hl [0, 1] rfl)
        · refine lv_iconst (v := 4) hx hb dModel_find_67 (by decide) ?_
          refine lv_goto (tgt := 90) hx hb dModel_find_68 (by decide) ?_
          exact J90 ls 4 (by first | exact Or.inl rfl | exact Or.inr (by decide)) (lv_sub hl [0, 1] rfl)
      · refine lv_iconst (v := 3) hx hb dModel_find_58 (by decide) ?_
        refine lv_goto (tgt := 90) hx hb dModel_find_59 (by decide) ?_
        exact J90 ls 3 (by first | exact Or.inl rfl | exact Or.inr (by decide)) (lv_sub hl [0, 1] rfl)
    · refine lv_iconst (v := 2) hx hb dModel_find_49 (by decide) ?_
      refine lv_goto (tgt := 90) hx hb dModel_find_50 (by decide) ?_
      exact J90 ls 2 (by first | exact Or.inl rfl | exact Or.inr (by decide)) (lv_sub hl [0, 1] rfl)
  refine lv_icmp_ge (tgt := 10) hx hb dModel_find_3 (by decide) (fun c69 => ?_) (fun c69 => ?_)
  · refine lv_iload_n hx hb dModel_find_10 rfl (lv_at hl 1 rfl) ?_
    refine lv_iconst (v := 5) hx hb dModel_find_11 (by decide) ?_
    refine lv_icmp_ne (tgt := 20) hx hb dModel_find_12 (by decide) (fun c70 => ?_) (fun c70 => ?_)
    · refine lv_iload_n hx hb dModel_find_20 rfl (lv_at hl 1 rfl) ?_
      refine lv_bipush (v := 8) hx hb dModel_find_21 (by decide) ?_
      refine lv_icmp_ge (tgt := 30) hx hb dModel_find_23 (by decide) (fun c71 => ?_) (fun c71 => ?_)
      · refine lv_iload_n hx hb dModel_find_30 rfl (lv_at hl 1 rfl) ?_
        refine lv_bipush (v := 12) hx hb dModel_find_31 (by decide) ?_
        refine lv_icmp_ge (tgt := 40) hx hb dModel_find_33 (by decide) (fun c72 => ?_) (fun c72 => ?_)
        · refine lv_iconst (v := 5) hx hb dModel_find_40 (by decide) ?_
          exact J41 ls 5 (by first | decide | exact ⟨by decide, by decide, fun _ => by assumption⟩ | exact ⟨by decide, by decide, fun h9 => absurd h9 (by decide)⟩) (lv_sub hl [0, 1] rfl)
        · refine lv_iconst (v := 4) hx hb dModel_find_36 (by decide) ?_
          refine lv_goto (tgt := 41) hx hb dModel_find_37 (by decide) ?_
          exact J41 ls 4 (by first | decide | exact ⟨by decide, by decide, fun _ => by assumption⟩ | exact ⟨by decide, by decide, fun h9 => absurd h9 (by decide)⟩) (lv_sub hl [0, 1] rfl)
      · refine lv_iconst (v := 3) hx hb dModel_find_26 (by decide) ?_
        refine lv_goto (tgt := 41) hx hb dModel_find_27 (by decide) ?_
        exact J41 ls 3 (by first | decide | exact ⟨by decide, by decide, fun _ => by assumption⟩ | exact ⟨by decide, by decide, fun h9 => absurd h9 (by decide)⟩) (lv_sub hl [0, 1] rfl)
    · refine lv_bipush (v := 6) hx hb dModel_find_15 (by decide) ?_
      refine lv_goto (tgt := 41) hx hb dModel_find_17 (by decide) ?_
      exact J41 ls 6 (by first | decide | exact ⟨by decide, by decide, fun _ => by assumption⟩ | exact ⟨by decide, by decide, fun h9 => absurd h9 (by decide)⟩) (lv_sub hl [0, 1] rfl)
  · refine lv_iconst (v := 0) hx hb dModel_find_6 (by decide) ?_
    refine lv_goto (tgt := 41) hx hb dModel_find_7 (by decide) ?_
    exact J41 ls 0 (by first | decide | exact ⟨by decide, by decide, fun _ => by assumption⟩ | exact ⟨by decide, by decide, fun h9 => absurd h9 (by decide)⟩) (lv_sub hl [0, 1] rfl)
theorem qw_94306de345 : (Cond.fieldLink R_Model 57 R_Model "low" "[I") ∈ bs_W0 := bs_in (in_tables_1_5 (List.mem_of_getElem? (i := 170) rfl)) rfl
theorem qw_82ee92f611 : (Cond.fieldLink R_Model 60 R_Model "high" "[I") ∈ bs_W0 := bs_in (in_tables_1_5 (List.mem_of_getElem? (i := 171) rfl)) rfl
theorem qw_31ea7262cf : (Cond.methodLink R_Model 239 Lib.Math.min.name) ∈ bs_W0 := bs_in (in_tables_1_6 (List.mem_of_getElem? (i := 189) rfl)) rfl
theorem qw_f0aff25a97 : (Cond.methodLink R_Model 244 Lib.Math.max.name) ∈ bs_W0 := bs_in (in_tables_1_6 (List.mem_of_getElem? (i := 190) rfl)) rfl
set_option maxHeartbeats 4000000 in
set_option maxRecDepth 100000 in
theorem m_within (l : Launch) (γ : gE) (a : Nat) (B : Nat → Nat) (Z : Nat → Prop) (κ b mn : Nat → Nat) (ν : Nat → Int32) (τ : Nat → Nat → Int32) (σ : Nat → Int32) (F : Nat → Nat → Int32) (nu : Nat → Int64) (hT : ST κ b mn ν τ) (x1 : Int32) (x2 : Int64) (hx1 : vp_in x1 (1000)) : PU l yModel_within bModel_within 4 (some .boolean) 1 15 [.ref a, .int x1, .long x2] γ (MD γ a B Z ν τ σ F nu) (vp_Si (fun v : Int32 => v = 0 ∨ ∀ lo hi : Nat, τ 17 x1.toNatClampNeg = nI lo → τ 18 x1.toNatClampNeg = nI hi → lo < 2 ^ 31 → hi < 2 ^ 31 → (lo : Int) ≤ x2.toInt ∧ x2.toInt ≤ (hi : Int) ∨ (hi : Int) ≤ x2.toInt ∧ x2.toInt ≤ (lo : Int))) := by
  refine pu_openZ (by decide) (Nat.le_of_ble_eq_true rfl) ?_
  intro p e s m args below meth c ls Q S hC hM hE hl
  obtain ⟨hx, hb, hml, hown, hW⟩ := id S
  obtain ⟨⟨hs0, hs1, hs2, hs3, hs4, hs5, hs6⟩, ⟨hv6, hv8, hv21, hv24, hv30, hv31⟩, hTR, hTY, hOB, hNM⟩ := id hT
  have hl : lv_has ls 4 [(0, .ref a), (1, .int x1), (2, .long x2)] := hl
  refine lv_lload_n hx hb dModel_within_0 rfl (lv_at hl 2 rfl) ?_
  refine lv_aload_n hx hb dModel_within_1 rfl (lv_at hl 0 rfl) ?_
  refine md_gA S hC hM 17 (by decide) rfl qw_94306de345 dModel_within_2 ?_
  refine lv_iload_n hx hb dModel_within_5 rfl (lv_at hl 1 rfl) ?_
  refine md_ild S hC hM 17 13 1000 (τ 17) rfl rfl (by decide) rfl rfl (vin (by assumption) (by omega)) dModel_within_6 ?_
  refine lv_topi (fun v1 ev1 => ?_)
  refine lv_aload_n hx hb dModel_within_7 rfl (lv_at hl 0 rfl) ?_
  refine md_gA S hC hM 18 (by decide) rfl qw_82ee92f611 dModel_within_8 ?_
  refine lv_iload_n hx hb dModel_within_11 rfl (lv_at hl 1 rfl) ?_
  refine md_ild S hC hM 18 14 1000 (τ 18) rfl rfl (by decide) rfl rfl (vin (by assumption) (by omega)) dModel_within_12 ?_
  refine lv_topi (fun v2 ev2 => ?_)
  refine va_mmin (rest := [.long x2]) hx hb (hml.trans hl.1.symm) hown (hW _ qw_31ea7262cf) (hW _ qw_1a05fe5770) (hW _ qw_0001fcaade) (hW _ qw_5e99ca5e66) (Nat.le_of_ble_eq_true rfl) (Nat.le_of_ble_eq_true rfl) (Nat.zero_le _) (Nat.zero_le _) dModel_within_13 ?_
  refine lv_topi (fun v3 ev3 => ?_)
  refine lv_i2l hx hb dModel_within_16 rfl ?_
  refine lv_topl (fun v4 ev4 => ?_)
  refine W.lcmp hx hb dModel_within_17 ?_
  refine lv_topi (fun v5 ev5 => ?_)
  refine lv_if_lt (tgt := 46) hx hb dModel_within_18 (by decide) (fun c6 => ?_) (fun c6 => ?_)
  · refine lv_iconst (v := 0) hx hb dModel_within_46 (by decide) ?_
    exact hE _ _ _ rfl (Or.inl rfl) dModel_within_47
  · refine lv_lload_n hx hb dModel_within_21 rfl (lv_at hl 2 rfl) ?_
    refine lv_aload_n hx hb dModel_within_22 rfl (lv_at hl 0 rfl) ?_
    refine md_gA S hC hM 17 (by decide) rfl qw_94306de345 dModel_within_23 ?_
    refine lv_iload_n hx hb dModel_within_26 rfl (lv_at hl 1 rfl) ?_
    refine md_ild S hC hM 17 13 1000 (τ 17) rfl rfl (by decide) rfl rfl (vin (by assumption) (by omega)) dModel_within_27 ?_
    refine lv_topi (fun v7 ev7 => ?_)
    refine lv_aload_n hx hb dModel_within_28 rfl (lv_at hl 0 rfl) ?_
    refine md_gA S hC hM 18 (by decide) rfl qw_82ee92f611 dModel_within_29 ?_
    refine lv_iload_n hx hb dModel_within_32 rfl (lv_at hl 1 rfl) ?_
    refine md_ild S hC hM 18 14 1000 (τ 18) rfl rfl (by decide) rfl rfl (vin (by assumption) (by omega)) dModel_within_33 ?_
    refine lv_topi (fun v8 ev8 => ?_)
    refine va_mmax (rest := [.long x2]) hx hb (hml.trans hl.1.symm) hown (hW _ qw_f0aff25a97) (hW _ qw_7cc87a9f9b) (hW _ qw_0001fcaade) (hW _ qw_6b973c1ba4) (Nat.le_of_ble_eq_true rfl) (Nat.le_of_ble_eq_true rfl) (Nat.zero_le _) (Nat.zero_le _) dModel_within_34 ?_
    refine lv_topi (fun v9 ev9 => ?_)
    refine lv_i2l hx hb dModel_within_37 rfl ?_
    refine lv_topl (fun v10 ev10 => ?_)
    refine W.lcmp hx hb dModel_within_38 ?_
    refine lv_topi (fun v11 ev11 => ?_)
    refine lv_if_gt (tgt := 46) hx hb dModel_within_39 (by decide) (fun c12 => ?_) (fun c12 => ?_)
    · refine lv_iconst (v := 0) hx hb dModel_within_46 (by decide) ?_
      exact hE _ _ _ rfl (Or.inl rfl) dModel_within_47
    · refine lv_iconst (v := 1) hx hb dModel_within_42 (by decide) ?_
      refine lv_goto (tgt := 47) hx hb dModel_within_43 (by decide) ?_
      exact hE _ _ _ rfl (Or.inr (wi_ok ev1 ev2 ev7 ev8 ev3 ev9 ev4 ev10 ev5 (by assumption) ev11 (by assumption))) dModel_within_47
set_option maxHeartbeats 4000000 in
set_option maxRecDepth 100000 in
theorem m_fits (l : Launch) (γ : gE) (a : Nat) (B : Nat → Nat) (Z : Nat → Prop) (κ b mn : Nat → Nat) (ν : Nat → Int32) (τ : Nat → Nat → Int32) (σ : Nat → Int32) (F : Nat → Nat → Int32) (nu : Nat → Int64) (hT : ST κ b mn ν τ) (x1 : Int32) (x2 : Int32) (hx1 : vp_in x1 (4000)) (hx2 : vp_in x2 (1000)) : PU l yModel_fits bModel_fits 3 (some .int) 0 0 [.ref a, .int x1, .int x2] γ (MD γ a B Z ν τ σ F nu) (vp_Si (fun v : Int32 => True)) := by
  refine pu_openI (by decide) (Nat.le_of_ble_eq_true rfl) ?_
  intro p e s m args below meth c ls Q S hC hM hE hl
  obtain ⟨hx, hb, hml, hown, hW⟩ := id S
  obtain ⟨⟨hs0, hs1, hs2, hs3, hs4, hs5, hs6⟩, ⟨hv6, hv8, hv21, hv24, hv30, hv31⟩, hTR, hTY, hOB, hNM⟩ := id hT
  have hl : lv_has ls 3 [(0, .ref a), (1, .int x1), (2, .int x2)] := hl
  refine lv_aload_n hx hb dModel_fits_0 rfl (lv_at hl 0 rfl) ?_
  refine md_gA S hC hM 9 (by decide) rfl qw_a119aeeca0 dModel_fits_1 ?_
  refine lv_iload_n hx hb dModel_fits_4 rfl (lv_at hl 1 rfl) ?_
  refine md_ild S hC hM 9 5 10000 (F 9) rfl rfl (by decide) rfl rfl (vin (by assumption) (by omega)) dModel_fits_5 ?_
  refine lv_topi (fun v1 ev1 => ?_)
  refine lv_aload_n hx hb dModel_fits_6 rfl (lv_at hl 0 rfl) ?_
  refine md_gA S hC hM 16 (by decide) rfl qw_9bd8ea24bb dModel_fits_7 ?_
  refine lv_iload_n hx hb dModel_fits_10 rfl (lv_at hl 2 rfl) ?_
  refine md_ild S hC hM 16 12 1000 (τ 16) rfl rfl (by decide) rfl rfl (vin (by assumption) (by omega)) dModel_fits_11 ?_
  refine lv_topi (fun v2 ev2 => ?_)
  refine lv_icmp_ne (tgt := 35) hx hb dModel_fits_12 (by decide) (fun c3 => ?_) (fun c3 => ?_)
  · refine lv_iconst (v := 3) hx hb dModel_fits_35 (by decide) ?_
    exact hE _ _ _ trivial dModel_fits_36
  · refine lv_aload_n hx hb dModel_fits_15 rfl (lv_at hl 0 rfl) ?_
    refine md_gA S hC hM 9 (by decide) rfl qw_a119aeeca0 dModel_fits_16 ?_
    refine lv_iload_n hx hb dModel_fits_19 rfl (lv_at hl 1 rfl) ?_
    refine md_ild S hC hM 9 5 10000 (F 9) rfl rfl (by decide) rfl rfl (vin (by assumption) (by omega)) dModel_fits_20 ?_
    refine lv_topi (fun v4 ev4 => ?_)
    refine lv_iconst (v := 4) hx hb dModel_fits_21 (by decide) ?_
    have J37 : ∀ (ls : Array Slot), lv_has ls 3 [(0, .ref a), (1, .int x1), (2, .int x2)] → W p l e (bs_rm 0 0 0 0) s m args below meth c s.heap [] 0 0 Q (F0 m 37 ls []) := by
      intro ls hl
      refine lv_aload_n hx hb dModel_fits_37 rfl (lv_at hl 0 rfl) ?_
      refine md_gA S hC hM 9 (by decide) rfl qw_a119aeeca0 dModel_fits_38 ?_
      refine lv_iload_n hx hb dModel_fits_41 rfl (lv_at hl 1 rfl) ?_
      refine md_ild S hC hM 9 5 10000 (F 9) rfl rfl (by decide) rfl rfl (vin (by assumption) (by omega)) dModel_fits_42 ?_
      refine lv_topi (fun v27 ev27 => ?_)
      refine lv_iconst (v := 3) hx hb dModel_fits_43 (by decide) ?_
      have J64 : ∀ (ls : Array Slot), lv_has ls 3 [(0, .ref a), (1, .int x1), (2, .int x2)] → W p l e (bs_rm 0 0 0 0) s m args below meth c s.heap [] 0 0 Q (F0 m 64 ls []) := by
        intro ls hl
        refine lv_aload_n hx hb dModel_fits_64 rfl (lv_at hl 0 rfl) ?_
        refine md_gA S hC hM 9 (by decide) rfl qw_a119aeeca0 dModel_fits_65 ?_
        refine lv_iload_n hx hb dModel_fits_68 rfl (lv_at hl 1 rfl) ?_
        refine md_ild S hC hM 9 5 10000 (F 9) rfl rfl (by decide) rfl rfl (vin (by assumption) (by omega)) dModel_fits_69 ?_
        refine lv_topi (fun v46 ev46 => ?_)
        refine lv_iconst (v := 2) hx hb dModel_fits_70 (by decide) ?_
        refine lv_icmp_ne (tgt := 122) hx hb dModel_fits_71 (by decide) (fun c47 => ?_) (fun c47 => ?_)
        · refine lv_iconst (v := 0) hx hb dModel_fits_122 (by decide) ?_
          exact hE _ _ _ trivial dModel_fits_123
        · refine lv_aload_n hx hb dModel_fits_74 rfl (lv_at hl 0 rfl) ?_
          refine md_gA S hC hM 11 (by decide) rfl qw_88b9028ba7 dModel_fits_75 ?_
          refine lv_iload_n hx hb dModel_fits_78 rfl (lv_at hl 1 rfl) ?_
          refine md_zld S hC hM 11 7 10000 (F 11) rfl rfl (by decide) rfl rfl (vin (by assumption) (by omega)) dModel_fits_79 ?_
          refine lv_topi (fun v48 ev48 => ?_)
          refine lv_if_eq (tgt := 122) hx hb dModel_fits_80 (by decide) (fun c49 => ?_) (fun c49 => ?_)
          · refine lv_iconst (v := 0) hx hb dModel_fits_122 (by decide) ?_
            exact hE _ _ _ trivial dModel_fits_123
          · refine lv_aload_n hx hb dModel_fits_83 rfl (lv_at hl 0 rfl) ?_
            refine md_gA S hC hM 13 (by decide) rfl qw_7b809afc8c dModel_fits_84 ?_
            refine lv_iload_n hx hb dModel_fits_87 rfl (lv_at hl 1 rfl) ?_
            refine md_lld S hC hM (vin (by assumption) (by omega)) dModel_fits_88 ?_
            refine lv_topl (fun v50 ev50 => ?_)
            have ev50 : v50 = nu x1.toNatClampNeg := ev50
            refine lv_aload_n hx hb dModel_fits_89 rfl (lv_at hl 0 rfl) ?_
            refine md_gA S hC hM 17 (by decide) rfl qw_94306de345 dModel_fits_90 ?_
            refine lv_iload_n hx hb dModel_fits_93 rfl (lv_at hl 2 rfl) ?_
            refine md_ild S hC hM 17 13 1000 (τ 17) rfl rfl (by decide) rfl rfl (vin (by assumption) (by omega)) dModel_fits_94 ?_
            refine lv_topi (fun v51 ev51 => ?_)
            refine lv_i2l hx hb dModel_fits_95 rfl ?_
            refine lv_topl (fun v52 ev52 => ?_)
            refine W.lcmp hx hb dModel_fits_96 ?_
            refine lv_topi (fun v53 ev53 => ?_)
            have J117 : ∀ (ls : Array Slot), lv_has ls 3 [(0, .ref a), (1, .int x1), (2, .int x2)] → W p l e (bs_rm 0 0 0 0) s m args below meth c s.heap [] 0 0 Q (F0 m 117 ls []) := by
              intro ls hl
              refine lv_bipush (v := 8) hx hb dModel_fits_117 (by decide) ?_
              refine lv_goto (tgt := 123) hx hb dModel_fits_119 (by decide) ?_
              exact hE _ _ _ trivial dModel_fits_123
            refine lv_if_lt (tgt := 117) hx hb dModel_fits_97 (by decide) (fun c60 => ?_) (fun c60 => ?_)
            · exact J117 ls  (lv_sub hl [0, 1, 2] rfl)
            · refine lv_aload_n hx hb dModel_fits_100 rfl (lv_at hl 0 rfl) ?_
              refine md_gA S hC hM 13 (by decide) rfl qw_7b809afc8c dModel_fits_101 ?_
              refine lv_iload_n hx hb dModel_fits_104 rfl (lv_at hl 1 rfl) ?_
              refine md_lld S hC hM (vin (by assumption) (by omega)) dModel_fits_105 ?_
              refine lv_topl (fun v61 ev61 => ?_)
              have ev61 : v61 = nu x1.toNatClampNeg := ev61
              refine lv_aload_n hx hb dModel_fits_106 rfl (lv_at hl 0 rfl) ?_
              refine md_gA S hC hM 18 (by decide) rfl qw_82ee92f611 dModel_fits_107 ?_
              refine lv_iload_n hx hb dModel_fits_110 rfl (lv_at hl 2 rfl) ?_
              refine md_ild S hC hM 18 14 1000 (τ 18) rfl rfl (by decide) rfl rfl (vin (by assumption) (by omega)) dModel_fits_111 ?_
              refine lv_topi (fun v62 ev62 => ?_)
              refine lv_i2l hx hb dModel_fits_112 rfl ?_
              refine lv_topl (fun v63 ev63 => ?_)
              refine W.lcmp hx hb dModel_fits_113 ?_
              refine lv_topi (fun v64 ev64 => ?_)
              refine lv_if_le (tgt := 122) hx hb dModel_fits_114 (by decide) (fun c65 => ?_) (fun c65 => ?_)
              · refine lv_iconst (v := 0) hx hb dModel_fits_122 (by decide) ?_
                exact hE _ _ _ trivial dModel_fits_123
              · exact J117 ls  (lv_sub hl [0, 1, 2] rfl)
      refine lv_icmp_ne (tgt := 64) hx hb dModel_fits_44 (by decide) (fun c66 => ?_) (fun c66 => ?_)
      · exact J64 ls  (lv_sub hl [0, 1, 2] rfl)
      · refine lv_aload_n hx hb dModel_fits_47 rfl (lv_at hl 0 rfl) ?_
        refine md_gA S hC hM 10 (by decide) rfl qw_bd0251c605 dModel_fits_48 ?_
        refine lv_iload_n hx hb dModel_fits_51 rfl (lv_at hl 1 rfl) ?_
        refine md_ild S hC hM 10 6 10000 (F 10) rfl rfl (by decide) rfl rfl (vin (by assumption) (by omega)) dModel_fits_52 ?_
        refine lv_topi (fun v67 ev67 => ?_)
        refine lv_aload_n hx hb dModel_fits_53 rfl (lv_at hl 0 rfl) ?_
        refine md_gA S hC hM 19 (by decide) rfl qw_c139dbceda dModel_fits_54 ?_
        refine lv_iload_n hx hb dModel_fits_57 rfl (lv_at hl 2 rfl) ?_
        refine md_ild S hC hM 19 15 1000 (τ 19) rfl rfl (by decide) rfl rfl (vin (by assumption) (by omega)) dModel_fits_58 ?_
        refine lv_topi (fun v68 ev68 => ?_)
        refine lv_icmp_eq (tgt := 64) hx hb dModel_fits_59 (by decide) (fun c69 => ?_) (fun c69 => ?_)
        · exact J64 ls  (lv_sub hl [0, 1, 2] rfl)
        · refine lv_iconst (v := 4) hx hb dModel_fits_62 (by decide) ?_
          exact hE _ _ _ trivial dModel_fits_63
    refine lv_icmp_ne (tgt := 37) hx hb dModel_fits_22 (by decide) (fun c70 => ?_) (fun c70 => ?_)
    · exact J37 ls  (lv_sub hl [0, 1, 2] rfl)
    · refine lv_aload_n hx hb dModel_fits_25 rfl (lv_at hl 0 rfl) ?_
      refine md_gA S hC hM 10 (by decide) rfl qw_bd0251c605 dModel_fits_26 ?_
      refine lv_iload_n hx hb dModel_fits_29 rfl (lv_at hl 1 rfl) ?_
      refine md_ild S hC hM 10 6 10000 (F 10) rfl rfl (by decide) rfl rfl (vin (by assumption) (by omega)) dModel_fits_30 ?_
      refine lv_topi (fun v71 ev71 => ?_)
      refine lv_iload_n hx hb dModel_fits_31 rfl (lv_at hl 2 rfl) ?_
      refine lv_icmp_eq (tgt := 37) hx hb dModel_fits_32 (by decide) (fun c72 => ?_) (fun c72 => ?_)
      · exact J37 ls  (lv_sub hl [0, 1, 2] rfl)
      · refine lv_iconst (v := 3) hx hb dModel_fits_35 (by decide) ?_
        exact hE _ _ _ trivial dModel_fits_36
theorem qw_3471296067 : (Cond.fieldLink R_Model 13 R_Model "kind" "[I") ∈ bs_W0 := bs_in (in_tables_1_5 (List.mem_of_getElem? (i := 155) rfl)) rfl
set_option maxHeartbeats 4000000 in
set_option maxRecDepth 100000 in
theorem m_below (l : Launch) (γ : gE) (a : Nat) (B : Nat → Nat) (Z : Nat → Prop) (κ b mn : Nat → Nat) (ν : Nat → Int32) (τ : Nat → Nat → Int32) (σ : Nat → Int32) (F : Nat → Nat → Int32) (nu : Nat → Int64) (hT : ST κ b mn ν τ) (x1 : Int32) (x2 : Int32) (hx1 : vp_in x1 (κ 0)) (hx2 : x2.toInt < (κ 0 : Int)) : PU l yModel_below bModel_below 5 (some .boolean) 0 0 [.ref a, .int x1, .int x2] γ (MD γ a B Z ν τ σ F nu) (vp_Si (fun v : Int32 => (v = 0 ∧ ¬ hid τ b x1.toNatClampNeg x2.toNatClampNeg) ∨ (v = 1 ∧ hid τ b x1.toNatClampNeg x2.toNatClampNeg))) := by
  refine pu_openZ (by decide) (Nat.le_of_ble_eq_true rfl) ?_
  intro p e s m args below meth c ls Q S hC hM hE hl
  obtain ⟨hx, hb, hml, hown, hW⟩ := id S
  obtain ⟨⟨hs0, hs1, hs2, hs3, hs4, hs5, hs6⟩, ⟨hv6, hv8, hv21, hv24, hv30, hv31⟩, hTR, hTY, hOB, hNM⟩ := id hT
  have hl : lv_has ls 5 [(0, .ref a), (1, .int x1), (2, .int x2)] := hl
  refine lv_iconst (v := 0) hx hb dModel_below_0 (by decide) ?_
  refine lv_istore_n (lv' := [(3, .int 0), (0, .ref a), (1, .int x1), (2, .int x2)]) hx hb dModel_below_1 rfl hl (by decide) rfl (fun ls hl => ?_)
  refine lv_iload_n hx hb dModel_below_2 rfl (lv_at hl 2 rfl) ?_
  refine lv_iconst (v := 1) hx hb dModel_below_3 (by decide) ?_
  refine lv_iadd hx hb dModel_below_4 ?_
  refine lv_topi (fun v1 ev1 => ?_)
  refine lv_istore (lv' := [(4, .int v1), (3, .int 0), (0, .ref a), (1, .int x1), (2, .int x2)]) hx hb dModel_below_5 hl (by decide) rfl (fun ls hl => ?_)
  have J7 : ∀ (N7 : Nat) (ls : Array Slot) (i4_7 : Int32) (i3_7 : Int32), (∃ A, x1.toNatClampNeg < A ∧ i4_7 = nI A ∧ A ≤ 4000 ∧ ((i3_7 = 0 ∧ ∀ q, x1.toNatClampNeg < q → q < A → ¬ (τ 2 q = 25 ∧ b q ≤ x1.toNatClampNeg)) ∨ (i3_7 = 1 ∧ hid τ b x1.toNatClampNeg x2.toNatClampNeg))) → (2147483647 - i4_7.toInt).toNat = N7 → lv_has ls 5 [(0, .ref a), (1, .int x1), (2, .int x2), (3, .int i3_7), (4, .int i4_7)] → W p l e (bs_rm 0 0 0 0) s m args below meth c s.heap [] 0 0 Q (F0 m 7 ls []) := by
    intro N7
    induction N7 using Nat.strongRecOn with
    | ind N7 ih7 =>
      intro ls i4_7 i3_7 hbl hm7 hl
      refine lv_iload hx hb dModel_below_7 (lv_at hl 4 rfl) ?_
      refine lv_iload_n hx hb dModel_below_9 rfl (lv_at hl 2 rfl) ?_
      refine lv_icmp_gt (tgt := 52) hx hb dModel_below_10 (by decide) (fun c2 => ?_) (fun c2 => ?_)
      · obtain ⟨A, hA1, hA2, hA3, hA4⟩ := hbl
        refine lv_iload_n hx hb dModel_below_52 rfl (lv_at hl 3 rfl) ?_
        exact hE _ _ _ (bl_z hA4) (bl_end hA4 hA1 hA2 hA3 (by assumption)) dModel_below_53
      · obtain ⟨A, hA1, hA2, hA3, hA4⟩ := hbl
        have hAi : (nI A).toInt = (A : Int) := nI_toInt (by omega)
        have hle : i4_7.toInt ≤ x2.toInt := i_le (by assumption)
        have hinA : vp_in i4_7 (κ 0) := (by rw [hA2]; rw [hA2] at hle; exact vp_in_nI (by omega) (by omega))
        have hA6 : i4_7.toNatClampNeg = A := (by rw [hA2]; exact nI_clamp (by omega))
        have hlt4 : i4_7.toInt < 2147483647 := by omega
        have hA8 : A ≤ x2.toNatClampNeg := (by rw [← hA6]; exact bl_8 hinA hle hx2)
        refine lv_iload_n hx hb dModel_below_13 rfl (lv_at hl 3 rfl) ?_
        have J45 : ∀ (ls : Array Slot) (t0_45 : Int32), ((t0_45 = 0 ∧ i3_7 = 0 ∧ ¬ (τ 2 i4_7.toNatClampNeg = 25 ∧ b i4_7.toNatClampNeg ≤ x1.toNatClampNeg)) ∨ (t0_45 = 1 ∧ hid τ b x1.toNatClampNeg x2.toNatClampNeg)) → lv_has ls 5 [(0, .ref a), (1, .int x1), (2, .int x2), (3, .int i3_7), (4, .int i4_7)] → W p l e (bs_rm 0 0 0 0) s m args below meth c s.heap [] 0 0 Q (F0 m 45 ls [.int t0_45]) := by
          intro ls t0_45 h45 hl
          refine lv_istore_n (lv' := [(3, .int t0_45), (0, .ref a), (1, .int x1), (2, .int x2), (4, .int i4_7)]) hx hb dModel_below_45 rfl hl (by decide) rfl (fun ls hl => ?_)
          obtain ⟨v9, ev9⟩ : ∃ y : Int32, y = i4_7 + 1 := ⟨_, rfl⟩
          refine lv_iinc (v := v9) (lv' := [(4, .int v9), (3, .int t0_45), (0, .ref a), (1, .int x1), (2, .int x2)]) hx hb dModel_below_46 hl (k := 4) rfl (by rw [ev9]; rfl) (by decide) rfl (fun ls hl => ?_)
          refine lv_goto (tgt := 7) hx hb dModel_below_49 (by decide) ?_
          exact ih7 _ (by have q1 : i4_7.toInt < 2147483647 := (by first | assumption | exact (mu_up (k := i4_7) (by assumption)).2); have q2 := mu_lt q1; rw [← ev9] at q2; omega) ls v9 t0_45 ⟨A + 1, by omega, (by rw [ev9, hA2]; exact (nI_succ A).symm), (by have := vix hinA; omega), bl_bk h45 hA4 hA6⟩ rfl (lv_sub hl [2, 3, 4, 1, 0] rfl)
        refine lv_if_ne (tgt := 40) hx hb dModel_below_14 (by decide) (fun c10 => ?_) (fun c10 => ?_)
        · refine lv_iconst (v := 1) hx hb dModel_below_40 (by decide) ?_
          refine lv_goto (tgt := 45) hx hb dModel_below_41 (by decide) ?_
          exact J45 ls 1 (by first | exact Or.inr ⟨rfl, bl_1 hA4 (by assumption)⟩ | exact Or.inl ⟨rfl, by assumption, fun h9 => absurd (ev4.trans h9.1) (by assumption)⟩ | exact Or.inl ⟨rfl, by assumption, fun h9 => absurd h9.2 (Nat.not_le.mpr ((bl_b hTR hs0 hx1 hinA ev6).2.mp (by assumption)))⟩ | exact Or.inr ⟨rfl, A, hA1, hA8, (by rw [← hA6, ← ev4]; assumption), (by rw [← hA6]; exact Nat.not_lt.mp (fun h9 => absurd ((bl_b hTR hs0 hx1 hinA ev6).2.mpr h9) (by assumption)))⟩) (lv_sub hl [0, 1, 2, 3, 4] rfl)
        · refine lv_aload_n hx hb dModel_below_17 rfl (lv_at hl 0 rfl) ?_
          refine md_gA S hC hM 2 (by decide) rfl qw_3471296067 dModel_below_18 ?_
          refine lv_iload hx hb dModel_below_21 (lv_at hl 4 rfl) ?_
          refine md_ild S hC hM 2 0 4000 (τ 2) rfl rfl (by decide) rfl rfl (vin (by assumption) (by omega)) dModel_below_23 ?_
          refine lv_topi (fun v11 ev11 => ?_)
          refine lv_bipush (v := 25) hx hb dModel_below_24 (by decide) ?_
          refine lv_icmp_ne (tgt := 44) hx hb dModel_below_26 (by decide) (fun c12 => ?_) (fun c12 => ?_)
          · refine lv_iconst (v := 0) hx hb dModel_below_44 (by decide) ?_
            exact J45 ls 0 (by first | exact Or.inr ⟨rfl, bl_1 hA4 (by assumption)⟩ | exact Or.inl ⟨rfl, by assumption, fun h9 => absurd (ev11.trans h9.1) (by assumption)⟩ | exact Or.inl ⟨rfl, by assumption, fun h9 => absurd h9.2 (Nat.not_le.mpr ((bl_b hTR hs0 hx1 hinA ev6).2.mp (by assumption)))⟩ | exact Or.inr ⟨rfl, A, hA1, hA8, (by rw [← hA6, ← ev11]; assumption), (by rw [← hA6]; exact Nat.not_lt.mp (fun h9 => absurd ((bl_b hTR hs0 hx1 hinA ev6).2.mpr h9) (by assumption)))⟩) (lv_sub hl [0, 1, 2, 3, 4] rfl)
          · refine lv_aload_n hx hb dModel_below_29 rfl (lv_at hl 0 rfl) ?_
            refine md_gA S hC hM 5 (by decide) rfl qw_7e4081a75e dModel_below_30 ?_
            refine lv_iload hx hb dModel_below_33 (lv_at hl 4 rfl) ?_
            refine md_ild S hC hM 5 3 4000 (τ 5) rfl rfl (by decide) rfl rfl (vin (by assumption) (by omega)) dModel_below_35 ?_
            refine lv_topi (fun v13 ev13 => ?_)
            refine lv_iload_n hx hb dModel_below_36 rfl (lv_at hl 1 rfl) ?_
            refine lv_icmp_gt (tgt := 44) hx hb dModel_below_37 (by decide) (fun c14 => ?_) (fun c14 => ?_)
            · refine lv_iconst (v := 0) hx hb dModel_below_44 (by decide) ?_
              exact J45 ls 0 (by first | exact Or.inr ⟨rfl, bl_1 hA4 (by assumption)⟩ | exact Or.inl ⟨rfl, by assumption, fun h9 => absurd (ev11.trans h9.1) (by assumption)⟩ | exact Or.inl ⟨rfl, by assumption, fun h9 => absurd h9.2 (Nat.not_le.mpr ((bl_b hTR hs0 hx1 hinA ev13).2.mp (by assumption)))⟩ | exact Or.inr ⟨rfl, A, hA1, hA8, (by rw [← hA6, ← ev11]; assumption), (by rw [← hA6]; exact Nat.not_lt.mp (fun h9 => absurd ((bl_b hTR hs0 hx1 hinA ev13).2.mpr h9) (by assumption)))⟩) (lv_sub hl [0, 1, 2, 3, 4] rfl)
            · refine lv_iconst (v := 1) hx hb dModel_below_40 (by decide) ?_
              refine lv_goto (tgt := 45) hx hb dModel_below_41 (by decide) ?_
              exact J45 ls 1 (by first | exact Or.inr ⟨rfl, bl_1 hA4 (by assumption)⟩ | exact Or.inl ⟨rfl, by assumption, fun h9 => absurd (ev11.trans h9.1) (by assumption)⟩ | exact Or.inl ⟨rfl, by assumption, fun h9 => absurd h9.2 (Nat.not_le.mpr ((bl_b hTR hs0 hx1 hinA ev13).2.mp (by assumption)))⟩ | exact Or.inr ⟨rfl, A, hA1, hA8, (by rw [← hA6, ← ev11]; assumption), (by rw [← hA6]; exact Nat.not_lt.mp (fun h9 => absurd ((bl_b hTR hs0 hx1 hinA ev13).2.mpr h9) (by assumption)))⟩) (lv_sub hl [0, 1, 2, 3, 4] rfl)
  exact J7 _ ls v1 0 ⟨x1.toNatClampNeg + 1, by omega, (by rw [ev1]; have h9 := nI_succ x1.toNatClampNeg; rw [← vnI hx1] at h9; exact h9.symm), (by have := vix hx1; omega), Or.inl ⟨rfl, fun q h8 h9 => by omega⟩⟩ rfl (lv_sub hl [2, 3, 4, 1, 0] rfl)
theorem qw_e5f8ae1a74 : (Cond.constantLong R_Model 223 2147483647) ∈ bs_W0 := bs_in (in_tables_1_6 (List.mem_of_getElem? (i := 149) rfl)) rfl
theorem qw_730c3d130b : (Cond.constantLong R_Model 225 (-2147483647)) ∈ bs_W0 := bs_in (in_tables_1_6 (List.mem_of_getElem? (i := 150) rfl)) rfl
set_option maxHeartbeats 4000000 in
set_option maxRecDepth 100000 in
theorem m_integer (l : Launch) (γ : gE) (a : Nat) (B : Nat → Nat) (Z : Nat → Prop) (κ b mn : Nat → Nat) (ν : Nat → Int32) (τ : Nat → Nat → Int32) (σ : Nat → Int32) (F : Nat → Nat → Int32) (nu : Nat → Int64) (hT : ST κ b mn ν τ) (x1 : Int32) (x2 : Int32) (x3 : Int64) (hx1 : vp_in x1 (κ 0)) (hZ : SZ F) (hF : FD σ) : MU l yModel_integer bModel_integer 5 (some .int) 2 48 0 0 [.ref a, .int x1, .int x2, .long x3] γ Z (MD γ a B Z ν τ σ F nu) (mQi (fun r H => LKo γ a B Z ν τ x1.toNatClampNeg F nu r H) Z) := by
  refine mu_openI (by decide) (Nat.le_of_ble_eq_true rfl) ?_
  intro p e s m args below meth c ls Q S hnm hC hA hM hE hl
  have hS : va_S Z s.heap s.heap [] := va_S.rf
  obtain ⟨hx, hb, hml, hown, hW⟩ := id S
  obtain ⟨⟨hs0, hs1, hs2, hs3, hs4, hs5, hs6⟩, ⟨hv6, hv8, hv21, hv24, hv30, hv31⟩, hTR, hTY, hOB, hNM⟩ := id hT
  have hL : SL x1.toNatClampNeg F nu F nu := SL.rf
  have hl : lv_has ls 5 [(0, .ref a), (1, .int x1), (2, .int x2), (3, .long x3)] := hl
  refine lv_aload_n hx hb dModel_integer_0 rfl (lv_at hl 0 rfl) ?_
  refine lv_iload_n hx hb dModel_integer_1 rfl (lv_at hl 1 rfl) ?_
  refine lv_iconst (v := 2) hx hb dModel_integer_2 (by decide) ?_
  refine lv_iconst (v := 0) hx hb dModel_integer_3 (by decide) ?_
  refine lv_iload_n hx hb dModel_integer_4 rfl (lv_at hl 2 rfl) ?_
  have hnr1 : ∃ j, j ≤ 1000 ∧ 0 = nI j := ⟨0, by omega, rfl⟩
  refine mu_Vv (rest := []) S hC (fun q h => hA q (Nat.le_trans hS.1 h)) (fun q h => h) hS (m_fact l γ a B Z κ b mn ν τ σ F nu hT x1 2 0 x2 (vin (by assumption) (by omega)) hnr1) meModel_fact qw_02871250ec ⟨Nat.le_of_ble_eq_true rfl, Nat.le_of_ble_eq_true rfl⟩ (md_rv hC hM) hM rfl hl.1 rfl (Nat.le_of_ble_eq_true rfl) dModel_integer_5 ⟨Nat.le_refl _, Nat.le_refl _⟩ (fun H locs hPO hS _ _ => ?_)
  obtain ⟨Fr1, nur1, hM, hqr1, hcr1⟩ := hPO
  have hZ : SZ Fr1 := hZ.slt hqr1 hnr1
  have hL : SL x1.toNatClampNeg F nu Fr1 nur1 := hL.trans (SL.slt hqr1)
  have hK : GK x1.toNatClampNeg Fr1 nur1 := GK.zero hqr1
  refine lv_iload_n hx hb dModel_integer_8 rfl (lv_at hl 2 rfl) ?_
  refine lv_if_eq (tgt := 31) hx hb dModel_integer_9 (by decide) (fun c2 => ?_) (fun c2 => ?_)
  · refine lv_aload_n hx hb dModel_integer_31 rfl (lv_at hl 0 rfl) ?_
    refine md_gA S hC hM 13 (by decide) rfl qw_7b809afc8c dModel_integer_32 ?_
    refine lv_iload_n hx hb dModel_integer_35 rfl (lv_at hl 1 rfl) ?_
    refine lv_iload_n hx hb dModel_integer_36 rfl (lv_at hl 2 rfl) ?_
    refine lv_if_eq (tgt := 44) hx hb dModel_integer_37 (by decide) (fun c3 => ?_) (fun c3 => ?_)
    · refine lv_lconst (v := 0) hx hb dModel_integer_44 (by decide) ?_
      have hgnu4 : Fr1 9 x1.toNatClampNeg = 2 → -2147483648 < (0 : Int64).toInt ∧ (0 : Int64).toInt < 2147483648 := (fun _ => by first | contradiction | (constructor <;> decide) | exact ib_ok (by assumption) (by assumption) (by assumption) (by assumption))
      refine md_lst S hC hM hS (vin (by assumption) (by omega)) dModel_integer_45 (fun H locs hM hS => ?_)
      obtain ⟨nu4, enu4⟩ : ∃ z : Nat → Int64, z = vp_updL nur1 x1.toNatClampNeg 0 := ⟨_, rfl⟩
      rw [← enu4] at hM
      have hL : SL x1.toNatClampNeg F nu Fr1 nu4 := hL.trans (by rw [enu4]; exact SL.num)
      have hK : GK x1.toNatClampNeg Fr1 nu4 := by rw [enu4]; exact GK.num hgnu4
      refine lv_iconst (v := 0) hx hb dModel_integer_46 (by decide) ?_
      exact hE _ _ _ _ _ hS ⟨σ, Fr1, nu4, hM, hZ, hF, hL, (fun _ => hK)⟩ dModel_integer_47
    · refine lv_lload_n hx hb dModel_integer_40 rfl (lv_at hl 3 rfl) ?_
      refine lv_goto (tgt := 45) hx hb dModel_integer_41 (by decide) ?_
      have hgnu5 : Fr1 9 x1.toNatClampNeg = 2 → -2147483648 < (x3 : Int64).toInt ∧ (x3 : Int64).toInt < 2147483648 := (fun _ => by first | contradiction | (constructor <;> decide) | exact ib_ok (by assumption) (by assumption) (by assumption) (by assumption))
      refine md_lst S hC hM hS (vin (by assumption) (by omega)) dModel_integer_45 (fun H locs hM hS => ?_)
      obtain ⟨nu5, enu5⟩ : ∃ z : Nat → Int64, z = vp_updL nur1 x1.toNatClampNeg x3 := ⟨_, rfl⟩
      rw [← enu5] at hM
      have hL : SL x1.toNatClampNeg F nu Fr1 nu5 := hL.trans (by rw [enu5]; exact SL.num)
      have hK : GK x1.toNatClampNeg Fr1 nu5 := by rw [enu5]; exact GK.num hgnu5
      refine lv_iconst (v := 0) hx hb dModel_integer_46 (by decide) ?_
      exact hE _ _ _ _ _ hS ⟨σ, Fr1, nu5, hM, hZ, hF, hL, (fun _ => hK)⟩ dModel_integer_47
  · refine lv_lload_n hx hb dModel_integer_12 rfl (lv_at hl 3 rfl) ?_
    refine lv_ldc2 (v := 2147483647) hx hb hown (hW _ qw_e5f8ae1a74) dModel_integer_13 ?_
    refine W.lcmp hx hb dModel_integer_16 ?_
    refine lv_topi (fun v6 ev6 => ?_)
    refine lv_if_gt (tgt := 28) hx hb dModel_integer_17 (by decide) (fun c7 => ?_) (fun c7 => ?_)
    · refine lv_bipush (v := 9) hx hb dModel_integer_28 (by decide) ?_
      exact hE _ _ _ _ _ hS ⟨σ, Fr1, nur1, hM, hZ, hF, hL, (fun h9 => absurd (show (0 : Int32) < 9 by decide) h9)⟩ dModel_integer_30
    · refine lv_lload_n hx hb dModel_integer_20 rfl (lv_at hl 3 rfl) ?_
      refine lv_ldc2 (v := (-2147483647)) hx hb hown (hW _ qw_730c3d130b) dModel_integer_21 ?_
      refine W.lcmp hx hb dModel_integer_24 ?_
      refine lv_topi (fun v8 ev8 => ?_)
      refine lv_if_ge (tgt := 31) hx hb dModel_integer_25 (by decide) (fun c9 => ?_) (fun c9 => ?_)
      · refine lv_aload_n hx hb dModel_integer_31 rfl (lv_at hl 0 rfl) ?_
        refine md_gA S hC hM 13 (by decide) rfl qw_7b809afc8c dModel_integer_32 ?_
        refine lv_iload_n hx hb dModel_integer_35 rfl (lv_at hl 1 rfl) ?_
        refine lv_iload_n hx hb dModel_integer_36 rfl (lv_at hl 2 rfl) ?_
        refine lv_if_eq (tgt := 44) hx hb dModel_integer_37 (by decide) (fun c10 => ?_) (fun c10 => ?_)
        · refine lv_lconst (v := 0) hx hb dModel_integer_44 (by decide) ?_
          have hgnu11 : Fr1 9 x1.toNatClampNeg = 2 → -2147483648 < (0 : Int64).toInt ∧ (0 : Int64).toInt < 2147483648 := (fun _ => by first | contradiction | (constructor <;> decide) | exact ib_ok (by assumption) (by assumption) (by assumption) (by assumption))
          refine md_lst S hC hM hS (vin (by assumption) (by omega)) dModel_integer_45 (fun H locs hM hS => ?_)
          obtain ⟨nu11, enu11⟩ : ∃ z : Nat → Int64, z = vp_updL nur1 x1.toNatClampNeg 0 := ⟨_, rfl⟩
          rw [← enu11] at hM
          have hL : SL x1.toNatClampNeg F nu Fr1 nu11 := hL.trans (by rw [enu11]; exact SL.num)
          have hK : GK x1.toNatClampNeg Fr1 nu11 := by rw [enu11]; exact GK.num hgnu11
          refine lv_iconst (v := 0) hx hb dModel_integer_46 (by decide) ?_
          exact hE _ _ _ _ _ hS ⟨σ, Fr1, nu11, hM, hZ, hF, hL, (fun _ => hK)⟩ dModel_integer_47
        · refine lv_lload_n hx hb dModel_integer_40 rfl (lv_at hl 3 rfl) ?_
          refine lv_goto (tgt := 45) hx hb dModel_integer_41 (by decide) ?_
          have hgnu12 : Fr1 9 x1.toNatClampNeg = 2 → -2147483648 < (x3 : Int64).toInt ∧ (x3 : Int64).toInt < 2147483648 := (fun _ => by first | contradiction | (constructor <;> decide) | exact ib_ok (by assumption) (by assumption) (by assumption) (by assumption))
          refine md_lst S hC hM hS (vin (by assumption) (by omega)) dModel_integer_45 (fun H locs hM hS => ?_)
          obtain ⟨nu12, enu12⟩ : ∃ z : Nat → Int64, z = vp_updL nur1 x1.toNatClampNeg x3 := ⟨_, rfl⟩
          rw [← enu12] at hM
          have hL : SL x1.toNatClampNeg F nu Fr1 nu12 := hL.trans (by rw [enu12]; exact SL.num)
          have hK : GK x1.toNatClampNeg Fr1 nu12 := by rw [enu12]; exact GK.num hgnu12
          refine lv_iconst (v := 0) hx hb dModel_integer_46 (by decide) ?_
          exact hE _ _ _ _ _ hS ⟨σ, Fr1, nu12, hM, hZ, hF, hL, (fun _ => hK)⟩ dModel_integer_47
      · refine lv_bipush (v := 9) hx hb dModel_integer_28 (by decide) ?_
        exact hE _ _ _ _ _ hS ⟨σ, Fr1, nur1, hM, hZ, hF, hL, (fun h9 => absurd (show (0 : Int32) < 9 by decide) h9)⟩ dModel_integer_30
theorem qw_ece0c598e8 : (Cond.methodLink R_Model 173 yModel_find) ∈ bs_W0 := bs_in (in_tables_1_6 (List.mem_of_getElem? (i := 67) rfl)) rfl
theorem qw_bd9bcb35cb : (Cond.fieldLink R_Model 72 R_Model "objectType" "[I") ∈ bs_W0 := bs_in (in_tables_1_5 (List.mem_of_getElem? (i := 176) rfl)) rfl
set_option maxHeartbeats 4000000 in
set_option maxRecDepth 100000 in
theorem m_rowObject (l : Launch) (γ : gE) (a : Nat) (B : Nat → Nat) (Z : Nat → Prop) (κ b mn : Nat → Nat) (ν : Nat → Int32) (τ : Nat → Nat → Int32) (σ : Nat → Int32) (F : Nat → Nat → Int32) (nu : Nat → Int64) (hT : ST κ b mn ν τ) (x1 : Int32)  : MU l yModel_rowObject bModel_rowObject 2 (some .int) 1 22 0 0 [.ref a, .int x1] γ Z (MD γ a B Z ν τ σ F nu) (mQi (fun r H => ∃ σ' : Nat → Int32, MD γ a B Z ν τ σ' F nu H ∧ FD σ' ∧ (0 < r ∨ ∃ o t, o < 2000 ∧ t < 1000 ∧ σ' 33 = nI o ∧ τ 23 o = nI t ∧ τ 16 t = 3)) Z) := by
  refine mu_openI (by decide) (Nat.le_of_ble_eq_true rfl) ?_
  intro p e s m args below meth c ls Q S hnm hC hA hM hE hl
  have hS : va_S Z s.heap s.heap [] := va_S.rf
  obtain ⟨hx, hb, hml, hown, hW⟩ := id S
  obtain ⟨⟨hs0, hs1, hs2, hs3, hs4, hs5, hs6⟩, ⟨hv6, hv8, hv21, hv24, hv30, hv31⟩, hTR, hTY, hOB, hNM⟩ := id hT
  have hl : lv_has ls 2 [(0, .ref a), (1, .int x1)] := hl
  refine lv_aload_n hx hb dModel_rowObject_0 rfl (lv_at hl 0 rfl) ?_
  refine lv_iload_n hx hb dModel_rowObject_1 rfl (lv_at hl 1 rfl) ?_
  refine mu_Vv (rest := []) S hC (fun q h => hA q (Nat.le_trans hS.1 h)) (fun q h => h) hS (m_find l γ a B Z κ b mn ν τ σ F nu hT x1 ) meModel_find qw_ece0c598e8 ⟨Nat.le_of_ble_eq_true rfl, Nat.le_of_ble_eq_true rfl⟩ (md_rv hC hM) hM rfl hl.1 rfl (Nat.le_of_ble_eq_true rfl) dModel_rowObject_2 ⟨Nat.le_refl _, Nat.le_refl _⟩ (fun H locs hPO hS _ _ => ?_)
  obtain ⟨σr1, hM, hF⟩ := hPO
  refine lv_aload_n hx hb dModel_rowObject_5 rfl (lv_at hl 0 rfl) ?_
  refine md_gI S hC hM 32 (v := σr1 32) rfl (by decide) rfl qw_9d5e299446 dModel_rowObject_6 ?_
  refine lv_topi (fun v2 ev2 => ?_)
  refine lv_iconst (v := 5) hx hb dModel_rowObject_9 (by decide) ?_
  refine lv_icmp_ne (tgt := 15) hx hb dModel_rowObject_10 (by decide) (fun c3 => ?_) (fun c3 => ?_)
  · refine lv_aload_n hx hb dModel_rowObject_15 rfl (lv_at hl 0 rfl) ?_
    refine md_gI S hC hM 32 (v := σr1 32) rfl (by decide) rfl qw_9d5e299446 dModel_rowObject_16 ?_
    refine lv_topi (fun v4 ev4 => ?_)
    refine lv_iconst (v := 1) hx hb dModel_rowObject_19 (by decide) ?_
    refine lv_icmp_ne (tgt := 45) hx hb dModel_rowObject_20 (by decide) (fun c5 => ?_) (fun c5 => ?_)
    · refine lv_iconst (v := 2) hx hb dModel_rowObject_45 (by decide) ?_
      exact hE _ _ _ _ _ hS ⟨σr1, hM, hF, Or.inl (by decide)⟩ dModel_rowObject_46
    · obtain ⟨o, ho, hoe⟩ := hF.1 (ev4.symm.trans (by assumption))
      refine lv_aload_n hx hb dModel_rowObject_23 rfl (lv_at hl 0 rfl) ?_
      refine md_gA S hC hM 16 (by decide) rfl qw_9bd8ea24bb dModel_rowObject_24 ?_
      refine lv_aload_n hx hb dModel_rowObject_27 rfl (lv_at hl 0 rfl) ?_
      refine md_gA S hC hM 23 (by decide) rfl qw_bd9bcb35cb dModel_rowObject_28 ?_
      refine lv_aload_n hx hb dModel_rowObject_31 rfl (lv_at hl 0 rfl) ?_
      refine md_gI S hC hM 33 (v := σr1 33) rfl (by decide) rfl qw_c60a40a4a7 dModel_rowObject_32 ?_
      refine lv_topi (fun v6 ev6 => ?_)
      refine md_ild S hC hM 23 18 2000 (τ 23) rfl rfl (by decide) rfl rfl (vin_of (ev6.trans hoe) ho (by omega)) dModel_rowObject_35 ?_
      refine lv_topi (fun v7 ev7 => ?_)
      refine md_ild S hC hM 16 12 1000 (τ 16) rfl rfl (by decide) rfl rfl (ob_in hOB (vin_of (ev6.trans hoe) ho (by omega)) ev7) dModel_rowObject_36 ?_
      refine lv_topi (fun v8 ev8 => ?_)
      refine lv_iconst (v := 3) hx hb dModel_rowObject_37 (by decide) ?_
      refine lv_icmp_ne (tgt := 45) hx hb dModel_rowObject_38 (by decide) (fun c9 => ?_) (fun c9 => ?_)
      · refine lv_iconst (v := 2) hx hb dModel_rowObject_45 (by decide) ?_
        exact hE _ _ _ _ _ hS ⟨σr1, hM, hF, Or.inl (by decide)⟩ dModel_rowObject_46
      · refine lv_iconst (v := 0) hx hb dModel_rowObject_41 (by decide) ?_
        refine lv_goto (tgt := 46) hx hb dModel_rowObject_42 (by decide) ?_
        exact hE _ _ _ _ _ hS ⟨σr1, hM, hF, Or.inr (ro_ok hOB ho hoe ev6 ev7 ev8 (by assumption))⟩ dModel_rowObject_46
  · refine lv_iconst (v := 1) hx hb dModel_rowObject_13 (by decide) ?_
    exact hE _ _ _ _ _ hS ⟨σr1, hM, hF, Or.inl (by decide)⟩ dModel_rowObject_14
theorem qw_9fb851a5fa : (Cond.fieldLink R_Model 17 R_Model "val" "[I") ∈ bs_W0 := bs_in (in_tables_1_5 (List.mem_of_getElem? (i := 156) rfl)) rfl
theorem qw_50c5849686 : (Cond.fieldLink R_Model 69 R_Model "what" "[I") ∈ bs_W0 := bs_in (in_tables_1_5 (List.mem_of_getElem? (i := 175) rfl)) rfl
theorem qw_7a050de5f5 : (Cond.methodLink R_Model 181 yModel_factOfType) ∈ bs_W0 := bs_in (in_tables_1_6 (List.mem_of_getElem? (i := 83) rfl)) rfl
theorem qw_7581103c83 : (Cond.methodLink R_Model 177 yModel_copy) ∈ bs_W0 := bs_in (in_tables_1_6 (List.mem_of_getElem? (i := 71) rfl)) rfl
set_option maxHeartbeats 4000000 in
set_option maxRecDepth 100000 in
theorem m_lookName (l : Launch) (γ : gE) (a : Nat) (B : Nat → Nat) (Z : Nat → Prop) (κ b mn : Nat → Nat) (ν : Nat → Int32) (τ : Nat → Nat → Int32) (σ : Nat → Int32) (F : Nat → Nat → Int32) (nu : Nat → Int64) (hT : ST κ b mn ν τ) (x1 : Int32) (hx1 : vp_in x1 (κ 0)) (hZ : SZ F) (hF : FD σ) (hG : GD F nu) : MU l yModel_lookName bModel_lookName 3 (some .int) 3 70 0 0 [.ref a, .int x1] γ Z (MD γ a B Z ν τ σ F nu) (mQi (fun r H => LKo γ a B Z ν τ x1.toNatClampNeg F nu r H) Z) := by
  refine mu_openI (by decide) (Nat.le_of_ble_eq_true rfl) ?_
  intro p e s m args below meth c ls Q S hnm hC hA hM hE hl
  have hS : va_S Z s.heap s.heap [] := va_S.rf
  obtain ⟨hx, hb, hml, hown, hW⟩ := id S
  obtain ⟨⟨hs0, hs1, hs2, hs3, hs4, hs5, hs6⟩, ⟨hv6, hv8, hv21, hv24, hv30, hv31⟩, hTR, hTY, hOB, hNM⟩ := id hT
  have hL : SL x1.toNatClampNeg F nu F nu := SL.rf
  have hl : lv_has ls 3 [(0, .ref a), (1, .int x1)] := hl
  refine lv_aload_n hx hb dModel_lookName_0 rfl (lv_at hl 0 rfl) ?_
  refine lv_aload_n hx hb dModel_lookName_1 rfl (lv_at hl 0 rfl) ?_
  refine md_gA S hC hM 3 (by decide) rfl qw_9fb851a5fa dModel_lookName_2 ?_
  refine lv_iload_n hx hb dModel_lookName_5 rfl (lv_at hl 1 rfl) ?_
  refine md_ild S hC hM 3 1 4000 (τ 3) rfl rfl (by decide) rfl rfl (vin (by assumption) (by omega)) dModel_lookName_6 ?_
  refine lv_topi (fun v1 ev1 => ?_)
  refine mu_Vv (rest := []) S hC (fun q h => hA q (Nat.le_trans hS.1 h)) (fun q h => h) hS (m_find l γ a B Z κ b mn ν τ σ F nu hT v1 ) meModel_find qw_ece0c598e8 ⟨Nat.le_of_ble_eq_true rfl, Nat.le_of_ble_eq_true rfl⟩ (md_rv hC hM) hM rfl hl.1 rfl (Nat.le_of_ble_eq_true rfl) dModel_lookName_7 ⟨Nat.le_refl _, Nat.le_refl _⟩ (fun H locs hPO hS _ _ => ?_)
  obtain ⟨σr2, hM, hF⟩ := hPO
  refine lv_aload_n hx hb dModel_lookName_10 rfl (lv_at hl 0 rfl) ?_
  refine md_gI S hC hM 32 (v := σr2 32) rfl (by decide) rfl qw_9d5e299446 dModel_lookName_11 ?_
  refine lv_topi (fun v3 ev3 => ?_)
  refine lv_iconst (v := 5) hx hb dModel_lookName_14 (by decide) ?_
  refine lv_icmp_ne (tgt := 20) hx hb dModel_lookName_15 (by decide) (fun c4 => ?_) (fun c4 => ?_)
  · refine lv_aload_n hx hb dModel_lookName_20 rfl (lv_at hl 0 rfl) ?_
    refine md_gI S hC hM 32 (v := σr2 32) rfl (by decide) rfl qw_9d5e299446 dModel_lookName_21 ?_
    refine lv_topi (fun v5 ev5 => ?_)
    refine lv_iconst (v := 1) hx hb dModel_lookName_24 (by decide) ?_
    refine lv_icmp_ne (tgt := 75) hx hb dModel_lookName_25 (by decide) (fun c6 => ?_) (fun c6 => ?_)
    · refine lv_aload_n hx hb dModel_lookName_75 rfl (lv_at hl 0 rfl) ?_
      refine md_gI S hC hM 32 (v := σr2 32) rfl (by decide) rfl qw_9d5e299446 dModel_lookName_76 ?_
      refine lv_topi (fun v7 ev7 => ?_)
      refine lv_iconst (v := 2) hx hb dModel_lookName_79 (by decide) ?_
      have J93 : ∀ (ls : Array Slot), lv_has ls 3 [(0, .ref a), (1, .int x1)] → W p l e (bs_rm 3 0 0 70) s m args below meth c H locs 0 0 Q (F0 m 93 ls []) := by
        intro ls hl
        refine lv_aload_n hx hb dModel_lookName_93 rfl (lv_at hl 0 rfl) ?_
        refine lv_iload_n hx hb dModel_lookName_94 rfl (lv_at hl 1 rfl) ?_
        refine lv_aload_n hx hb dModel_lookName_95 rfl (lv_at hl 0 rfl) ?_
        refine md_gI S hC hM 32 (v := σr2 32) rfl (by decide) rfl qw_9d5e299446 dModel_lookName_96 ?_
        refine lv_topi (fun v25 ev25 => ?_)
        refine lv_iconst (v := 2) hx hb dModel_lookName_99 (by decide) ?_
        have J108 : ∀ (ls : Array Slot) (t0_108 : Int32), (t0_108 = 4 ∨ t0_108 = 1) → lv_has ls 3 [(0, .ref a), (1, .int x1)] → W p l e (bs_rm 3 0 0 70) s m args below meth c H locs 0 0 Q (F0 m 108 ls [.int t0_108, .int x1, .ref a]) := by
          intro ls t0_108 ht0_108 hl
          refine lv_aload_n hx hb dModel_lookName_108 rfl (lv_at hl 0 rfl) ?_
          refine md_gI S hC hM 32 (v := σr2 32) rfl (by decide) rfl qw_9d5e299446 dModel_lookName_109 ?_
          refine lv_topi (fun v39 ev39 => ?_)
          refine lv_iconst (v := 2) hx hb dModel_lookName_112 (by decide) ?_
          have J124 : ∀ (ls : Array Slot) (t0_124 : Int32), (∃ j, j ≤ 1000 ∧ t0_124 = nI j) → lv_has ls 3 [(0, .ref a), (1, .int x1)] → W p l e (bs_rm 3 0 0 70) s m args below meth c H locs 0 0 Q (F0 m 124 ls [.int t0_124, .int t0_108, .int x1, .ref a]) := by
            intro ls t0_124 ht0_124 hl
            refine lv_iconst (v := 1) hx hb dModel_lookName_124 (by decide) ?_
            have hnr51 : ∃ j, j ≤ 1000 ∧ t0_124 = nI j := ht0_124
            refine mu_Vv (rest := []) S hC (fun q h => hA q (Nat.le_trans hS.1 h)) (fun q h => h) hS (m_fact l γ a B Z κ b mn ν τ σr2 F nu hT x1 t0_108 t0_124 1 (vin (by assumption) (by omega)) hnr51) meModel_fact qw_02871250ec ⟨Nat.le_of_ble_eq_true rfl, Nat.le_of_ble_eq_true rfl⟩ (md_rv hC hM) hM rfl hl.1 rfl (Nat.le_of_ble_eq_true rfl) dModel_lookName_125 ⟨Nat.le_refl _, Nat.le_refl _⟩ (fun H locs hPO hS _ _ => ?_)
            obtain ⟨Fr51, nur51, hM, hqr51, hcr51⟩ := hPO
            have hZ : SZ Fr51 := hZ.slt hqr51 hnr51
            have hL : SL x1.toNatClampNeg F nu Fr51 nur51 := hL.trans (SL.slt hqr51)
            have hK : GK x1.toNatClampNeg Fr51 nur51 := GK.zero hqr51
            refine lv_aload_n hx hb dModel_lookName_128 rfl (lv_at hl 0 rfl) ?_
            refine md_gA S hC hM 13 (by decide) rfl qw_7b809afc8c dModel_lookName_129 ?_
            refine lv_iload_n hx hb dModel_lookName_132 rfl (lv_at hl 1 rfl) ?_
            refine lv_aload_n hx hb dModel_lookName_133 rfl (lv_at hl 0 rfl) ?_
            refine md_gI S hC hM 32 (v := σr2 32) rfl (by decide) rfl qw_9d5e299446 dModel_lookName_134 ?_
            refine lv_topi (fun v52 ev52 => ?_)
            refine lv_iconst (v := 2) hx hb dModel_lookName_137 (by decide) ?_
            have J163 : ∀ (ls : Array Slot) (t0_163 : Int64), lv_has ls 3 [(0, .ref a), (1, .int x1)] → W p l e (bs_rm 3 0 0 70) s m args below meth c H locs 0 0 Q (F0 m 163 ls [.long t0_163, .int x1, .ref (B 13)]) := by
              intro ls t0_163 hl
              have hgnu60 : Fr51 9 x1.toNatClampNeg = 2 → -2147483648 < (t0_163 : Int64).toInt ∧ (t0_163 : Int64).toInt < 2147483648 := (fun h9 => by have h8 := (slt9 hqr51).symm.trans h9; rcases ht0_108 with h7 | h7 <;> (rw [h7] at h8; exact absurd h8 (by decide)))
              refine md_lst S hC hM hS (vin (by assumption) (by omega)) dModel_lookName_163 (fun H locs hM hS => ?_)
              obtain ⟨nu60, enu60⟩ : ∃ z : Nat → Int64, z = vp_updL nur51 x1.toNatClampNeg t0_163 := ⟨_, rfl⟩
              rw [← enu60] at hM
              have hL : SL x1.toNatClampNeg F nu Fr51 nu60 := hL.trans (by rw [enu60]; exact SL.num)
              have hK : GK x1.toNatClampNeg Fr51 nu60 := by rw [enu60]; exact GK.num hgnu60
              refine lv_aload_n hx hb dModel_lookName_164 rfl (lv_at hl 0 rfl) ?_
              refine md_gA S hC hM 12 (by decide) rfl qw_19df235c4a dModel_lookName_165 ?_
              refine lv_iload_n hx hb dModel_lookName_168 rfl (lv_at hl 1 rfl) ?_
              refine lv_sipush (v := 2000) hx hb dModel_lookName_169 (by decide) ?_
              refine md_istD S hC hM hS 12 8 10000 rfl rfl (by decide) rfl rfl (vin (by assumption) (by omega)) dModel_lookName_172 (fun H locs hM hS => ?_)
              obtain ⟨F61, eF61⟩ : ∃ z : Nat → Nat → Int32, z = Au Fr51 12 x1.toNatClampNeg 2000 := ⟨_, rfl⟩
              rw [← eF61] at hM
              have hZ : SZ F61 := hZ.au eF61 (by decide)
              have hL : SL x1.toNatClampNeg F nu F61 nu60 := hL.au eF61 (by decide)
              have hK : GK x1.toNatClampNeg F61 nu60 := hK.au eF61 (by decide)
              refine lv_iconst (v := 0) hx hb dModel_lookName_173 (by decide) ?_
              exact hE _ _ _ _ _ hS ⟨σr2, F61, nu60, hM, hZ, hF, hL, (fun _ => hK)⟩ dModel_lookName_174
            refine lv_icmp_ne (tgt := 149) hx hb dModel_lookName_138 (by decide) (fun c62 => ?_) (fun c62 => ?_)
            · refine lv_aload_n hx hb dModel_lookName_149 rfl (lv_at hl 0 rfl) ?_
              refine md_gI S hC hM 33 (v := σr2 33) rfl (by decide) rfl qw_c60a40a4a7 dModel_lookName_150 ?_
              refine lv_topi (fun v63 ev63 => ?_)
              refine lv_bipush (v := 6) hx hb dModel_lookName_153 (by decide) ?_
              refine lv_icmp_ne (tgt := 162) hx hb dModel_lookName_155 (by decide) (fun c64 => ?_) (fun c64 => ?_)
              · refine lv_lconst (v := 0) hx hb dModel_lookName_162 (by decide) ?_
                exact J163 ls 0 (lv_sub hl [0, 1] rfl)
              · refine lv_lconst (v := 1) hx hb dModel_lookName_158 (by decide) ?_
                refine lv_goto (tgt := 163) hx hb dModel_lookName_159 (by decide) ?_
                exact J163 ls 1 (lv_sub hl [0, 1] rfl)
            · refine lv_aload_n hx hb dModel_lookName_141 rfl (lv_at hl 0 rfl) ?_
              refine md_gI S hC hM 34 (v := σr2 34) rfl (by decide) rfl qw_6a7082029c dModel_lookName_142 ?_
              refine lv_topi (fun v65 ev65 => ?_)
              refine lv_i2l hx hb dModel_lookName_145 rfl ?_
              refine lv_topl (fun v66 ev66 => ?_)
              refine lv_goto (tgt := 163) hx hb dModel_lookName_146 (by decide) ?_
              exact J163 ls v66 (lv_sub hl [0, 1] rfl)
          refine lv_icmp_ne (tgt := 123) hx hb dModel_lookName_113 (by decide) (fun c67 => ?_) (fun c67 => ?_)
          · refine lv_iconst (v := 0) hx hb dModel_lookName_123 (by decide) ?_
            exact J124 ls 0 (by first | exact ⟨0, by omega, rfl⟩ | (rw [ev41]; exact hF.2.1 (ev39.symm.trans (by assumption)))) (lv_sub hl [0, 1] rfl)
          · refine lv_aload_n hx hb dModel_lookName_116 rfl (lv_at hl 0 rfl) ?_
            refine md_gI S hC hM 33 (v := σr2 33) rfl (by decide) rfl qw_c60a40a4a7 dModel_lookName_117 ?_
            refine lv_topi (fun v68 ev68 => ?_)
            refine lv_goto (tgt := 124) hx hb dModel_lookName_120 (by decide) ?_
            exact J124 ls v68 (by first | exact ⟨0, by omega, rfl⟩ | (rw [ev68]; exact hF.2.1 (ev39.symm.trans (by assumption)))) (lv_sub hl [0, 1] rfl)
        refine lv_icmp_ne (tgt := 107) hx hb dModel_lookName_100 (by decide) (fun c69 => ?_) (fun c69 => ?_)
        · refine lv_iconst (v := 1) hx hb dModel_lookName_107 (by decide) ?_
          exact J108 ls 1 (by first | assumption | exact Or.inl rfl | exact Or.inr rfl) (lv_sub hl [0, 1] rfl)
        · refine lv_iconst (v := 4) hx hb dModel_lookName_103 (by decide) ?_
          refine lv_goto (tgt := 108) hx hb dModel_lookName_104 (by decide) ?_
          exact J108 ls 4 (by first | assumption | exact Or.inl rfl | exact Or.inr rfl) (lv_sub hl [0, 1] rfl)
      refine lv_icmp_eq (tgt := 93) hx hb dModel_lookName_80 (by decide) (fun c70 => ?_) (fun c70 => ?_)
      · exact J93 ls  (lv_sub hl [0, 1] rfl)
      · refine lv_aload_n hx hb dModel_lookName_83 rfl (lv_at hl 0 rfl) ?_
        refine md_gI S hC hM 32 (v := σr2 32) rfl (by decide) rfl qw_9d5e299446 dModel_lookName_84 ?_
        refine lv_topi (fun v71 ev71 => ?_)
        refine lv_iconst (v := 3) hx hb dModel_lookName_87 (by decide) ?_
        refine lv_icmp_eq (tgt := 93) hx hb dModel_lookName_88 (by decide) (fun c72 => ?_) (fun c72 => ?_)
        · exact J93 ls  (lv_sub hl [0, 1] rfl)
        · refine lv_iconst (v := 2) hx hb dModel_lookName_91 (by decide) ?_
          exact hE _ _ _ _ _ hS ⟨σr2, F, nu, hM, hZ, hF, hL, (fun h9 => absurd (show (0 : Int32) < 2 by decide) h9)⟩ dModel_lookName_92
    · obtain ⟨o, ho, hoe⟩ := hF.1 (ev5.symm.trans (by assumption))
      refine lv_aload_n hx hb dModel_lookName_28 rfl (lv_at hl 0 rfl) ?_
      refine md_gI S hC hM 33 (v := σr2 33) rfl (by decide) rfl qw_c60a40a4a7 dModel_lookName_29 ?_
      refine lv_topi (fun v73 ev73 => ?_)
      refine lv_istore_n (lv' := [(2, .int v73), (0, .ref a), (1, .int x1)]) hx hb dModel_lookName_32 rfl hl (by decide) rfl (fun ls hl => ?_)
      have hio : vp_in v73 2000 := vin_of (ev73.trans hoe) ho (by omega)
      refine lv_aload_n hx hb dModel_lookName_33 rfl (lv_at hl 1 rfl) ?_
      refine md_gA S hC hM 22 (by decide) rfl qw_50c5849686 dModel_lookName_34 ?_
      refine lv_iload_n hx hb dModel_lookName_37 rfl (lv_at hl 0 rfl) ?_
      refine md_ild S hC hM 22 17 2000 (τ 22) rfl rfl (by decide) rfl rfl (vin (by assumption) (by omega)) dModel_lookName_38 ?_
      refine lv_topi (fun v74 ev74 => ?_)
      have J66 : ∀ (ls : Array Slot) (H : Heap) (locs : List Loc) (F_66 : Nat → Nat → Int32) (nu_66 : Nat → Int64), MD γ a B Z ν τ σr2 F_66 nu_66 H → va_S Z s.heap H locs → (GK x1.toNatClampNeg F_66 nu_66) → (SL x1.toNatClampNeg F nu F_66 nu_66) → (SZ F_66) → lv_has ls 3 [(0, .ref a), (1, .int x1), (2, .int v73)] → W p l e (bs_rm 3 0 0 70) s m args below meth c H locs 0 0 Q (F0 m 66 ls []) := by
        intro ls H locs F_66 nu_66 hM hS hK hL hZ hl
        refine lv_aload_n hx hb dModel_lookName_66 rfl (lv_at hl 0 rfl) ?_
        refine md_gA S hC hM 12 (by decide) rfl qw_19df235c4a dModel_lookName_67 ?_
        refine lv_iload_n hx hb dModel_lookName_70 rfl (lv_at hl 1 rfl) ?_
        refine lv_iload_n hx hb dModel_lookName_71 rfl (lv_at hl 2 rfl) ?_
        refine md_istD S hC hM hS 12 8 10000 rfl rfl (by decide) rfl rfl (vin (by assumption) (by omega)) dModel_lookName_72 (fun H locs hM hS => ?_)
        obtain ⟨F81, eF81⟩ : ∃ z : Nat → Nat → Int32, z = Au F_66 12 x1.toNatClampNeg v73 := ⟨_, rfl⟩
        rw [← eF81] at hM
        have hZ : SZ F81 := hZ.au eF81 (by decide)
        have hL : SL x1.toNatClampNeg F nu F81 nu_66 := hL.au eF81 (by decide)
        have hK : GK x1.toNatClampNeg F81 nu_66 := hK.au eF81 (by decide)
        refine lv_iconst (v := 0) hx hb dModel_lookName_73 (by decide) ?_
        exact hE _ _ _ _ _ hS ⟨σr2, F81, nu_66, hM, hZ, hF, hL, (fun _ => hK)⟩ dModel_lookName_74
      refine lv_if_ne (tgt := 55) hx hb dModel_lookName_39 (by decide) (fun c82 => ?_) (fun c82 => ?_)
      · refine lv_aload_n hx hb dModel_lookName_55 rfl (lv_at hl 1 rfl) ?_
        refine lv_iload_n hx hb dModel_lookName_56 rfl (lv_at hl 2 rfl) ?_
        refine lv_aload_n hx hb dModel_lookName_57 rfl (lv_at hl 1 rfl) ?_
        refine md_gA S hC hM 23 (by decide) rfl qw_bd9bcb35cb dModel_lookName_58 ?_
        refine lv_iload_n hx hb dModel_lookName_61 rfl (lv_at hl 0 rfl) ?_
        refine md_ild S hC hM 23 18 2000 (τ 23) rfl rfl (by decide) rfl rfl (vin (by assumption) (by omega)) dModel_lookName_62 ?_
        refine lv_topi (fun v83 ev83 => ?_)
        have hit : vp_in v83 1000 := ob_in hOB hio ev83
        refine mu_Vv (rest := []) S hC (fun q h => hA q (Nat.le_trans hS.1 h)) (fun q h => h) hS (m_factOfType l γ a B Z κ b mn ν τ σr2 F nu hT x1 v83 (vin (by assumption) (by omega)) hit) meModel_factOfType qw_7a050de5f5 ⟨Nat.le_of_ble_eq_true rfl, Nat.le_of_ble_eq_true rfl⟩ (md_rv hC hM) hM rfl hl.1 rfl (Nat.le_of_ble_eq_true rfl) dModel_lookName_63 ⟨Nat.le_refl _, Nat.le_refl _⟩ (fun H locs hPO hS _ _ => ?_)
        obtain ⟨Fr84, nur84, cr84, nr84, hM, hqr84, hnr84⟩ := hPO
        have hZ : SZ Fr84 := hZ.slt hqr84 hnr84
        have hL : SL x1.toNatClampNeg F nu Fr84 nur84 := hL.trans (SL.slt hqr84)
        have hK : GK x1.toNatClampNeg Fr84 nur84 := GK.zero hqr84
        exact J66 ls _ _ Fr84 nur84 hM hS hK hL hZ (lv_sub hl [1, 2, 0] rfl)
      · refine lv_aload_n hx hb dModel_lookName_42 rfl (lv_at hl 1 rfl) ?_
        refine lv_sipush (v := 8000) hx hb dModel_lookName_43 (by decide) ?_
        refine lv_iload_n hx hb dModel_lookName_46 rfl (lv_at hl 0 rfl) ?_
        refine lv_iadd hx hb dModel_lookName_47 ?_
        refine lv_topi (fun v85 ev85 => ?_)
        refine lv_iload_n hx hb dModel_lookName_48 rfl (lv_at hl 2 rfl) ?_
        have h8 := vin8 hio ev85
        refine mu_Vv (rest := []) S hC (fun q h => hA q (Nat.le_trans hS.1 h)) (fun q h => h) hS (m_copy l γ a B Z κ b mn ν τ σr2 F nu hT v85 x1 h8.1 (vin (by assumption) (by omega))) meModel_copy qw_7581103c83 ⟨Nat.le_of_ble_eq_true rfl, Nat.le_of_ble_eq_true rfl⟩ (md_rv hC hM) hM rfl hl.1 rfl (Nat.le_of_ble_eq_true rfl) dModel_lookName_49 ⟨Nat.le_refl _, Nat.le_refl _⟩ (fun H locs hPO hS _ _ => ?_)
        obtain ⟨Fr86, nur86, hM, hqr86⟩ := hPO
        have hZ : SZ Fr86 := hZ.slt hqr86 (hZ _ (vix h8.1))
        have hL : SL x1.toNatClampNeg F nu Fr86 nur86 := hL.trans (SL.slt hqr86)
        have hK : GK x1.toNatClampNeg Fr86 nur86 := GK.copy hqr86 (hG _ (by rw [h8.2]; omega) (vix h8.1))
        refine lv_goto (tgt := 66) hx hb dModel_lookName_52 (by decide) ?_
        exact J66 ls _ _ Fr86 nur86 hM hS hK hL hZ (lv_sub hl [1, 2, 0] rfl)
  · refine lv_iconst (v := 1) hx hb dModel_lookName_18 (by decide) ?_
    exact hE _ _ _ _ _ hS ⟨σr2, F, nu, hM, hZ, hF, hL, (fun h9 => absurd (show (0 : Int32) < 1 by decide) h9)⟩ dModel_lookName_19
theorem qw_a8caa30de3 : (Cond.fieldLink R_Model 20 R_Model "many" "[I") ∈ bs_W0 := bs_in (in_tables_1_5 (List.mem_of_getElem? (i := 157) rfl)) rfl
theorem qw_a66d450e0a : (Cond.methodLink R_Model 154 yModel_child) ∈ bs_W0 := bs_in (in_tables_1_6 (List.mem_of_getElem? (i := 95) rfl)) rfl
set_option maxHeartbeats 4000000 in
set_option maxRecDepth 100000 in
theorem m_lookRow (l : Launch) (γ : gE) (a : Nat) (B : Nat → Nat) (Z : Nat → Prop) (κ b mn : Nat → Nat) (ν : Nat → Int32) (τ : Nat → Nat → Int32) (σ : Nat → Int32) (F : Nat → Nat → Int32) (nu : Nat → Int64) (hT : ST κ b mn ν τ) (x1 : Int32) (hx1 : vp_in x1 (κ 0)) (hZ : SZ F) (hF : FD σ) : MU l yModel_lookRow bModel_lookRow 5 (some .int) 2 48 0 0 [.ref a, .int x1] γ Z (MD γ a B Z ν τ σ F nu) (mQi (fun r H => LKo γ a B Z ν τ x1.toNatClampNeg F nu r H) Z) := by
  refine mu_openI (by decide) (Nat.le_of_ble_eq_true rfl) ?_
  intro p e s m args below meth c ls Q S hnm hC hA hM hE hl
  have hS : va_S Z s.heap s.heap [] := va_S.rf
  obtain ⟨hx, hb, hml, hown, hW⟩ := id S
  obtain ⟨⟨hs0, hs1, hs2, hs3, hs4, hs5, hs6⟩, ⟨hv6, hv8, hv21, hv24, hv30, hv31⟩, hTR, hTY, hOB, hNM⟩ := id hT
  have hL : SL x1.toNatClampNeg F nu F nu := SL.rf
  have hl : lv_has ls 5 [(0, .ref a), (1, .int x1)] := hl
  refine lv_aload_n hx hb dModel_lookRow_0 rfl (lv_at hl 0 rfl) ?_
  refine md_gA S hC hM 4 (by decide) rfl qw_a8caa30de3 dModel_lookRow_1 ?_
  refine lv_iload_n hx hb dModel_lookRow_4 rfl (lv_at hl 1 rfl) ?_
  refine md_ild S hC hM 4 2 4000 (τ 4) rfl rfl (by decide) rfl rfl (vin (by assumption) (by omega)) dModel_lookRow_5 ?_
  refine lv_topi (fun v1 ev1 => ?_)
  refine lv_istore_n (lv' := [(2, .int v1), (0, .ref a), (1, .int x1)]) hx hb dModel_lookRow_6 rfl hl (by decide) rfl (fun ls hl => ?_)
  obtain ⟨hn2, hmx⟩ := mn_of hTR hx1 ev1
  refine lv_iload_n hx hb dModel_lookRow_7 rfl (lv_at hl 0 rfl) ?_
  refine lv_iconst (v := 1) hx hb dModel_lookRow_8 (by decide) ?_
  have J23 : ∀ (ls : Array Slot) (t0_23 : Int32), (t0_23 = 0 ∨ mn x1.toNatClampNeg ≤ 64) → lv_has ls 5 [(0, .ref a), (1, .int x1), (2, .int v1)] → W p l e (bs_rm 2 0 0 48) s m args below meth c s.heap [] 0 0 Q (F0 m 23 ls [.int t0_23]) := by
    intro ls t0_23 ht0_23 hl
    refine lv_istore_n (lv' := [(3, .int t0_23), (0, .ref a), (1, .int x1), (2, .int v1)]) hx hb dModel_lookRow_23 rfl hl (by decide) rfl (fun ls hl => ?_)
    refine lv_iconst (v := 0) hx hb dModel_lookRow_24 (by decide) ?_
    refine lv_istore (lv' := [(4, .int 0), (3, .int t0_23), (0, .ref a), (1, .int x1), (2, .int v1)]) hx hb dModel_lookRow_25 hl (by decide) rfl (fun ls hl => ?_)
    have J27 : ∀ (N27 : Nat) (ls : Array Slot) (i4_27 : Int32) (i3_27 : Int32), (¬ i4_27 < 0) → (i3_27 = 0 ∨ mn x1.toNatClampNeg ≤ 64) → (2147483647 - i4_27.toInt).toNat = N27 → lv_has ls 5 [(0, .ref a), (1, .int x1), (2, .int v1), (3, .int i3_27), (4, .int i4_27)] → W p l e (bs_rm 2 0 0 48) s m args below meth c s.heap [] 0 0 Q (F0 m 27 ls []) := by
      intro N27
      induction N27 using Nat.strongRecOn with
      | ind N27 ih27 =>
        intro ls i4_27 i3_27 hi4_27 hi3_27 hm27 hl
        refine lv_iload hx hb dModel_lookRow_27 (lv_at hl 4 rfl) ?_
        refine lv_iload_n hx hb dModel_lookRow_29 rfl (lv_at hl 2 rfl) ?_
        have J80 : ∀ (ls : Array Slot), lv_has ls 5 [(0, .ref a), (1, .int x1), (2, .int v1), (3, .int i3_27), (4, .int i4_27)] → W p l e (bs_rm 2 0 0 48) s m args below meth c s.heap [] 0 0 Q (F0 m 80 ls []) := by
          intro ls hl
          refine lv_iload_n hx hb dModel_lookRow_80 rfl (lv_at hl 3 rfl) ?_
          refine lv_if_ne (tgt := 87) hx hb dModel_lookRow_81 (by decide) (fun c36 => ?_) (fun c36 => ?_)
          · have h64 : mn x1.toNatClampNeg ≤ 64 := hi3_27.resolve_left (by assumption)
            refine lv_aload_n hx hb dModel_lookRow_87 rfl (lv_at hl 0 rfl) ?_
            refine lv_iload_n hx hb dModel_lookRow_88 rfl (lv_at hl 1 rfl) ?_
            refine lv_iconst (v := 3) hx hb dModel_lookRow_89 (by decide) ?_
            refine lv_iload_n hx hb dModel_lookRow_90 rfl (lv_at hl 2 rfl) ?_
            refine lv_iconst (v := 1) hx hb dModel_lookRow_91 (by decide) ?_
            have hnr37 : ∃ j, j ≤ 1000 ∧ v1 = nI j := ⟨_, by omega, hn2⟩
            refine mu_Vv (rest := []) S hC (fun q h => hA q (Nat.le_trans hS.1 h)) (fun q h => h) hS (m_fact l γ a B Z κ b mn ν τ σ F nu hT x1 3 v1 1 (vin (by assumption) (by omega)) hnr37) meModel_fact qw_02871250ec ⟨Nat.le_of_ble_eq_true rfl, Nat.le_of_ble_eq_true rfl⟩ (md_rv hC hM) hM rfl hl.1 rfl (Nat.le_of_ble_eq_true rfl) dModel_lookRow_92 ⟨Nat.le_refl _, Nat.le_refl _⟩ (fun H locs hPO hS _ _ => ?_)
            obtain ⟨Fr37, nur37, hM, hqr37, hcr37⟩ := hPO
            have hZ : SZ Fr37 := hZ.slt hqr37 hnr37
            have hL : SL x1.toNatClampNeg F nu Fr37 nur37 := hL.trans (SL.slt hqr37)
            have hK : GK x1.toNatClampNeg Fr37 nur37 := GK.zero hqr37
            refine lv_iconst (v := 0) hx hb dModel_lookRow_95 (by decide) ?_
            refine lv_istore (lv' := [(4, .int 0), (0, .ref a), (1, .int x1), (2, .int v1), (3, .int i3_27)]) hx hb dModel_lookRow_96 hl (by decide) rfl (fun ls hl => ?_)
            have J98 : ∀ (N98 : Nat) (ls : Array Slot) (H : Heap) (locs : List Loc) (F_98 : Nat → Nat → Int32) (i4_98 : Int32), MD γ a B Z ν τ σ F_98 nur37 H → va_S Z s.heap H locs → (GK x1.toNatClampNeg F_98 nur37) → (SL x1.toNatClampNeg F nu F_98 nur37) → (SZ F_98) → (¬ i4_98 < 0) → (2147483647 - i4_98.toInt).toNat = N98 → lv_has ls 5 [(0, .ref a), (1, .int x1), (2, .int v1), (3, .int i3_27), (4, .int i4_98)] → W p l e (bs_rm 2 0 0 48) s m args below meth c H locs 0 0 Q (F0 m 98 ls []) := by
              intro N98
              induction N98 using Nat.strongRecOn with
              | ind N98 ih98 =>
                intro ls H locs F_98 i4_98 hM hS hK hL hZ hi4_98 hm98 hl
                refine lv_iload hx hb dModel_lookRow_98 (lv_at hl 4 rfl) ?_
                refine lv_iload_n hx hb dModel_lookRow_100 rfl (lv_at hl 2 rfl) ?_
                refine lv_icmp_ge (tgt := 129) hx hb dModel_lookRow_101 (by decide) (fun c38 => ?_) (fun c38 => ?_)
                · refine lv_iconst (v := 0) hx hb dModel_lookRow_129 (by decide) ?_
                  exact hE _ _ _ _ _ hS ⟨σ, F_98, nur37, hM, hZ, hF, hL, (fun _ => hK)⟩ dModel_lookRow_130
                · have hj4 : vp_in i4_98 (mn x1.toNatClampNeg) := vcmp (by assumption) hn2 (by assumption) (by omega)
                  refine lv_aload_n hx hb dModel_lookRow_104 rfl (lv_at hl 0 rfl) ?_
                  refine lv_iload_n hx hb dModel_lookRow_105 rfl (lv_at hl 1 rfl) ?_
                  refine lv_iload hx hb dModel_lookRow_106 (lv_at hl 4 rfl) ?_
                  refine lv_aload_n hx hb dModel_lookRow_108 rfl (lv_at hl 0 rfl) ?_
                  refine md_gA S hC hM 3 (by decide) rfl qw_9fb851a5fa dModel_lookRow_109 ?_
                  refine lv_aload_n hx hb dModel_lookRow_112 rfl (lv_at hl 0 rfl) ?_
                  refine lv_iload_n hx hb dModel_lookRow_113 rfl (lv_at hl 1 rfl) ?_
                  refine lv_iload hx hb dModel_lookRow_114 (lv_at hl 4 rfl) ?_
                  have hpr39 : vp_in x1 (κ 0) := (vin (by assumption) (by omega))
                  have hjr39 : vp_in i4_98 (mn x1.toNatClampNeg) := (by assumption)
                  refine pu_Vi (rest := [.ref (B 3), .int i4_98, .int x1, .ref a]) S hC (m_child l γ a B Z κ b mn ν τ σ F_98 nur37 hT x1 i4_98 hpr39 hjr39) meModel_child qw_a66d450e0a ⟨Nat.le_of_ble_eq_true rfl, Nat.le_of_ble_eq_true rfl⟩ (md_rv hC hM) hM rfl hl.1 rfl (Nat.le_of_ble_eq_true rfl) dModel_lookRow_116 ⟨Nat.zero_le _, Nat.zero_le _⟩ (fun r39 hr39 => ?_)
                  obtain ⟨hir39, hltr39, hxr39⟩ := ch_in hTR hs0 hpr39 hjr39 hr39
                  refine md_ild S hC hM 3 1 4000 (τ 3) rfl rfl (by decide) rfl rfl (vin (by assumption) (by omega)) dModel_lookRow_119 ?_
                  refine lv_topi (fun v40 ev40 => ?_)
                  refine mu_Vv (rest := []) S hC (fun q h => hA q (Nat.le_trans hS.1 h)) (fun q h => h) hS (m_setElement l γ a B Z κ b mn ν τ σ F_98 nur37 hT x1 i4_98 v40 (el_in (by assumption) (by assumption) (by omega))) meModel_setElement qw_143403ccb9 ⟨Nat.le_of_ble_eq_true rfl, Nat.le_of_ble_eq_true rfl⟩ (md_rv hC hM) hM rfl hl.1 rfl (Nat.le_of_ble_eq_true rfl) dModel_lookRow_120 ⟨Nat.le_refl _, Nat.le_refl _⟩ (fun H locs hPO hS _ _ => ?_)
                  obtain ⟨Fr41, hM, hqr41⟩ := hPO
                  have hZ : SZ Fr41 := hZ.e14 hqr41
                  have hL : SL x1.toNatClampNeg F nu Fr41 nur37 := hL.trans (SL.e14 hqr41)
                  have hK : GK x1.toNatClampNeg Fr41 nur37 := hK.e14 hqr41
                  obtain ⟨v42, ev42⟩ : ∃ y : Int32, y = i4_98 + 1 := ⟨_, rfl⟩
                  refine lv_iinc (v := v42) (lv' := [(4, .int v42), (0, .ref a), (1, .int x1), (2, .int v1), (3, .int i3_27)]) hx hb dModel_lookRow_123 hl (k := 4) rfl (by rw [ev42]; rfl) (by decide) rfl (fun ls hl => ?_)
                  refine lv_goto (tgt := 98) hx hb dModel_lookRow_126 (by decide) ?_
                  exact ih98 _ (by have q1 : i4_98.toInt < 2147483647 := (by first | assumption | exact (mu_up (k := i4_98) (by assumption)).2); have q2 := mu_lt q1; rw [← ev42] at q2; omega) ls _ _ Fr41 v42 hM hS hK hL hZ (by first | decide | exact nn_inc (by assumption) (by assumption) (by assumption)) rfl (lv_sub hl [1, 2, 3, 4, 0] rfl)
            exact J98 _ ls _ _ Fr37 0 hM hS hK hL hZ (by first | decide | exact nn_inc (by assumption) (by assumption) (by assumption)) rfl (lv_sub hl [1, 2, 3, 4, 0] rfl)
          · refine lv_bipush (v := 11) hx hb dModel_lookRow_84 (by decide) ?_
            exact hE _ _ _ _ _ hS ⟨σ, F, nu, hM, hZ, hF, hL, (fun h9 => absurd (show (0 : Int32) < 11 by decide) h9)⟩ dModel_lookRow_86
        refine lv_icmp_ge (tgt := 80) hx hb dModel_lookRow_30 (by decide) (fun c43 => ?_) (fun c43 => ?_)
        · exact J80 ls  (lv_sub hl [0, 1, 2, 3, 4] rfl)
        · have hj4 : vp_in i4_27 (mn x1.toNatClampNeg) := vcmp (by assumption) hn2 (by assumption) (by omega)
          refine lv_iload_n hx hb dModel_lookRow_33 rfl (lv_at hl 3 rfl) ?_
          refine lv_if_eq (tgt := 80) hx hb dModel_lookRow_34 (by decide) (fun c44 => ?_) (fun c44 => ?_)
          · exact J80 ls  (lv_sub hl [0, 1, 2, 3, 4] rfl)
          · refine lv_aload_n hx hb dModel_lookRow_37 rfl (lv_at hl 0 rfl) ?_
            refine md_gA S hC hM 2 (by decide) rfl qw_3471296067 dModel_lookRow_38 ?_
            refine lv_aload_n hx hb dModel_lookRow_41 rfl (lv_at hl 0 rfl) ?_
            refine lv_iload_n hx hb dModel_lookRow_42 rfl (lv_at hl 1 rfl) ?_
            refine lv_iload hx hb dModel_lookRow_43 (lv_at hl 4 rfl) ?_
            have hpr45 : vp_in x1 (κ 0) := (vin (by assumption) (by omega))
            have hjr45 : vp_in i4_27 (mn x1.toNatClampNeg) := (by assumption)
            refine pu_Vi (rest := [.ref (B 2)]) S hC (m_child l γ a B Z κ b mn ν τ σ F nu hT x1 i4_27 hpr45 hjr45) meModel_child qw_a66d450e0a ⟨Nat.le_of_ble_eq_true rfl, Nat.le_of_ble_eq_true rfl⟩ (md_rv hC hM) hM rfl hl.1 rfl (Nat.le_of_ble_eq_true rfl) dModel_lookRow_45 ⟨Nat.zero_le _, Nat.zero_le _⟩ (fun r45 hr45 => ?_)
            obtain ⟨hir45, hltr45, hxr45⟩ := ch_in hTR hs0 hpr45 hjr45 hr45
            refine md_ild S hC hM 2 0 4000 (τ 2) rfl rfl (by decide) rfl rfl (vin (by assumption) (by omega)) dModel_lookRow_48 ?_
            refine lv_topi (fun v46 ev46 => ?_)
            refine lv_iconst (v := 3) hx hb dModel_lookRow_49 (by decide) ?_
            have J73 : ∀ (ls : Array Slot) (t0_73 : Int32), (t0_73 = 0 ∨ mn x1.toNatClampNeg ≤ 64) → lv_has ls 5 [(0, .ref a), (1, .int x1), (2, .int v1), (3, .int i3_27), (4, .int i4_27)] → W p l e (bs_rm 2 0 0 48) s m args below meth c s.heap [] 0 0 Q (F0 m 73 ls [.int t0_73]) := by
              intro ls t0_73 ht0_73 hl
              refine lv_istore_n (lv' := [(3, .int t0_73), (0, .ref a), (1, .int x1), (2, .int v1), (4, .int i4_27)]) hx hb dModel_lookRow_73 rfl hl (by decide) rfl (fun ls hl => ?_)
              obtain ⟨v52, ev52⟩ : ∃ y : Int32, y = i4_27 + 1 := ⟨_, rfl⟩
              refine lv_iinc (v := v52) (lv' := [(4, .int v52), (3, .int t0_73), (0, .ref a), (1, .int x1), (2, .int v1)]) hx hb dModel_lookRow_74 hl (k := 4) rfl (by rw [ev52]; rfl) (by decide) rfl (fun ls hl => ?_)
              refine lv_goto (tgt := 27) hx hb dModel_lookRow_77 (by decide) ?_
              exact ih27 _ (by have q1 : i4_27.toInt < 2147483647 := (by first | assumption | exact (mu_up (k := i4_27) (by assumption)).2); have q2 := mu_lt q1; rw [← ev52] at q2; omega) ls v52 t0_73 (by first | decide | exact nn_inc (by assumption) (by assumption) (by assumption)) (by first | assumption | exact Or.inl rfl) rfl (lv_sub hl [2, 3, 4, 1, 0] rfl)
            have J72 : ∀ (ls : Array Slot), lv_has ls 5 [(0, .ref a), (1, .int x1), (2, .int v1), (3, .int i3_27), (4, .int i4_27)] → W p l e (bs_rm 2 0 0 48) s m args below meth c s.heap [] 0 0 Q (F0 m 72 ls []) := by
              intro ls hl
              refine lv_iconst (v := 0) hx hb dModel_lookRow_72 (by decide) ?_
              exact J73 ls 0 (by first | exact Or.inl rfl | exact Or.inr (hi3_27.resolve_left (by assumption))) (lv_sub hl [0, 1, 2, 3, 4] rfl)
            refine lv_icmp_ne (tgt := 72) hx hb dModel_lookRow_50 (by decide) (fun c53 => ?_) (fun c53 => ?_)
            · exact J72 ls  (lv_sub hl [0, 1, 2, 3, 4] rfl)
            · refine lv_aload_n hx hb dModel_lookRow_53 rfl (lv_at hl 0 rfl) ?_
              refine md_gA S hC hM 4 (by decide) rfl qw_a8caa30de3 dModel_lookRow_54 ?_
              refine lv_aload_n hx hb dModel_lookRow_57 rfl (lv_at hl 0 rfl) ?_
              refine lv_iload_n hx hb dModel_lookRow_58 rfl (lv_at hl 1 rfl) ?_
              refine lv_iload hx hb dModel_lookRow_59 (lv_at hl 4 rfl) ?_
              have hpr54 : vp_in x1 (κ 0) := (vin (by assumption) (by omega))
              have hjr54 : vp_in i4_27 (mn x1.toNatClampNeg) := (by assumption)
              refine pu_Vi (rest := [.ref (B 4)]) S hC (m_child l γ a B Z κ b mn ν τ σ F nu hT x1 i4_27 hpr54 hjr54) meModel_child qw_a66d450e0a ⟨Nat.le_of_ble_eq_true rfl, Nat.le_of_ble_eq_true rfl⟩ (md_rv hC hM) hM rfl hl.1 rfl (Nat.le_of_ble_eq_true rfl) dModel_lookRow_61 ⟨Nat.zero_le _, Nat.zero_le _⟩ (fun r54 hr54 => ?_)
              obtain ⟨hir54, hltr54, hxr54⟩ := ch_in hTR hs0 hpr54 hjr54 hr54
              refine md_ild S hC hM 4 2 4000 (τ 4) rfl rfl (by decide) rfl rfl (vin (by assumption) (by omega)) dModel_lookRow_64 ?_
              refine lv_topi (fun v55 ev55 => ?_)
              refine lv_if_ne (tgt := 72) hx hb dModel_lookRow_65 (by decide) (fun c56 => ?_) (fun c56 => ?_)
              · exact J72 ls  (lv_sub hl [0, 1, 2, 3, 4] rfl)
              · refine lv_iconst (v := 1) hx hb dModel_lookRow_68 (by decide) ?_
                refine lv_goto (tgt := 73) hx hb dModel_lookRow_69 (by decide) ?_
                exact J73 ls 1 (by first | exact Or.inl rfl | exact Or.inr (hi3_27.resolve_left (by assumption))) (lv_sub hl [0, 1, 2, 3, 4] rfl)
    exact J27 _ ls 0 t0_23 (by first | decide | exact nn_inc (by assumption) (by assumption) (by assumption)) (by first | assumption | exact Or.inl rfl) rfl (lv_sub hl [2, 3, 4, 1, 0] rfl)
  have J22 : ∀ (ls : Array Slot), lv_has ls 5 [(0, .ref a), (1, .int x1), (2, .int v1)] → W p l e (bs_rm 2 0 0 48) s m args below meth c s.heap [] 0 0 Q (F0 m 22 ls []) := by
    intro ls hl
    refine lv_iconst (v := 0) hx hb dModel_lookRow_22 (by decide) ?_
    exact J23 ls 0 (by first | exact Or.inl rfl | exact Or.inr (lr_64 hn2 (by omega) (by assumption))) (lv_sub hl [0, 1, 2] rfl)
  refine lv_icmp_lt (tgt := 22) hx hb dModel_lookRow_9 (by decide) (fun c57 => ?_) (fun c57 => ?_)
  · exact J22 ls  (lv_sub hl [1, 2, 0] rfl)
  · refine lv_iload_n hx hb dModel_lookRow_12 rfl (lv_at hl 0 rfl) ?_
    refine lv_bipush (v := 64) hx hb dModel_lookRow_13 (by decide) ?_
    refine lv_icmp_gt (tgt := 22) hx hb dModel_lookRow_15 (by decide) (fun c58 => ?_) (fun c58 => ?_)
    · exact J22 ls  (lv_sub hl [1, 2, 0] rfl)
    · refine lv_iconst (v := 1) hx hb dModel_lookRow_18 (by decide) ?_
      refine lv_goto (tgt := 23) hx hb dModel_lookRow_19 (by decide) ?_
      exact J23 ls 1 (by first | exact Or.inl rfl | exact Or.inr (lr_64 hn2 (by omega) (by assumption))) (lv_sub hl [1, 2, 0] rfl)
