set_option maxHeartbeats 4000000 in
set_option maxRecDepth 100000 in
theorem m_goodName (l : Launch) (γ : gE) (P : Heap → Prop) (x0 : Int32) : PU l yModel_goodName bModel_goodName 1 (some .boolean) 0 0 [.int x0] γ P (vp_Si (fun v : Int32 => (v = 1 ∧ GNm x0) ∨ (v = 0 ∧ ¬ GNm x0))) := by
  refine pu_openZ (by decide) (Nat.le_of_ble_eq_true rfl) ?_
  intro p e s m args below meth c ls Q S hC hM hE hl
  obtain ⟨hx, hb, hml, hown, hW⟩ := id S
  have hl : lv_has ls 1 [(0, .int x0)] := hl
  refine lv_iload_n hx hb dModel_goodName_0 rfl (lv_at hl 0 rfl) ?_
  refine lv_if_lt (tgt := 15) hx hb dModel_goodName_1 (by decide) (fun c1 => ?_) (fun c1 => ?_)
  · refine lv_iconst (v := 0) hx hb dModel_goodName_15 (by decide) ?_
    exact hE _ _ _ rfl (by first | exact Or.inl ⟨rfl, gm_t (by assumption) (by assumption)⟩ | exact Or.inr ⟨rfl, fun h9 => h9.1 (by assumption)⟩ | exact Or.inr ⟨rfl, gm_2 (by assumption)⟩) dModel_goodName_16
  · refine lv_iload_n hx hb dModel_goodName_4 rfl (lv_at hl 0 rfl) ?_
    refine lv_sipush (v := 10000) hx hb dModel_goodName_5 (by decide) ?_
    refine lv_icmp_ge (tgt := 15) hx hb dModel_goodName_8 (by decide) (fun c2 => ?_) (fun c2 => ?_)
    · refine lv_iconst (v := 0) hx hb dModel_goodName_15 (by decide) ?_
      exact hE _ _ _ rfl (by first | exact Or.inl ⟨rfl, gm_t (by assumption) (by assumption)⟩ | exact Or.inr ⟨rfl, fun h9 => h9.1 (by assumption)⟩ | exact Or.inr ⟨rfl, gm_2 (by assumption)⟩) dModel_goodName_16
    · refine lv_iconst (v := 1) hx hb dModel_goodName_11 (by decide) ?_
      refine lv_goto (tgt := 16) hx hb dModel_goodName_12 (by decide) ?_
      exact hE _ _ _ rfl (by first | exact Or.inl ⟨rfl, gm_t (by assumption) (by assumption)⟩ | exact Or.inr ⟨rfl, fun h9 => h9.1 (by assumption)⟩ | exact Or.inr ⟨rfl, gm_2 (by assumption)⟩) dModel_goodName_16
set_option maxHeartbeats 4000000 in
set_option maxRecDepth 100000 in
theorem m_isLow (l : Launch) (γ : gE) (P : Heap → Prop) (x0 : Int32) : PU l yModel_isLow bModel_isLow 1 (some .boolean) 0 0 [.int x0] γ P (vp_Si (fun v : Int32 => True)) := by
  refine pu_openZ (by decide) (Nat.le_of_ble_eq_true rfl) ?_
  intro p e s m args below meth c ls Q S hC hM hE hl
  obtain ⟨hx, hb, hml, hown, hW⟩ := id S
  have hl : lv_has ls 1 [(0, .int x0)] := hl
  refine lv_iload_n hx hb dModel_isLow_0 rfl (lv_at hl 0 rfl) ?_
  refine lv_iconst (v := 2) hx hb dModel_isLow_1 (by decide) ?_
  have J11 : ∀ (ls : Array Slot), lv_has ls 1 [(0, .int x0)] → W p l e (bs_rm 0 0 0 0) s m args below meth c s.heap [] 0 0 Q (F0 m 11 ls []) := by
    intro ls hl
    refine lv_iconst (v := 1) hx hb dModel_isLow_11 (by decide) ?_
    refine lv_goto (tgt := 16) hx hb dModel_isLow_12 (by decide) ?_
    exact hE _ _ _ rfl trivial dModel_isLow_16
  refine lv_icmp_eq (tgt := 11) hx hb dModel_isLow_2 (by decide) (fun c3 => ?_) (fun c3 => ?_)
  · exact J11 ls  (lv_sub hl [0] rfl)
  · refine lv_iload_n hx hb dModel_isLow_5 rfl (lv_at hl 0 rfl) ?_
    refine lv_bipush (v := 6) hx hb dModel_isLow_6 (by decide) ?_
    refine lv_icmp_ne (tgt := 15) hx hb dModel_isLow_8 (by decide) (fun c4 => ?_) (fun c4 => ?_)
    · refine lv_iconst (v := 0) hx hb dModel_isLow_15 (by decide) ?_
      exact hE _ _ _ rfl trivial dModel_isLow_16
    · exact J11 ls  (lv_sub hl [0] rfl)
set_option maxHeartbeats 4000000 in
set_option maxRecDepth 100000 in
theorem m_isHigh (l : Launch) (γ : gE) (P : Heap → Prop) (x0 : Int32) : PU l yModel_isHigh bModel_isHigh 1 (some .boolean) 0 0 [.int x0] γ P (vp_Si (fun v : Int32 => True)) := by
  refine pu_openZ (by decide) (Nat.le_of_ble_eq_true rfl) ?_
  intro p e s m args below meth c ls Q S hC hM hE hl
  obtain ⟨hx, hb, hml, hown, hW⟩ := id S
  have hl : lv_has ls 1 [(0, .int x0)] := hl
  refine lv_iload_n hx hb dModel_isHigh_0 rfl (lv_at hl 0 rfl) ?_
  refine lv_iconst (v := 3) hx hb dModel_isHigh_1 (by decide) ?_
  have J11 : ∀ (ls : Array Slot), lv_has ls 1 [(0, .int x0)] → W p l e (bs_rm 0 0 0 0) s m args below meth c s.heap [] 0 0 Q (F0 m 11 ls []) := by
    intro ls hl
    refine lv_iconst (v := 1) hx hb dModel_isHigh_11 (by decide) ?_
    refine lv_goto (tgt := 16) hx hb dModel_isHigh_12 (by decide) ?_
    exact hE _ _ _ rfl trivial dModel_isHigh_16
  refine lv_icmp_eq (tgt := 11) hx hb dModel_isHigh_2 (by decide) (fun c3 => ?_) (fun c3 => ?_)
  · exact J11 ls  (lv_sub hl [0] rfl)
  · refine lv_iload_n hx hb dModel_isHigh_5 rfl (lv_at hl 0 rfl) ?_
    refine lv_bipush (v := 7) hx hb dModel_isHigh_6 (by decide) ?_
    refine lv_icmp_ne (tgt := 15) hx hb dModel_isHigh_8 (by decide) (fun c4 => ?_) (fun c4 => ?_)
    · refine lv_iconst (v := 0) hx hb dModel_isHigh_15 (by decide) ?_
      exact hE _ _ _ rfl trivial dModel_isHigh_16
    · exact J11 ls  (lv_sub hl [0] rfl)
theorem qw_50d7321591 : (Cond.methodLink R_Model 135 yModel_isLow) ∈ bs_W0 := bs_in (in_tables_1_6 (List.mem_of_getElem? (i := 106) rfl)) rfl
theorem qw_7b38890176 : (Cond.methodLink R_Model 138 yModel_isHigh) ∈ bs_W0 := bs_in (in_tables_1_6 (List.mem_of_getElem? (i := 109) rfl)) rfl
set_option maxHeartbeats 4000000 in
set_option maxRecDepth 100000 in
theorem m_not (l : Launch) (γ : gE) (P : Heap → Prop) (x0 : Int32) : PU l yModel_not bModel_not 1 (some .int) 1 20 [.int x0] γ P (vp_Si (fun v : Int32 => True)) := by
  refine pu_openI (by decide) (Nat.le_of_ble_eq_true rfl) ?_
  intro p e s m args below meth c ls Q S hC hM hE hl
  obtain ⟨hx, hb, hml, hown, hW⟩ := id S
  have hl : lv_has ls 1 [(0, .int x0)] := hl
  refine lv_iload_n hx hb dModel_not_0 rfl (lv_at hl 0 rfl) ?_
  refine lv_if_ne (tgt := 8) hx hb dModel_not_1 (by decide) (fun c1 => ?_) (fun c1 => ?_)
  · refine lv_iload_n hx hb dModel_not_8 rfl (lv_at hl 0 rfl) ?_
    refine pu_Si (rest := []) S hC (m_isLow l γ _ x0) meModel_isLow qw_50d7321591 ⟨Nat.le_of_ble_eq_true rfl, Nat.le_of_ble_eq_true rfl⟩ hM rfl hl.1 rfl (Nat.le_of_ble_eq_true rfl) dModel_not_9 ⟨Nat.zero_le _, Nat.zero_le _⟩ (fun r2 hr2 => ?_)
    refine lv_if_eq (tgt := 19) hx hb dModel_not_12 (by decide) (fun c3 => ?_) (fun c3 => ?_)
    · refine lv_iload_n hx hb dModel_not_19 rfl (lv_at hl 0 rfl) ?_
      refine pu_Si (rest := []) S hC (m_isHigh l γ _ x0) meModel_isHigh qw_7b38890176 ⟨Nat.le_of_ble_eq_true rfl, Nat.le_of_ble_eq_true rfl⟩ hM rfl hl.1 rfl (Nat.le_of_ble_eq_true rfl) dModel_not_20 ⟨Nat.zero_le _, Nat.zero_le _⟩ (fun r4 hr4 => ?_)
      refine lv_if_eq (tgt := 30) hx hb dModel_not_23 (by decide) (fun c5 => ?_) (fun c5 => ?_)
      · refine lv_iconst (v := 1) hx hb dModel_not_30 (by decide) ?_
        exact hE _ _ _ trivial dModel_not_31
      · refine lv_iconst (v := 2) hx hb dModel_not_26 (by decide) ?_
        refine lv_goto (tgt := 31) hx hb dModel_not_27 (by decide) ?_
        exact hE _ _ _ trivial dModel_not_31
    · refine lv_iconst (v := 3) hx hb dModel_not_15 (by decide) ?_
      refine lv_goto (tgt := 31) hx hb dModel_not_16 (by decide) ?_
      exact hE _ _ _ trivial dModel_not_31
  · refine lv_iconst (v := 0) hx hb dModel_not_4 (by decide) ?_
    refine lv_goto (tgt := 31) hx hb dModel_not_5 (by decide) ?_
    exact hE _ _ _ trivial dModel_not_31
set_option maxHeartbeats 4000000 in
set_option maxRecDepth 100000 in
theorem m_join (l : Launch) (γ : gE) (P : Heap → Prop) (x0 : Int32) (x1 : Int32) (x2 : Int32) : PU l yModel_join bModel_join 4 (some .int) 1 20 [.int x0, .int x1, .int x2] γ P (vp_Si (fun v : Int32 => True)) := by
  refine pu_openI (by decide) (Nat.le_of_ble_eq_true rfl) ?_
  intro p e s m args below meth c ls Q S hC hM hE hl
  obtain ⟨hx, hb, hml, hown, hW⟩ := id S
  have hl : lv_has ls 4 [(0, .int x0), (1, .int x1), (2, .int x2)] := hl
  refine lv_iload_n hx hb dModel_join_0 rfl (lv_at hl 0 rfl) ?_
  refine lv_if_ne (tgt := 54) hx hb dModel_join_1 (by decide) (fun c1 => ?_) (fun c1 => ?_)
  · refine lv_iload_n hx hb dModel_join_54 rfl (lv_at hl 0 rfl) ?_
    refine lv_iconst (v := 1) hx hb dModel_join_55 (by decide) ?_
    refine lv_icmp_ne (tgt := 109) hx hb dModel_join_56 (by decide) (fun c2 => ?_) (fun c2 => ?_)
    · refine lv_iload_n hx hb dModel_join_109 rfl (lv_at hl 1 rfl) ?_
      refine lv_if_eq (tgt := 117) hx hb dModel_join_110 (by decide) (fun c3 => ?_) (fun c3 => ?_)
      · refine lv_iconst (v := 0) hx hb dModel_join_117 (by decide) ?_
        exact hE _ _ _ trivial dModel_join_118
      · refine lv_iload_n hx hb dModel_join_113 rfl (lv_at hl 2 rfl) ?_
        refine lv_if_ne (tgt := 119) hx hb dModel_join_114 (by decide) (fun c4 => ?_) (fun c4 => ?_)
        · refine lv_iload_n hx hb dModel_join_119 rfl (lv_at hl 1 rfl) ?_
          refine pu_Si (rest := []) S hC (m_isLow l γ _ x1) meModel_isLow qw_50d7321591 ⟨Nat.le_of_ble_eq_true rfl, Nat.le_of_ble_eq_true rfl⟩ hM rfl hl.1 rfl (Nat.le_of_ble_eq_true rfl) dModel_join_120 ⟨Nat.zero_le _, Nat.zero_le _⟩ (fun r5 hr5 => ?_)
          have J152 : ∀ (ls : Array Slot) (t0_152 : Int32), lv_has ls 4 [(0, .int x0), (1, .int x1), (2, .int x2)] → W p l e (bs_rm 1 0 0 20) s m args below meth c s.heap [] 0 0 Q (F0 m 152 ls [.int t0_152]) := by
            intro ls t0_152 hl
            refine lv_istore_n (lv' := [(3, .int t0_152), (0, .int x0), (1, .int x1), (2, .int x2)]) hx hb dModel_join_152 rfl hl (by decide) rfl (fun ls hl => ?_)
            refine lv_iload_n hx hb dModel_join_153 rfl (lv_at hl 0 rfl) ?_
            refine lv_if_ne (tgt := 161) hx hb dModel_join_154 (by decide) (fun c17 => ?_) (fun c17 => ?_)
            · refine lv_iload_n hx hb dModel_join_161 rfl (lv_at hl 2 rfl) ?_
              refine pu_Si (rest := []) S hC (m_isHigh l γ _ x1) meModel_isHigh qw_7b38890176 ⟨Nat.le_of_ble_eq_true rfl, Nat.le_of_ble_eq_true rfl⟩ hM rfl hl.1 rfl (Nat.le_of_ble_eq_true rfl) dModel_join_162 ⟨Nat.zero_le _, Nat.zero_le _⟩ (fun r18 hr18 => ?_)
              refine lv_iload_n hx hb dModel_join_165 rfl (lv_at hl 3 rfl) ?_
              refine pu_Si (rest := [.int r18]) S hC (m_isHigh l γ _ x2) meModel_isHigh qw_7b38890176 ⟨Nat.le_of_ble_eq_true rfl, Nat.le_of_ble_eq_true rfl⟩ hM rfl hl.1 rfl (Nat.le_of_ble_eq_true rfl) dModel_join_166 ⟨Nat.zero_le _, Nat.zero_le _⟩ (fun r19 hr19 => ?_)
              refine lv_icmp_ne (tgt := 176) hx hb dModel_join_169 (by decide) (fun c20 => ?_) (fun c20 => ?_)
              · refine lv_iconst (v := 3) hx hb dModel_join_176 (by decide) ?_
                exact hE _ _ _ trivial dModel_join_177
              · refine lv_iconst (v := 2) hx hb dModel_join_172 (by decide) ?_
                refine lv_goto (tgt := 177) hx hb dModel_join_173 (by decide) ?_
                exact hE _ _ _ trivial dModel_join_177
            · refine lv_iconst (v := 1) hx hb dModel_join_157 (by decide) ?_
              refine lv_goto (tgt := 177) hx hb dModel_join_158 (by decide) ?_
              exact hE _ _ _ trivial dModel_join_177
          have J151 : ∀ (ls : Array Slot), lv_has ls 4 [(0, .int x0), (1, .int x1), (2, .int x2)] → W p l e (bs_rm 1 0 0 20) s m args below meth c s.heap [] 0 0 Q (F0 m 151 ls []) := by
            intro ls hl
            refine lv_iconst (v := 0) hx hb dModel_join_151 (by decide) ?_
            exact J152 ls 0 (lv_sub hl [0, 1, 2] rfl)
          have J133 : ∀ (ls : Array Slot), lv_has ls 4 [(0, .int x0), (1, .int x1), (2, .int x2)] → W p l e (bs_rm 1 0 0 20) s m args below meth c s.heap [] 0 0 Q (F0 m 133 ls []) := by
            intro ls hl
            refine lv_iload_n hx hb dModel_join_133 rfl (lv_at hl 2 rfl) ?_
            refine pu_Si (rest := []) S hC (m_isLow l γ _ x2) meModel_isLow qw_50d7321591 ⟨Nat.le_of_ble_eq_true rfl, Nat.le_of_ble_eq_true rfl⟩ hM rfl hl.1 rfl (Nat.le_of_ble_eq_true rfl) dModel_join_134 ⟨Nat.zero_le _, Nat.zero_le _⟩ (fun r21 hr21 => ?_)
            have J147 : ∀ (ls : Array Slot), lv_has ls 4 [(0, .int x0), (1, .int x1), (2, .int x2)] → W p l e (bs_rm 1 0 0 20) s m args below meth c s.heap [] 0 0 Q (F0 m 147 ls []) := by
              intro ls hl
              refine lv_iconst (v := 1) hx hb dModel_join_147 (by decide) ?_
              refine lv_goto (tgt := 152) hx hb dModel_join_148 (by decide) ?_
              exact J152 ls 1 (lv_sub hl [0, 1, 2] rfl)
            refine lv_if_ne (tgt := 147) hx hb dModel_join_137 (by decide) (fun c25 => ?_) (fun c25 => ?_)
            · exact J147 ls  (lv_sub hl [0, 1, 2] rfl)
            · refine lv_iload_n hx hb dModel_join_140 rfl (lv_at hl 2 rfl) ?_
              refine pu_Si (rest := []) S hC (m_isHigh l γ _ x2) meModel_isHigh qw_7b38890176 ⟨Nat.le_of_ble_eq_true rfl, Nat.le_of_ble_eq_true rfl⟩ hM rfl hl.1 rfl (Nat.le_of_ble_eq_true rfl) dModel_join_141 ⟨Nat.zero_le _, Nat.zero_le _⟩ (fun r26 hr26 => ?_)
              refine lv_if_eq (tgt := 151) hx hb dModel_join_144 (by decide) (fun c27 => ?_) (fun c27 => ?_)
              · exact J151 ls  (lv_sub hl [0, 1, 2] rfl)
              · exact J147 ls  (lv_sub hl [0, 1, 2] rfl)
          refine lv_if_ne (tgt := 133) hx hb dModel_join_123 (by decide) (fun c28 => ?_) (fun c28 => ?_)
          · exact J133 ls  (lv_sub hl [0, 1, 2] rfl)
          · refine lv_iload_n hx hb dModel_join_126 rfl (lv_at hl 1 rfl) ?_
            refine pu_Si (rest := []) S hC (m_isHigh l γ _ x1) meModel_isHigh qw_7b38890176 ⟨Nat.le_of_ble_eq_true rfl, Nat.le_of_ble_eq_true rfl⟩ hM rfl hl.1 rfl (Nat.le_of_ble_eq_true rfl) dModel_join_127 ⟨Nat.zero_le _, Nat.zero_le _⟩ (fun r29 hr29 => ?_)
            refine lv_if_eq (tgt := 151) hx hb dModel_join_130 (by decide) (fun c30 => ?_) (fun c30 => ?_)
            · exact J151 ls  (lv_sub hl [0, 1, 2] rfl)
            · exact J133 ls  (lv_sub hl [0, 1, 2] rfl)
        · refine lv_iconst (v := 0) hx hb dModel_join_117 (by decide) ?_
          exact hE _ _ _ trivial dModel_join_118
    · refine lv_iload_n hx hb dModel_join_59 rfl (lv_at hl 1 rfl) ?_
      refine pu_Si (rest := []) S hC (m_isHigh l γ _ x1) meModel_isHigh qw_7b38890176 ⟨Nat.le_of_ble_eq_true rfl, Nat.le_of_ble_eq_true rfl⟩ hM rfl hl.1 rfl (Nat.le_of_ble_eq_true rfl) dModel_join_60 ⟨Nat.zero_le _, Nat.zero_le _⟩ (fun r31 hr31 => ?_)
      have J73 : ∀ (ls : Array Slot), lv_has ls 4 [(0, .int x0), (1, .int x1), (2, .int x2)] → W p l e (bs_rm 1 0 0 20) s m args below meth c s.heap [] 0 0 Q (F0 m 73 ls []) := by
        intro ls hl
        refine lv_iconst (v := 3) hx hb dModel_join_73 (by decide) ?_
        refine lv_goto (tgt := 108) hx hb dModel_join_74 (by decide) ?_
        exact hE _ _ _ trivial dModel_join_108
      refine lv_if_ne (tgt := 73) hx hb dModel_join_63 (by decide) (fun c41 => ?_) (fun c41 => ?_)
      · exact J73 ls  (lv_sub hl [0, 1, 2] rfl)
      · refine lv_iload_n hx hb dModel_join_66 rfl (lv_at hl 2 rfl) ?_
        refine pu_Si (rest := []) S hC (m_isHigh l γ _ x2) meModel_isHigh qw_7b38890176 ⟨Nat.le_of_ble_eq_true rfl, Nat.le_of_ble_eq_true rfl⟩ hM rfl hl.1 rfl (Nat.le_of_ble_eq_true rfl) dModel_join_67 ⟨Nat.zero_le _, Nat.zero_le _⟩ (fun r42 hr42 => ?_)
        refine lv_if_eq (tgt := 77) hx hb dModel_join_70 (by decide) (fun c43 => ?_) (fun c43 => ?_)
        · refine lv_iload_n hx hb dModel_join_77 rfl (lv_at hl 1 rfl) ?_
          have J85 : ∀ (ls : Array Slot), lv_has ls 4 [(0, .int x0), (1, .int x1), (2, .int x2)] → W p l e (bs_rm 1 0 0 20) s m args below meth c s.heap [] 0 0 Q (F0 m 85 ls []) := by
            intro ls hl
            refine lv_iconst (v := 0) hx hb dModel_join_85 (by decide) ?_
            refine lv_goto (tgt := 108) hx hb dModel_join_86 (by decide) ?_
            exact hE _ _ _ trivial dModel_join_108
          refine lv_if_eq (tgt := 85) hx hb dModel_join_78 (by decide) (fun c50 => ?_) (fun c50 => ?_)
          · exact J85 ls  (lv_sub hl [0, 1, 2] rfl)
          · refine lv_iload_n hx hb dModel_join_81 rfl (lv_at hl 2 rfl) ?_
            refine lv_if_ne (tgt := 89) hx hb dModel_join_82 (by decide) (fun c51 => ?_) (fun c51 => ?_)
            · refine lv_iload_n hx hb dModel_join_89 rfl (lv_at hl 1 rfl) ?_
              refine pu_Si (rest := []) S hC (m_isLow l γ _ x1) meModel_isLow qw_50d7321591 ⟨Nat.le_of_ble_eq_true rfl, Nat.le_of_ble_eq_true rfl⟩ hM rfl hl.1 rfl (Nat.le_of_ble_eq_true rfl) dModel_join_90 ⟨Nat.zero_le _, Nat.zero_le _⟩ (fun r52 hr52 => ?_)
              refine lv_if_eq (tgt := 107) hx hb dModel_join_93 (by decide) (fun c53 => ?_) (fun c53 => ?_)
              · refine lv_iconst (v := 1) hx hb dModel_join_107 (by decide) ?_
                exact hE _ _ _ trivial dModel_join_108
              · refine lv_iload_n hx hb dModel_join_96 rfl (lv_at hl 2 rfl) ?_
                refine pu_Si (rest := []) S hC (m_isLow l γ _ x2) meModel_isLow qw_50d7321591 ⟨Nat.le_of_ble_eq_true rfl, Nat.le_of_ble_eq_true rfl⟩ hM rfl hl.1 rfl (Nat.le_of_ble_eq_true rfl) dModel_join_97 ⟨Nat.zero_le _, Nat.zero_le _⟩ (fun r54 hr54 => ?_)
                refine lv_if_eq (tgt := 107) hx hb dModel_join_100 (by decide) (fun c55 => ?_) (fun c55 => ?_)
                · refine lv_iconst (v := 1) hx hb dModel_join_107 (by decide) ?_
                  exact hE _ _ _ trivial dModel_join_108
                · refine lv_iconst (v := 2) hx hb dModel_join_103 (by decide) ?_
                  refine lv_goto (tgt := 108) hx hb dModel_join_104 (by decide) ?_
                  exact hE _ _ _ trivial dModel_join_108
            · exact J85 ls  (lv_sub hl [0, 1, 2] rfl)
        · exact J73 ls  (lv_sub hl [0, 1, 2] rfl)
  · refine lv_iload_n hx hb dModel_join_4 rfl (lv_at hl 1 rfl) ?_
    refine pu_Si (rest := []) S hC (m_isLow l γ _ x1) meModel_isLow qw_50d7321591 ⟨Nat.le_of_ble_eq_true rfl, Nat.le_of_ble_eq_true rfl⟩ hM rfl hl.1 rfl (Nat.le_of_ble_eq_true rfl) dModel_join_5 ⟨Nat.zero_le _, Nat.zero_le _⟩ (fun r56 hr56 => ?_)
    have J18 : ∀ (ls : Array Slot), lv_has ls 4 [(0, .int x0), (1, .int x1), (2, .int x2)] → W p l e (bs_rm 1 0 0 20) s m args below meth c s.heap [] 0 0 Q (F0 m 18 ls []) := by
      intro ls hl
      refine lv_iconst (v := 2) hx hb dModel_join_18 (by decide) ?_
      refine lv_goto (tgt := 53) hx hb dModel_join_19 (by decide) ?_
      exact hE _ _ _ trivial dModel_join_53
    refine lv_if_ne (tgt := 18) hx hb dModel_join_8 (by decide) (fun c66 => ?_) (fun c66 => ?_)
    · exact J18 ls  (lv_sub hl [0, 1, 2] rfl)
    · refine lv_iload_n hx hb dModel_join_11 rfl (lv_at hl 2 rfl) ?_
      refine pu_Si (rest := []) S hC (m_isLow l γ _ x2) meModel_isLow qw_50d7321591 ⟨Nat.le_of_ble_eq_true rfl, Nat.le_of_ble_eq_true rfl⟩ hM rfl hl.1 rfl (Nat.le_of_ble_eq_true rfl) dModel_join_12 ⟨Nat.zero_le _, Nat.zero_le _⟩ (fun r67 hr67 => ?_)
      refine lv_if_eq (tgt := 22) hx hb dModel_join_15 (by decide) (fun c68 => ?_) (fun c68 => ?_)
      · refine lv_iload_n hx hb dModel_join_22 rfl (lv_at hl 1 rfl) ?_
        have J30 : ∀ (ls : Array Slot), lv_has ls 4 [(0, .int x0), (1, .int x1), (2, .int x2)] → W p l e (bs_rm 1 0 0 20) s m args below meth c s.heap [] 0 0 Q (F0 m 30 ls []) := by
          intro ls hl
          refine lv_iconst (v := 0) hx hb dModel_join_30 (by decide) ?_
          refine lv_goto (tgt := 53) hx hb dModel_join_31 (by decide) ?_
          exact hE _ _ _ trivial dModel_join_53
        refine lv_if_eq (tgt := 30) hx hb dModel_join_23 (by decide) (fun c75 => ?_) (fun c75 => ?_)
        · exact J30 ls  (lv_sub hl [0, 1, 2] rfl)
        · refine lv_iload_n hx hb dModel_join_26 rfl (lv_at hl 2 rfl) ?_
          refine lv_if_ne (tgt := 34) hx hb dModel_join_27 (by decide) (fun c76 => ?_) (fun c76 => ?_)
          · refine lv_iload_n hx hb dModel_join_34 rfl (lv_at hl 1 rfl) ?_
            refine pu_Si (rest := []) S hC (m_isHigh l γ _ x1) meModel_isHigh qw_7b38890176 ⟨Nat.le_of_ble_eq_true rfl, Nat.le_of_ble_eq_true rfl⟩ hM rfl hl.1 rfl (Nat.le_of_ble_eq_true rfl) dModel_join_35 ⟨Nat.zero_le _, Nat.zero_le _⟩ (fun r77 hr77 => ?_)
            refine lv_if_eq (tgt := 52) hx hb dModel_join_38 (by decide) (fun c78 => ?_) (fun c78 => ?_)
            · refine lv_iconst (v := 1) hx hb dModel_join_52 (by decide) ?_
              exact hE _ _ _ trivial dModel_join_53
            · refine lv_iload_n hx hb dModel_join_41 rfl (lv_at hl 2 rfl) ?_
              refine pu_Si (rest := []) S hC (m_isHigh l γ _ x2) meModel_isHigh qw_7b38890176 ⟨Nat.le_of_ble_eq_true rfl, Nat.le_of_ble_eq_true rfl⟩ hM rfl hl.1 rfl (Nat.le_of_ble_eq_true rfl) dModel_join_42 ⟨Nat.zero_le _, Nat.zero_le _⟩ (fun r79 hr79 => ?_)
              refine lv_if_eq (tgt := 52) hx hb dModel_join_45 (by decide) (fun c80 => ?_) (fun c80 => ?_)
              · refine lv_iconst (v := 1) hx hb dModel_join_52 (by decide) ?_
                exact hE _ _ _ trivial dModel_join_53
              · refine lv_iconst (v := 3) hx hb dModel_join_48 (by decide) ?_
                refine lv_goto (tgt := 53) hx hb dModel_join_49 (by decide) ?_
                exact hE _ _ _ trivial dModel_join_53
          · exact J30 ls  (lv_sub hl [0, 1, 2] rfl)
      · exact J18 ls  (lv_sub hl [0, 1, 2] rfl)
theorem qw_c5109eb5e5 : (Cond.methodLink R_Model 184 yModel_join) ∈ bs_W0 := bs_in (in_tables_1_6 (List.mem_of_getElem? (i := 126) rfl)) rfl
theorem qw_ecedfa5d8c : (Cond.methodLink R_Model 187 yModel_not) ∈ bs_W0 := bs_in (in_tables_1_6 (List.mem_of_getElem? (i := 103) rfl)) rfl
set_option maxHeartbeats 4000000 in
set_option maxRecDepth 100000 in
theorem m_logic (l : Launch) (γ : gE) (P : Heap → Prop) (x0 : Int32) (x1 : Int32) (x2 : Int32) : PU l yModel_logic bModel_logic 4 (some .int) 2 43 [.int x0, .int x1, .int x2] γ P (vp_Si (fun v : Int32 => True)) := by
  refine pu_openI (by decide) (Nat.le_of_ble_eq_true rfl) ?_
  intro p e s m args below meth c ls Q S hC hM hE hl
  obtain ⟨hx, hb, hml, hown, hW⟩ := id S
  have hl : lv_has ls 4 [(0, .int x0), (1, .int x1), (2, .int x2)] := hl
  refine lv_iload_n hx hb dModel_logic_0 rfl (lv_at hl 0 rfl) ?_
  refine lv_iconst (v := 2) hx hb dModel_logic_1 (by decide) ?_
  have J28 : ∀ (ls : Array Slot) (t0_28 : Int32), lv_has ls 4 [(0, .int x0), (1, .int x1), (2, .int x2)] → W p l e (bs_rm 2 0 0 43) s m args below meth c s.heap [] 0 0 Q (F0 m 28 ls [.int t0_28]) := by
    intro ls t0_28 hl
    refine lv_iload_n hx hb dModel_logic_28 rfl (lv_at hl 1 rfl) ?_
    refine lv_iload_n hx hb dModel_logic_29 rfl (lv_at hl 2 rfl) ?_
    refine pu_Si (rest := []) S hC (m_join l γ _ t0_28 x1 x2) meModel_join qw_c5109eb5e5 ⟨Nat.le_of_ble_eq_true rfl, Nat.le_of_ble_eq_true rfl⟩ hM rfl hl.1 rfl (Nat.le_of_ble_eq_true rfl) dModel_logic_30 ⟨Nat.zero_le _, Nat.zero_le _⟩ (fun r9 hr9 => ?_)
    refine lv_istore_n (lv' := [(3, .int r9), (0, .int x0), (1, .int x1), (2, .int x2)]) hx hb dModel_logic_33 rfl hl (by decide) rfl (fun ls hl => ?_)
    refine lv_iload_n hx hb dModel_logic_34 rfl (lv_at hl 1 rfl) ?_
    refine lv_iconst (v := 2) hx hb dModel_logic_35 (by decide) ?_
    have J49 : ∀ (ls : Array Slot), lv_has ls 4 [(0, .int x0), (1, .int x1), (2, .int x2), (3, .int r9)] → W p l e (bs_rm 2 0 0 43) s m args below meth c s.heap [] 0 0 Q (F0 m 49 ls []) := by
      intro ls hl
      refine lv_iload_n hx hb dModel_logic_49 rfl (lv_at hl 3 rfl) ?_
      refine pu_Si (rest := []) S hC (m_not l γ _ r9) meModel_not qw_ecedfa5d8c ⟨Nat.le_of_ble_eq_true rfl, Nat.le_of_ble_eq_true rfl⟩ hM rfl hl.1 rfl (Nat.le_of_ble_eq_true rfl) dModel_logic_50 ⟨Nat.zero_le _, Nat.zero_le _⟩ (fun r14 hr14 => ?_)
      refine lv_goto (tgt := 57) hx hb dModel_logic_53 (by decide) ?_
      exact hE _ _ _ trivial dModel_logic_57
    refine lv_icmp_eq (tgt := 49) hx hb dModel_logic_36 (by decide) (fun c15 => ?_) (fun c15 => ?_)
    · exact J49 ls  (lv_sub hl [1, 2, 3, 0] rfl)
    · refine lv_iload_n hx hb dModel_logic_39 rfl (lv_at hl 1 rfl) ?_
      refine lv_iconst (v := 3) hx hb dModel_logic_40 (by decide) ?_
      refine lv_icmp_eq (tgt := 49) hx hb dModel_logic_41 (by decide) (fun c16 => ?_) (fun c16 => ?_)
      · exact J49 ls  (lv_sub hl [1, 2, 3, 0] rfl)
      · refine lv_iload_n hx hb dModel_logic_44 rfl (lv_at hl 1 rfl) ?_
        refine lv_iconst (v := 5) hx hb dModel_logic_45 (by decide) ?_
        refine lv_icmp_ne (tgt := 56) hx hb dModel_logic_46 (by decide) (fun c17 => ?_) (fun c17 => ?_)
        · refine lv_iload_n hx hb dModel_logic_56 rfl (lv_at hl 0 rfl) ?_
          exact hE _ _ _ trivial dModel_logic_57
        · exact J49 ls  (lv_sub hl [1, 2, 3, 0] rfl)
  refine lv_icmp_ne (tgt := 9) hx hb dModel_logic_2 (by decide) (fun c18 => ?_) (fun c18 => ?_)
  · refine lv_iload_n hx hb dModel_logic_9 rfl (lv_at hl 0 rfl) ?_
    refine lv_iconst (v := 3) hx hb dModel_logic_10 (by decide) ?_
    refine lv_icmp_ne (tgt := 18) hx hb dModel_logic_11 (by decide) (fun c19 => ?_) (fun c19 => ?_)
    · refine lv_iload_n hx hb dModel_logic_18 rfl (lv_at hl 0 rfl) ?_
      refine lv_iconst (v := 5) hx hb dModel_logic_19 (by decide) ?_
      refine lv_icmp_ne (tgt := 27) hx hb dModel_logic_20 (by decide) (fun c20 => ?_) (fun c20 => ?_)
      · refine lv_iload_n hx hb dModel_logic_27 rfl (lv_at hl 0 rfl) ?_
        exact J28 ls x0 (lv_sub hl [0, 1, 2] rfl)
      · refine lv_iconst (v := 4) hx hb dModel_logic_23 (by decide) ?_
        refine lv_goto (tgt := 28) hx hb dModel_logic_24 (by decide) ?_
        exact J28 ls 4 (lv_sub hl [0, 1, 2] rfl)
    · refine lv_iconst (v := 1) hx hb dModel_logic_14 (by decide) ?_
      refine lv_goto (tgt := 28) hx hb dModel_logic_15 (by decide) ?_
      exact J28 ls 1 (lv_sub hl [0, 1, 2] rfl)
  · refine lv_iconst (v := 0) hx hb dModel_logic_5 (by decide) ?_
    refine lv_goto (tgt := 28) hx hb dModel_logic_6 (by decide) ?_
    exact J28 ls 0 (lv_sub hl [0, 1, 2] rfl)
