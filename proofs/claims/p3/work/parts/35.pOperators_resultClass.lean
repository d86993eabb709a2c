theorem qw_0526218670 : (Cond.methodLink R_Operators 98 yOperators_areOfOneClass) ∈ bs_W0 := bs_in (in_tables_1_3 (List.mem_of_getElem? (i := 238) rfl)) rfl
theorem qn_de7362ca2e : (Cond.fieldLinkNest R_Operators 48 R_Looks "rows" "LTypeBook$Rows;" "TypeBook") ∈ lw_tbl := in_tables_1_1 (List.mem_of_getElem? (i := 209) rfl)
theorem qw_0d8e65883a : (Cond.methodLink R_Operators 130 yRows_isClear) ∈ bs_W0 := bs_in (in_tables_1_4 (List.mem_of_getElem? (i := 60) rfl)) rfl
theorem qw_567f1aae5f : (Cond.methodLink R_Operators 36 yLooks_numberOf) ∈ bs_W0 := bs_in (in_tables_1_3 (List.mem_of_getElem? (i := 206) rfl)) rfl
theorem qw_1bb8bfda8f : (Cond.methodLink R_Operators 132 yRows_bitsOf) ∈ bs_W0 := bs_in (in_tables_1_4 (List.mem_of_getElem? (i := 70) rfl)) rfl
theorem qw_2b8ebea4b9 : (Cond.methodLink R_Operators 52 yRows_get) ∈ bs_W0 := bs_in (in_tables_1_3 (List.mem_of_getElem? (i := 220) rfl)) rfl
theorem qw_a34bb4dff1 : (Cond.methodLink R_Operators 111 yjInteger_compare) ∈ bs_W0 := bs_in (in_tables_1_4 (List.mem_of_getElem? (i := 53) rfl)) rfl
theorem qw_9422e74c3c : (Cond.methodLink R_Operators 116 yOperators_isClear) ∈ bs_W0 := bs_in (in_tables_1_4 (List.mem_of_getElem? (i := 56) rfl)) rfl
theorem qw_1ec68b5307 : (Cond.methodLink R_Operators 119 yOperators_countsAs) ∈ bs_W0 := bs_in (in_tables_1_4 (List.mem_of_getElem? (i := 66) rfl)) rfl
theorem qw_ea81ec05e8 : (Cond.constantLong R_Operators 123 (-9223372036854775808)) ∈ bs_W0 := bs_in (in_tables_1_4 (List.mem_of_getElem? (i := 75) rfl)) rfl
theorem qw_e0d1ecf615 : (Cond.methodLink R_Operators 125 yjLong_compare) ∈ bs_W0 := bs_in (in_tables_1_4 (List.mem_of_getElem? (i := 76) rfl)) rfl
theorem qw_464f80981e : (Cond.fieldLink R_TypeBook 53 R_TypeBook "faultNode" "I") ∈ bs_W0 := bs_in (in_tables_1_2 (List.mem_of_getElem? (i := 58) rfl)) rfl
theorem qw_6151ee7924 : (Cond.fieldLink R_TypeBook 10 R_TypeBook "trees" "LTypeBook$Trees;") ∈ bs_W0 := bs_in (in_tables_1_2 (List.mem_of_getElem? (i := 52) rfl)) rfl
theorem qw_1062a20d6a : (Cond.methodLink R_TypeBook 168 yTrees_valueOf) ∈ bs_W0 := bs_in (in_tables_1_5 (List.mem_of_getElem? (i := 27) rfl)) rfl
set_option maxHeartbeats 4000000 in
set_option maxRecDepth 100000 in
theorem k_Operators_resultClass (l : Launch) (γ : gE) (A : Nat → Prop) (κ : Nat → Nat) (x1 : Int32) (x2 : Int32) (x3 : Int32)  : PU l yOperators_resultClass bOperators_resultClass 8 (some .int) 3 65 [.ref (γ.2.2.2 11), .int x1, .int x2, .int x3] γ (INV γ A κ) (vp_Si (fun v : Int32 => True)) := by
  refine pu_openI (by decide) (Nat.le_of_ble_eq_true rfl) ?_
  intro p e s m args below meth c ls Q S hC hI hE hl
  obtain ⟨hx, hb, hml, hown, hW⟩ := id S
  have hl : lv_has ls 8 [(0, .ref (γ.2.2.2 11)), (1, .int x1), (2, .int x2), (3, .int x3)] := hl
  have J213 : ∀ (ls : Array Slot)  (i1 : Int32) (i2 : Int32) (i3 : Int32) (i4 : Int32) (i5 : Int32) (i6 : Int32), lv_has ls 8 [(0, .ref (γ.2.2.2 11)), (1, .int i1), (2, .int i2), (3, .int i3), (4, .int i4), (5, .int i5), (6, .int i6)] → W p l e (bs_rm 3 0 0 65) s m args below meth c s.heap [] 0 0 Q (F0 m 213 ls []) := by
    intro ls  i1 i2 i3 i4 i5 i6  hl
    refine lv_iconst (v := 3) hx hb dOperators_resultClass_213 (by decide) ?_
    refine lv_goto (tgt := 218) hx hb dOperators_resultClass_214 (by decide) ?_
    exact hE _ _ _ trivial dOperators_resultClass_218
  have J202 : ∀ (ls : Array Slot)  (i1 : Int32) (i2 : Int32) (i3 : Int32) (i4 : Int32) (i5 : Int32) (i6 : Int32), lv_has ls 8 [(0, .ref (γ.2.2.2 11)), (1, .int i1), (2, .int i2), (3, .int i3), (4, .int i4), (5, .int i5), (6, .int i6)] → W p l e (bs_rm 3 0 0 65) s m args below meth c s.heap [] 0 0 Q (F0 m 202 ls []) := by
    intro ls  i1 i2 i3 i4 i5 i6  hl
    refine lv_iload hx hb dOperators_resultClass_202 (lv_at hl 5 rfl) ?_
    refine lv_iconst (v := 3) hx hb dOperators_resultClass_204 (by decide) ?_
    refine lv_icmp_eq (tgt := 213) hx hb dOperators_resultClass_205 (by decide) (fun c34 => ?_) (fun c34 => ?_)
    · exact J213 ls i1 i2 i3 i4 i5 i6 (lv_sub hl [0, 1, 2, 3, 4, 5, 6] rfl)
    · refine lv_iload hx hb dOperators_resultClass_208 (lv_at hl 5 rfl) ?_
      refine lv_if_ne (tgt := 217) hx hb dOperators_resultClass_210 (by decide) (fun c35 => ?_) (fun c35 => ?_)
      · refine lv_iconst (v := (-1)) hx hb dOperators_resultClass_217 (by decide) ?_
        exact hE _ _ _ trivial dOperators_resultClass_218
      · exact J213 ls i1 i2 i3 i4 i5 i6 (lv_sub hl [0, 1, 2, 3, 4, 5, 6] rfl)
  have J163 : ∀ (ls : Array Slot)  (i1 : Int32) (i2 : Int32) (i3 : Int32) (i4 : Int32) (i5 : Int32) (i6 : Int32) (t0 : Int32), lv_has ls 8 [(0, .ref (γ.2.2.2 11)), (1, .int i1), (2, .int i2), (3, .int i3), (4, .int i4), (5, .int i5), (6, .int i6)] → W p l e (bs_rm 3 0 0 65) s m args below meth c s.heap [] 0 0 Q (F0 m 163 ls [.int t0]) := by
    intro ls  i1 i2 i3 i4 i5 i6 t0  hl
    refine lv_istore (lv' := [(7, .int t0), (0, .ref (γ.2.2.2 11)), (1, .int i1), (2, .int i2), (3, .int i3), (4, .int i4), (5, .int i5), (6, .int i6)]) hx hb dOperators_resultClass_163 hl (by decide) rfl (fun ls hl => ?_)
    refine lv_iload hx hb dOperators_resultClass_165 (lv_at hl 7 rfl) ?_
    refine lv_if_eq (tgt := 174) hx hb dOperators_resultClass_167 (by decide) (fun c36 => ?_) (fun c36 => ?_)
    · refine lv_iload hx hb dOperators_resultClass_174 (lv_at hl 0 rfl) ?_
      refine lv_if_eq (tgt := 183) hx hb dOperators_resultClass_176 (by decide) (fun c37 => ?_) (fun c37 => ?_)
      · refine lv_iconst (v := (-1)) hx hb dOperators_resultClass_183 (by decide) ?_
        exact hE _ _ _ trivial dOperators_resultClass_184
      · refine lv_iconst (v := 3) hx hb dOperators_resultClass_179 (by decide) ?_
        refine lv_goto (tgt := 184) hx hb dOperators_resultClass_180 (by decide) ?_
        exact hE _ _ _ trivial dOperators_resultClass_184
    · refine lv_iconst (v := 2) hx hb dOperators_resultClass_170 (by decide) ?_
      refine lv_goto (tgt := 184) hx hb dOperators_resultClass_171 (by decide) ?_
      exact hE _ _ _ trivial dOperators_resultClass_184
  have J162 : ∀ (ls : Array Slot)  (i1 : Int32) (i2 : Int32) (i3 : Int32) (i4 : Int32) (i5 : Int32) (i6 : Int32), lv_has ls 8 [(0, .ref (γ.2.2.2 11)), (1, .int i1), (2, .int i2), (3, .int i3), (4, .int i4), (5, .int i5), (6, .int i6)] → W p l e (bs_rm 3 0 0 65) s m args below meth c s.heap [] 0 0 Q (F0 m 162 ls []) := by
    intro ls  i1 i2 i3 i4 i5 i6  hl
    refine lv_iconst (v := 0) hx hb dOperators_resultClass_162 (by decide) ?_
    exact J163 ls i1 i2 i3 i4 i5 i6 0 (lv_sub hl [0, 1, 2, 3, 4, 5, 6] rfl)
  have J158 : ∀ (ls : Array Slot)  (i1 : Int32) (i2 : Int32) (i3 : Int32) (i4 : Int32) (i5 : Int32) (i6 : Int32), lv_has ls 8 [(0, .ref (γ.2.2.2 11)), (1, .int i1), (2, .int i2), (3, .int i3), (4, .int i4), (5, .int i5), (6, .int i6)] → W p l e (bs_rm 3 0 0 65) s m args below meth c s.heap [] 0 0 Q (F0 m 158 ls []) := by
    intro ls  i1 i2 i3 i4 i5 i6  hl
    refine lv_iconst (v := 1) hx hb dOperators_resultClass_158 (by decide) ?_
    refine lv_goto (tgt := 163) hx hb dOperators_resultClass_159 (by decide) ?_
    exact J163 ls i1 i2 i3 i4 i5 i6 1 (lv_sub hl [0, 1, 2, 3, 4, 5, 6] rfl)
  have J146 : ∀ (ls : Array Slot)  (i1 : Int32) (i2 : Int32) (i3 : Int32) (i4 : Int32) (i5 : Int32) (i6 : Int32), lv_has ls 8 [(0, .ref (γ.2.2.2 11)), (1, .int i1), (2, .int i2), (3, .int i3), (4, .int i4), (5, .int i5), (6, .int i6)] → W p l e (bs_rm 3 0 0 65) s m args below meth c s.heap [] 0 0 Q (F0 m 146 ls []) := by
    intro ls  i1 i2 i3 i4 i5 i6  hl
    refine lv_iload hx hb dOperators_resultClass_146 (lv_at hl 5 rfl) ?_
    refine lv_iconst (v := 3) hx hb dOperators_resultClass_148 (by decide) ?_
    refine lv_icmp_eq (tgt := 158) hx hb dOperators_resultClass_149 (by decide) (fun c38 => ?_) (fun c38 => ?_)
    · exact J158 ls i1 i2 i3 i4 i5 i6 (lv_sub hl [0, 1, 2, 3, 4, 5, 6] rfl)
    · refine lv_iload hx hb dOperators_resultClass_152 (lv_at hl 5 rfl) ?_
      refine lv_iconst (v := 2) hx hb dOperators_resultClass_154 (by decide) ?_
      refine lv_icmp_ne (tgt := 162) hx hb dOperators_resultClass_155 (by decide) (fun c39 => ?_) (fun c39 => ?_)
      · exact J162 ls i1 i2 i3 i4 i5 i6 (lv_sub hl [0, 1, 2, 3, 4, 5, 6] rfl)
      · exact J158 ls i1 i2 i3 i4 i5 i6 (lv_sub hl [0, 1, 2, 3, 4, 5, 6] rfl)
  have J126 : ∀ (ls : Array Slot)  (i1 : Int32) (i2 : Int32) (i3 : Int32) (i4 : Int32) (i5 : Int32) (t0 : Int32), lv_has ls 8 [(0, .ref (γ.2.2.2 11)), (1, .int i1), (2, .int i2), (3, .int i3), (4, .int i4), (5, .int i5)] → W p l e (bs_rm 3 0 0 65) s m args below meth c s.heap [] 0 0 Q (F0 m 126 ls [.int t0]) := by
    intro ls  i1 i2 i3 i4 i5 t0  hl
    refine lv_istore (lv' := [(6, .int t0), (0, .ref (γ.2.2.2 11)), (1, .int i1), (2, .int i2), (3, .int i3), (4, .int i4), (5, .int i5)]) hx hb dOperators_resultClass_126 hl (by decide) rfl (fun ls hl => ?_)
    refine lv_iload_n hx hb dOperators_resultClass_128 rfl (lv_at hl 2 rfl) ?_
    refine lv_bipush (v := 13) hx hb dOperators_resultClass_129 (by decide) ?_
    refine lv_icmp_gt (tgt := 185) hx hb dOperators_resultClass_131 (by decide) (fun c40 => ?_) (fun c40 => ?_)
    · refine lv_iload_n hx hb dOperators_resultClass_185 rfl (lv_at hl 2 rfl) ?_
      refine lv_bipush (v := 14) hx hb dOperators_resultClass_186 (by decide) ?_
      refine lv_icmp_ne (tgt := 219) hx hb dOperators_resultClass_188 (by decide) (fun c41 => ?_) (fun c41 => ?_)
      · refine lv_iload_n hx hb dOperators_resultClass_219 rfl (lv_at hl 2 rfl) ?_
        refine lv_bipush (v := 18) hx hb dOperators_resultClass_220 (by decide) ?_
        refine lv_icmp_gt (tgt := 236) hx hb dOperators_resultClass_222 (by decide) (fun c42 => ?_) (fun c42 => ?_)
        · refine lv_iload hx hb dOperators_resultClass_236 (lv_at hl 5 rfl) ?_
          refine lv_iconst (v := 3) hx hb dOperators_resultClass_238 (by decide) ?_
          refine lv_icmp_ne (tgt := 252) hx hb dOperators_resultClass_239 (by decide) (fun c43 => ?_) (fun c43 => ?_)
          · refine lv_iconst (v := (-1)) hx hb dOperators_resultClass_252 (by decide) ?_
            exact hE _ _ _ trivial dOperators_resultClass_253
          · refine lv_iload hx hb dOperators_resultClass_242 (lv_at hl 6 rfl) ?_
            refine lv_iconst (v := 2) hx hb dOperators_resultClass_244 (by decide) ?_
            refine lv_icmp_ne (tgt := 252) hx hb dOperators_resultClass_245 (by decide) (fun c44 => ?_) (fun c44 => ?_)
            · refine lv_iconst (v := (-1)) hx hb dOperators_resultClass_252 (by decide) ?_
              exact hE _ _ _ trivial dOperators_resultClass_253
            · refine lv_iconst (v := 3) hx hb dOperators_resultClass_248 (by decide) ?_
              refine lv_goto (tgt := 253) hx hb dOperators_resultClass_249 (by decide) ?_
              exact hE _ _ _ trivial dOperators_resultClass_253
        · refine lv_iload hx hb dOperators_resultClass_225 (lv_at hl 0 rfl) ?_
          refine lv_if_eq (tgt := 234) hx hb dOperators_resultClass_227 (by decide) (fun c45 => ?_) (fun c45 => ?_)
          · refine lv_iconst (v := (-1)) hx hb dOperators_resultClass_234 (by decide) ?_
            exact hE _ _ _ trivial dOperators_resultClass_235
          · refine lv_iconst (v := 2) hx hb dOperators_resultClass_230 (by decide) ?_
            refine lv_goto (tgt := 235) hx hb dOperators_resultClass_231 (by decide) ?_
            exact hE _ _ _ trivial dOperators_resultClass_235
      · refine lv_iload hx hb dOperators_resultClass_191 (lv_at hl 5 rfl) ?_
        refine lv_iconst (v := 3) hx hb dOperators_resultClass_193 (by decide) ?_
        refine lv_icmp_eq (tgt := 202) hx hb dOperators_resultClass_194 (by decide) (fun c46 => ?_) (fun c46 => ?_)
        · exact J202 ls i1 i2 i3 i4 i5 t0 (lv_sub hl [1, 2, 3, 4, 5, 6, 0] rfl)
        · refine lv_iload hx hb dOperators_resultClass_197 (lv_at hl 5 rfl) ?_
          refine lv_if_ne (tgt := 217) hx hb dOperators_resultClass_199 (by decide) (fun c47 => ?_) (fun c47 => ?_)
          · refine lv_iconst (v := (-1)) hx hb dOperators_resultClass_217 (by decide) ?_
            exact hE _ _ _ trivial dOperators_resultClass_218
          · exact J202 ls i1 i2 i3 i4 i5 t0 (lv_sub hl [1, 2, 3, 4, 5, 6, 0] rfl)
    · refine lv_iload hx hb dOperators_resultClass_134 (lv_at hl 5 rfl) ?_
      refine lv_iconst (v := 3) hx hb dOperators_resultClass_136 (by decide) ?_
      refine lv_icmp_eq (tgt := 146) hx hb dOperators_resultClass_137 (by decide) (fun c48 => ?_) (fun c48 => ?_)
      · exact J146 ls i1 i2 i3 i4 i5 t0 (lv_sub hl [1, 2, 3, 4, 5, 6, 0] rfl)
      · refine lv_iload hx hb dOperators_resultClass_140 (lv_at hl 5 rfl) ?_
        refine lv_iconst (v := 2) hx hb dOperators_resultClass_142 (by decide) ?_
        refine lv_icmp_ne (tgt := 162) hx hb dOperators_resultClass_143 (by decide) (fun c49 => ?_) (fun c49 => ?_)
        · exact J162 ls i1 i2 i3 i4 i5 t0 (lv_sub hl [1, 2, 3, 4, 5, 6, 0] rfl)
        · exact J146 ls i1 i2 i3 i4 i5 t0 (lv_sub hl [1, 2, 3, 4, 5, 6, 0] rfl)
  have J125 : ∀ (ls : Array Slot)  (i1 : Int32) (i2 : Int32) (i3 : Int32) (i4 : Int32) (i5 : Int32), lv_has ls 8 [(0, .ref (γ.2.2.2 11)), (1, .int i1), (2, .int i2), (3, .int i3), (4, .int i4), (5, .int i5)] → W p l e (bs_rm 3 0 0 65) s m args below meth c s.heap [] 0 0 Q (F0 m 125 ls []) := by
    intro ls  i1 i2 i3 i4 i5  hl
    refine lv_iconst (v := 0) hx hb dOperators_resultClass_125 (by decide) ?_
    exact J126 ls i1 i2 i3 i4 i5 0 (lv_sub hl [0, 1, 2, 3, 4, 5] rfl)
  have J49 : ∀ (ls : Array Slot)  (i1 : Int32) (i2 : Int32) (i3 : Int32) (i4 : Int32) (i5 : Int32), lv_has ls 8 [(0, .ref (γ.2.2.2 11)), (1, .int i1), (2, .int i2), (3, .int i3), (4, .int i4), (5, .int i5)] → W p l e (bs_rm 3 0 0 65) s m args below meth c s.heap [] 0 0 Q (F0 m 49 ls []) := by
    intro ls  i1 i2 i3 i4 i5  hl
    refine lv_iload hx hb dOperators_resultClass_49 (lv_at hl 4 rfl) ?_
    refine lv_goto (tgt := 55) hx hb dOperators_resultClass_51 (by decide) ?_
    exact hE _ _ _ trivial dOperators_resultClass_55
  refine lv_aload_n hx hb dOperators_resultClass_0 rfl (lv_at hl 0 rfl) ?_
  refine of_get S hC (of_11_0 hI) in_Operators rfl (by decide) qw_46160f6e07 dOperators_resultClass_1 ?_
  refine lv_iload_n hx hb dOperators_resultClass_4 rfl (lv_at hl 2 rfl) ?_
  refine pu_Vi (rest := []) S hC (k9_Looks_classOf l γ A κ x2) meLooks_classOf qw_2e1b0e0eff ⟨Nat.le_of_ble_eq_true rfl, Nat.le_of_ble_eq_true rfl⟩ (rv_9 hC hI) hI rfl hl.1 rfl (Nat.le_of_ble_eq_true rfl) dOperators_resultClass_5 ⟨Nat.zero_le _, Nat.zero_le _⟩ (fun r50 hr50 => ?_)
  refine lv_istore (lv' := [(4, .int r50), (0, .ref (γ.2.2.2 11)), (1, .int x1), (2, .int x2), (3, .int x3)]) hx hb dOperators_resultClass_8 hl (by decide) rfl (fun ls hl => ?_)
  refine lv_aload_n hx hb dOperators_resultClass_10 rfl (lv_at hl 1 rfl) ?_
  refine of_get S hC (of_11_0 hI) in_Operators rfl (by decide) qw_46160f6e07 dOperators_resultClass_11 ?_
  refine lv_iload_n hx hb dOperators_resultClass_14 rfl (lv_at hl 4 rfl) ?_
  refine pu_Vi (rest := []) S hC (k9_Looks_classOf l γ A κ x3) meLooks_classOf qw_2e1b0e0eff ⟨Nat.le_of_ble_eq_true rfl, Nat.le_of_ble_eq_true rfl⟩ (rv_9 hC hI) hI rfl hl.1 rfl (Nat.le_of_ble_eq_true rfl) dOperators_resultClass_15 ⟨Nat.zero_le _, Nat.zero_le _⟩ (fun r51 hr51 => ?_)
  refine lv_istore (lv' := [(5, .int r51), (4, .int r50), (0, .ref (γ.2.2.2 11)), (1, .int x1), (2, .int x2), (3, .int x3)]) hx hb dOperators_resultClass_18 hl (by decide) rfl (fun ls hl => ?_)
  refine lv_iload_n hx hb dOperators_resultClass_20 rfl (lv_at hl 3 rfl) ?_
  refine lv_iconst (v := 5) hx hb dOperators_resultClass_21 (by decide) ?_
  refine lv_icmp_gt (tgt := 56) hx hb dOperators_resultClass_22 (by decide) (fun c52 => ?_) (fun c52 => ?_)
  · refine lv_iload_n hx hb dOperators_resultClass_56 rfl (lv_at hl 3 rfl) ?_
    refine lv_bipush (v := 7) hx hb dOperators_resultClass_57 (by decide) ?_
    refine lv_icmp_gt (tgt := 77) hx hb dOperators_resultClass_59 (by decide) (fun c53 => ?_) (fun c53 => ?_)
    · refine lv_iload_n hx hb dOperators_resultClass_77 rfl (lv_at hl 3 rfl) ?_
      refine lv_bipush (v := 11) hx hb dOperators_resultClass_78 (by decide) ?_
      refine lv_icmp_gt (tgt := 109) hx hb dOperators_resultClass_80 (by decide) (fun c54 => ?_) (fun c54 => ?_)
      · refine lv_iload hx hb dOperators_resultClass_109 (lv_at hl 1 rfl) ?_
        refine lv_iconst (v := 2) hx hb dOperators_resultClass_111 (by decide) ?_
        refine lv_icmp_ne (tgt := 125) hx hb dOperators_resultClass_112 (by decide) (fun c55 => ?_) (fun c55 => ?_)
        · exact J125 ls x1 x2 x3 r50 r51 (lv_sub hl [2, 3, 4, 5, 1, 0] rfl)
        · refine lv_iload hx hb dOperators_resultClass_115 (lv_at hl 0 rfl) ?_
          refine lv_iconst (v := 2) hx hb dOperators_resultClass_117 (by decide) ?_
          refine lv_icmp_ne (tgt := 125) hx hb dOperators_resultClass_118 (by decide) (fun c56 => ?_) (fun c56 => ?_)
          · exact J125 ls x1 x2 x3 r50 r51 (lv_sub hl [2, 3, 4, 5, 1, 0] rfl)
          · refine lv_iconst (v := 1) hx hb dOperators_resultClass_121 (by decide) ?_
            refine lv_goto (tgt := 126) hx hb dOperators_resultClass_122 (by decide) ?_
            exact J126 ls x1 x2 x3 r50 r51 1 (lv_sub hl [2, 3, 4, 5, 1, 0] rfl)
      · refine lv_aload_n hx hb dOperators_resultClass_83 rfl (lv_at hl 2 rfl) ?_
        refine lv_iload_n hx hb dOperators_resultClass_84 rfl (lv_at hl 4 rfl) ?_
        refine lv_iload_n hx hb dOperators_resultClass_85 rfl (lv_at hl 5 rfl) ?_
        refine pu_Vi (rest := []) S hC (k_Operators_areOfOneClass l γ A κ x2 x3) meOperators_areOfOneClass qw_0526218670 ⟨Nat.le_of_ble_eq_true rfl, Nat.le_of_ble_eq_true rfl⟩ (rv_11 hC hI) hI rfl hl.1 rfl (Nat.le_of_ble_eq_true rfl) dOperators_resultClass_86 ⟨Nat.zero_le _, Nat.zero_le _⟩ (fun r57 hr57 => ?_)
        refine lv_if_eq (tgt := 107) hx hb dOperators_resultClass_89 (by decide) (fun c58 => ?_) (fun c58 => ?_)
        · refine lv_iconst (v := (-1)) hx hb dOperators_resultClass_107 (by decide) ?_
          exact hE _ _ _ trivial dOperators_resultClass_108
        · refine lv_iload hx hb dOperators_resultClass_92 (lv_at hl 1 rfl) ?_
          refine lv_iconst (v := 1) hx hb dOperators_resultClass_94 (by decide) ?_
          refine lv_icmp_eq (tgt := 107) hx hb dOperators_resultClass_95 (by decide) (fun c59 => ?_) (fun c59 => ?_)
          · refine lv_iconst (v := (-1)) hx hb dOperators_resultClass_107 (by decide) ?_
            exact hE _ _ _ trivial dOperators_resultClass_108
          · refine lv_iload hx hb dOperators_resultClass_98 (lv_at hl 1 rfl) ?_
            refine lv_if_eq (tgt := 107) hx hb dOperators_resultClass_100 (by decide) (fun c60 => ?_) (fun c60 => ?_)
            · refine lv_iconst (v := (-1)) hx hb dOperators_resultClass_107 (by decide) ?_
              exact hE _ _ _ trivial dOperators_resultClass_108
            · refine lv_iconst (v := 1) hx hb dOperators_resultClass_103 (by decide) ?_
              refine lv_goto (tgt := 108) hx hb dOperators_resultClass_104 (by decide) ?_
              exact hE _ _ _ trivial dOperators_resultClass_108
    · refine lv_aload_n hx hb dOperators_resultClass_62 rfl (lv_at hl 2 rfl) ?_
      refine lv_iload_n hx hb dOperators_resultClass_63 rfl (lv_at hl 4 rfl) ?_
      refine lv_iload_n hx hb dOperators_resultClass_64 rfl (lv_at hl 5 rfl) ?_
      refine pu_Vi (rest := []) S hC (k_Operators_areOfOneClass l γ A κ x2 x3) meOperators_areOfOneClass qw_0526218670 ⟨Nat.le_of_ble_eq_true rfl, Nat.le_of_ble_eq_true rfl⟩ (rv_11 hC hI) hI rfl hl.1 rfl (Nat.le_of_ble_eq_true rfl) dOperators_resultClass_65 ⟨Nat.zero_le _, Nat.zero_le _⟩ (fun r61 hr61 => ?_)
      refine lv_if_eq (tgt := 75) hx hb dOperators_resultClass_68 (by decide) (fun c62 => ?_) (fun c62 => ?_)
      · refine lv_iconst (v := (-1)) hx hb dOperators_resultClass_75 (by decide) ?_
        exact hE _ _ _ trivial dOperators_resultClass_76
      · refine lv_iconst (v := 1) hx hb dOperators_resultClass_71 (by decide) ?_
        refine lv_goto (tgt := 76) hx hb dOperators_resultClass_72 (by decide) ?_
        exact hE _ _ _ trivial dOperators_resultClass_76
  · refine lv_iload hx hb dOperators_resultClass_25 (lv_at hl 1 rfl) ?_
    refine lv_iload hx hb dOperators_resultClass_27 (lv_at hl 0 rfl) ?_
    refine lv_icmp_ne (tgt := 54) hx hb dOperators_resultClass_29 (by decide) (fun c63 => ?_) (fun c63 => ?_)
    · refine lv_iconst (v := (-1)) hx hb dOperators_resultClass_54 (by decide) ?_
      exact hE _ _ _ trivial dOperators_resultClass_55
    · refine lv_iload hx hb dOperators_resultClass_32 (lv_at hl 1 rfl) ?_
      refine lv_iconst (v := 1) hx hb dOperators_resultClass_34 (by decide) ?_
      refine lv_icmp_eq (tgt := 49) hx hb dOperators_resultClass_35 (by decide) (fun c64 => ?_) (fun c64 => ?_)
      · exact J49 ls x1 x2 x3 r50 r51 (lv_sub hl [2, 3, 4, 5, 1, 0] rfl)
      · refine lv_iload hx hb dOperators_resultClass_38 (lv_at hl 1 rfl) ?_
        refine lv_if_eq (tgt := 49) hx hb dOperators_resultClass_40 (by decide) (fun c65 => ?_) (fun c65 => ?_)
        · exact J49 ls x1 x2 x3 r50 r51 (lv_sub hl [2, 3, 4, 5, 1, 0] rfl)
        · refine lv_iload hx hb dOperators_resultClass_43 (lv_at hl 1 rfl) ?_
          refine lv_iconst (v := 3) hx hb dOperators_resultClass_45 (by decide) ?_
          refine lv_icmp_ne (tgt := 54) hx hb dOperators_resultClass_46 (by decide) (fun c66 => ?_) (fun c66 => ?_)
          · refine lv_iconst (v := (-1)) hx hb dOperators_resultClass_54 (by decide) ?_
            exact hE _ _ _ trivial dOperators_resultClass_55
          · exact J49 ls x1 x2 x3 r50 r51 (lv_sub hl [2, 3, 4, 5, 1, 0] rfl)

set_option maxHeartbeats 4000000 in
set_option maxRecDepth 100000 in
theorem k_Operators_isClear (l : Launch) (γ : gE) (A : Nat → Prop) (κ : Nat → Nat) (x1 : Int32)  : PU l yOperators_isClear bOperators_isClear 2 (some .boolean) 2 45 [.ref (γ.2.2.2 11), .int x1] γ (INV γ A κ) (vp_Si (fun v : Int32 => True)) := by
  refine pu_openZ (by decide) (Nat.le_of_ble_eq_true rfl) ?_
  intro p e s m args below meth c ls Q S hC hI hE hl
  obtain ⟨hx, hb, hml, hown, hW⟩ := id S
  have hl : lv_has ls 2 [(0, .ref (γ.2.2.2 11)), (1, .int x1)] := hl
  have J34 : ∀ (ls : Array Slot)  (i1 : Int32), lv_has ls 2 [(0, .ref (γ.2.2.2 11)), (1, .int i1)] → W p l e (bs_rm 2 0 0 45) s m args below meth c s.heap [] 0 0 Q (F0 m 34 ls []) := by
    intro ls  i1  hl
    refine lv_iconst (v := 1) hx hb dOperators_isClear_34 (by decide) ?_
    refine lv_goto (tgt := 39) hx hb dOperators_isClear_35 (by decide) ?_
    exact hE _ _ _ rfl trivial dOperators_isClear_39
  refine lv_aload_n hx hb dOperators_isClear_0 rfl (lv_at hl 0 rfl) ?_
  refine of_get S hC (of_11_0 hI) in_Operators rfl (by decide) qw_46160f6e07 dOperators_isClear_1 ?_
  refine lv_iload_n hx hb dOperators_isClear_4 rfl (lv_at hl 1 rfl) ?_
  refine pu_Vi (rest := []) S hC (k9_Looks_classOf l γ A κ x1) meLooks_classOf qw_2e1b0e0eff ⟨Nat.le_of_ble_eq_true rfl, Nat.le_of_ble_eq_true rfl⟩ (rv_9 hC hI) hI rfl hl.1 rfl (Nat.le_of_ble_eq_true rfl) dOperators_isClear_5 ⟨Nat.zero_le _, Nat.zero_le _⟩ (fun r6 hr6 => ?_)
  refine lv_iconst (v := 3) hx hb dOperators_isClear_8 (by decide) ?_
  refine lv_icmp_ne (tgt := 34) hx hb dOperators_isClear_9 (by decide) (fun c7 => ?_) (fun c7 => ?_)
  · exact J34 ls x1 (lv_sub hl [0, 1] rfl)
  · refine lv_aload_n hx hb dOperators_isClear_12 rfl (lv_at hl 0 rfl) ?_
    refine of_get S hC (of_11_0 hI) in_Operators rfl (by decide) qw_46160f6e07 dOperators_isClear_13 ?_
    refine of_getN S hC (of_9_5 hI) in_Looks rfl (by decide) qn_de7362ca2e dOperators_isClear_16 ?_
    refine lv_iload_n hx hb dOperators_isClear_19 rfl (lv_at hl 1 rfl) ?_
    refine lv_aload_n hx hb dOperators_isClear_20 rfl (lv_at hl 0 rfl) ?_
    refine of_get S hC (of_11_0 hI) in_Operators rfl (by decide) qw_46160f6e07 dOperators_isClear_21 ?_
    refine lv_iload_n hx hb dOperators_isClear_24 rfl (lv_at hl 1 rfl) ?_
    refine pu_Vi (rest := [.int x1, .ref (γ.2.2.2 10)]) S hC (k9_Looks_extentOf l γ A κ x1) meLooks_extentOf qw_b0051a6c7a ⟨Nat.le_of_ble_eq_true rfl, Nat.le_of_ble_eq_true rfl⟩ (rv_9 hC hI) hI rfl hl.1 rfl (Nat.le_of_ble_eq_true rfl) dOperators_isClear_25 ⟨Nat.zero_le _, Nat.zero_le _⟩ (fun r8 hr8 => ?_)
    refine pu_Vi (rest := []) S hC (k10_Rows_isClear l γ A κ x1 r8) meRows_isClear qw_0d8e65883a ⟨Nat.le_of_ble_eq_true rfl, Nat.le_of_ble_eq_true rfl⟩ (rv_10 hC hI) hI rfl hl.1 rfl (Nat.le_of_ble_eq_true rfl) dOperators_isClear_28 ⟨Nat.zero_le _, Nat.zero_le _⟩ (fun r9 hr9 => ?_)
    refine lv_if_eq (tgt := 38) hx hb dOperators_isClear_31 (by decide) (fun c10 => ?_) (fun c10 => ?_)
    · refine lv_iconst (v := 0) hx hb dOperators_isClear_38 (by decide) ?_
      exact hE _ _ _ rfl trivial dOperators_isClear_39
    · exact J34 ls x1 (lv_sub hl [0, 1] rfl)

set_option maxHeartbeats 4000000 in
set_option maxRecDepth 100000 in
theorem k_Operators_countsAs (l : Launch) (γ : gE) (A : Nat → Prop) (κ : Nat → Nat) (x1 : Int32)  : PU l yOperators_countsAs bOperators_countsAs 2 (some .long) 2 47 [.ref (γ.2.2.2 11), .int x1] γ (INV γ A κ) (vp_Sl (fun v : Int64 => True)) := by
  refine pu_openJ (by decide) (Nat.le_of_ble_eq_true rfl) ?_
  intro p e s m args below meth c ls Q S hC hI hE hl
  obtain ⟨hx, hb, hml, hown, hW⟩ := id S
  have hl : lv_has ls 2 [(0, .ref (γ.2.2.2 11)), (1, .int x1)] := hl
  refine lv_aload_n hx hb dOperators_countsAs_0 rfl (lv_at hl 0 rfl) ?_
  refine of_get S hC (of_11_0 hI) in_Operators rfl (by decide) qw_46160f6e07 dOperators_countsAs_1 ?_
  refine lv_iload_n hx hb dOperators_countsAs_4 rfl (lv_at hl 1 rfl) ?_
  refine pu_Vi (rest := []) S hC (k9_Looks_classOf l γ A κ x1) meLooks_classOf qw_2e1b0e0eff ⟨Nat.le_of_ble_eq_true rfl, Nat.le_of_ble_eq_true rfl⟩ (rv_9 hC hI) hI rfl hl.1 rfl (Nat.le_of_ble_eq_true rfl) dOperators_countsAs_5 ⟨Nat.zero_le _, Nat.zero_le _⟩ (fun r7 hr7 => ?_)
  refine lv_iconst (v := 3) hx hb dOperators_countsAs_8 (by decide) ?_
  refine lv_icmp_ne (tgt := 34) hx hb dOperators_countsAs_9 (by decide) (fun c8 => ?_) (fun c8 => ?_)
  · refine lv_aload_n hx hb dOperators_countsAs_34 rfl (lv_at hl 0 rfl) ?_
    refine of_get S hC (of_11_0 hI) in_Operators rfl (by decide) qw_46160f6e07 dOperators_countsAs_35 ?_
    refine lv_iload_n hx hb dOperators_countsAs_38 rfl (lv_at hl 1 rfl) ?_
    refine pu_Vi (rest := []) S hC (k9_Looks_numberOf l γ A κ x1) meLooks_numberOf qw_567f1aae5f ⟨Nat.le_of_ble_eq_true rfl, Nat.le_of_ble_eq_true rfl⟩ (rv_9 hC hI) hI rfl hl.1 rfl (Nat.le_of_ble_eq_true rfl) dOperators_countsAs_39 ⟨Nat.zero_le _, Nat.zero_le _⟩ (fun r9 hr9 => ?_)
    refine lv_i2l hx hb dOperators_countsAs_42 rfl ?_
    refine lv_topl (fun v10 ev10 => ?_)
    exact hE _ _ _ trivial dOperators_countsAs_43
  · refine lv_aload_n hx hb dOperators_countsAs_12 rfl (lv_at hl 0 rfl) ?_
    refine of_get S hC (of_11_0 hI) in_Operators rfl (by decide) qw_46160f6e07 dOperators_countsAs_13 ?_
    refine of_getN S hC (of_9_5 hI) in_Looks rfl (by decide) qn_de7362ca2e dOperators_countsAs_16 ?_
    refine lv_iload_n hx hb dOperators_countsAs_19 rfl (lv_at hl 1 rfl) ?_
    refine lv_aload_n hx hb dOperators_countsAs_20 rfl (lv_at hl 0 rfl) ?_
    refine of_get S hC (of_11_0 hI) in_Operators rfl (by decide) qw_46160f6e07 dOperators_countsAs_21 ?_
    refine lv_iload_n hx hb dOperators_countsAs_24 rfl (lv_at hl 1 rfl) ?_
    refine pu_Vi (rest := [.int x1, .ref (γ.2.2.2 10)]) S hC (k9_Looks_extentOf l γ A κ x1) meLooks_extentOf qw_b0051a6c7a ⟨Nat.le_of_ble_eq_true rfl, Nat.le_of_ble_eq_true rfl⟩ (rv_9 hC hI) hI rfl hl.1 rfl (Nat.le_of_ble_eq_true rfl) dOperators_countsAs_25 ⟨Nat.zero_le _, Nat.zero_le _⟩ (fun r11 hr11 => ?_)
    refine pu_Vl (rest := []) S hC (k10_Rows_bitsOf l γ A κ x1 r11) meRows_bitsOf qw_1bb8bfda8f ⟨Nat.le_of_ble_eq_true rfl, Nat.le_of_ble_eq_true rfl⟩ (rv_10 hC hI) hI rfl hl.1 rfl (Nat.le_of_ble_eq_true rfl) dOperators_countsAs_28 ⟨Nat.zero_le _, Nat.zero_le _⟩ (fun r12 hr12 => ?_)
    refine lv_goto (tgt := 43) hx hb dOperators_countsAs_31 (by decide) ?_
    exact hE _ _ _ trivial dOperators_countsAs_43

set_option maxHeartbeats 4000000 in
set_option maxRecDepth 100000 in
theorem k_Operators_elementOf (l : Launch) (γ : gE) (A : Nat → Prop) (κ : Nat → Nat) (x1 : Int32) (x2 : Int32)  : PU l yOperators_elementOf bOperators_elementOf 3 (some .int) 2 42 [.ref (γ.2.2.2 11), .int x1, .int x2] γ (INV γ A κ) (vp_Si (fun v : Int32 => True)) := by
  refine pu_openI (by decide) (Nat.le_of_ble_eq_true rfl) ?_
  intro p e s m args below meth c ls Q S hC hI hE hl
  obtain ⟨hx, hb, hml, hown, hW⟩ := id S
  have hl : lv_has ls 3 [(0, .ref (γ.2.2.2 11)), (1, .int x1), (2, .int x2)] := hl
  refine lv_aload_n hx hb dOperators_elementOf_0 rfl (lv_at hl 0 rfl) ?_
  refine of_get S hC (of_11_0 hI) in_Operators rfl (by decide) qw_46160f6e07 dOperators_elementOf_1 ?_
  refine lv_iload_n hx hb dOperators_elementOf_4 rfl (lv_at hl 1 rfl) ?_
  refine pu_Vi (rest := []) S hC (k9_Looks_classOf l γ A κ x1) meLooks_classOf qw_2e1b0e0eff ⟨Nat.le_of_ble_eq_true rfl, Nat.le_of_ble_eq_true rfl⟩ (rv_9 hC hI) hI rfl hl.1 rfl (Nat.le_of_ble_eq_true rfl) dOperators_elementOf_5 ⟨Nat.zero_le _, Nat.zero_le _⟩ (fun r5 hr5 => ?_)
  refine lv_iconst (v := 3) hx hb dOperators_elementOf_8 (by decide) ?_
  refine lv_icmp_ne (tgt := 27) hx hb dOperators_elementOf_9 (by decide) (fun c6 => ?_) (fun c6 => ?_)
  · refine lv_aload_n hx hb dOperators_elementOf_27 rfl (lv_at hl 0 rfl) ?_
    refine of_get S hC (of_11_0 hI) in_Operators rfl (by decide) qw_46160f6e07 dOperators_elementOf_28 ?_
    refine lv_iload_n hx hb dOperators_elementOf_31 rfl (lv_at hl 1 rfl) ?_
    refine pu_Vi (rest := []) S hC (k9_Looks_numberOf l γ A κ x1) meLooks_numberOf qw_567f1aae5f ⟨Nat.le_of_ble_eq_true rfl, Nat.le_of_ble_eq_true rfl⟩ (rv_9 hC hI) hI rfl hl.1 rfl (Nat.le_of_ble_eq_true rfl) dOperators_elementOf_32 ⟨Nat.zero_le _, Nat.zero_le _⟩ (fun r7 hr7 => ?_)
    exact hE _ _ _ trivial dOperators_elementOf_35
  · refine lv_aload_n hx hb dOperators_elementOf_12 rfl (lv_at hl 0 rfl) ?_
    refine of_get S hC (of_11_0 hI) in_Operators rfl (by decide) qw_46160f6e07 dOperators_elementOf_13 ?_
    refine of_getN S hC (of_9_5 hI) in_Looks rfl (by decide) qn_de7362ca2e dOperators_elementOf_16 ?_
    refine lv_iload_n hx hb dOperators_elementOf_19 rfl (lv_at hl 1 rfl) ?_
    refine lv_iload_n hx hb dOperators_elementOf_20 rfl (lv_at hl 2 rfl) ?_
    refine pu_Vi (rest := []) S hC (k10_Rows_get l γ A κ x1 x2) meRows_get qw_2b8ebea4b9 ⟨Nat.le_of_ble_eq_true rfl, Nat.le_of_ble_eq_true rfl⟩ (rv_10 hC hI) hI rfl hl.1 rfl (Nat.le_of_ble_eq_true rfl) dOperators_elementOf_21 ⟨Nat.zero_le _, Nat.zero_le _⟩ (fun r8 hr8 => ?_)
    refine lv_goto (tgt := 35) hx hb dOperators_elementOf_24 (by decide) ?_
    exact hE _ _ _ trivial dOperators_elementOf_35

set_option maxHeartbeats 4000000 in
set_option maxRecDepth 100000 in
theorem k_Operators_areAlike (l : Launch) (γ : gE) (A : Nat → Prop) (κ : Nat → Nat) (x1 : Int32) (x2 : Int32)  : PU l yOperators_areAlike bOperators_areAlike 4 (some .boolean) 2 42 [.ref (γ.2.2.2 11), .int x1, .int x2] γ (INV γ A κ) (vp_Si (fun v : Int32 => True)) := by
  refine pu_openZ (by decide) (Nat.le_of_ble_eq_true rfl) ?_
  intro p e s m args below meth c ls Q S hC hI hE hl
  obtain ⟨hx, hb, hml, hown, hW⟩ := id S
  have hl : lv_has ls 4 [(0, .ref (γ.2.2.2 11)), (1, .int x1), (2, .int x2)] := hl
  have J39 : ∀ (N39 : Nat) (ls : Array Slot)  (i1 : Int32) (i2 : Int32) (i3 : Int32), (2147483647 - i3.toInt).toNat = N39 → lv_has ls 4 [(0, .ref (γ.2.2.2 11)), (1, .int i1), (2, .int i2), (3, .int i3)] → W p l e (bs_rm 2 0 0 42) s m args below meth c s.heap [] 0 0 Q (F0 m 39 ls []) := by
    intro N39
    induction N39 using Nat.strongRecOn with
    | ind N39 ih39 =>
      intro ls  i1 i2 i3  hm39 hl
      refine lv_iload_n hx hb dOperators_areAlike_39 rfl (lv_at hl 3 rfl) ?_
      refine lv_aload_n hx hb dOperators_areAlike_40 rfl (lv_at hl 0 rfl) ?_
      refine of_get S hC (of_11_0 hI) in_Operators rfl (by decide) qw_46160f6e07 dOperators_areAlike_41 ?_
      refine lv_iload_n hx hb dOperators_areAlike_44 rfl (lv_at hl 1 rfl) ?_
      refine pu_Vi (rest := [.int i3]) S hC (k9_Looks_extentOf l γ A κ i1) meLooks_extentOf qw_b0051a6c7a ⟨Nat.le_of_ble_eq_true rfl, Nat.le_of_ble_eq_true rfl⟩ (rv_9 hC hI) hI rfl hl.1 rfl (Nat.le_of_ble_eq_true rfl) dOperators_areAlike_45 ⟨Nat.zero_le _, Nat.zero_le _⟩ (fun r12 hr12 => ?_)
      refine lv_icmp_ge (tgt := 86) hx hb dOperators_areAlike_48 (by decide) (fun c13 => ?_) (fun c13 => ?_)
      · refine lv_iconst (v := 1) hx hb dOperators_areAlike_86 (by decide) ?_
        exact hE _ _ _ rfl trivial dOperators_areAlike_87
      · refine lv_aload_n hx hb dOperators_areAlike_51 rfl (lv_at hl 0 rfl) ?_
        refine of_get S hC (of_11_0 hI) in_Operators rfl (by decide) qw_46160f6e07 dOperators_areAlike_52 ?_
        refine of_getN S hC (of_9_5 hI) in_Looks rfl (by decide) qn_de7362ca2e dOperators_areAlike_55 ?_
        refine lv_iload_n hx hb dOperators_areAlike_58 rfl (lv_at hl 1 rfl) ?_
        refine lv_iload_n hx hb dOperators_areAlike_59 rfl (lv_at hl 3 rfl) ?_
        refine pu_Vi (rest := []) S hC (k10_Rows_get l γ A κ i1 i3) meRows_get qw_2b8ebea4b9 ⟨Nat.le_of_ble_eq_true rfl, Nat.le_of_ble_eq_true rfl⟩ (rv_10 hC hI) hI rfl hl.1 rfl (Nat.le_of_ble_eq_true rfl) dOperators_areAlike_60 ⟨Nat.zero_le _, Nat.zero_le _⟩ (fun r14 hr14 => ?_)
        refine lv_aload_n hx hb dOperators_areAlike_63 rfl (lv_at hl 0 rfl) ?_
        refine of_get S hC (of_11_0 hI) in_Operators rfl (by decide) qw_46160f6e07 dOperators_areAlike_64 ?_
        refine of_getN S hC (of_9_5 hI) in_Looks rfl (by decide) qn_de7362ca2e dOperators_areAlike_67 ?_
        refine lv_iload_n hx hb dOperators_areAlike_70 rfl (lv_at hl 2 rfl) ?_
        refine lv_iload_n hx hb dOperators_areAlike_71 rfl (lv_at hl 3 rfl) ?_
        refine pu_Vi (rest := [.int r14]) S hC (k10_Rows_get l γ A κ i2 i3) meRows_get qw_2b8ebea4b9 ⟨Nat.le_of_ble_eq_true rfl, Nat.le_of_ble_eq_true rfl⟩ (rv_10 hC hI) hI rfl hl.1 rfl (Nat.le_of_ble_eq_true rfl) dOperators_areAlike_72 ⟨Nat.zero_le _, Nat.zero_le _⟩ (fun r15 hr15 => ?_)
        refine lv_icmp_eq (tgt := 80) hx hb dOperators_areAlike_75 (by decide) (fun c16 => ?_) (fun c16 => ?_)
        · obtain ⟨v17, ev17⟩ : ∃ y : Int32, y = i3 + 1 := ⟨_, rfl⟩
          refine lv_iinc (v := v17) (lv' := [(3, .int v17), (0, .ref (γ.2.2.2 11)), (1, .int i1), (2, .int i2)]) hx hb dOperators_areAlike_80 hl (k := 3) rfl (by rw [ev17]; rfl) (by decide) rfl (fun ls hl => ?_)
          refine lv_goto (tgt := 39) hx hb dOperators_areAlike_83 (by decide) ?_
          exact ih39 _ (by have q1 : i3.toInt < 2147483647 := (by first | exact (mu_up (k := i3) (by assumption)).2 | assumption); have q2 := mu_lt q1; rw [← ev17] at q2; omega) ls i1 i2 v17 rfl (lv_sub hl [1, 2, 3, 0] rfl)
        · refine lv_iconst (v := 0) hx hb dOperators_areAlike_78 (by decide) ?_
          exact hE _ _ _ rfl trivial dOperators_areAlike_79
  refine lv_aload_n hx hb dOperators_areAlike_0 rfl (lv_at hl 0 rfl) ?_
  refine of_get S hC (of_11_0 hI) in_Operators rfl (by decide) qw_46160f6e07 dOperators_areAlike_1 ?_
  refine lv_iload_n hx hb dOperators_areAlike_4 rfl (lv_at hl 1 rfl) ?_
  refine pu_Vi (rest := []) S hC (k9_Looks_classOf l γ A κ x1) meLooks_classOf qw_2e1b0e0eff ⟨Nat.le_of_ble_eq_true rfl, Nat.le_of_ble_eq_true rfl⟩ (rv_9 hC hI) hI rfl hl.1 rfl (Nat.le_of_ble_eq_true rfl) dOperators_areAlike_5 ⟨Nat.zero_le _, Nat.zero_le _⟩ (fun r18 hr18 => ?_)
  refine lv_iconst (v := 3) hx hb dOperators_areAlike_8 (by decide) ?_
  refine lv_icmp_eq (tgt := 37) hx hb dOperators_areAlike_9 (by decide) (fun c19 => ?_) (fun c19 => ?_)
  · refine lv_iconst (v := 0) hx hb dOperators_areAlike_37 (by decide) ?_
    refine lv_istore_n (lv' := [(3, .int 0), (0, .ref (γ.2.2.2 11)), (1, .int x1), (2, .int x2)]) hx hb dOperators_areAlike_38 rfl hl (by decide) rfl (fun ls hl => ?_)
    exact J39 _ ls x1 x2 0 rfl (lv_sub hl [1, 2, 3, 0] rfl)
  · refine lv_aload_n hx hb dOperators_areAlike_12 rfl (lv_at hl 0 rfl) ?_
    refine of_get S hC (of_11_0 hI) in_Operators rfl (by decide) qw_46160f6e07 dOperators_areAlike_13 ?_
    refine lv_iload_n hx hb dOperators_areAlike_16 rfl (lv_at hl 1 rfl) ?_
    refine pu_Vi (rest := []) S hC (k9_Looks_numberOf l γ A κ x1) meLooks_numberOf qw_567f1aae5f ⟨Nat.le_of_ble_eq_true rfl, Nat.le_of_ble_eq_true rfl⟩ (rv_9 hC hI) hI rfl hl.1 rfl (Nat.le_of_ble_eq_true rfl) dOperators_areAlike_17 ⟨Nat.zero_le _, Nat.zero_le _⟩ (fun r20 hr20 => ?_)
    refine lv_aload_n hx hb dOperators_areAlike_20 rfl (lv_at hl 0 rfl) ?_
    refine of_get S hC (of_11_0 hI) in_Operators rfl (by decide) qw_46160f6e07 dOperators_areAlike_21 ?_
    refine lv_iload_n hx hb dOperators_areAlike_24 rfl (lv_at hl 2 rfl) ?_
    refine pu_Vi (rest := [.int r20]) S hC (k9_Looks_numberOf l γ A κ x2) meLooks_numberOf qw_567f1aae5f ⟨Nat.le_of_ble_eq_true rfl, Nat.le_of_ble_eq_true rfl⟩ (rv_9 hC hI) hI rfl hl.1 rfl (Nat.le_of_ble_eq_true rfl) dOperators_areAlike_25 ⟨Nat.zero_le _, Nat.zero_le _⟩ (fun r21 hr21 => ?_)
    refine lv_icmp_ne (tgt := 35) hx hb dOperators_areAlike_28 (by decide) (fun c22 => ?_) (fun c22 => ?_)
    · refine lv_iconst (v := 0) hx hb dOperators_areAlike_35 (by decide) ?_
      exact hE _ _ _ rfl trivial dOperators_areAlike_36
    · refine lv_iconst (v := 1) hx hb dOperators_areAlike_31 (by decide) ?_
      refine lv_goto (tgt := 36) hx hb dOperators_areAlike_32 (by decide) ?_
      exact hE _ _ _ rfl trivial dOperators_areAlike_36

set_option maxHeartbeats 4000000 in
set_option maxRecDepth 100000 in
theorem k_Operators_isOrdered (l : Launch) (γ : gE) (A : Nat → Prop) (κ : Nat → Nat) (x1 : Int32) (x2 : Int32) (x3 : Int32)  : PU l yOperators_isOrdered bOperators_isOrdered 5 (some .boolean) 3 68 [.ref (γ.2.2.2 11), .int x1, .int x2, .int x3] γ (INV γ A κ) (vp_Si (fun v : Int32 => True)) := by
  refine pu_openZ (by decide) (Nat.le_of_ble_eq_true rfl) ?_
  intro p e s m args below meth c ls Q S hC hI hE hl
  obtain ⟨hx, hb, hml, hown, hW⟩ := id S
  have hl : lv_has ls 5 [(0, .ref (γ.2.2.2 11)), (1, .int x1), (2, .int x2), (3, .int x3)] := hl
  have J74 : ∀ (ls : Array Slot)  (i1 : Int32) (i2 : Int32) (i3 : Int32) (i4 : Int32), lv_has ls 5 [(0, .ref (γ.2.2.2 11)), (1, .int i1), (2, .int i2), (3, .int i3), (4, .int i4)] → W p l e (bs_rm 3 0 0 68) s m args below meth c s.heap [] 0 0 Q (F0 m 74 ls []) := by
    intro ls  i1 i2 i3 i4  hl
    refine lv_iload_n hx hb dOperators_isOrdered_74 rfl (lv_at hl 1 rfl) ?_
    by_cases k22 : i1 = 8
    · subst k22
      refine lv_tableIn (tgt := 100) hx hb dOperators_isOrdered_75 (by decide) (by decide) rfl (by decide) ?_
      refine lv_iload hx hb dOperators_isOrdered_100 (lv_at hl 4 rfl) ?_
      refine lv_if_ge (tgt := 109) hx hb dOperators_isOrdered_102 (by decide) (fun c23 => ?_) (fun c23 => ?_)
      · refine lv_iconst (v := 0) hx hb dOperators_isOrdered_109 (by decide) ?_
        exact hE _ _ _ rfl trivial dOperators_isOrdered_110
      · refine lv_iconst (v := 1) hx hb dOperators_isOrdered_105 (by decide) ?_
        refine lv_goto (tgt := 110) hx hb dOperators_isOrdered_106 (by decide) ?_
        exact hE _ _ _ rfl trivial dOperators_isOrdered_110
    by_cases k24 : i1 = 9
    · subst k24
      refine lv_tableIn (tgt := 111) hx hb dOperators_isOrdered_75 (by decide) (by decide) rfl (by decide) ?_
      refine lv_iload hx hb dOperators_isOrdered_111 (lv_at hl 4 rfl) ?_
      refine lv_if_gt (tgt := 120) hx hb dOperators_isOrdered_113 (by decide) (fun c25 => ?_) (fun c25 => ?_)
      · refine lv_iconst (v := 0) hx hb dOperators_isOrdered_120 (by decide) ?_
        exact hE _ _ _ rfl trivial dOperators_isOrdered_121
      · refine lv_iconst (v := 1) hx hb dOperators_isOrdered_116 (by decide) ?_
        refine lv_goto (tgt := 121) hx hb dOperators_isOrdered_117 (by decide) ?_
        exact hE _ _ _ rfl trivial dOperators_isOrdered_121
    by_cases k26 : i1 = 10
    · subst k26
      refine lv_tableIn (tgt := 122) hx hb dOperators_isOrdered_75 (by decide) (by decide) rfl (by decide) ?_
      refine lv_iload hx hb dOperators_isOrdered_122 (lv_at hl 4 rfl) ?_
      refine lv_if_le (tgt := 131) hx hb dOperators_isOrdered_124 (by decide) (fun c27 => ?_) (fun c27 => ?_)
      · refine lv_iconst (v := 0) hx hb dOperators_isOrdered_131 (by decide) ?_
        exact hE _ _ _ rfl trivial dOperators_isOrdered_132
      · refine lv_iconst (v := 1) hx hb dOperators_isOrdered_127 (by decide) ?_
        refine lv_goto (tgt := 132) hx hb dOperators_isOrdered_128 (by decide) ?_
        exact hE _ _ _ rfl trivial dOperators_isOrdered_132
    refine lv_tableOut (tgt := 133) hx hb dOperators_isOrdered_75 (by have qk22 := lv_neT (a := 8) k22 (by decide); have qk24 := lv_neT (a := 9) k24 (by decide); have qk26 := lv_neT (a := 10) k26 (by decide); omega) (by decide) ?_
    refine lv_iload hx hb dOperators_isOrdered_133 (lv_at hl 4 rfl) ?_
    refine lv_if_lt (tgt := 142) hx hb dOperators_isOrdered_135 (by decide) (fun c28 => ?_) (fun c28 => ?_)
    · refine lv_iconst (v := 0) hx hb dOperators_isOrdered_142 (by decide) ?_
      exact hE _ _ _ rfl trivial dOperators_isOrdered_143
    · refine lv_iconst (v := 1) hx hb dOperators_isOrdered_138 (by decide) ?_
      refine lv_goto (tgt := 143) hx hb dOperators_isOrdered_139 (by decide) ?_
      exact hE _ _ _ rfl trivial dOperators_isOrdered_143
  refine lv_aload_n hx hb dOperators_isOrdered_0 rfl (lv_at hl 0 rfl) ?_
  refine of_get S hC (of_11_0 hI) in_Operators rfl (by decide) qw_46160f6e07 dOperators_isOrdered_1 ?_
  refine lv_iload_n hx hb dOperators_isOrdered_4 rfl (lv_at hl 2 rfl) ?_
  refine pu_Vi (rest := []) S hC (k9_Looks_numberOf l γ A κ x2) meLooks_numberOf qw_567f1aae5f ⟨Nat.le_of_ble_eq_true rfl, Nat.le_of_ble_eq_true rfl⟩ (rv_9 hC hI) hI rfl hl.1 rfl (Nat.le_of_ble_eq_true rfl) dOperators_isOrdered_5 ⟨Nat.zero_le _, Nat.zero_le _⟩ (fun r29 hr29 => ?_)
  refine lv_aload_n hx hb dOperators_isOrdered_8 rfl (lv_at hl 0 rfl) ?_
  refine of_get S hC (of_11_0 hI) in_Operators rfl (by decide) qw_46160f6e07 dOperators_isOrdered_9 ?_
  refine lv_iload_n hx hb dOperators_isOrdered_12 rfl (lv_at hl 3 rfl) ?_
  refine pu_Vi (rest := [.int r29]) S hC (k9_Looks_numberOf l γ A κ x3) meLooks_numberOf qw_567f1aae5f ⟨Nat.le_of_ble_eq_true rfl, Nat.le_of_ble_eq_true rfl⟩ (rv_9 hC hI) hI rfl hl.1 rfl (Nat.le_of_ble_eq_true rfl) dOperators_isOrdered_13 ⟨Nat.zero_le _, Nat.zero_le _⟩ (fun r30 hr30 => ?_)
  refine pu_Si (rest := []) S hC (s_jInteger_compare l γ (INV γ A κ) r29 r30) mejInteger_compare qw_a34bb4dff1 ⟨Nat.le_of_ble_eq_true rfl, Nat.le_of_ble_eq_true rfl⟩ hI rfl hl.1 rfl (Nat.le_of_ble_eq_true rfl) dOperators_isOrdered_16 ⟨Nat.zero_le _, Nat.zero_le _⟩ (fun r31 hr31 => ?_)
  refine lv_istore (lv' := [(4, .int r31), (0, .ref (γ.2.2.2 11)), (1, .int x1), (2, .int x2), (3, .int x3)]) hx hb dOperators_isOrdered_19 hl (by decide) rfl (fun ls hl => ?_)
  refine lv_aload_n hx hb dOperators_isOrdered_21 rfl (lv_at hl 1 rfl) ?_
  refine of_get S hC (of_11_0 hI) in_Operators rfl (by decide) qw_46160f6e07 dOperators_isOrdered_22 ?_
  refine lv_iload_n hx hb dOperators_isOrdered_25 rfl (lv_at hl 3 rfl) ?_
  refine pu_Vi (rest := []) S hC (k9_Looks_classOf l γ A κ x2) meLooks_classOf qw_2e1b0e0eff ⟨Nat.le_of_ble_eq_true rfl, Nat.le_of_ble_eq_true rfl⟩ (rv_9 hC hI) hI rfl hl.1 rfl (Nat.le_of_ble_eq_true rfl) dOperators_isOrdered_26 ⟨Nat.zero_le _, Nat.zero_le _⟩ (fun r32 hr32 => ?_)
  refine lv_iconst (v := 3) hx hb dOperators_isOrdered_29 (by decide) ?_
  refine lv_icmp_ne (tgt := 74) hx hb dOperators_isOrdered_30 (by decide) (fun c33 => ?_) (fun c33 => ?_)
  · exact J74 ls x1 x2 x3 r31 (lv_sub hl [1, 2, 3, 4, 0] rfl)
  · refine lv_aload_n hx hb dOperators_isOrdered_33 rfl (lv_at hl 1 rfl) ?_
    refine lv_iload_n hx hb dOperators_isOrdered_34 rfl (lv_at hl 3 rfl) ?_
    refine pu_Vi (rest := []) S hC (k_Operators_isClear l γ A κ x2) meOperators_isClear qw_9422e74c3c ⟨Nat.le_of_ble_eq_true rfl, Nat.le_of_ble_eq_true rfl⟩ (rv_11 hC hI) hI rfl hl.1 rfl (Nat.le_of_ble_eq_true rfl) dOperators_isOrdered_35 ⟨Nat.zero_le _, Nat.zero_le _⟩ (fun r34 hr34 => ?_)
    refine lv_if_eq (tgt := 49) hx hb dOperators_isOrdered_38 (by decide) (fun c35 => ?_) (fun c35 => ?_)
    · refine lv_iconst (v := 0) hx hb dOperators_isOrdered_49 (by decide) ?_
      exact hE _ _ _ rfl trivial dOperators_isOrdered_50
    · refine lv_aload_n hx hb dOperators_isOrdered_41 rfl (lv_at hl 1 rfl) ?_
      refine lv_iload_n hx hb dOperators_isOrdered_42 rfl (lv_at hl 4 rfl) ?_
      refine pu_Vi (rest := []) S hC (k_Operators_isClear l γ A κ x3) meOperators_isClear qw_9422e74c3c ⟨Nat.le_of_ble_eq_true rfl, Nat.le_of_ble_eq_true rfl⟩ (rv_11 hC hI) hI rfl hl.1 rfl (Nat.le_of_ble_eq_true rfl) dOperators_isOrdered_43 ⟨Nat.zero_le _, Nat.zero_le _⟩ (fun r36 hr36 => ?_)
      refine lv_if_ne (tgt := 51) hx hb dOperators_isOrdered_46 (by decide) (fun c37 => ?_) (fun c37 => ?_)
      · refine lv_aload_n hx hb dOperators_isOrdered_51 rfl (lv_at hl 1 rfl) ?_
        refine lv_iload_n hx hb dOperators_isOrdered_52 rfl (lv_at hl 3 rfl) ?_
        refine pu_Vl (rest := []) S hC (k_Operators_countsAs l γ A κ x2) meOperators_countsAs qw_1ec68b5307 ⟨Nat.le_of_ble_eq_true rfl, Nat.le_of_ble_eq_true rfl⟩ (rv_11 hC hI) hI rfl hl.1 rfl (Nat.le_of_ble_eq_true rfl) dOperators_isOrdered_53 ⟨Nat.zero_le _, Nat.zero_le _⟩ (fun r38 hr38 => ?_)
        refine lv_ldc2 (v := (-9223372036854775808)) hx hb hown (hW _ qw_ea81ec05e8) dOperators_isOrdered_56 ?_
        refine lv_lxor hx hb dOperators_isOrdered_59 ?_
        refine lv_topl (fun v39 ev39 => ?_)
        refine lv_aload_n hx hb dOperators_isOrdered_60 rfl (lv_at hl 1 rfl) ?_
        refine lv_iload_n hx hb dOperators_isOrdered_61 rfl (lv_at hl 4 rfl) ?_
        refine pu_Vl (rest := [.long v39]) S hC (k_Operators_countsAs l γ A κ x3) meOperators_countsAs qw_1ec68b5307 ⟨Nat.le_of_ble_eq_true rfl, Nat.le_of_ble_eq_true rfl⟩ (rv_11 hC hI) hI rfl hl.1 rfl (Nat.le_of_ble_eq_true rfl) dOperators_isOrdered_62 ⟨Nat.zero_le _, Nat.zero_le _⟩ (fun r40 hr40 => ?_)
        refine lv_ldc2 (v := (-9223372036854775808)) hx hb hown (hW _ qw_ea81ec05e8) dOperators_isOrdered_65 ?_
        refine lv_lxor hx hb dOperators_isOrdered_68 ?_
        refine lv_topl (fun v41 ev41 => ?_)
        refine pu_Si (rest := []) S hC (s_jLong_compare l γ (INV γ A κ) v39 v41) mejLong_compare qw_e0d1ecf615 ⟨Nat.le_of_ble_eq_true rfl, Nat.le_of_ble_eq_true rfl⟩ hI rfl hl.1 rfl (Nat.le_of_ble_eq_true rfl) dOperators_isOrdered_69 ⟨Nat.zero_le _, Nat.zero_le _⟩ (fun r42 hr42 => ?_)
        refine lv_istore (lv' := [(4, .int r42), (0, .ref (γ.2.2.2 11)), (1, .int x1), (2, .int x2), (3, .int x3)]) hx hb dOperators_isOrdered_72 hl (by decide) rfl (fun ls hl => ?_)
        exact J74 ls x1 x2 x3 r42 (lv_sub hl [1, 2, 3, 4, 0] rfl)
      · refine lv_iconst (v := 0) hx hb dOperators_isOrdered_49 (by decide) ?_
        exact hE _ _ _ rfl trivial dOperators_isOrdered_50

set_option maxHeartbeats 4000000 in
set_option maxRecDepth 100000 in
theorem k_TypeBook_place (l : Launch) (γ : gE) (A : Nat → Prop) (κ : Nat → Nat)   : PU l yTypeBook_place bTypeBook_place 1 (some .int) 0 0 [.ref (γ.2.2.2 0)] γ (INV γ A κ) (vp_Si (fun v : Int32 => True)) := by
  refine pu_openI (by decide) (Nat.le_of_ble_eq_true rfl) ?_
  intro p e s m args below meth c ls Q S hC hI hE hl
  obtain ⟨hx, hb, hml, hown, hW⟩ := id S
  have hl : lv_has ls 1 [(0, .ref (γ.2.2.2 0))] := hl
  refine lv_aload_n hx hb dTypeBook_place_0 rfl (lv_at hl 0 rfl) ?_
  obtain ⟨v2, hOv2⟩ := of_0_6 hI
  refine of_get S hC hOv2 in_TypeBook rfl (by decide) qw_464f80981e dTypeBook_place_1 ?_
  exact hE _ _ _ trivial dTypeBook_place_4

set_option maxHeartbeats 4000000 in
set_option maxRecDepth 100000 in
theorem k_TypeBook_isNameOfOneBefore (l : Launch) (γ : gE) (A : Nat → Prop) (κ : Nat → Nat) (x1 : Int32) (x2 : Int32)  : PU l yTypeBook_isNameOfOneBefore bTypeBook_isNameOfOneBefore 4 (some .boolean) 2 42 [.ref (γ.2.2.2 0), .int x1, .int x2] γ (INV γ A κ) (vp_Si (fun v : Int32 => True)) := by
  refine pu_openZ (by decide) (Nat.le_of_ble_eq_true rfl) ?_
  intro p e s m args below meth c ls Q S hC hI hE hl
  obtain ⟨hx, hb, hml, hown, hW⟩ := id S
  have hl : lv_has ls 4 [(0, .ref (γ.2.2.2 0)), (1, .int x1), (2, .int x2)] := hl
  have J2 : ∀ (N2 : Nat) (ls : Array Slot)  (i1 : Int32) (i2 : Int32) (i3 : Int32), (2147483647 - i3.toInt).toNat = N2 → lv_has ls 4 [(0, .ref (γ.2.2.2 0)), (1, .int i1), (2, .int i2), (3, .int i3)] → W p l e (bs_rm 2 0 0 42) s m args below meth c s.heap [] 0 0 Q (F0 m 2 ls []) := by
    intro N2
    induction N2 using Nat.strongRecOn with
    | ind N2 ih2 =>
      intro ls  i1 i2 i3  hm2 hl
      refine lv_iload_n hx hb dTypeBook_isNameOfOneBefore_2 rfl (lv_at hl 3 rfl) ?_
      refine lv_iload_n hx hb dTypeBook_isNameOfOneBefore_3 rfl (lv_at hl 2 rfl) ?_
      refine lv_icmp_ge (tgt := 34) hx hb dTypeBook_isNameOfOneBefore_4 (by decide) (fun c6 => ?_) (fun c6 => ?_)
      · refine lv_iconst (v := 0) hx hb dTypeBook_isNameOfOneBefore_34 (by decide) ?_
        exact hE _ _ _ rfl trivial dTypeBook_isNameOfOneBefore_35
      · refine lv_aload_n hx hb dTypeBook_isNameOfOneBefore_7 rfl (lv_at hl 0 rfl) ?_
        refine of_get S hC (of_0_0 hI) in_TypeBook rfl (by decide) qw_6151ee7924 dTypeBook_isNameOfOneBefore_8 ?_
        refine lv_iload_n hx hb dTypeBook_isNameOfOneBefore_11 rfl (lv_at hl 3 rfl) ?_
        refine pu_Vi (rest := []) S hC (k1_Trees_valueOf l γ A κ i3) meTrees_valueOf qw_1062a20d6a ⟨Nat.le_of_ble_eq_true rfl, Nat.le_of_ble_eq_true rfl⟩ (rv_1 hC hI) hI rfl hl.1 rfl (Nat.le_of_ble_eq_true rfl) dTypeBook_isNameOfOneBefore_12 ⟨Nat.zero_le _, Nat.zero_le _⟩ (fun r7 hr7 => ?_)
        refine lv_aload_n hx hb dTypeBook_isNameOfOneBefore_15 rfl (lv_at hl 0 rfl) ?_
        refine of_get S hC (of_0_0 hI) in_TypeBook rfl (by decide) qw_6151ee7924 dTypeBook_isNameOfOneBefore_16 ?_
        refine lv_iload_n hx hb dTypeBook_isNameOfOneBefore_19 rfl (lv_at hl 2 rfl) ?_
        refine pu_Vi (rest := [.int r7]) S hC (k1_Trees_valueOf l γ A κ i2) meTrees_valueOf qw_1062a20d6a ⟨Nat.le_of_ble_eq_true rfl, Nat.le_of_ble_eq_true rfl⟩ (rv_1 hC hI) hI rfl hl.1 rfl (Nat.le_of_ble_eq_true rfl) dTypeBook_isNameOfOneBefore_20 ⟨Nat.zero_le _, Nat.zero_le _⟩ (fun r8 hr8 => ?_)
        refine lv_icmp_ne (tgt := 28) hx hb dTypeBook_isNameOfOneBefore_23 (by decide) (fun c9 => ?_) (fun c9 => ?_)
        · obtain ⟨v10, ev10⟩ : ∃ y : Int32, y = i3 + 1 := ⟨_, rfl⟩
          refine lv_iinc (v := v10) (lv' := [(3, .int v10), (0, .ref (γ.2.2.2 0)), (1, .int i1), (2, .int i2)]) hx hb dTypeBook_isNameOfOneBefore_28 hl (k := 3) rfl (by rw [ev10]; rfl) (by decide) rfl (fun ls hl => ?_)
          refine lv_goto (tgt := 2) hx hb dTypeBook_isNameOfOneBefore_31 (by decide) ?_
          exact ih2 _ (by have q1 : i3.toInt < 2147483647 := (by first | exact (mu_up (k := i3) (by assumption)).2 | assumption); have q2 := mu_lt q1; rw [← ev10] at q2; omega) ls i1 i2 v10 rfl (lv_sub hl [1, 2, 3, 0] rfl)
        · refine lv_iconst (v := 1) hx hb dTypeBook_isNameOfOneBefore_26 (by decide) ?_
          exact hE _ _ _ rfl trivial dTypeBook_isNameOfOneBefore_27
  refine lv_iload_n hx hb dTypeBook_isNameOfOneBefore_0 rfl (lv_at hl 1 rfl) ?_
  refine lv_istore_n (lv' := [(3, .int x1), (0, .ref (γ.2.2.2 0)), (1, .int x1), (2, .int x2)]) hx hb dTypeBook_isNameOfOneBefore_1 rfl hl (by decide) rfl (fun ls hl => ?_)
  exact J2 _ ls x1 x2 x1 rfl (lv_sub hl [1, 2, 3, 0] rfl)
