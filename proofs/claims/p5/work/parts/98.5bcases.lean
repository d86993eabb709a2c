theorem qw_70d2ddefbe : (Cond.methodLink R_Law 57 yLaw_add) ∈ bs_W0 := bs_in (in_tables_1_2 (List.mem_of_getElem? (i := 86) rfl)) rfl
theorem qw_b5f338fe66 : (Cond.methodLink R_Law 62 yModel_add) ∈ bs_W0 := bs_in (in_tables_1_6 (List.mem_of_getElem? (i := 24) rfl)) rfl
theorem qw_b20f6a16b6 : (Cond.methodLink R_Law 63 yTypeBook_clear) ∈ bs_W0 := bs_in (in_tables_1_2 (List.mem_of_getElem? (i := 74) rfl)) rfl
theorem qw_722a39bd15 : (Cond.methodLink R_Law 66 yModel_clear) ∈ bs_W0 := bs_in (in_tables_1_6 (List.mem_of_getElem? (i := 31) rfl)) rfl
theorem qw_024e23bb92 : (Cond.methodLink R_Law 67 yLaw_enter) ∈ bs_W0 := bs_in (in_tables_1_2 (List.mem_of_getElem? (i := 230) rfl)) rfl
theorem qw_3972cb422a : (Cond.methodLink R_Law 70 yModel_enter) ∈ bs_W0 := bs_in (in_tables_1_6 (List.mem_of_getElem? (i := 35) rfl)) rfl
theorem qw_0870710788 : (Cond.methodLink R_Law 71 yLaw_leave) ∈ bs_W0 := bs_in (in_tables_1_3 (List.mem_of_getElem? (i := 2) rfl)) rfl
theorem qw_46afa56bf9 : (Cond.methodLink R_Law 73 yModel_leave) ∈ bs_W0 := bs_in (in_tables_1_6 (List.mem_of_getElem? (i := 39) rfl)) rfl
theorem qw_89f9b64530 : (Cond.methodLink R_Law 74 yModel_thrown) ∈ bs_W0 := bs_in (in_tables_1_6 (List.mem_of_getElem? (i := 20) rfl)) rfl
theorem qw_20fb0eeb29 : (Cond.methodLink R_Law 77 yLaw_type) ∈ bs_W0 := bs_in (in_tables_1_3 (List.mem_of_getElem? (i := 14) rfl)) rfl
theorem qw_48653616c3 : (Cond.methodLink R_Law 80 yModel_type) ∈ bs_W0 := bs_in (in_tables_1_6 (List.mem_of_getElem? (i := 43) rfl)) rfl
theorem qw_a195f3ee01 : (Cond.methodLink R_Law 81 yLaw_enumeration) ∈ bs_W0 := bs_in (in_tables_1_5 (List.mem_of_getElem? (i := 10) rfl)) rfl
theorem qw_3a5364f9c7 : (Cond.methodLink R_Law 83 yModel_enumeration) ∈ bs_W0 := bs_in (in_tables_1_6 (List.mem_of_getElem? (i := 211) rfl)) rfl
theorem qw_4dfd4accc0 : (Cond.methodLink R_Law 84 yLaw_subtype) ∈ bs_W0 := bs_in (in_tables_1_5 (List.mem_of_getElem? (i := 44) rfl)) rfl
theorem qw_90f4f7925f : (Cond.methodLink R_Law 87 yModel_subtype) ∈ bs_W0 := bs_in (in_tables_1_6 (List.mem_of_getElem? (i := 223) rfl)) rfl
theorem qw_365c8f3f46 : (Cond.methodLink R_Law 88 yLaw_declare) ∈ bs_W0 := bs_in (in_tables_1_5 (List.mem_of_getElem? (i := 54) rfl)) rfl
theorem qw_f3764a54cb : (Cond.methodLink R_Law 91 yModel_declare) ∈ bs_W0 := bs_in (in_tables_1_6 (List.mem_of_getElem? (i := 231) rfl)) rfl
theorem qw_08d75bfac9 : (Cond.methodLink R_Law 92 yLaw_check) ∈ bs_W0 := bs_in (in_tables_1_5 (List.mem_of_getElem? (i := 96) rfl)) rfl
theorem qw_4fd6ec1137 : (Cond.methodLink R_Law 94 yModel_check) ∈ bs_W0 := bs_in (in_tables_1_6 (List.mem_of_getElem? (i := 239) rfl)) rfl
theorem qw_0809015189 : (Cond.methodLink R_Law 95 yTypeBook_place) ∈ bs_W0 := bs_in (in_tables_1_2 (List.mem_of_getElem? (i := 82) rfl)) rfl
theorem qw_994b943185 : (Cond.methodLink R_Law 98 yModel_place) ∈ bs_W0 := bs_in (in_tables_1_7 (List.mem_of_getElem? (i := 3) rfl)) rfl
theorem qw_21fe75c539 : (Cond.methodLink R_Law 99 yLaw_typeOf) ∈ bs_W0 := bs_in (in_tables_1_5 (List.mem_of_getElem? (i := 104) rfl)) rfl
theorem qw_43f92305fb : (Cond.methodLink R_Law 101 yModel_typeOf) ∈ bs_W0 := bs_in (in_tables_1_7 (List.mem_of_getElem? (i := 7) rfl)) rfl
theorem qw_6e398d7092 : (Cond.methodLink R_Law 102 yLaw_about) ∈ bs_W0 := bs_in (in_tables_1_5 (List.mem_of_getElem? (i := 117) rfl)) rfl
theorem qw_c27b3b6113 : (Cond.methodLink R_Law 104 yModel_about) ∈ bs_W0 := bs_in (in_tables_1_7 (List.mem_of_getElem? (i := 11) rfl)) rfl
theorem qw_d0b1c4e36c : (Cond.methodLink R_Law 105 yLaw_value) ∈ bs_W0 := bs_in (in_tables_1_5 (List.mem_of_getElem? (i := 129) rfl)) rfl
theorem qw_6253d5c13d : (Cond.methodLink R_Law 107 yModel_value) ∈ bs_W0 := bs_in (in_tables_1_7 (List.mem_of_getElem? (i := 15) rfl)) rfl
set_option maxHeartbeats 4000000 in
set_option maxRecDepth 100000 in
theorem lc_0 {p : Program} {l : Launch} {e : Env} {s : State} {m : MethodId} {below : List Frame} {meth : Method} {c : Code} {b L : Nat} {xs : Nat → Int32} {γ : gE} {A : Nat → Prop} {m0 : Nat} {q : Nat} {x4 : Int32} {Q : State → Prop} (K : LC l p s m c b L xs γ A m0) (hq : q + 5 ≤ L) (ex4 : x4 = nI q) (J : ∀ (H : Heap) (locs : List Loc) (κ κm : Nat → Nat) (cd : Int32) (g : Nat → Int64) (ls : Array Slot), LI s γ A m0 κ κm cd g H locs → κ 3 = κm 5 → lv_has ls 7 [(0, .ref b), (1, .ref (γ.2.2.2 0)), (2, .ref m0), (3, .ref (m0 + 25)), (4, .int x4)] → W p l e room_1 s m #[Value.ref b] below meth c H locs (CC κ (q + 5)) (SS κ (q + 5)) Q (F0 m 562 ls [])) {H : Heap} {locs : List Loc} {κ κm : Nat → Nat} {cd : Int32} {g : Nat → Int64} {ls : Array Slot} (I : LI s γ A m0 κ κm cd g H locs) (h3 : κ 3 = κm 5) (hl : lv_has ls 7 [(0, .ref b), (1, .ref (γ.2.2.2 0)), (2, .ref m0), (3, .ref (m0 + 25)), (4, .int x4)]) : W p l e room_1 s m #[Value.ref b] below meth c H locs (CC κ q) (SS κ q) Q (F0 m 104 ls []) := by
  obtain ⟨hx, hb, hml, hown, hW⟩ := id K.S
  have hbA : ¬ (fun q : Nat => s.heap.size ≤ q) b := Nat.not_le.mpr K.hbl
  refine lv_aload_n hx hb dLaw_law_104 rfl (lv_at hl 1 rfl) ?_
  refine lv_aload_n hx hb dLaw_law_105 rfl (lv_at hl 0 rfl) ?_
  refine lv_iload hx hb dLaw_law_106 (lv_at hl 4 rfl) ?_
  refine lv_iconst (v := 1) hx hb dLaw_law_108 (by decide) ?_
  refine lv_iadd hx hb dLaw_law_109 ?_
  refine va_sld hx hb K.hX K.hbl hbA I.hS (lw_in K.hL hq ex4 1 (by decide) rfl) dLaw_law_110 ?_
  refine lv_aload_n hx hb dLaw_law_111 rfl (lv_at hl 0 rfl) ?_
  refine lv_iload hx hb dLaw_law_112 (lv_at hl 4 rfl) ?_
  refine lv_iconst (v := 2) hx hb dLaw_law_114 (by decide) ?_
  refine lv_iadd hx hb dLaw_law_115 ?_
  refine va_sld hx hb K.hX K.hbl hbA I.hS (lw_in K.hL hq ex4 2 (by decide) rfl) dLaw_law_116 ?_
  refine lv_aload_n hx hb dLaw_law_117 rfl (lv_at hl 0 rfl) ?_
  refine lv_iload hx hb dLaw_law_118 (lv_at hl 4 rfl) ?_
  refine lv_iconst (v := 3) hx hb dLaw_law_120 (by decide) ?_
  refine lv_iadd hx hb dLaw_law_121 ?_
  refine va_sld hx hb K.hX K.hbl hbA I.hS (lw_in K.hL hq ex4 3 (by decide) rfl) dLaw_law_122 ?_
  refine lv_aload_n hx hb dLaw_law_123 rfl (lv_at hl 3 rfl) ?_
  refine lc_wrap (RES := fun r κ1 g1 => κ1 3 = κ 3) K I (by have := K.hL; omega) (w_add l K.hst γ A κ s K.hw0 K.hnc K.hA0 H (m0 + 25) K.hAo g (xs (x4 + 1).toNatClampNeg) (xs (x4 + 2).toNatClampNeg) (xs (x4 + 3).toNatClampNeg)) meLaw_add qw_70d2ddefbe ⟨Nat.le_of_ble_eq_true rfl, Nat.le_of_ble_eq_true rfl⟩ rfl hl.1 rfl dLaw_law_124 (fun r H1 h => by obtain ⟨⟨g1, h1⟩, h2⟩ := h; exact ⟨g1, h1, h2⟩) (fun r H1 locs1 κ1 g1 hr I1 => ?_)
  refine lv_istore (lv' := [(5, .int r), (0, .ref b), (1, .ref (γ.2.2.2 0)), (2, .ref m0), (3, .ref (m0 + 25)), (4, .int x4)]) hx hb dLaw_law_127 hl (by decide) rfl (fun ls hl => ?_)
  refine lv_aload_n hx hb dLaw_law_129 rfl (lv_at hl 3 rfl) ?_
  refine lv_aload_n hx hb dLaw_law_130 rfl (lv_at hl 1 rfl) ?_
  refine lv_iload hx hb dLaw_law_131 (lv_at hl 5 rfl) ?_
  refine lv_iconst (v := 1) hx hb dLaw_law_133 (by decide) ?_
  refine lv_iadd hx hb dLaw_law_134 ?_
  refine va_sld hx hb K.hX K.hbl hbA I1.hS (lw_in K.hL hq ex4 1 (by decide) rfl) dLaw_law_135 ?_
  refine lv_aload_n hx hb dLaw_law_136 rfl (lv_at hl 1 rfl) ?_
  refine lv_iload hx hb dLaw_law_137 (lv_at hl 5 rfl) ?_
  refine lv_iconst (v := 2) hx hb dLaw_law_139 (by decide) ?_
  refine lv_iadd hx hb dLaw_law_140 ?_
  refine va_sld hx hb K.hX K.hbl hbA I1.hS (lw_in K.hL hq ex4 2 (by decide) rfl) dLaw_law_141 ?_
  refine lv_aload_n hx hb dLaw_law_142 rfl (lv_at hl 1 rfl) ?_
  refine lv_iload hx hb dLaw_law_143 (lv_at hl 5 rfl) ?_
  refine lv_iconst (v := 3) hx hb dLaw_law_145 (by decide) ?_
  refine lv_iadd hx hb dLaw_law_146 ?_
  refine va_sld hx hb K.hX K.hbl hbA I1.hS (lw_in K.hL hq ex4 3 (by decide) rfl) dLaw_law_147 ?_
  refine lc_model (As := [.int (xs (x4 + 1).toNatClampNeg), .int (xs (x4 + 2).toNatClampNeg), .int (xs (x4 + 3).toNatClampNeg)]) (RES := fun r κ2 cd2 => κ2 5 = κm 5) K I1 (fun b0 mn ν τ σ F nu hT hZ hF hG _ => m_add l γ m0 (B0 m0) _ κm b0 mn ν τ σ F nu hT (xs (x4 + 1).toNatClampNeg) (xs (x4 + 2).toNatClampNeg) (xs (x4 + 3).toNatClampNeg) hZ hF hG) meModel_add rfl qw_b5f338fe66 ⟨Nat.le_of_ble_eq_true rfl, Nat.le_of_ble_eq_true rfl⟩ rfl hl.1 rfl dLaw_law_148 (cc_room1 (ph_le I1.hI) (by have := K.hL; omega)) (fun r H1 h => by obtain ⟨κ2, cd2, h1, h2⟩ := h; exact ⟨κ2, cd2, h2, h1⟩) (fun r2 H2 locs2 κ2 cd2 hr2 I2 => ?_)
  refine lv_istore (lv' := [(6, .int r2), (5, .int r), (0, .ref b), (1, .ref (γ.2.2.2 0)), (2, .ref m0), (3, .ref (m0 + 25)), (4, .int x4)]) hx hb dLaw_law_151 hl (by decide) rfl (fun ls hl => ?_)
  refine lv_goto (tgt := 562) hx hb dLaw_law_153 (by decide) ?_
  refine W.up cc_5.1 cc_5.2 ?_
  exact J _ _ κ1 _ _ _ _ I2 (by omega) (lv_sub hl [2, 3, 4, 5, 6] rfl)
set_option maxHeartbeats 4000000 in
set_option maxRecDepth 100000 in
theorem lc_1 {p : Program} {l : Launch} {e : Env} {s : State} {m : MethodId} {below : List Frame} {meth : Method} {c : Code} {b L : Nat} {xs : Nat → Int32} {γ : gE} {A : Nat → Prop} {m0 : Nat} {q : Nat} {x4 : Int32} {Q : State → Prop} (K : LC l p s m c b L xs γ A m0) (hq : q + 5 ≤ L) (ex4 : x4 = nI q) (J : ∀ (H : Heap) (locs : List Loc) (κ κm : Nat → Nat) (cd : Int32) (g : Nat → Int64) (ls : Array Slot), LI s γ A m0 κ κm cd g H locs → κ 3 = κm 5 → lv_has ls 7 [(0, .ref b), (1, .ref (γ.2.2.2 0)), (2, .ref m0), (3, .ref (m0 + 25)), (4, .int x4)] → W p l e room_1 s m #[Value.ref b] below meth c H locs (CC κ (q + 5)) (SS κ (q + 5)) Q (F0 m 562 ls [])) {H : Heap} {locs : List Loc} {κ κm : Nat → Nat} {cd : Int32} {g : Nat → Int64} {ls : Array Slot} (I : LI s γ A m0 κ κm cd g H locs) (h3 : κ 3 = κm 5) (hl : lv_has ls 7 [(0, .ref b), (1, .ref (γ.2.2.2 0)), (2, .ref m0), (3, .ref (m0 + 25)), (4, .int x4)]) : W p l e room_1 s m #[Value.ref b] below meth c H locs (CC κ q) (SS κ q) Q (F0 m 156 ls []) := by
  obtain ⟨hx, hb, hml, hown, hW⟩ := id K.S
  have hbA : ¬ (fun q : Nat => s.heap.size ≤ q) b := Nat.not_le.mpr K.hbl
  refine lv_aload_n hx hb dLaw_law_156 rfl (lv_at hl 1 rfl) ?_
  refine lc_clear K I hl.1 qw_b20f6a16b6 dLaw_law_157 (by have h9 := cc_room (q := q) (ph_le I.hI) (by have := K.hL; omega); exact ⟨Nat.le_trans (Nat.le_add_right _ _) h9.1, Nat.le_trans (Nat.le_add_right _ _) h9.2⟩) (fun r H1 locs1 I1 => ?_)
  refine lv_pop hx hb dLaw_law_160 rfl ?_
  refine lv_aload_n hx hb dLaw_law_161 rfl (lv_at hl 2 rfl) ?_
  refine lc_model (As := []) (RES := fun r κ2 cd2 => κ2 5 = κm 5) K I1 (fun b0 mn ν τ σ F nu hT hZ hF hG _ => m_clear l γ m0 (B0 m0) _ κm b0 mn ν τ σ F nu hT  hZ hF hG) meModel_clear rfl qw_722a39bd15 ⟨Nat.le_of_ble_eq_true rfl, Nat.le_of_ble_eq_true rfl⟩ rfl hl.1 rfl dLaw_law_162 (by have h9 := cc_room (q := q) (ph_le I1.hI) (by have := K.hL; omega); exact ⟨Nat.le_trans (Nat.le_add_right _ _) h9.1, Nat.le_trans (Nat.le_add_right _ _) h9.2⟩) (fun r H1 h => by obtain ⟨κ2, cd2, h1, h2⟩ := h; exact ⟨κ2, cd2, h2, h1⟩) (fun r2 H2 locs2 κ2 cd2 hr2 I2 => ?_)
  refine lv_pop hx hb dLaw_law_165 rfl ?_
  refine lv_goto (tgt := 562) hx hb dLaw_law_166 (by decide) ?_
  refine W.up (Nat.le_trans (Nat.le_succ _) cc_5.1) (Nat.le_trans (Nat.le_add_right _ 6) cc_5.2) ?_
  exact J _ _ (ku (ku κ 0 0) 1 0) _ _ _ _ I2 (by rw [hr2]; exact h3) (lv_sub hl [0, 1, 2, 3, 4] rfl)
set_option maxHeartbeats 4000000 in
set_option maxRecDepth 100000 in
theorem lc_2 {p : Program} {l : Launch} {e : Env} {s : State} {m : MethodId} {below : List Frame} {meth : Method} {c : Code} {b L : Nat} {xs : Nat → Int32} {γ : gE} {A : Nat → Prop} {m0 : Nat} {q : Nat} {x4 : Int32} {Q : State → Prop} (K : LC l p s m c b L xs γ A m0) (hq : q + 5 ≤ L) (ex4 : x4 = nI q) (J : ∀ (H : Heap) (locs : List Loc) (κ κm : Nat → Nat) (cd : Int32) (g : Nat → Int64) (ls : Array Slot), LI s γ A m0 κ κm cd g H locs → κ 3 = κm 5 → lv_has ls 7 [(0, .ref b), (1, .ref (γ.2.2.2 0)), (2, .ref m0), (3, .ref (m0 + 25)), (4, .int x4)] → W p l e room_1 s m #[Value.ref b] below meth c H locs (CC κ (q + 5)) (SS κ (q + 5)) Q (F0 m 562 ls [])) {H : Heap} {locs : List Loc} {κ κm : Nat → Nat} {cd : Int32} {g : Nat → Int64} {ls : Array Slot} (I : LI s γ A m0 κ κm cd g H locs) (h3 : κ 3 = κm 5) (hl : lv_has ls 7 [(0, .ref b), (1, .ref (γ.2.2.2 0)), (2, .ref m0), (3, .ref (m0 + 25)), (4, .int x4)]) : W p l e room_1 s m #[Value.ref b] below meth c H locs (CC κ q) (SS κ q) Q (F0 m 169 ls []) := by
  obtain ⟨hx, hb, hml, hown, hW⟩ := id K.S
  have hbA : ¬ (fun q : Nat => s.heap.size ≤ q) b := Nat.not_le.mpr K.hbl
  refine lv_aload_n hx hb dLaw_law_169 rfl (lv_at hl 1 rfl) ?_
  refine lv_aload_n hx hb dLaw_law_170 rfl (lv_at hl 3 rfl) ?_
  refine lc_wrap (RES := fun r κ1 g1 => (r = 0 ∧ κ 3 < 32 ∧ g1 0 = (nI (κ 3 + 1)).toInt64 ∧ κ1 3 = κ 3 + 1) ∨ (r = 1 ∧ κ 3 = 32 ∧ κ1 3 = κ 3)) K I (by have := K.hL; omega) (w_enter l K.hst γ A κ s K.hw0 K.hnc K.hA0 H (m0 + 25) K.hAo g ) meLaw_enter qw_024e23bb92 ⟨Nat.le_of_ble_eq_true rfl, Nat.le_of_ble_eq_true rfl⟩ rfl hl.1 rfl dLaw_law_171 (fun r H1 h => h.elim (fun ⟨h1, h2, ⟨g1, h3, h4⟩, h5⟩ => ⟨g1, h3, h5.mono (fun k h => Or.inl ⟨h1, h2, h4, h⟩)⟩) (fun ⟨h1, h2, ⟨g1, h3⟩, h5⟩ => ⟨g1, h3, h5.mono (fun k h => Or.inr ⟨h1, h2, h⟩)⟩)) (fun r H1 locs1 κ1 g1 hr I1 => ?_)
  refine lv_istore (lv' := [(5, .int r), (0, .ref b), (1, .ref (γ.2.2.2 0)), (2, .ref m0), (3, .ref (m0 + 25)), (4, .int x4)]) hx hb dLaw_law_174 hl (by decide) rfl (fun ls hl => ?_)
  refine lv_aload_n hx hb dLaw_law_176 rfl (lv_at hl 3 rfl) ?_
  refine lc_model (As := []) (RES := fun r κ2 cd2 => (κm 5 = 32 ∧ κ2 5 = κm 5 ∧ cd2 = 1) ∨ (κm 5 < 32 ∧ r = nI (κm 5 + 1) ∧ κ2 5 = κm 5 + 1 ∧ cd2 = 0)) K I1 (fun b0 mn ν τ σ F nu hT hZ hF hG _ => m_enter l γ m0 (B0 m0) _ κm b0 mn ν τ σ F nu hT  hZ hF hG) meModel_enter rfl qw_3972cb422a ⟨Nat.le_of_ble_eq_true rfl, Nat.le_of_ble_eq_true rfl⟩ rfl hl.1 rfl dLaw_law_177 (cc_room1 (ph_le I1.hI) (by have := K.hL; omega)) (fun r H1 h => h.elim (fun ⟨h1, h2⟩ => ⟨_, _, h2, Or.inl ⟨h1, rfl, rfl⟩⟩) (fun ⟨h1, h2, h3⟩ => ⟨_, _, h3, Or.inr ⟨h1, h2, rfl, rfl⟩⟩)) (fun r2 H2 locs2 κ2 cd2 hr2 I2 => ?_)
  refine lv_istore (lv' := [(6, .int r2), (5, .int r), (0, .ref b), (1, .ref (γ.2.2.2 0)), (2, .ref m0), (3, .ref (m0 + 25)), (4, .int x4)]) hx hb dLaw_law_180 hl (by decide) rfl (fun ls hl => ?_)
  refine lv_goto (tgt := 562) hx hb dLaw_law_182 (by decide) ?_
  refine W.up cc_5.1 cc_5.2 ?_
  exact J _ _ κ1 _ _ _ _ I2 (by rcases hr with hr | hr <;> rcases hr2 with hr2 | hr2 <;> omega) (lv_sub hl [2, 3, 4, 5, 6] rfl)
set_option maxHeartbeats 4000000 in
set_option maxRecDepth 100000 in
theorem lc_3 {p : Program} {l : Launch} {e : Env} {s : State} {m : MethodId} {below : List Frame} {meth : Method} {c : Code} {b L : Nat} {xs : Nat → Int32} {γ : gE} {A : Nat → Prop} {m0 : Nat} {q : Nat} {x4 : Int32} {Q : State → Prop} (K : LC l p s m c b L xs γ A m0) (hq : q + 5 ≤ L) (ex4 : x4 = nI q) (J : ∀ (H : Heap) (locs : List Loc) (κ κm : Nat → Nat) (cd : Int32) (g : Nat → Int64) (ls : Array Slot), LI s γ A m0 κ κm cd g H locs → κ 3 = κm 5 → lv_has ls 7 [(0, .ref b), (1, .ref (γ.2.2.2 0)), (2, .ref m0), (3, .ref (m0 + 25)), (4, .int x4)] → W p l e room_1 s m #[Value.ref b] below meth c H locs (CC κ (q + 5)) (SS κ (q + 5)) Q (F0 m 562 ls [])) {H : Heap} {locs : List Loc} {κ κm : Nat → Nat} {cd : Int32} {g : Nat → Int64} {ls : Array Slot} (I : LI s γ A m0 κ κm cd g H locs) (h3 : κ 3 = κm 5) (hl : lv_has ls 7 [(0, .ref b), (1, .ref (γ.2.2.2 0)), (2, .ref m0), (3, .ref (m0 + 25)), (4, .int x4)]) : W p l e room_1 s m #[Value.ref b] below meth c H locs (CC κ q) (SS κ q) Q (F0 m 185 ls []) := by
  obtain ⟨hx, hb, hml, hown, hW⟩ := id K.S
  have hbA : ¬ (fun q : Nat => s.heap.size ≤ q) b := Nat.not_le.mpr K.hbl
  refine lv_aload_n hx hb dLaw_law_185 rfl (lv_at hl 1 rfl) ?_
  refine lv_aload_n hx hb dLaw_law_186 rfl (lv_at hl 3 rfl) ?_
  refine lc_wrap (RES := fun r κ1 g1 => (r = 0 ∧ 1 < κ 3 ∧ g1 0 = (nI (κ 3 - 1)).toInt64 ∧ κ1 3 = κ 3 - 1) ∨ (r = 1 ∧ κ 3 = 1 ∧ κ1 3 = κ 3)) K I (by have := K.hL; omega) (w_leave l K.hst γ A κ s K.hw0 K.hnc K.hA0 H (m0 + 25) K.hAo g ) meLaw_leave qw_0870710788 ⟨Nat.le_of_ble_eq_true rfl, Nat.le_of_ble_eq_true rfl⟩ rfl hl.1 rfl dLaw_law_187 (fun r H1 h => h.elim (fun ⟨h1, h2, ⟨g1, h3, h4⟩, h5⟩ => ⟨g1, h3, h5.mono (fun k h => Or.inl ⟨h1, h2, h4, h⟩)⟩) (fun ⟨h1, h2, ⟨g1, h3⟩, h5⟩ => ⟨g1, h3, h5.mono (fun k h => Or.inr ⟨h1, h2, h⟩)⟩)) (fun r H1 locs1 κ1 g1 hr I1 => ?_)
  refine lv_istore (lv' := [(5, .int r), (0, .ref b), (1, .ref (γ.2.2.2 0)), (2, .ref m0), (3, .ref (m0 + 25)), (4, .int x4)]) hx hb dLaw_law_190 hl (by decide) rfl (fun ls hl => ?_)
  refine lv_aload_n hx hb dLaw_law_192 rfl (lv_at hl 3 rfl) ?_
  refine lc_model (As := []) (RES := fun r κ2 cd2 => (κm 5 = 1 ∧ κ2 5 = κm 5 ∧ cd2 = 1) ∨ (1 < κm 5 ∧ r = nI (κm 5 - 1) ∧ κ2 5 = κm 5 - 1 ∧ cd2 = 0)) K I1 (fun b0 mn ν τ σ F nu hT hZ hF hG _ => m_leave l γ m0 (B0 m0) _ κm b0 mn ν τ σ F nu hT  hZ hF hG) meModel_leave rfl qw_46afa56bf9 ⟨Nat.le_of_ble_eq_true rfl, Nat.le_of_ble_eq_true rfl⟩ rfl hl.1 rfl dLaw_law_193 (cc_room1 (ph_le I1.hI) (by have := K.hL; omega)) (fun r H1 h => h.elim (fun ⟨h1, h2⟩ => ⟨_, _, h2, Or.inl ⟨h1, rfl, rfl⟩⟩) (fun ⟨h1, h4, κ2, h2, h3⟩ => ⟨_, _, h3, Or.inr ⟨h1, h4, h2, rfl⟩⟩)) (fun r2 H2 locs2 κ2 cd2 hr2 I2 => ?_)
  refine lv_istore (lv' := [(6, .int r2), (5, .int r), (0, .ref b), (1, .ref (γ.2.2.2 0)), (2, .ref m0), (3, .ref (m0 + 25)), (4, .int x4)]) hx hb dLaw_law_196 hl (by decide) rfl (fun ls hl => ?_)
  refine lv_aload_n hx hb dLaw_law_198 rfl (lv_at hl 4 rfl) ?_
  refine lc_thrown K I2 hl.1 qw_89f9b64530 dLaw_law_199 (cc_room1 (ph_le I2.hI) (by have := K.hL; omega)) ?_
  refine lv_iload hx hb dLaw_law_202 (lv_at hl 1 rfl) ?_
  refine lv_icmp_eq (tgt := 209) hx hb dLaw_law_204 (by decide) (fun c1 => ?_) (fun c1 => absurd (by rcases hr with hr | hr <;> rcases hr2 with hr2 | hr2 <;> first | (exfalso; omega) | (simp_all)) c1)
  refine lv_iload hx hb dLaw_law_209 (lv_at hl 1 rfl) ?_
  have heq : κ1 3 = κ2 5 := by rcases hr with hr | hr <;> rcases hr2 with hr2 | hr2 <;> omega
  have JY : W p l e room_1 s m #[Value.ref b] below meth c H2 locs2 (CC κ1 q + 1) (SS κ1 q + 6) Q (F0 m 226 ls []) := by
    refine lv_goto (tgt := 562) hx hb dLaw_law_226 (by decide) ?_
    refine W.up cc_5.1 cc_5.2 ?_
    exact J _ _ κ1 _ _ _ _ I2 heq (lv_sub hl [2, 3, 4, 5, 6] rfl)
  refine lv_if_ne (tgt := 226) hx hb dLaw_law_211 (by decide) (fun c2 => JY) (fun c2 => ?_)
  refine lv_aload_n hx hb dLaw_law_214 rfl (lv_at hl 5 rfl) ?_
  refine lv_iconst (v := 0) hx hb dLaw_law_215 (by decide) ?_
  refine ou_ld K.S K.hC I2.hO dLaw_law_216 ?_
  refine lv_iload hx hb dLaw_law_217 (lv_at hl 0 rfl) ?_
  refine lv_i2l hx hb dLaw_law_219 rfl ?_
  refine W.lcmp hx hb dLaw_law_220 ?_
  refine lv_topi (fun v9 ev9 => ?_)
  have hv9 : v9 = 0 := by
    have hg9 : g1 0 = r2.toInt64 := by rcases hr with hr | hr <;> rcases hr2 with hr2 | hr2 <;> first | (exfalso; omega) | (exfalso; rw [hr.1] at c2; exact absurd c2 (by decide)) | (rw [hr.2.2.1, hr2.2.1, h3])
    rw [ev9, hg9]
    unfold lg_cmp; simp
  exact lv_if_eq (tgt := 226) hx hb dLaw_law_221 (by decide) (fun _ => JY) (fun c3 => absurd hv9 c3)
set_option maxHeartbeats 4000000 in
set_option maxRecDepth 100000 in
theorem lc_4 {p : Program} {l : Launch} {e : Env} {s : State} {m : MethodId} {below : List Frame} {meth : Method} {c : Code} {b L : Nat} {xs : Nat → Int32} {γ : gE} {A : Nat → Prop} {m0 : Nat} {q : Nat} {x4 : Int32} {Q : State → Prop} (K : LC l p s m c b L xs γ A m0) (hq : q + 5 ≤ L) (ex4 : x4 = nI q) (J : ∀ (H : Heap) (locs : List Loc) (κ κm : Nat → Nat) (cd : Int32) (g : Nat → Int64) (ls : Array Slot), LI s γ A m0 κ κm cd g H locs → κ 3 = κm 5 → lv_has ls 7 [(0, .ref b), (1, .ref (γ.2.2.2 0)), (2, .ref m0), (3, .ref (m0 + 25)), (4, .int x4)] → W p l e room_1 s m #[Value.ref b] below meth c H locs (CC κ (q + 5)) (SS κ (q + 5)) Q (F0 m 562 ls [])) {H : Heap} {locs : List Loc} {κ κm : Nat → Nat} {cd : Int32} {g : Nat → Int64} {ls : Array Slot} (I : LI s γ A m0 κ κm cd g H locs) (h3 : κ 3 = κm 5) (hl : lv_has ls 7 [(0, .ref b), (1, .ref (γ.2.2.2 0)), (2, .ref m0), (3, .ref (m0 + 25)), (4, .int x4)]) : W p l e room_1 s m #[Value.ref b] below meth c H locs (CC κ q) (SS κ q) Q (F0 m 229 ls []) := by
  obtain ⟨hx, hb, hml, hown, hW⟩ := id K.S
  have hbA : ¬ (fun q : Nat => s.heap.size ≤ q) b := Nat.not_le.mpr K.hbl
  refine lv_aload_n hx hb dLaw_law_229 rfl (lv_at hl 1 rfl) ?_
  refine lv_aload_n hx hb dLaw_law_230 rfl (lv_at hl 0 rfl) ?_
  refine lv_iload hx hb dLaw_law_231 (lv_at hl 4 rfl) ?_
  refine lv_iconst (v := 1) hx hb dLaw_law_233 (by decide) ?_
  refine lv_iadd hx hb dLaw_law_234 ?_
  refine va_sld hx hb K.hX K.hbl hbA I.hS (lw_in K.hL hq ex4 1 (by decide) rfl) dLaw_law_235 ?_
  refine lv_aload_n hx hb dLaw_law_236 rfl (lv_at hl 3 rfl) ?_
  refine lc_wrap (RES := fun r κ1 g1 => κ1 3 = κ 3) K I (by have := K.hL; omega) (w_type l K.hst γ A κ s K.hw0 K.hnc K.hA0 H (m0 + 25) K.hAo g (xs (x4 + 1).toNatClampNeg)) meLaw_type qw_20fb0eeb29 ⟨Nat.le_of_ble_eq_true rfl, Nat.le_of_ble_eq_true rfl⟩ rfl hl.1 rfl dLaw_law_237 (fun r H1 h => by obtain ⟨⟨g1, h1⟩, h2⟩ := h; exact ⟨g1, h1, h2⟩) (fun r H1 locs1 κ1 g1 hr I1 => ?_)
  refine lv_istore (lv' := [(5, .int r), (0, .ref b), (1, .ref (γ.2.2.2 0)), (2, .ref m0), (3, .ref (m0 + 25)), (4, .int x4)]) hx hb dLaw_law_240 hl (by decide) rfl (fun ls hl => ?_)
  refine lv_aload_n hx hb dLaw_law_242 rfl (lv_at hl 3 rfl) ?_
  refine lv_aload_n hx hb dLaw_law_243 rfl (lv_at hl 1 rfl) ?_
  refine lv_iload hx hb dLaw_law_244 (lv_at hl 5 rfl) ?_
  refine lv_iconst (v := 1) hx hb dLaw_law_246 (by decide) ?_
  refine lv_iadd hx hb dLaw_law_247 ?_
  refine va_sld hx hb K.hX K.hbl hbA I1.hS (lw_in K.hL hq ex4 1 (by decide) rfl) dLaw_law_248 ?_
  refine lc_model (As := [.int (xs (x4 + 1).toNatClampNeg)]) (RES := fun r κ2 cd2 => κ2 5 = κm 5) K I1 (fun b0 mn ν τ σ F nu hT hZ hF hG _ => m_type l γ m0 (B0 m0) _ κm b0 mn ν τ σ F nu hT (xs (x4 + 1).toNatClampNeg) hZ hF hG) meModel_type rfl qw_48653616c3 ⟨Nat.le_of_ble_eq_true rfl, Nat.le_of_ble_eq_true rfl⟩ rfl hl.1 rfl dLaw_law_249 (cc_room1 (ph_le I1.hI) (by have := K.hL; omega)) (fun r H1 h => by obtain ⟨κ2, cd2, h1, h2⟩ := h; exact ⟨κ2, cd2, h2, h1⟩) (fun r2 H2 locs2 κ2 cd2 hr2 I2 => ?_)
  refine lv_istore (lv' := [(6, .int r2), (5, .int r), (0, .ref b), (1, .ref (γ.2.2.2 0)), (2, .ref m0), (3, .ref (m0 + 25)), (4, .int x4)]) hx hb dLaw_law_252 hl (by decide) rfl (fun ls hl => ?_)
  refine lv_goto (tgt := 562) hx hb dLaw_law_254 (by decide) ?_
  refine W.up cc_5.1 cc_5.2 ?_
  exact J _ _ κ1 _ _ _ _ I2 (by omega) (lv_sub hl [2, 3, 4, 5, 6] rfl)
set_option maxHeartbeats 4000000 in
set_option maxRecDepth 100000 in
theorem lc_5 {p : Program} {l : Launch} {e : Env} {s : State} {m : MethodId} {below : List Frame} {meth : Method} {c : Code} {b L : Nat} {xs : Nat → Int32} {γ : gE} {A : Nat → Prop} {m0 : Nat} {q : Nat} {x4 : Int32} {Q : State → Prop} (K : LC l p s m c b L xs γ A m0) (hq : q + 5 ≤ L) (ex4 : x4 = nI q) (J : ∀ (H : Heap) (locs : List Loc) (κ κm : Nat → Nat) (cd : Int32) (g : Nat → Int64) (ls : Array Slot), LI s γ A m0 κ κm cd g H locs → κ 3 = κm 5 → lv_has ls 7 [(0, .ref b), (1, .ref (γ.2.2.2 0)), (2, .ref m0), (3, .ref (m0 + 25)), (4, .int x4)] → W p l e room_1 s m #[Value.ref b] below meth c H locs (CC κ (q + 5)) (SS κ (q + 5)) Q (F0 m 562 ls [])) {H : Heap} {locs : List Loc} {κ κm : Nat → Nat} {cd : Int32} {g : Nat → Int64} {ls : Array Slot} (I : LI s γ A m0 κ κm cd g H locs) (h3 : κ 3 = κm 5) (hl : lv_has ls 7 [(0, .ref b), (1, .ref (γ.2.2.2 0)), (2, .ref m0), (3, .ref (m0 + 25)), (4, .int x4)]) : W p l e room_1 s m #[Value.ref b] below meth c H locs (CC κ q) (SS κ q) Q (F0 m 257 ls []) := by
  obtain ⟨hx, hb, hml, hown, hW⟩ := id K.S
  have hbA : ¬ (fun q : Nat => s.heap.size ≤ q) b := Nat.not_le.mpr K.hbl
  refine lv_aload_n hx hb dLaw_law_257 rfl (lv_at hl 1 rfl) ?_
  refine lv_aload_n hx hb dLaw_law_258 rfl (lv_at hl 0 rfl) ?_
  refine lv_iload hx hb dLaw_law_259 (lv_at hl 4 rfl) ?_
  refine lv_iconst (v := 1) hx hb dLaw_law_261 (by decide) ?_
  refine lv_iadd hx hb dLaw_law_262 ?_
  refine va_sld hx hb K.hX K.hbl hbA I.hS (lw_in K.hL hq ex4 1 (by decide) rfl) dLaw_law_263 ?_
  refine lv_aload_n hx hb dLaw_law_264 rfl (lv_at hl 3 rfl) ?_
  refine lc_wrap (RES := fun r κ1 g1 => κ1 3 = κ 3) K I (by have := K.hL; omega) (w_enumeration l K.hst γ A κ s K.hw0 K.hnc K.hA0 H (m0 + 25) K.hAo g (xs (x4 + 1).toNatClampNeg)) meLaw_enumeration qw_a195f3ee01 ⟨Nat.le_of_ble_eq_true rfl, Nat.le_of_ble_eq_true rfl⟩ rfl hl.1 rfl dLaw_law_265 (fun r H1 h => by obtain ⟨⟨g1, h1⟩, h2⟩ := h; exact ⟨g1, h1, h2⟩) (fun r H1 locs1 κ1 g1 hr I1 => ?_)
  refine lv_istore (lv' := [(5, .int r), (0, .ref b), (1, .ref (γ.2.2.2 0)), (2, .ref m0), (3, .ref (m0 + 25)), (4, .int x4)]) hx hb dLaw_law_268 hl (by decide) rfl (fun ls hl => ?_)
  refine lv_aload_n hx hb dLaw_law_270 rfl (lv_at hl 3 rfl) ?_
  refine lv_aload_n hx hb dLaw_law_271 rfl (lv_at hl 1 rfl) ?_
  refine lv_iload hx hb dLaw_law_272 (lv_at hl 5 rfl) ?_
  refine lv_iconst (v := 1) hx hb dLaw_law_274 (by decide) ?_
  refine lv_iadd hx hb dLaw_law_275 ?_
  refine va_sld hx hb K.hX K.hbl hbA I1.hS (lw_in K.hL hq ex4 1 (by decide) rfl) dLaw_law_276 ?_
  refine lc_model (As := [.int (xs (x4 + 1).toNatClampNeg)]) (RES := fun r κ2 cd2 => κ2 5 = κm 5) K I1 (fun b0 mn ν τ σ F nu hT hZ hF hG _ => m_enumeration l γ m0 (B0 m0) _ κm b0 mn ν τ σ F nu hT (xs (x4 + 1).toNatClampNeg) hZ hF hG) meModel_enumeration rfl qw_3a5364f9c7 ⟨Nat.le_of_ble_eq_true rfl, Nat.le_of_ble_eq_true rfl⟩ rfl hl.1 rfl dLaw_law_277 (cc_room1 (ph_le I1.hI) (by have := K.hL; omega)) (fun r H1 h => by obtain ⟨κ2, cd2, h1, h2⟩ := h; exact ⟨κ2, cd2, h2, h1⟩) (fun r2 H2 locs2 κ2 cd2 hr2 I2 => ?_)
  refine lv_istore (lv' := [(6, .int r2), (5, .int r), (0, .ref b), (1, .ref (γ.2.2.2 0)), (2, .ref m0), (3, .ref (m0 + 25)), (4, .int x4)]) hx hb dLaw_law_280 hl (by decide) rfl (fun ls hl => ?_)
  refine lv_goto (tgt := 562) hx hb dLaw_law_282 (by decide) ?_
  refine W.up cc_5.1 cc_5.2 ?_
  exact J _ _ κ1 _ _ _ _ I2 (by omega) (lv_sub hl [2, 3, 4, 5, 6] rfl)
set_option maxHeartbeats 4000000 in
set_option maxRecDepth 100000 in
theorem lc_6 {p : Program} {l : Launch} {e : Env} {s : State} {m : MethodId} {below : List Frame} {meth : Method} {c : Code} {b L : Nat} {xs : Nat → Int32} {γ : gE} {A : Nat → Prop} {m0 : Nat} {q : Nat} {x4 : Int32} {Q : State → Prop} (K : LC l p s m c b L xs γ A m0) (hq : q + 5 ≤ L) (ex4 : x4 = nI q) (J : ∀ (H : Heap) (locs : List Loc) (κ κm : Nat → Nat) (cd : Int32) (g : Nat → Int64) (ls : Array Slot), LI s γ A m0 κ κm cd g H locs → κ 3 = κm 5 → lv_has ls 7 [(0, .ref b), (1, .ref (γ.2.2.2 0)), (2, .ref m0), (3, .ref (m0 + 25)), (4, .int x4)] → W p l e room_1 s m #[Value.ref b] below meth c H locs (CC κ (q + 5)) (SS κ (q + 5)) Q (F0 m 562 ls [])) {H : Heap} {locs : List Loc} {κ κm : Nat → Nat} {cd : Int32} {g : Nat → Int64} {ls : Array Slot} (I : LI s γ A m0 κ κm cd g H locs) (h3 : κ 3 = κm 5) (hl : lv_has ls 7 [(0, .ref b), (1, .ref (γ.2.2.2 0)), (2, .ref m0), (3, .ref (m0 + 25)), (4, .int x4)]) : W p l e room_1 s m #[Value.ref b] below meth c H locs (CC κ q) (SS κ q) Q (F0 m 285 ls []) := by
  obtain ⟨hx, hb, hml, hown, hW⟩ := id K.S
  have hbA : ¬ (fun q : Nat => s.heap.size ≤ q) b := Nat.not_le.mpr K.hbl
  refine lv_aload_n hx hb dLaw_law_285 rfl (lv_at hl 1 rfl) ?_
  refine lv_aload_n hx hb dLaw_law_286 rfl (lv_at hl 0 rfl) ?_
  refine lv_iload hx hb dLaw_law_287 (lv_at hl 4 rfl) ?_
  refine lv_iconst (v := 1) hx hb dLaw_law_289 (by decide) ?_
  refine lv_iadd hx hb dLaw_law_290 ?_
  refine va_sld hx hb K.hX K.hbl hbA I.hS (lw_in K.hL hq ex4 1 (by decide) rfl) dLaw_law_291 ?_
  refine lv_aload_n hx hb dLaw_law_292 rfl (lv_at hl 0 rfl) ?_
  refine lv_iload hx hb dLaw_law_293 (lv_at hl 4 rfl) ?_
  refine lv_iconst (v := 2) hx hb dLaw_law_295 (by decide) ?_
  refine lv_iadd hx hb dLaw_law_296 ?_
  refine va_sld hx hb K.hX K.hbl hbA I.hS (lw_in K.hL hq ex4 2 (by decide) rfl) dLaw_law_297 ?_
  refine lv_aload_n hx hb dLaw_law_298 rfl (lv_at hl 3 rfl) ?_
  refine lc_wrap (RES := fun r κ1 g1 => κ1 3 = κ 3) K I (by have := K.hL; omega) (w_subtype l K.hst γ A κ s K.hw0 K.hnc K.hA0 H (m0 + 25) K.hAo g (xs (x4 + 1).toNatClampNeg) (xs (x4 + 2).toNatClampNeg)) meLaw_subtype qw_4dfd4accc0 ⟨Nat.le_of_ble_eq_true rfl, Nat.le_of_ble_eq_true rfl⟩ rfl hl.1 rfl dLaw_law_299 (fun r H1 h => by obtain ⟨⟨g1, h1⟩, h2⟩ := h; exact ⟨g1, h1, h2⟩) (fun r H1 locs1 κ1 g1 hr I1 => ?_)
  refine lv_istore (lv' := [(5, .int r), (0, .ref b), (1, .ref (γ.2.2.2 0)), (2, .ref m0), (3, .ref (m0 + 25)), (4, .int x4)]) hx hb dLaw_law_302 hl (by decide) rfl (fun ls hl => ?_)
  refine lv_aload_n hx hb dLaw_law_304 rfl (lv_at hl 3 rfl) ?_
  refine lv_aload_n hx hb dLaw_law_305 rfl (lv_at hl 1 rfl) ?_
  refine lv_iload hx hb dLaw_law_306 (lv_at hl 5 rfl) ?_
  refine lv_iconst (v := 1) hx hb dLaw_law_308 (by decide) ?_
  refine lv_iadd hx hb dLaw_law_309 ?_
  refine va_sld hx hb K.hX K.hbl hbA I1.hS (lw_in K.hL hq ex4 1 (by decide) rfl) dLaw_law_310 ?_
  refine lv_aload_n hx hb dLaw_law_311 rfl (lv_at hl 1 rfl) ?_
  refine lv_iload hx hb dLaw_law_312 (lv_at hl 5 rfl) ?_
  refine lv_iconst (v := 2) hx hb dLaw_law_314 (by decide) ?_
  refine lv_iadd hx hb dLaw_law_315 ?_
  refine va_sld hx hb K.hX K.hbl hbA I1.hS (lw_in K.hL hq ex4 2 (by decide) rfl) dLaw_law_316 ?_
  refine lc_model (As := [.int (xs (x4 + 1).toNatClampNeg), .int (xs (x4 + 2).toNatClampNeg)]) (RES := fun r κ2 cd2 => κ2 5 = κm 5) K I1 (fun b0 mn ν τ σ F nu hT hZ hF hG _ => m_subtype l γ m0 (B0 m0) _ κm b0 mn ν τ σ F nu hT (xs (x4 + 1).toNatClampNeg) (xs (x4 + 2).toNatClampNeg) hZ hF hG) meModel_subtype rfl qw_90f4f7925f ⟨Nat.le_of_ble_eq_true rfl, Nat.le_of_ble_eq_true rfl⟩ rfl hl.1 rfl dLaw_law_317 (cc_room1 (ph_le I1.hI) (by have := K.hL; omega)) (fun r H1 h => by obtain ⟨κ2, cd2, h1, h2⟩ := h; exact ⟨κ2, cd2, h2, h1⟩) (fun r2 H2 locs2 κ2 cd2 hr2 I2 => ?_)
  refine lv_istore (lv' := [(6, .int r2), (5, .int r), (0, .ref b), (1, .ref (γ.2.2.2 0)), (2, .ref m0), (3, .ref (m0 + 25)), (4, .int x4)]) hx hb dLaw_law_320 hl (by decide) rfl (fun ls hl => ?_)
  refine lv_goto (tgt := 562) hx hb dLaw_law_322 (by decide) ?_
  refine W.up cc_5.1 cc_5.2 ?_
  exact J _ _ κ1 _ _ _ _ I2 (by omega) (lv_sub hl [2, 3, 4, 5, 6] rfl)
set_option maxHeartbeats 4000000 in
set_option maxRecDepth 100000 in
theorem lc_7 {p : Program} {l : Launch} {e : Env} {s : State} {m : MethodId} {below : List Frame} {meth : Method} {c : Code} {b L : Nat} {xs : Nat → Int32} {γ : gE} {A : Nat → Prop} {m0 : Nat} {q : Nat} {x4 : Int32} {Q : State → Prop} (K : LC l p s m c b L xs γ A m0) (hq : q + 5 ≤ L) (ex4 : x4 = nI q) (J : ∀ (H : Heap) (locs : List Loc) (κ κm : Nat → Nat) (cd : Int32) (g : Nat → Int64) (ls : Array Slot), LI s γ A m0 κ κm cd g H locs → κ 3 = κm 5 → lv_has ls 7 [(0, .ref b), (1, .ref (γ.2.2.2 0)), (2, .ref m0), (3, .ref (m0 + 25)), (4, .int x4)] → W p l e room_1 s m #[Value.ref b] below meth c H locs (CC κ (q + 5)) (SS κ (q + 5)) Q (F0 m 562 ls [])) {H : Heap} {locs : List Loc} {κ κm : Nat → Nat} {cd : Int32} {g : Nat → Int64} {ls : Array Slot} (I : LI s γ A m0 κ κm cd g H locs) (h3 : κ 3 = κm 5) (hl : lv_has ls 7 [(0, .ref b), (1, .ref (γ.2.2.2 0)), (2, .ref m0), (3, .ref (m0 + 25)), (4, .int x4)]) : W p l e room_1 s m #[Value.ref b] below meth c H locs (CC κ q) (SS κ q) Q (F0 m 325 ls []) := by
  obtain ⟨hx, hb, hml, hown, hW⟩ := id K.S
  have hbA : ¬ (fun q : Nat => s.heap.size ≤ q) b := Nat.not_le.mpr K.hbl
  refine lv_aload_n hx hb dLaw_law_325 rfl (lv_at hl 1 rfl) ?_
  refine lv_aload_n hx hb dLaw_law_326 rfl (lv_at hl 0 rfl) ?_
  refine lv_iload hx hb dLaw_law_327 (lv_at hl 4 rfl) ?_
  refine lv_iconst (v := 1) hx hb dLaw_law_329 (by decide) ?_
  refine lv_iadd hx hb dLaw_law_330 ?_
  refine va_sld hx hb K.hX K.hbl hbA I.hS (lw_in K.hL hq ex4 1 (by decide) rfl) dLaw_law_331 ?_
  refine lv_aload_n hx hb dLaw_law_332 rfl (lv_at hl 0 rfl) ?_
  refine lv_iload hx hb dLaw_law_333 (lv_at hl 4 rfl) ?_
  refine lv_iconst (v := 2) hx hb dLaw_law_335 (by decide) ?_
  refine lv_iadd hx hb dLaw_law_336 ?_
  refine va_sld hx hb K.hX K.hbl hbA I.hS (lw_in K.hL hq ex4 2 (by decide) rfl) dLaw_law_337 ?_
  refine lv_aload_n hx hb dLaw_law_338 rfl (lv_at hl 0 rfl) ?_
  refine lv_iload hx hb dLaw_law_339 (lv_at hl 4 rfl) ?_
  refine lv_iconst (v := 3) hx hb dLaw_law_341 (by decide) ?_
  refine lv_iadd hx hb dLaw_law_342 ?_
  refine va_sld hx hb K.hX K.hbl hbA I.hS (lw_in K.hL hq ex4 3 (by decide) rfl) dLaw_law_343 ?_
  refine lv_aload_n hx hb dLaw_law_344 rfl (lv_at hl 0 rfl) ?_
  refine lv_iload hx hb dLaw_law_345 (lv_at hl 4 rfl) ?_
  refine lv_iconst (v := 4) hx hb dLaw_law_347 (by decide) ?_
  refine lv_iadd hx hb dLaw_law_348 ?_
  refine va_sld hx hb K.hX K.hbl hbA I.hS (lw_in K.hL hq ex4 4 (by decide) rfl) dLaw_law_349 ?_
  refine lv_aload_n hx hb dLaw_law_350 rfl (lv_at hl 3 rfl) ?_
  refine lc_wrap (RES := fun r κ1 g1 => κ1 3 = κ 3) K I (by have := K.hL; omega) (w_declare l K.hst γ A κ s K.hw0 K.hnc K.hA0 H (m0 + 25) K.hAo g (xs (x4 + 1).toNatClampNeg) (xs (x4 + 2).toNatClampNeg) (xs (x4 + 3).toNatClampNeg) (xs (x4 + 4).toNatClampNeg)) meLaw_declare qw_365c8f3f46 ⟨Nat.le_of_ble_eq_true rfl, Nat.le_of_ble_eq_true rfl⟩ rfl hl.1 rfl dLaw_law_351 (fun r H1 h => by obtain ⟨⟨g1, h1⟩, h2⟩ := h; exact ⟨g1, h1, h2⟩) (fun r H1 locs1 κ1 g1 hr I1 => ?_)
  refine lv_istore (lv' := [(5, .int r), (0, .ref b), (1, .ref (γ.2.2.2 0)), (2, .ref m0), (3, .ref (m0 + 25)), (4, .int x4)]) hx hb dLaw_law_354 hl (by decide) rfl (fun ls hl => ?_)
  refine lv_aload_n hx hb dLaw_law_356 rfl (lv_at hl 3 rfl) ?_
  refine lv_aload_n hx hb dLaw_law_357 rfl (lv_at hl 1 rfl) ?_
  refine lv_iload hx hb dLaw_law_358 (lv_at hl 5 rfl) ?_
  refine lv_iconst (v := 1) hx hb dLaw_law_360 (by decide) ?_
  refine lv_iadd hx hb dLaw_law_361 ?_
  refine va_sld hx hb K.hX K.hbl hbA I1.hS (lw_in K.hL hq ex4 1 (by decide) rfl) dLaw_law_362 ?_
  refine lv_aload_n hx hb dLaw_law_363 rfl (lv_at hl 1 rfl) ?_
  refine lv_iload hx hb dLaw_law_364 (lv_at hl 5 rfl) ?_
  refine lv_iconst (v := 2) hx hb dLaw_law_366 (by decide) ?_
  refine lv_iadd hx hb dLaw_law_367 ?_
  refine va_sld hx hb K.hX K.hbl hbA I1.hS (lw_in K.hL hq ex4 2 (by decide) rfl) dLaw_law_368 ?_
  refine lv_aload_n hx hb dLaw_law_369 rfl (lv_at hl 1 rfl) ?_
  refine lv_iload hx hb dLaw_law_370 (lv_at hl 5 rfl) ?_
  refine lv_iconst (v := 3) hx hb dLaw_law_372 (by decide) ?_
  refine lv_iadd hx hb dLaw_law_373 ?_
  refine va_sld hx hb K.hX K.hbl hbA I1.hS (lw_in K.hL hq ex4 3 (by decide) rfl) dLaw_law_374 ?_
  refine lv_aload_n hx hb dLaw_law_375 rfl (lv_at hl 1 rfl) ?_
  refine lv_iload hx hb dLaw_law_376 (lv_at hl 5 rfl) ?_
  refine lv_iconst (v := 4) hx hb dLaw_law_378 (by decide) ?_
  refine lv_iadd hx hb dLaw_law_379 ?_
  refine va_sld hx hb K.hX K.hbl hbA I1.hS (lw_in K.hL hq ex4 4 (by decide) rfl) dLaw_law_380 ?_
  refine lc_model (As := [.int (xs (x4 + 1).toNatClampNeg), .int (xs (x4 + 2).toNatClampNeg), .int (xs (x4 + 3).toNatClampNeg), .int (xs (x4 + 4).toNatClampNeg)]) (RES := fun r κ2 cd2 => κ2 5 = κm 5) K I1 (fun b0 mn ν τ σ F nu hT hZ hF hG _ => m_declare l γ m0 (B0 m0) _ κm b0 mn ν τ σ F nu hT (xs (x4 + 1).toNatClampNeg) (xs (x4 + 2).toNatClampNeg) (xs (x4 + 3).toNatClampNeg) (xs (x4 + 4).toNatClampNeg) hZ hF hG) meModel_declare rfl qw_f3764a54cb ⟨Nat.le_of_ble_eq_true rfl, Nat.le_of_ble_eq_true rfl⟩ rfl hl.1 rfl dLaw_law_381 (cc_room1 (ph_le I1.hI) (by have := K.hL; omega)) (fun r H1 h => by obtain ⟨κ2, cd2, h1, h2⟩ := h; exact ⟨κ2, cd2, h2, h1⟩) (fun r2 H2 locs2 κ2 cd2 hr2 I2 => ?_)
  refine lv_istore (lv' := [(6, .int r2), (5, .int r), (0, .ref b), (1, .ref (γ.2.2.2 0)), (2, .ref m0), (3, .ref (m0 + 25)), (4, .int x4)]) hx hb dLaw_law_384 hl (by decide) rfl (fun ls hl => ?_)
  refine lv_goto (tgt := 562) hx hb dLaw_law_386 (by decide) ?_
  refine W.up cc_5.1 cc_5.2 ?_
  exact J _ _ κ1 _ _ _ _ I2 (by omega) (lv_sub hl [2, 3, 4, 5, 6] rfl)
set_option maxHeartbeats 4000000 in
set_option maxRecDepth 100000 in
theorem lc_8 {p : Program} {l : Launch} {e : Env} {s : State} {m : MethodId} {below : List Frame} {meth : Method} {c : Code} {b L : Nat} {xs : Nat → Int32} {γ : gE} {A : Nat → Prop} {m0 : Nat} {q : Nat} {x4 : Int32} {Q : State → Prop} (K : LC l p s m c b L xs γ A m0) (hq : q + 5 ≤ L) (ex4 : x4 = nI q) (J : ∀ (H : Heap) (locs : List Loc) (κ κm : Nat → Nat) (cd : Int32) (g : Nat → Int64) (ls : Array Slot), LI s γ A m0 κ κm cd g H locs → κ 3 = κm 5 → lv_has ls 7 [(0, .ref b), (1, .ref (γ.2.2.2 0)), (2, .ref m0), (3, .ref (m0 + 25)), (4, .int x4)] → W p l e room_1 s m #[Value.ref b] below meth c H locs (CC κ (q + 5)) (SS κ (q + 5)) Q (F0 m 562 ls [])) {H : Heap} {locs : List Loc} {κ κm : Nat → Nat} {cd : Int32} {g : Nat → Int64} {ls : Array Slot} (I : LI s γ A m0 κ κm cd g H locs) (h3 : κ 3 = κm 5) (hl : lv_has ls 7 [(0, .ref b), (1, .ref (γ.2.2.2 0)), (2, .ref m0), (3, .ref (m0 + 25)), (4, .int x4)]) : W p l e room_1 s m #[Value.ref b] below meth c H locs (CC κ q) (SS κ q) Q (F0 m 389 ls []) := by
  obtain ⟨hx, hb, hml, hown, hW⟩ := id K.S
  have hbA : ¬ (fun q : Nat => s.heap.size ≤ q) b := Nat.not_le.mpr K.hbl
  refine lv_aload_n hx hb dLaw_law_389 rfl (lv_at hl 1 rfl) ?_
  refine lv_aload_n hx hb dLaw_law_390 rfl (lv_at hl 0 rfl) ?_
  refine lv_iload hx hb dLaw_law_391 (lv_at hl 4 rfl) ?_
  refine lv_iconst (v := 1) hx hb dLaw_law_393 (by decide) ?_
  refine lv_iadd hx hb dLaw_law_394 ?_
  refine va_sld hx hb K.hX K.hbl hbA I.hS (lw_in K.hL hq ex4 1 (by decide) rfl) dLaw_law_395 ?_
  refine lv_aload_n hx hb dLaw_law_396 rfl (lv_at hl 0 rfl) ?_
  refine lv_iload hx hb dLaw_law_397 (lv_at hl 4 rfl) ?_
  refine lv_iconst (v := 2) hx hb dLaw_law_399 (by decide) ?_
  refine lv_iadd hx hb dLaw_law_400 ?_
  refine va_sld hx hb K.hX K.hbl hbA I.hS (lw_in K.hL hq ex4 2 (by decide) rfl) dLaw_law_401 ?_
  refine lv_aload_n hx hb dLaw_law_402 rfl (lv_at hl 3 rfl) ?_
  refine lc_wrap (RES := fun r κ1 g1 => κ1 3 = κ 3) K I (by have := K.hL; omega) (w_check l K.hst γ A κ s K.hw0 K.hnc K.hA0 H (m0 + 25) K.hAo g (xs (x4 + 1).toNatClampNeg) (xs (x4 + 2).toNatClampNeg)) meLaw_check qw_08d75bfac9 ⟨Nat.le_of_ble_eq_true rfl, Nat.le_of_ble_eq_true rfl⟩ rfl hl.1 rfl dLaw_law_403 (fun r H1 h => by obtain ⟨⟨g1, h1⟩, h2⟩ := h; exact ⟨g1, h1, h2⟩) (fun r H1 locs1 κ1 g1 hr I1 => ?_)
  refine lv_istore (lv' := [(5, .int r), (0, .ref b), (1, .ref (γ.2.2.2 0)), (2, .ref m0), (3, .ref (m0 + 25)), (4, .int x4)]) hx hb dLaw_law_406 hl (by decide) rfl (fun ls hl => ?_)
  refine lv_aload_n hx hb dLaw_law_408 rfl (lv_at hl 3 rfl) ?_
  refine lv_aload_n hx hb dLaw_law_409 rfl (lv_at hl 1 rfl) ?_
  refine lv_iload hx hb dLaw_law_410 (lv_at hl 5 rfl) ?_
  refine lv_iconst (v := 1) hx hb dLaw_law_412 (by decide) ?_
  refine lv_iadd hx hb dLaw_law_413 ?_
  refine va_sld hx hb K.hX K.hbl hbA I1.hS (lw_in K.hL hq ex4 1 (by decide) rfl) dLaw_law_414 ?_
  refine lv_aload_n hx hb dLaw_law_415 rfl (lv_at hl 1 rfl) ?_
  refine lv_iload hx hb dLaw_law_416 (lv_at hl 5 rfl) ?_
  refine lv_iconst (v := 2) hx hb dLaw_law_418 (by decide) ?_
  refine lv_iadd hx hb dLaw_law_419 ?_
  refine va_sld hx hb K.hX K.hbl hbA I1.hS (lw_in K.hL hq ex4 2 (by decide) rfl) dLaw_law_420 ?_
  refine lc_model (As := [.int (xs (x4 + 1).toNatClampNeg), .int (xs (x4 + 2).toNatClampNeg)]) (RES := fun r κ2 cd2 => κ2 5 = κm 5) K I1 (fun b0 mn ν τ σ F nu hT hZ hF hG _ => m_check l γ m0 (B0 m0) _ κm b0 mn ν τ σ F nu hT (xs (x4 + 1).toNatClampNeg) (xs (x4 + 2).toNatClampNeg) hZ hF hG) meModel_check rfl qw_4fd6ec1137 ⟨Nat.le_of_ble_eq_true rfl, Nat.le_of_ble_eq_true rfl⟩ rfl hl.1 rfl dLaw_law_421 (cc_room1 (ph_le I1.hI) (by have := K.hL; omega)) (fun r H1 h => by obtain ⟨κ2, cd2, h1, h2⟩ := h; exact ⟨κ2, cd2, h2, h1⟩) (fun r2 H2 locs2 κ2 cd2 hr2 I2 => ?_)
  refine lv_istore (lv' := [(6, .int r2), (5, .int r), (0, .ref b), (1, .ref (γ.2.2.2 0)), (2, .ref m0), (3, .ref (m0 + 25)), (4, .int x4)]) hx hb dLaw_law_424 hl (by decide) rfl (fun ls hl => ?_)
  refine lv_goto (tgt := 562) hx hb dLaw_law_426 (by decide) ?_
  refine W.up cc_5.1 cc_5.2 ?_
  exact J _ _ κ1 _ _ _ _ I2 (by omega) (lv_sub hl [2, 3, 4, 5, 6] rfl)
set_option maxHeartbeats 4000000 in
set_option maxRecDepth 100000 in
theorem lc_9 {p : Program} {l : Launch} {e : Env} {s : State} {m : MethodId} {below : List Frame} {meth : Method} {c : Code} {b L : Nat} {xs : Nat → Int32} {γ : gE} {A : Nat → Prop} {m0 : Nat} {q : Nat} {x4 : Int32} {Q : State → Prop} (K : LC l p s m c b L xs γ A m0) (hq : q + 5 ≤ L) (ex4 : x4 = nI q) (J : ∀ (H : Heap) (locs : List Loc) (κ κm : Nat → Nat) (cd : Int32) (g : Nat → Int64) (ls : Array Slot), LI s γ A m0 κ κm cd g H locs → κ 3 = κm 5 → lv_has ls 7 [(0, .ref b), (1, .ref (γ.2.2.2 0)), (2, .ref m0), (3, .ref (m0 + 25)), (4, .int x4)] → W p l e room_1 s m #[Value.ref b] below meth c H locs (CC κ (q + 5)) (SS κ (q + 5)) Q (F0 m 562 ls [])) {H : Heap} {locs : List Loc} {κ κm : Nat → Nat} {cd : Int32} {g : Nat → Int64} {ls : Array Slot} (I : LI s γ A m0 κ κm cd g H locs) (h3 : κ 3 = κm 5) (hl : lv_has ls 7 [(0, .ref b), (1, .ref (γ.2.2.2 0)), (2, .ref m0), (3, .ref (m0 + 25)), (4, .int x4)]) : W p l e room_1 s m #[Value.ref b] below meth c H locs (CC κ q) (SS κ q) Q (F0 m 429 ls []) := by
  obtain ⟨hx, hb, hml, hown, hW⟩ := id K.S
  have hbA : ¬ (fun q : Nat => s.heap.size ≤ q) b := Nat.not_le.mpr K.hbl
  refine lv_aload_n hx hb dLaw_law_429 rfl (lv_at hl 1 rfl) ?_
  refine lc_place K I hl.1 qw_0809015189 dLaw_law_430 (by have h9 := cc_room (q := q) (ph_le I.hI) (by have := K.hL; omega); exact ⟨Nat.le_trans (Nat.le_add_right _ _) h9.1, Nat.le_trans (Nat.le_add_right _ _) h9.2⟩) (fun r => ?_)
  refine lv_pop hx hb dLaw_law_433 rfl ?_
  refine lv_aload_n hx hb dLaw_law_434 rfl (lv_at hl 2 rfl) ?_
  refine lc_model (As := []) (RES := fun r κ2 cd2 => κ2 5 = κm 5) K I (fun b0 mn ν τ σ F nu hT hZ hF hG _ => m_place l γ m0 (B0 m0) _ κm b0 mn ν τ σ F nu hT  hZ hF hG) meModel_place rfl qw_994b943185 ⟨Nat.le_of_ble_eq_true rfl, Nat.le_of_ble_eq_true rfl⟩ rfl hl.1 rfl dLaw_law_435 (by have h9 := cc_room (q := q) (ph_le I.hI) (by have := K.hL; omega); exact ⟨Nat.le_trans (Nat.le_add_right _ _) h9.1, Nat.le_trans (Nat.le_add_right _ _) h9.2⟩) (fun r H1 h => by obtain ⟨κ2, cd2, h1, h2⟩ := h; exact ⟨κ2, cd2, h2, h1⟩) (fun r2 H2 locs2 κ2 cd2 hr2 I2 => ?_)
  refine lv_pop hx hb dLaw_law_438 rfl ?_
  refine lv_goto (tgt := 562) hx hb dLaw_law_439 (by decide) ?_
  refine W.up (Nat.le_trans (Nat.le_succ _) cc_5.1) (Nat.le_trans (Nat.le_add_right _ 6) cc_5.2) ?_
  exact J _ _ κ _ _ _ _ I2 (by rw [hr2]; exact h3) (lv_sub hl [0, 1, 2, 3, 4] rfl)
set_option maxHeartbeats 4000000 in
set_option maxRecDepth 100000 in
theorem lc_10 {p : Program} {l : Launch} {e : Env} {s : State} {m : MethodId} {below : List Frame} {meth : Method} {c : Code} {b L : Nat} {xs : Nat → Int32} {γ : gE} {A : Nat → Prop} {m0 : Nat} {q : Nat} {x4 : Int32} {Q : State → Prop} (K : LC l p s m c b L xs γ A m0) (hq : q + 5 ≤ L) (ex4 : x4 = nI q) (J : ∀ (H : Heap) (locs : List Loc) (κ κm : Nat → Nat) (cd : Int32) (g : Nat → Int64) (ls : Array Slot), LI s γ A m0 κ κm cd g H locs → κ 3 = κm 5 → lv_has ls 7 [(0, .ref b), (1, .ref (γ.2.2.2 0)), (2, .ref m0), (3, .ref (m0 + 25)), (4, .int x4)] → W p l e room_1 s m #[Value.ref b] below meth c H locs (CC κ (q + 5)) (SS κ (q + 5)) Q (F0 m 562 ls [])) {H : Heap} {locs : List Loc} {κ κm : Nat → Nat} {cd : Int32} {g : Nat → Int64} {ls : Array Slot} (I : LI s γ A m0 κ κm cd g H locs) (h3 : κ 3 = κm 5) (hl : lv_has ls 7 [(0, .ref b), (1, .ref (γ.2.2.2 0)), (2, .ref m0), (3, .ref (m0 + 25)), (4, .int x4)]) : W p l e room_1 s m #[Value.ref b] below meth c H locs (CC κ q) (SS κ q) Q (F0 m 442 ls []) := by
  obtain ⟨hx, hb, hml, hown, hW⟩ := id K.S
  have hbA : ¬ (fun q : Nat => s.heap.size ≤ q) b := Nat.not_le.mpr K.hbl
  refine lv_aload_n hx hb dLaw_law_442 rfl (lv_at hl 1 rfl) ?_
  refine lv_aload_n hx hb dLaw_law_443 rfl (lv_at hl 0 rfl) ?_
  refine lv_iload hx hb dLaw_law_444 (lv_at hl 4 rfl) ?_
  refine lv_iconst (v := 1) hx hb dLaw_law_446 (by decide) ?_
  refine lv_iadd hx hb dLaw_law_447 ?_
  refine va_sld hx hb K.hX K.hbl hbA I.hS (lw_in K.hL hq ex4 1 (by decide) rfl) dLaw_law_448 ?_
  refine lv_aload_n hx hb dLaw_law_449 rfl (lv_at hl 0 rfl) ?_
  refine lv_iload hx hb dLaw_law_450 (lv_at hl 4 rfl) ?_
  refine lv_iconst (v := 2) hx hb dLaw_law_452 (by decide) ?_
  refine lv_iadd hx hb dLaw_law_453 ?_
  refine va_sld hx hb K.hX K.hbl hbA I.hS (lw_in K.hL hq ex4 2 (by decide) rfl) dLaw_law_454 ?_
  refine lv_aload_n hx hb dLaw_law_455 rfl (lv_at hl 3 rfl) ?_
  refine lc_wrap (RES := fun r κ1 g1 => κ1 3 = κ 3) K I (by have := K.hL; omega) (w_typeOf l K.hst γ A κ s K.hw0 K.hnc K.hA0 H (m0 + 25) K.hAo g (xs (x4 + 1).toNatClampNeg) (xs (x4 + 2).toNatClampNeg)) meLaw_typeOf qw_21fe75c539 ⟨Nat.le_of_ble_eq_true rfl, Nat.le_of_ble_eq_true rfl⟩ rfl hl.1 rfl dLaw_law_456 (fun r H1 h => by obtain ⟨⟨g1, h1⟩, h2⟩ := h; exact ⟨g1, h1, h2⟩) (fun r H1 locs1 κ1 g1 hr I1 => ?_)
  refine lv_istore (lv' := [(5, .int r), (0, .ref b), (1, .ref (γ.2.2.2 0)), (2, .ref m0), (3, .ref (m0 + 25)), (4, .int x4)]) hx hb dLaw_law_459 hl (by decide) rfl (fun ls hl => ?_)
  refine lv_aload_n hx hb dLaw_law_461 rfl (lv_at hl 3 rfl) ?_
  refine lv_aload_n hx hb dLaw_law_462 rfl (lv_at hl 1 rfl) ?_
  refine lv_iload hx hb dLaw_law_463 (lv_at hl 5 rfl) ?_
  refine lv_iconst (v := 1) hx hb dLaw_law_465 (by decide) ?_
  refine lv_iadd hx hb dLaw_law_466 ?_
  refine va_sld hx hb K.hX K.hbl hbA I1.hS (lw_in K.hL hq ex4 1 (by decide) rfl) dLaw_law_467 ?_
  refine lv_aload_n hx hb dLaw_law_468 rfl (lv_at hl 1 rfl) ?_
  refine lv_iload hx hb dLaw_law_469 (lv_at hl 5 rfl) ?_
  refine lv_iconst (v := 2) hx hb dLaw_law_471 (by decide) ?_
  refine lv_iadd hx hb dLaw_law_472 ?_
  refine va_sld hx hb K.hX K.hbl hbA I1.hS (lw_in K.hL hq ex4 2 (by decide) rfl) dLaw_law_473 ?_
  refine lc_model (As := [.int (xs (x4 + 1).toNatClampNeg), .int (xs (x4 + 2).toNatClampNeg)]) (RES := fun r κ2 cd2 => κ2 5 = κm 5) K I1 (fun b0 mn ν τ σ F nu hT hZ hF hG _ => m_typeOf l γ m0 (B0 m0) _ κm b0 mn ν τ σ F nu hT (xs (x4 + 1).toNatClampNeg) (xs (x4 + 2).toNatClampNeg) hZ hF hG) meModel_typeOf rfl qw_43f92305fb ⟨Nat.le_of_ble_eq_true rfl, Nat.le_of_ble_eq_true rfl⟩ rfl hl.1 rfl dLaw_law_474 (cc_room1 (ph_le I1.hI) (by have := K.hL; omega)) (fun r H1 h => by obtain ⟨κ2, cd2, h1, h2⟩ := h; exact ⟨κ2, cd2, h2, h1⟩) (fun r2 H2 locs2 κ2 cd2 hr2 I2 => ?_)
  refine lv_istore (lv' := [(6, .int r2), (5, .int r), (0, .ref b), (1, .ref (γ.2.2.2 0)), (2, .ref m0), (3, .ref (m0 + 25)), (4, .int x4)]) hx hb dLaw_law_477 hl (by decide) rfl (fun ls hl => ?_)
  refine lv_goto (tgt := 562) hx hb dLaw_law_479 (by decide) ?_
  refine W.up cc_5.1 cc_5.2 ?_
  exact J _ _ κ1 _ _ _ _ I2 (by omega) (lv_sub hl [2, 3, 4, 5, 6] rfl)
set_option maxHeartbeats 4000000 in
set_option maxRecDepth 100000 in
theorem lc_11 {p : Program} {l : Launch} {e : Env} {s : State} {m : MethodId} {below : List Frame} {meth : Method} {c : Code} {b L : Nat} {xs : Nat → Int32} {γ : gE} {A : Nat → Prop} {m0 : Nat} {q : Nat} {x4 : Int32} {Q : State → Prop} (K : LC l p s m c b L xs γ A m0) (hq : q + 5 ≤ L) (ex4 : x4 = nI q) (J : ∀ (H : Heap) (locs : List Loc) (κ κm : Nat → Nat) (cd : Int32) (g : Nat → Int64) (ls : Array Slot), LI s γ A m0 κ κm cd g H locs → κ 3 = κm 5 → lv_has ls 7 [(0, .ref b), (1, .ref (γ.2.2.2 0)), (2, .ref m0), (3, .ref (m0 + 25)), (4, .int x4)] → W p l e room_1 s m #[Value.ref b] below meth c H locs (CC κ (q + 5)) (SS κ (q + 5)) Q (F0 m 562 ls [])) {H : Heap} {locs : List Loc} {κ κm : Nat → Nat} {cd : Int32} {g : Nat → Int64} {ls : Array Slot} (I : LI s γ A m0 κ κm cd g H locs) (h3 : κ 3 = κm 5) (hl : lv_has ls 7 [(0, .ref b), (1, .ref (γ.2.2.2 0)), (2, .ref m0), (3, .ref (m0 + 25)), (4, .int x4)]) : W p l e room_1 s m #[Value.ref b] below meth c H locs (CC κ q) (SS κ q) Q (F0 m 482 ls []) := by
  obtain ⟨hx, hb, hml, hown, hW⟩ := id K.S
  have hbA : ¬ (fun q : Nat => s.heap.size ≤ q) b := Nat.not_le.mpr K.hbl
  refine lv_aload_n hx hb dLaw_law_482 rfl (lv_at hl 1 rfl) ?_
  refine lv_aload_n hx hb dLaw_law_483 rfl (lv_at hl 0 rfl) ?_
  refine lv_iload hx hb dLaw_law_484 (lv_at hl 4 rfl) ?_
  refine lv_iconst (v := 1) hx hb dLaw_law_486 (by decide) ?_
  refine lv_iadd hx hb dLaw_law_487 ?_
  refine va_sld hx hb K.hX K.hbl hbA I.hS (lw_in K.hL hq ex4 1 (by decide) rfl) dLaw_law_488 ?_
  refine lv_aload_n hx hb dLaw_law_489 rfl (lv_at hl 0 rfl) ?_
  refine lv_iload hx hb dLaw_law_490 (lv_at hl 4 rfl) ?_
  refine lv_iconst (v := 2) hx hb dLaw_law_492 (by decide) ?_
  refine lv_iadd hx hb dLaw_law_493 ?_
  refine va_sld hx hb K.hX K.hbl hbA I.hS (lw_in K.hL hq ex4 2 (by decide) rfl) dLaw_law_494 ?_
  refine lv_aload_n hx hb dLaw_law_495 rfl (lv_at hl 3 rfl) ?_
  refine lc_wrap (RES := fun r κ1 g1 => κ1 3 = κ 3) K I (by have := K.hL; omega) (w_about l K.hst γ A κ s K.hw0 K.hnc K.hA0 H (m0 + 25) K.hAo g (xs (x4 + 1).toNatClampNeg) (xs (x4 + 2).toNatClampNeg)) meLaw_about qw_6e398d7092 ⟨Nat.le_of_ble_eq_true rfl, Nat.le_of_ble_eq_true rfl⟩ rfl hl.1 rfl dLaw_law_496 (fun r H1 h => by obtain ⟨⟨g1, h1⟩, h2⟩ := h; exact ⟨g1, h1, h2⟩) (fun r H1 locs1 κ1 g1 hr I1 => ?_)
  refine lv_istore (lv' := [(5, .int r), (0, .ref b), (1, .ref (γ.2.2.2 0)), (2, .ref m0), (3, .ref (m0 + 25)), (4, .int x4)]) hx hb dLaw_law_499 hl (by decide) rfl (fun ls hl => ?_)
  refine lv_aload_n hx hb dLaw_law_501 rfl (lv_at hl 3 rfl) ?_
  refine lv_aload_n hx hb dLaw_law_502 rfl (lv_at hl 1 rfl) ?_
  refine lv_iload hx hb dLaw_law_503 (lv_at hl 5 rfl) ?_
  refine lv_iconst (v := 1) hx hb dLaw_law_505 (by decide) ?_
  refine lv_iadd hx hb dLaw_law_506 ?_
  refine va_sld hx hb K.hX K.hbl hbA I1.hS (lw_in K.hL hq ex4 1 (by decide) rfl) dLaw_law_507 ?_
  refine lv_aload_n hx hb dLaw_law_508 rfl (lv_at hl 1 rfl) ?_
  refine lv_iload hx hb dLaw_law_509 (lv_at hl 5 rfl) ?_
  refine lv_iconst (v := 2) hx hb dLaw_law_511 (by decide) ?_
  refine lv_iadd hx hb dLaw_law_512 ?_
  refine va_sld hx hb K.hX K.hbl hbA I1.hS (lw_in K.hL hq ex4 2 (by decide) rfl) dLaw_law_513 ?_
  refine lc_model (As := [.int (xs (x4 + 1).toNatClampNeg), .int (xs (x4 + 2).toNatClampNeg)]) (RES := fun r κ2 cd2 => κ2 5 = κm 5) K I1 (fun b0 mn ν τ σ F nu hT hZ hF hG _ => m_about l γ m0 (B0 m0) _ κm b0 mn ν τ σ F nu hT (xs (x4 + 1).toNatClampNeg) (xs (x4 + 2).toNatClampNeg) hZ hF hG) meModel_about rfl qw_c27b3b6113 ⟨Nat.le_of_ble_eq_true rfl, Nat.le_of_ble_eq_true rfl⟩ rfl hl.1 rfl dLaw_law_514 (cc_room1 (ph_le I1.hI) (by have := K.hL; omega)) (fun r H1 h => by obtain ⟨κ2, cd2, h1, h2⟩ := h; exact ⟨κ2, cd2, h2, h1⟩) (fun r2 H2 locs2 κ2 cd2 hr2 I2 => ?_)
  refine lv_istore (lv' := [(6, .int r2), (5, .int r), (0, .ref b), (1, .ref (γ.2.2.2 0)), (2, .ref m0), (3, .ref (m0 + 25)), (4, .int x4)]) hx hb dLaw_law_517 hl (by decide) rfl (fun ls hl => ?_)
  refine lv_goto (tgt := 562) hx hb dLaw_law_519 (by decide) ?_
  refine W.up cc_5.1 cc_5.2 ?_
  exact J _ _ κ1 _ _ _ _ I2 (by omega) (lv_sub hl [2, 3, 4, 5, 6] rfl)
set_option maxHeartbeats 4000000 in
set_option maxRecDepth 100000 in
theorem lc_12 {p : Program} {l : Launch} {e : Env} {s : State} {m : MethodId} {below : List Frame} {meth : Method} {c : Code} {b L : Nat} {xs : Nat → Int32} {γ : gE} {A : Nat → Prop} {m0 : Nat} {q : Nat} {x4 : Int32} {Q : State → Prop} (K : LC l p s m c b L xs γ A m0) (hq : q + 5 ≤ L) (ex4 : x4 = nI q) (J : ∀ (H : Heap) (locs : List Loc) (κ κm : Nat → Nat) (cd : Int32) (g : Nat → Int64) (ls : Array Slot), LI s γ A m0 κ κm cd g H locs → κ 3 = κm 5 → lv_has ls 7 [(0, .ref b), (1, .ref (γ.2.2.2 0)), (2, .ref m0), (3, .ref (m0 + 25)), (4, .int x4)] → W p l e room_1 s m #[Value.ref b] below meth c H locs (CC κ (q + 5)) (SS κ (q + 5)) Q (F0 m 562 ls [])) {H : Heap} {locs : List Loc} {κ κm : Nat → Nat} {cd : Int32} {g : Nat → Int64} {ls : Array Slot} (I : LI s γ A m0 κ κm cd g H locs) (h3 : κ 3 = κm 5) (hl : lv_has ls 7 [(0, .ref b), (1, .ref (γ.2.2.2 0)), (2, .ref m0), (3, .ref (m0 + 25)), (4, .int x4)]) : W p l e room_1 s m #[Value.ref b] below meth c H locs (CC κ q) (SS κ q) Q (F0 m 522 ls []) := by
  obtain ⟨hx, hb, hml, hown, hW⟩ := id K.S
  have hbA : ¬ (fun q : Nat => s.heap.size ≤ q) b := Nat.not_le.mpr K.hbl
  refine lv_aload_n hx hb dLaw_law_522 rfl (lv_at hl 1 rfl) ?_
  refine lv_aload_n hx hb dLaw_law_523 rfl (lv_at hl 0 rfl) ?_
  refine lv_iload hx hb dLaw_law_524 (lv_at hl 4 rfl) ?_
  refine lv_iconst (v := 1) hx hb dLaw_law_526 (by decide) ?_
  refine lv_iadd hx hb dLaw_law_527 ?_
  refine va_sld hx hb K.hX K.hbl hbA I.hS (lw_in K.hL hq ex4 1 (by decide) rfl) dLaw_law_528 ?_
  refine lv_aload_n hx hb dLaw_law_529 rfl (lv_at hl 0 rfl) ?_
  refine lv_iload hx hb dLaw_law_530 (lv_at hl 4 rfl) ?_
  refine lv_iconst (v := 2) hx hb dLaw_law_532 (by decide) ?_
  refine lv_iadd hx hb dLaw_law_533 ?_
  refine va_sld hx hb K.hX K.hbl hbA I.hS (lw_in K.hL hq ex4 2 (by decide) rfl) dLaw_law_534 ?_
  refine lv_aload_n hx hb dLaw_law_535 rfl (lv_at hl 3 rfl) ?_
  refine lc_wrap (RES := fun r κ1 g1 => κ1 3 = κ 3) K I (by have := K.hL; omega) (w_value l K.hst γ A κ s K.hw0 K.hnc K.hA0 H (m0 + 25) K.hAo g (xs (x4 + 1).toNatClampNeg) (xs (x4 + 2).toNatClampNeg)) meLaw_value qw_d0b1c4e36c ⟨Nat.le_of_ble_eq_true rfl, Nat.le_of_ble_eq_true rfl⟩ rfl hl.1 rfl dLaw_law_536 (fun r H1 h => by obtain ⟨⟨g1, h1⟩, h2⟩ := h; exact ⟨g1, h1, h2⟩) (fun r H1 locs1 κ1 g1 hr I1 => ?_)
  refine lv_istore (lv' := [(5, .int r), (0, .ref b), (1, .ref (γ.2.2.2 0)), (2, .ref m0), (3, .ref (m0 + 25)), (4, .int x4)]) hx hb dLaw_law_539 hl (by decide) rfl (fun ls hl => ?_)
  refine lv_aload_n hx hb dLaw_law_541 rfl (lv_at hl 3 rfl) ?_
  refine lv_aload_n hx hb dLaw_law_542 rfl (lv_at hl 1 rfl) ?_
  refine lv_iload hx hb dLaw_law_543 (lv_at hl 5 rfl) ?_
  refine lv_iconst (v := 1) hx hb dLaw_law_545 (by decide) ?_
  refine lv_iadd hx hb dLaw_law_546 ?_
  refine va_sld hx hb K.hX K.hbl hbA I1.hS (lw_in K.hL hq ex4 1 (by decide) rfl) dLaw_law_547 ?_
  refine lv_aload_n hx hb dLaw_law_548 rfl (lv_at hl 1 rfl) ?_
  refine lv_iload hx hb dLaw_law_549 (lv_at hl 5 rfl) ?_
  refine lv_iconst (v := 2) hx hb dLaw_law_551 (by decide) ?_
  refine lv_iadd hx hb dLaw_law_552 ?_
  refine va_sld hx hb K.hX K.hbl hbA I1.hS (lw_in K.hL hq ex4 2 (by decide) rfl) dLaw_law_553 ?_
  refine lc_model (As := [.int (xs (x4 + 1).toNatClampNeg), .int (xs (x4 + 2).toNatClampNeg)]) (RES := fun r κ2 cd2 => κ2 5 = κm 5) K I1 (fun b0 mn ν τ σ F nu hT hZ hF hG _ => m_value l γ m0 (B0 m0) _ κm b0 mn ν τ σ F nu hT (xs (x4 + 1).toNatClampNeg) (xs (x4 + 2).toNatClampNeg) hZ hF hG) meModel_value rfl qw_6253d5c13d ⟨Nat.le_of_ble_eq_true rfl, Nat.le_of_ble_eq_true rfl⟩ rfl hl.1 rfl dLaw_law_554 (cc_room1 (ph_le I1.hI) (by have := K.hL; omega)) (fun r H1 h => by obtain ⟨κ2, cd2, h1, h2⟩ := h; exact ⟨κ2, cd2, h2, h1⟩) (fun r2 H2 locs2 κ2 cd2 hr2 I2 => ?_)
  refine lv_istore (lv' := [(6, .int r2), (5, .int r), (0, .ref b), (1, .ref (γ.2.2.2 0)), (2, .ref m0), (3, .ref (m0 + 25)), (4, .int x4)]) hx hb dLaw_law_557 hl (by decide) rfl (fun ls hl => ?_)
  refine lv_goto (tgt := 562) hx hb dLaw_law_559 (by decide) ?_
  refine W.up cc_5.1 cc_5.2 ?_
  exact J _ _ κ1 _ _ _ _ I2 (by omega) (lv_sub hl [2, 3, 4, 5, 6] rfl)
