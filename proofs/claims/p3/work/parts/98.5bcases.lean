theorem qw_70d2ddefbe : (Cond.methodLink R_Law 57 yLaw_add) ∈ bs_W0 := bs_in (in_tables_1_2 (List.mem_of_getElem? (i := 86) rfl)) rfl
theorem qw_b5f338fe66 : (Cond.methodLink R_Law 62 yModel_add) ∈ bs_W0 := bs_in (in_tables_1_6 (List.mem_of_getElem? (i := 20) rfl)) rfl
theorem qw_b20f6a16b6 : (Cond.methodLink R_Law 63 yTypeBook_clear) ∈ bs_W0 := bs_in (in_tables_1_2 (List.mem_of_getElem? (i := 74) rfl)) rfl
theorem qw_722a39bd15 : (Cond.methodLink R_Law 66 yModel_clear) ∈ bs_W0 := bs_in (in_tables_1_6 (List.mem_of_getElem? (i := 27) rfl)) rfl
theorem qw_024e23bb92 : (Cond.methodLink R_Law 67 yLaw_enter) ∈ bs_W0 := bs_in (in_tables_1_2 (List.mem_of_getElem? (i := 230) rfl)) rfl
theorem qw_3972cb422a : (Cond.methodLink R_Law 70 yModel_enter) ∈ bs_W0 := bs_in (in_tables_1_6 (List.mem_of_getElem? (i := 31) rfl)) rfl
theorem qw_0870710788 : (Cond.methodLink R_Law 71 yLaw_leave) ∈ bs_W0 := bs_in (in_tables_1_3 (List.mem_of_getElem? (i := 2) rfl)) rfl
theorem qw_46afa56bf9 : (Cond.methodLink R_Law 73 yModel_leave) ∈ bs_W0 := bs_in (in_tables_1_6 (List.mem_of_getElem? (i := 35) rfl)) rfl
theorem qw_0c4280106c : (Cond.methodLink R_Law 74 yLaw_type) ∈ bs_W0 := bs_in (in_tables_1_3 (List.mem_of_getElem? (i := 14) rfl)) rfl
theorem qw_4ebb7ed85d : (Cond.methodLink R_Law 77 yModel_type) ∈ bs_W0 := bs_in (in_tables_1_6 (List.mem_of_getElem? (i := 39) rfl)) rfl
theorem qw_ddc0cd02d5 : (Cond.methodLink R_Law 78 yLaw_enumeration) ∈ bs_W0 := bs_in (in_tables_1_5 (List.mem_of_getElem? (i := 10) rfl)) rfl
theorem qw_71b525f37d : (Cond.methodLink R_Law 80 yModel_enumeration) ∈ bs_W0 := bs_in (in_tables_1_6 (List.mem_of_getElem? (i := 207) rfl)) rfl
theorem qw_dfdad7d990 : (Cond.methodLink R_Law 81 yLaw_subtype) ∈ bs_W0 := bs_in (in_tables_1_5 (List.mem_of_getElem? (i := 44) rfl)) rfl
theorem qw_7f175f9fcc : (Cond.methodLink R_Law 84 yModel_subtype) ∈ bs_W0 := bs_in (in_tables_1_6 (List.mem_of_getElem? (i := 219) rfl)) rfl
theorem qw_92a1c8ddd1 : (Cond.methodLink R_Law 85 yLaw_declare) ∈ bs_W0 := bs_in (in_tables_1_5 (List.mem_of_getElem? (i := 54) rfl)) rfl
theorem qw_cce4fe4997 : (Cond.methodLink R_Law 88 yModel_declare) ∈ bs_W0 := bs_in (in_tables_1_6 (List.mem_of_getElem? (i := 227) rfl)) rfl
theorem qw_4146e1e6a3 : (Cond.methodLink R_Law 89 yLaw_check) ∈ bs_W0 := bs_in (in_tables_1_5 (List.mem_of_getElem? (i := 96) rfl)) rfl
theorem qw_791b948204 : (Cond.methodLink R_Law 91 yModel_check) ∈ bs_W0 := bs_in (in_tables_1_6 (List.mem_of_getElem? (i := 235) rfl)) rfl
theorem qw_a0b9b8900a : (Cond.methodLink R_Law 92 yTypeBook_place) ∈ bs_W0 := bs_in (in_tables_1_2 (List.mem_of_getElem? (i := 82) rfl)) rfl
theorem qw_deca89feaf : (Cond.methodLink R_Law 95 yModel_place) ∈ bs_W0 := bs_in (in_tables_1_6 (List.mem_of_getElem? (i := 239) rfl)) rfl
theorem qw_02fa55126c : (Cond.methodLink R_Law 96 yLaw_typeOf) ∈ bs_W0 := bs_in (in_tables_1_5 (List.mem_of_getElem? (i := 104) rfl)) rfl
theorem qw_80badc1e51 : (Cond.methodLink R_Law 98 yModel_typeOf) ∈ bs_W0 := bs_in (in_tables_1_7 (List.mem_of_getElem? (i := 3) rfl)) rfl
theorem qw_9858333207 : (Cond.methodLink R_Law 99 yLaw_about) ∈ bs_W0 := bs_in (in_tables_1_5 (List.mem_of_getElem? (i := 117) rfl)) rfl
theorem qw_d20dbc44b2 : (Cond.methodLink R_Law 101 yModel_about) ∈ bs_W0 := bs_in (in_tables_1_7 (List.mem_of_getElem? (i := 7) rfl)) rfl
theorem qw_f805544bb6 : (Cond.methodLink R_Law 102 yLaw_value) ∈ bs_W0 := bs_in (in_tables_1_5 (List.mem_of_getElem? (i := 129) rfl)) rfl
theorem qw_ab55c756e9 : (Cond.methodLink R_Law 104 yModel_value) ∈ bs_W0 := bs_in (in_tables_1_7 (List.mem_of_getElem? (i := 11) rfl)) rfl
set_option maxHeartbeats 4000000 in
set_option maxRecDepth 100000 in
theorem lc_0 {p : Program} {l : Launch} {e : Env} {s : State} {m : MethodId} {below : List Frame} {meth : Method} {c : Code} {b L : Nat} {xs : Nat → Int32} {γ : gE} {A : Nat → Prop} {m0 : Nat} {q : Nat} {x4 : Int32} {Q : State → Prop} (K : LC l p s m c b L xs γ A m0) (hq : q + 5 ≤ L) (ex4 : x4 = nI q) (J : ∀ (H : Heap) (locs : List Loc) (κ κm : Nat → Nat) (cd : Int32) (g : Nat → Int64) (ls : Array Slot), LI s γ A m0 κ κm cd g H locs → EQ3 κ κm → lv_has ls 7 [(0, .ref b), (1, .ref (γ.2.2.2 0)), (2, .ref m0), (3, .ref (m0 + 25)), (4, .int x4)] → W p l e room_1 s m #[Value.ref b] below meth c H locs (CC κ (q + 5)) (SS κ (q + 5)) Q (F0 m 534 ls [])) {H : Heap} {locs : List Loc} {κ κm : Nat → Nat} {cd : Int32} {g : Nat → Int64} {ls : Array Slot} (I : LI s γ A m0 κ κm cd g H locs) (h3 : EQ3 κ κm) (hl : lv_has ls 7 [(0, .ref b), (1, .ref (γ.2.2.2 0)), (2, .ref m0), (3, .ref (m0 + 25)), (4, .int x4)]) : W p l e room_1 s m #[Value.ref b] below meth c H locs (CC κ q) (SS κ q) Q (F0 m 104 ls []) := by
  obtain ⟨hx, hb, hml, hown, hW⟩ := id K.S
  have hbA : ¬ (fun q : Nat => s.heap.size ≤ q) b := Nat.not_le.mpr K.hbl
  refine lv_aload_n hx hb dLaw_law_104 rfl (lv_at hl 1 rfl) ?_
  refine lv_aload_n hx hb dLaw_law_105 rfl (lv_at hl 0 rfl) ?_
  refine lv_iload hx hb dLaw_law_106 (lv_at hl 4 rfl) ?_
  refine lv_iconst (v := 1) hx hb dLaw_law_108 (by decide) ?_
  refine lv_iadd hx hb dLaw_law_109 ?_
  refine va_sld hx hb K.hX K.hbl hbA I.hS (lw_in K.hL hq ex4 1 (by decide) rfl) dLaw_law_110 ?_
  refine lv_aload_n hx hb dLaw_law_111 rfl (lv_at hl 0 rfl) ?_
  refine lv_iload hx hb dLaw_law_112 (lv_at hl 4 rfl) ?_
  refine lv_iconst (v := 2) hx hb dLaw_law_114 (by decide) ?_
  refine lv_iadd hx hb dLaw_law_115 ?_
  refine va_sld hx hb K.hX K.hbl hbA I.hS (lw_in K.hL hq ex4 2 (by decide) rfl) dLaw_law_116 ?_
  refine lv_aload_n hx hb dLaw_law_117 rfl (lv_at hl 0 rfl) ?_
  refine lv_iload hx hb dLaw_law_118 (lv_at hl 4 rfl) ?_
  refine lv_iconst (v := 3) hx hb dLaw_law_120 (by decide) ?_
  refine lv_iadd hx hb dLaw_law_121 ?_
  refine va_sld hx hb K.hX K.hbl hbA I.hS (lw_in K.hL hq ex4 3 (by decide) rfl) dLaw_law_122 ?_
  refine lv_aload_n hx hb dLaw_law_123 rfl (lv_at hl 3 rfl) ?_
  refine lc_wrap (RES := fun r κ1 g1 => ADR κ κ1 r (g1 0) (xs (x4 + 1).toNatClampNeg) (xs (x4 + 2).toNatClampNeg) (xs (x4 + 3).toNatClampNeg)) K I (by have := K.hL; omega) (w_add l K.hst γ A κ s K.hw0 K.hnc K.hA0 H (m0 + 25) K.hAo g (xs (x4 + 1).toNatClampNeg) (xs (x4 + 2).toNatClampNeg) (xs (x4 + 3).toNatClampNeg)) meLaw_add qw_70d2ddefbe ⟨Nat.le_of_ble_eq_true rfl, Nat.le_of_ble_eq_true rfl⟩ rfl hl.1 rfl dLaw_law_124 (fun r H1 h => h.elim (fun ⟨h1, h2, ⟨g1, h3, h4⟩, h5⟩ => ⟨g1, h3, h5.mono (fun k h => Or.inl ⟨h1, h2, h4, h⟩)⟩) (fun ⟨h1, ⟨g1, h3⟩, h5⟩ => ⟨g1, h3, h5.mono (fun k h => Or.inr ⟨h1, h⟩)⟩)) (fun r H1 locs1 κ1 g1 hr I1 => ?_)
  refine lv_istore (lv' := [(5, .int r), (0, .ref b), (1, .ref (γ.2.2.2 0)), (2, .ref m0), (3, .ref (m0 + 25)), (4, .int x4)]) hx hb dLaw_law_127 hl (by decide) rfl (fun ls hl => ?_)
  refine lv_aload_n hx hb dLaw_law_129 rfl (lv_at hl 3 rfl) ?_
  refine lv_aload_n hx hb dLaw_law_130 rfl (lv_at hl 1 rfl) ?_
  refine lv_iload hx hb dLaw_law_131 (lv_at hl 5 rfl) ?_
  refine lv_iconst (v := 1) hx hb dLaw_law_133 (by decide) ?_
  refine lv_iadd hx hb dLaw_law_134 ?_
  refine va_sld hx hb K.hX K.hbl hbA I1.hS (lw_in K.hL hq ex4 1 (by decide) rfl) dLaw_law_135 ?_
  refine lv_aload_n hx hb dLaw_law_136 rfl (lv_at hl 1 rfl) ?_
  refine lv_iload hx hb dLaw_law_137 (lv_at hl 5 rfl) ?_
  refine lv_iconst (v := 2) hx hb dLaw_law_139 (by decide) ?_
  refine lv_iadd hx hb dLaw_law_140 ?_
  refine va_sld hx hb K.hX K.hbl hbA I1.hS (lw_in K.hL hq ex4 2 (by decide) rfl) dLaw_law_141 ?_
  refine lv_aload_n hx hb dLaw_law_142 rfl (lv_at hl 1 rfl) ?_
  refine lv_iload hx hb dLaw_law_143 (lv_at hl 5 rfl) ?_
  refine lv_iconst (v := 3) hx hb dLaw_law_145 (by decide) ?_
  refine lv_iadd hx hb dLaw_law_146 ?_
  refine va_sld hx hb K.hX K.hbl hbA I1.hS (lw_in K.hL hq ex4 3 (by decide) rfl) dLaw_law_147 ?_
  refine lc_model (rest := []) (As := [.int (xs (x4 + 1).toNatClampNeg), .int (xs (x4 + 2).toNatClampNeg), .int (xs (x4 + 3).toNatClampNeg)]) (RES := fun r κ2 cd2 => ADM κm κ2 r cd2 (xs (x4 + 1).toNatClampNeg) (xs (x4 + 2).toNatClampNeg) (xs (x4 + 3).toNatClampNeg)) K I1 (fun b0 mn ν τ σ F nu hT hZ hF hG _ => m_add l γ m0 (B0 m0) _ κm b0 mn ν τ σ F nu hT (xs (x4 + 1).toNatClampNeg) (xs (x4 + 2).toNatClampNeg) (xs (x4 + 3).toNatClampNeg) hZ hF hG) meModel_add rfl qw_b5f338fe66 ⟨Nat.le_of_ble_eq_true rfl, Nat.le_of_ble_eq_true rfl⟩ rfl hl.1 rfl (Nat.le_of_ble_eq_true rfl) dLaw_law_148 (cc_room1 (ph_le I1.hI) (by have := K.hL; omega)) (fun r H1 h => h.elim (fun ⟨h1, h2⟩ => ⟨_, _, h2, Or.inl ⟨h1, rfl, rfl⟩⟩) (fun h => h.elim (fun ⟨h1, h2, h3⟩ => ⟨_, _, h3, Or.inr (Or.inl ⟨h1, h2, rfl, rfl⟩)⟩) (fun ⟨h1, h2, h3, κ2, h4, h5, h6, h7⟩ => ⟨κ2, _, h7, Or.inr (Or.inr ⟨h1, h2, h3, h4, h5, h6, rfl⟩)⟩))) (fun r2 H2 locs2 κ2 cd2 hr2 I2 => ?_)
  obtain ⟨hcd, hgr, heq⟩ := cmp_add h3 (hb8 I) hr hr2
  refine lv_istore (lv' := [(6, .int r2), (5, .int r), (0, .ref b), (1, .ref (γ.2.2.2 0)), (2, .ref m0), (3, .ref (m0 + 25)), (4, .int x4)]) hx hb dLaw_law_151 hl (by decide) rfl (fun ls hl => ?_)
  refine lv_goto (tgt := 534) hx hb dLaw_law_153 (by decide) ?_
  refine W.up cc_5.1 cc_5.2 ?_
  exact J _ _ κ1 _ _ _ _ I2 heq (lv_sub hl [2, 3, 4, 5, 6] rfl)
set_option maxHeartbeats 4000000 in
set_option maxRecDepth 100000 in
theorem lc_1 {p : Program} {l : Launch} {e : Env} {s : State} {m : MethodId} {below : List Frame} {meth : Method} {c : Code} {b L : Nat} {xs : Nat → Int32} {γ : gE} {A : Nat → Prop} {m0 : Nat} {q : Nat} {x4 : Int32} {Q : State → Prop} (K : LC l p s m c b L xs γ A m0) (hq : q + 5 ≤ L) (ex4 : x4 = nI q) (J : ∀ (H : Heap) (locs : List Loc) (κ κm : Nat → Nat) (cd : Int32) (g : Nat → Int64) (ls : Array Slot), LI s γ A m0 κ κm cd g H locs → EQ3 κ κm → lv_has ls 7 [(0, .ref b), (1, .ref (γ.2.2.2 0)), (2, .ref m0), (3, .ref (m0 + 25)), (4, .int x4)] → W p l e room_1 s m #[Value.ref b] below meth c H locs (CC κ (q + 5)) (SS κ (q + 5)) Q (F0 m 534 ls [])) {H : Heap} {locs : List Loc} {κ κm : Nat → Nat} {cd : Int32} {g : Nat → Int64} {ls : Array Slot} (I : LI s γ A m0 κ κm cd g H locs) (h3 : EQ3 κ κm) (hl : lv_has ls 7 [(0, .ref b), (1, .ref (γ.2.2.2 0)), (2, .ref m0), (3, .ref (m0 + 25)), (4, .int x4)]) : W p l e room_1 s m #[Value.ref b] below meth c H locs (CC κ q) (SS κ q) Q (F0 m 156 ls []) := by
  obtain ⟨hx, hb, hml, hown, hW⟩ := id K.S
  have hbA : ¬ (fun q : Nat => s.heap.size ≤ q) b := Nat.not_le.mpr K.hbl
  refine lv_aload_n hx hb dLaw_law_156 rfl (lv_at hl 1 rfl) ?_
  refine lc_clear K I hl.1 qw_b20f6a16b6 dLaw_law_157 (by have h9 := cc_room (q := q) (ph_le I.hI) (by have := K.hL; omega); exact ⟨Nat.le_trans (Nat.le_add_right _ _) h9.1, Nat.le_trans (Nat.le_add_right _ _) h9.2⟩) (fun r H1 locs1 hr I1 => ?_)
  refine lv_aload_n hx hb dLaw_law_160 rfl (lv_at hl 2 rfl) ?_
  refine lc_model (rest := [.int r]) (As := []) (RES := fun r κ2 cd2 => r = nI (κm 0) ∧ κ2 = ku (ku κm 0 0) 1 0) K I1 (fun b0 mn ν τ σ F nu hT hZ hF hG _ => m_clear l γ m0 (B0 m0) _ κm b0 mn ν τ σ F nu hT  hZ hF hG) meModel_clear rfl qw_722a39bd15 ⟨Nat.le_of_ble_eq_true rfl, Nat.le_of_ble_eq_true rfl⟩ rfl hl.1 rfl (Nat.le_of_ble_eq_true rfl) dLaw_law_161 (by have h9 := cc_room (q := q) (ph_le I1.hI) (by have := K.hL; omega); exact ⟨Nat.le_trans (Nat.le_add_right _ _) h9.1, Nat.le_trans (Nat.le_add_right _ _) h9.2⟩) (fun r H1 h => by obtain ⟨h1, cd2, h2⟩ := h; exact ⟨_, cd2, h2, h1, rfl⟩) (fun r2 H2 locs2 κ2 cd2 hr2 I2 => ?_)
  refine lv_icmp_eq (tgt := 534) hx hb dLaw_law_164 (by decide) (fun c1 => ?_) (fun c1 => absurd (by rw [hr, hr2.1, h3.2.1]) c1)
  refine W.up (Nat.le_trans (Nat.le_succ _) cc_5.1) (Nat.le_trans (Nat.le_add_right _ 6) cc_5.2) ?_
  exact J _ _ (ku (ku κ 0 0) 1 0) _ _ _ _ I2 (by rw [hr2.2]; exact ⟨h3.1, rfl, rfl⟩) (lv_sub hl [0, 1, 2, 3, 4] rfl)
set_option maxHeartbeats 4000000 in
set_option maxRecDepth 100000 in
theorem lc_2 {p : Program} {l : Launch} {e : Env} {s : State} {m : MethodId} {below : List Frame} {meth : Method} {c : Code} {b L : Nat} {xs : Nat → Int32} {γ : gE} {A : Nat → Prop} {m0 : Nat} {q : Nat} {x4 : Int32} {Q : State → Prop} (K : LC l p s m c b L xs γ A m0) (hq : q + 5 ≤ L) (ex4 : x4 = nI q) (J : ∀ (H : Heap) (locs : List Loc) (κ κm : Nat → Nat) (cd : Int32) (g : Nat → Int64) (ls : Array Slot), LI s γ A m0 κ κm cd g H locs → EQ3 κ κm → lv_has ls 7 [(0, .ref b), (1, .ref (γ.2.2.2 0)), (2, .ref m0), (3, .ref (m0 + 25)), (4, .int x4)] → W p l e room_1 s m #[Value.ref b] below meth c H locs (CC κ (q + 5)) (SS κ (q + 5)) Q (F0 m 534 ls [])) {H : Heap} {locs : List Loc} {κ κm : Nat → Nat} {cd : Int32} {g : Nat → Int64} {ls : Array Slot} (I : LI s γ A m0 κ κm cd g H locs) (h3 : EQ3 κ κm) (hl : lv_has ls 7 [(0, .ref b), (1, .ref (γ.2.2.2 0)), (2, .ref m0), (3, .ref (m0 + 25)), (4, .int x4)]) : W p l e room_1 s m #[Value.ref b] below meth c H locs (CC κ q) (SS κ q) Q (F0 m 169 ls []) := by
  obtain ⟨hx, hb, hml, hown, hW⟩ := id K.S
  have hbA : ¬ (fun q : Nat => s.heap.size ≤ q) b := Nat.not_le.mpr K.hbl
  refine lv_aload_n hx hb dLaw_law_169 rfl (lv_at hl 1 rfl) ?_
  refine lv_aload_n hx hb dLaw_law_170 rfl (lv_at hl 3 rfl) ?_
  refine lc_wrap (RES := fun r κ1 g1 => ENR κ κ1 r (g1 0)) K I (by have := K.hL; omega) (w_enter l K.hst γ A κ s K.hw0 K.hnc K.hA0 H (m0 + 25) K.hAo g ) meLaw_enter qw_024e23bb92 ⟨Nat.le_of_ble_eq_true rfl, Nat.le_of_ble_eq_true rfl⟩ rfl hl.1 rfl dLaw_law_171 (fun r H1 h => h.elim (fun ⟨h1, h2, ⟨g1, h3, h4⟩, h5⟩ => ⟨g1, h3, h5.mono (fun k h => Or.inl ⟨h1, h2, h4, h⟩)⟩) (fun ⟨h1, h2, ⟨g1, h3⟩, h5⟩ => ⟨g1, h3, h5.mono (fun k h => Or.inr ⟨h1, h2, h⟩)⟩)) (fun r H1 locs1 κ1 g1 hr I1 => ?_)
  refine lv_istore (lv' := [(5, .int r), (0, .ref b), (1, .ref (γ.2.2.2 0)), (2, .ref m0), (3, .ref (m0 + 25)), (4, .int x4)]) hx hb dLaw_law_174 hl (by decide) rfl (fun ls hl => ?_)
  refine lv_aload_n hx hb dLaw_law_176 rfl (lv_at hl 3 rfl) ?_
  refine lc_model (rest := []) (As := []) (RES := fun r κ2 cd2 => ENM κm κ2 r cd2) K I1 (fun b0 mn ν τ σ F nu hT hZ hF hG _ => m_enter l γ m0 (B0 m0) _ κm b0 mn ν τ σ F nu hT  hZ hF hG) meModel_enter rfl qw_3972cb422a ⟨Nat.le_of_ble_eq_true rfl, Nat.le_of_ble_eq_true rfl⟩ rfl hl.1 rfl (Nat.le_of_ble_eq_true rfl) dLaw_law_177 (cc_room1 (ph_le I1.hI) (by have := K.hL; omega)) (fun r H1 h => h.elim (fun ⟨h1, h2⟩ => ⟨_, _, h2, Or.inl ⟨h1, rfl, rfl⟩⟩) (fun ⟨h1, h2, h3⟩ => ⟨_, _, h3, Or.inr ⟨h1, h2, ⟨rfl, rfl, rfl⟩, rfl⟩⟩)) (fun r2 H2 locs2 κ2 cd2 hr2 I2 => ?_)
  obtain ⟨hcd, hgr, heq⟩ := cmp_enter h3 (hb8 I) hr hr2
  refine lv_istore (lv' := [(6, .int r2), (5, .int r), (0, .ref b), (1, .ref (γ.2.2.2 0)), (2, .ref m0), (3, .ref (m0 + 25)), (4, .int x4)]) hx hb dLaw_law_180 hl (by decide) rfl (fun ls hl => ?_)
  refine lv_goto (tgt := 534) hx hb dLaw_law_182 (by decide) ?_
  refine W.up cc_5.1 cc_5.2 ?_
  exact J _ _ κ1 _ _ _ _ I2 heq (lv_sub hl [2, 3, 4, 5, 6] rfl)
set_option maxHeartbeats 4000000 in
set_option maxRecDepth 100000 in
theorem lc_3 {p : Program} {l : Launch} {e : Env} {s : State} {m : MethodId} {below : List Frame} {meth : Method} {c : Code} {b L : Nat} {xs : Nat → Int32} {γ : gE} {A : Nat → Prop} {m0 : Nat} {q : Nat} {x4 : Int32} {Q : State → Prop} (K : LC l p s m c b L xs γ A m0) (hq : q + 5 ≤ L) (ex4 : x4 = nI q) (J : ∀ (H : Heap) (locs : List Loc) (κ κm : Nat → Nat) (cd : Int32) (g : Nat → Int64) (ls : Array Slot), LI s γ A m0 κ κm cd g H locs → EQ3 κ κm → lv_has ls 7 [(0, .ref b), (1, .ref (γ.2.2.2 0)), (2, .ref m0), (3, .ref (m0 + 25)), (4, .int x4)] → W p l e room_1 s m #[Value.ref b] below meth c H locs (CC κ (q + 5)) (SS κ (q + 5)) Q (F0 m 534 ls [])) {H : Heap} {locs : List Loc} {κ κm : Nat → Nat} {cd : Int32} {g : Nat → Int64} {ls : Array Slot} (I : LI s γ A m0 κ κm cd g H locs) (h3 : EQ3 κ κm) (hl : lv_has ls 7 [(0, .ref b), (1, .ref (γ.2.2.2 0)), (2, .ref m0), (3, .ref (m0 + 25)), (4, .int x4)]) : W p l e room_1 s m #[Value.ref b] below meth c H locs (CC κ q) (SS κ q) Q (F0 m 185 ls []) := by
  obtain ⟨hx, hb, hml, hown, hW⟩ := id K.S
  have hbA : ¬ (fun q : Nat => s.heap.size ≤ q) b := Nat.not_le.mpr K.hbl
  refine lv_aload_n hx hb dLaw_law_185 rfl (lv_at hl 1 rfl) ?_
  refine lv_aload_n hx hb dLaw_law_186 rfl (lv_at hl 3 rfl) ?_
  refine lc_wrap (RES := fun r κ1 g1 => LVR κ κ1 r (g1 0)) K I (by have := K.hL; omega) (w_leave l K.hst γ A κ s K.hw0 K.hnc K.hA0 H (m0 + 25) K.hAo g ) meLaw_leave qw_0870710788 ⟨Nat.le_of_ble_eq_true rfl, Nat.le_of_ble_eq_true rfl⟩ rfl hl.1 rfl dLaw_law_187 (fun r H1 h => h.elim (fun ⟨h1, h2, ⟨g1, h3, h4⟩, h5⟩ => ⟨g1, h3, h5.mono (fun k h => Or.inl ⟨h1, h2, h4, h⟩)⟩) (fun ⟨h1, h2, ⟨g1, h3⟩, h5⟩ => ⟨g1, h3, h5.mono (fun k h => Or.inr ⟨h1, h2, h⟩)⟩)) (fun r H1 locs1 κ1 g1 hr I1 => ?_)
  refine lv_istore (lv' := [(5, .int r), (0, .ref b), (1, .ref (γ.2.2.2 0)), (2, .ref m0), (3, .ref (m0 + 25)), (4, .int x4)]) hx hb dLaw_law_190 hl (by decide) rfl (fun ls hl => ?_)
  refine lv_aload_n hx hb dLaw_law_192 rfl (lv_at hl 3 rfl) ?_
  refine lc_model (rest := []) (As := []) (RES := fun r κ2 cd2 => LVM κm κ2 r cd2) K I1 (fun b0 mn ν τ σ F nu hT hZ hF hG _ => m_leave l γ m0 (B0 m0) _ κm b0 mn ν τ σ F nu hT  hZ hF hG) meModel_leave rfl qw_46afa56bf9 ⟨Nat.le_of_ble_eq_true rfl, Nat.le_of_ble_eq_true rfl⟩ rfl hl.1 rfl (Nat.le_of_ble_eq_true rfl) dLaw_law_193 (cc_room1 (ph_le I1.hI) (by have := K.hL; omega)) (fun r H1 h => h.elim (fun ⟨h1, h2⟩ => ⟨_, _, h2, Or.inl ⟨h1, rfl, rfl⟩⟩) (fun ⟨h1, h4, κ2, h2, h3⟩ => ⟨_, _, h3, Or.inr ⟨h1, h4, h2, rfl⟩⟩)) (fun r2 H2 locs2 κ2 cd2 hr2 I2 => ?_)
  obtain ⟨hcd, hgr, heq⟩ := cmp_leave h3 (hb8 I) hr hr2
  refine lv_istore (lv' := [(6, .int r2), (5, .int r), (0, .ref b), (1, .ref (γ.2.2.2 0)), (2, .ref m0), (3, .ref (m0 + 25)), (4, .int x4)]) hx hb dLaw_law_196 hl (by decide) rfl (fun ls hl => ?_)
  refine lv_goto (tgt := 534) hx hb dLaw_law_198 (by decide) ?_
  refine W.up cc_5.1 cc_5.2 ?_
  exact J _ _ κ1 _ _ _ _ I2 heq (lv_sub hl [2, 3, 4, 5, 6] rfl)
set_option maxHeartbeats 4000000 in
set_option maxRecDepth 100000 in
theorem lc_4 {p : Program} {l : Launch} {e : Env} {s : State} {m : MethodId} {below : List Frame} {meth : Method} {c : Code} {b L : Nat} {xs : Nat → Int32} {γ : gE} {A : Nat → Prop} {m0 : Nat} {q : Nat} {x4 : Int32} {Q : State → Prop} (K : LC l p s m c b L xs γ A m0) (hq : q + 5 ≤ L) (ex4 : x4 = nI q) (J : ∀ (H : Heap) (locs : List Loc) (κ κm : Nat → Nat) (cd : Int32) (g : Nat → Int64) (ls : Array Slot), LI s γ A m0 κ κm cd g H locs → EQ3 κ κm → lv_has ls 7 [(0, .ref b), (1, .ref (γ.2.2.2 0)), (2, .ref m0), (3, .ref (m0 + 25)), (4, .int x4)] → W p l e room_1 s m #[Value.ref b] below meth c H locs (CC κ (q + 5)) (SS κ (q + 5)) Q (F0 m 534 ls [])) {H : Heap} {locs : List Loc} {κ κm : Nat → Nat} {cd : Int32} {g : Nat → Int64} {ls : Array Slot} (I : LI s γ A m0 κ κm cd g H locs) (h3 : EQ3 κ κm) (hl : lv_has ls 7 [(0, .ref b), (1, .ref (γ.2.2.2 0)), (2, .ref m0), (3, .ref (m0 + 25)), (4, .int x4)]) : W p l e room_1 s m #[Value.ref b] below meth c H locs (CC κ q) (SS κ q) Q (F0 m 201 ls []) := by
  obtain ⟨hx, hb, hml, hown, hW⟩ := id K.S
  have hbA : ¬ (fun q : Nat => s.heap.size ≤ q) b := Nat.not_le.mpr K.hbl
  refine lv_aload_n hx hb dLaw_law_201 rfl (lv_at hl 1 rfl) ?_
  refine lv_aload_n hx hb dLaw_law_202 rfl (lv_at hl 0 rfl) ?_
  refine lv_iload hx hb dLaw_law_203 (lv_at hl 4 rfl) ?_
  refine lv_iconst (v := 1) hx hb dLaw_law_205 (by decide) ?_
  refine lv_iadd hx hb dLaw_law_206 ?_
  refine va_sld hx hb K.hX K.hbl hbA I.hS (lw_in K.hL hq ex4 1 (by decide) rfl) dLaw_law_207 ?_
  refine lv_aload_n hx hb dLaw_law_208 rfl (lv_at hl 3 rfl) ?_
  refine lc_wrap (RES := fun r κ1 g1 => κ1 3 = κ 3 ∧ κ1 0 = κ 0 ∧ κ1 1 = κ 1) K I (by have := K.hL; omega) (w_type l K.hst γ A κ s K.hw0 K.hnc K.hA0 H (m0 + 25) K.hAo g (xs (x4 + 1).toNatClampNeg)) meLaw_type qw_0c4280106c ⟨Nat.le_of_ble_eq_true rfl, Nat.le_of_ble_eq_true rfl⟩ rfl hl.1 rfl dLaw_law_209 (fun r H1 h => by obtain ⟨⟨g1, h1⟩, h2⟩ := h; exact ⟨g1, h1, h2⟩) (fun r H1 locs1 κ1 g1 hr I1 => ?_)
  refine lv_istore (lv' := [(5, .int r), (0, .ref b), (1, .ref (γ.2.2.2 0)), (2, .ref m0), (3, .ref (m0 + 25)), (4, .int x4)]) hx hb dLaw_law_212 hl (by decide) rfl (fun ls hl => ?_)
  refine lv_aload_n hx hb dLaw_law_214 rfl (lv_at hl 3 rfl) ?_
  refine lv_aload_n hx hb dLaw_law_215 rfl (lv_at hl 1 rfl) ?_
  refine lv_iload hx hb dLaw_law_216 (lv_at hl 5 rfl) ?_
  refine lv_iconst (v := 1) hx hb dLaw_law_218 (by decide) ?_
  refine lv_iadd hx hb dLaw_law_219 ?_
  refine va_sld hx hb K.hX K.hbl hbA I1.hS (lw_in K.hL hq ex4 1 (by decide) rfl) dLaw_law_220 ?_
  refine lc_model (rest := []) (As := [.int (xs (x4 + 1).toNatClampNeg)]) (RES := fun r κ2 cd2 => κ2 5 = κm 5 ∧ κ2 0 = κm 0 ∧ κ2 1 = κm 1) K I1 (fun b0 mn ν τ σ F nu hT hZ hF hG _ => m_type l γ m0 (B0 m0) _ κm b0 mn ν τ σ F nu hT (xs (x4 + 1).toNatClampNeg) hZ hF hG) meModel_type rfl qw_4ebb7ed85d ⟨Nat.le_of_ble_eq_true rfl, Nat.le_of_ble_eq_true rfl⟩ rfl hl.1 rfl (Nat.le_of_ble_eq_true rfl) dLaw_law_221 (cc_room1 (ph_le I1.hI) (by have := K.hL; omega)) (fun r H1 h => by obtain ⟨κ2, cd2, h1, h2⟩ := h; exact ⟨κ2, cd2, h2, h1⟩) (fun r2 H2 locs2 κ2 cd2 hr2 I2 => ?_)
  refine lv_istore (lv' := [(6, .int r2), (5, .int r), (0, .ref b), (1, .ref (γ.2.2.2 0)), (2, .ref m0), (3, .ref (m0 + 25)), (4, .int x4)]) hx hb dLaw_law_224 hl (by decide) rfl (fun ls hl => ?_)
  refine lv_goto (tgt := 534) hx hb dLaw_law_226 (by decide) ?_
  refine W.up cc_5.1 cc_5.2 ?_
  exact J _ _ κ1 _ _ _ _ I2 (by omega) (lv_sub hl [2, 3, 4, 5, 6] rfl)
set_option maxHeartbeats 4000000 in
set_option maxRecDepth 100000 in
theorem lc_5 {p : Program} {l : Launch} {e : Env} {s : State} {m : MethodId} {below : List Frame} {meth : Method} {c : Code} {b L : Nat} {xs : Nat → Int32} {γ : gE} {A : Nat → Prop} {m0 : Nat} {q : Nat} {x4 : Int32} {Q : State → Prop} (K : LC l p s m c b L xs γ A m0) (hq : q + 5 ≤ L) (ex4 : x4 = nI q) (J : ∀ (H : Heap) (locs : List Loc) (κ κm : Nat → Nat) (cd : Int32) (g : Nat → Int64) (ls : Array Slot), LI s γ A m0 κ κm cd g H locs → EQ3 κ κm → lv_has ls 7 [(0, .ref b), (1, .ref (γ.2.2.2 0)), (2, .ref m0), (3, .ref (m0 + 25)), (4, .int x4)] → W p l e room_1 s m #[Value.ref b] below meth c H locs (CC κ (q + 5)) (SS κ (q + 5)) Q (F0 m 534 ls [])) {H : Heap} {locs : List Loc} {κ κm : Nat → Nat} {cd : Int32} {g : Nat → Int64} {ls : Array Slot} (I : LI s γ A m0 κ κm cd g H locs) (h3 : EQ3 κ κm) (hl : lv_has ls 7 [(0, .ref b), (1, .ref (γ.2.2.2 0)), (2, .ref m0), (3, .ref (m0 + 25)), (4, .int x4)]) : W p l e room_1 s m #[Value.ref b] below meth c H locs (CC κ q) (SS κ q) Q (F0 m 229 ls []) := by
  obtain ⟨hx, hb, hml, hown, hW⟩ := id K.S
  have hbA : ¬ (fun q : Nat => s.heap.size ≤ q) b := Nat.not_le.mpr K.hbl
  refine lv_aload_n hx hb dLaw_law_229 rfl (lv_at hl 1 rfl) ?_
  refine lv_aload_n hx hb dLaw_law_230 rfl (lv_at hl 0 rfl) ?_
  refine lv_iload hx hb dLaw_law_231 (lv_at hl 4 rfl) ?_
  refine lv_iconst (v := 1) hx hb dLaw_law_233 (by decide) ?_
  refine lv_iadd hx hb dLaw_law_234 ?_
  refine va_sld hx hb K.hX K.hbl hbA I.hS (lw_in K.hL hq ex4 1 (by decide) rfl) dLaw_law_235 ?_
  refine lv_aload_n hx hb dLaw_law_236 rfl (lv_at hl 3 rfl) ?_
  refine lc_wrap (RES := fun r κ1 g1 => κ1 3 = κ 3 ∧ κ1 0 = κ 0 ∧ κ1 1 = κ 1) K I (by have := K.hL; omega) (w_enumeration l K.hst γ A κ s K.hw0 K.hnc K.hA0 H (m0 + 25) K.hAo g (xs (x4 + 1).toNatClampNeg)) meLaw_enumeration qw_ddc0cd02d5 ⟨Nat.le_of_ble_eq_true rfl, Nat.le_of_ble_eq_true rfl⟩ rfl hl.1 rfl dLaw_law_237 (fun r H1 h => by obtain ⟨⟨g1, h1⟩, h2⟩ := h; exact ⟨g1, h1, h2⟩) (fun r H1 locs1 κ1 g1 hr I1 => ?_)
  refine lv_istore (lv' := [(5, .int r), (0, .ref b), (1, .ref (γ.2.2.2 0)), (2, .ref m0), (3, .ref (m0 + 25)), (4, .int x4)]) hx hb dLaw_law_240 hl (by decide) rfl (fun ls hl => ?_)
  refine lv_aload_n hx hb dLaw_law_242 rfl (lv_at hl 3 rfl) ?_
  refine lv_aload_n hx hb dLaw_law_243 rfl (lv_at hl 1 rfl) ?_
  refine lv_iload hx hb dLaw_law_244 (lv_at hl 5 rfl) ?_
  refine lv_iconst (v := 1) hx hb dLaw_law_246 (by decide) ?_
  refine lv_iadd hx hb dLaw_law_247 ?_
  refine va_sld hx hb K.hX K.hbl hbA I1.hS (lw_in K.hL hq ex4 1 (by decide) rfl) dLaw_law_248 ?_
  refine lc_model (rest := []) (As := [.int (xs (x4 + 1).toNatClampNeg)]) (RES := fun r κ2 cd2 => κ2 5 = κm 5 ∧ κ2 0 = κm 0 ∧ κ2 1 = κm 1) K I1 (fun b0 mn ν τ σ F nu hT hZ hF hG _ => m_enumeration l γ m0 (B0 m0) _ κm b0 mn ν τ σ F nu hT (xs (x4 + 1).toNatClampNeg) hZ hF hG) meModel_enumeration rfl qw_71b525f37d ⟨Nat.le_of_ble_eq_true rfl, Nat.le_of_ble_eq_true rfl⟩ rfl hl.1 rfl (Nat.le_of_ble_eq_true rfl) dLaw_law_249 (cc_room1 (ph_le I1.hI) (by have := K.hL; omega)) (fun r H1 h => by obtain ⟨κ2, cd2, h1, h2⟩ := h; exact ⟨κ2, cd2, h2, h1⟩) (fun r2 H2 locs2 κ2 cd2 hr2 I2 => ?_)
  refine lv_istore (lv' := [(6, .int r2), (5, .int r), (0, .ref b), (1, .ref (γ.2.2.2 0)), (2, .ref m0), (3, .ref (m0 + 25)), (4, .int x4)]) hx hb dLaw_law_252 hl (by decide) rfl (fun ls hl => ?_)
  refine lv_goto (tgt := 534) hx hb dLaw_law_254 (by decide) ?_
  refine W.up cc_5.1 cc_5.2 ?_
  exact J _ _ κ1 _ _ _ _ I2 (by omega) (lv_sub hl [2, 3, 4, 5, 6] rfl)
set_option maxHeartbeats 4000000 in
set_option maxRecDepth 100000 in
theorem lc_6 {p : Program} {l : Launch} {e : Env} {s : State} {m : MethodId} {below : List Frame} {meth : Method} {c : Code} {b L : Nat} {xs : Nat → Int32} {γ : gE} {A : Nat → Prop} {m0 : Nat} {q : Nat} {x4 : Int32} {Q : State → Prop} (K : LC l p s m c b L xs γ A m0) (hq : q + 5 ≤ L) (ex4 : x4 = nI q) (J : ∀ (H : Heap) (locs : List Loc) (κ κm : Nat → Nat) (cd : Int32) (g : Nat → Int64) (ls : Array Slot), LI s γ A m0 κ κm cd g H locs → EQ3 κ κm → lv_has ls 7 [(0, .ref b), (1, .ref (γ.2.2.2 0)), (2, .ref m0), (3, .ref (m0 + 25)), (4, .int x4)] → W p l e room_1 s m #[Value.ref b] below meth c H locs (CC κ (q + 5)) (SS κ (q + 5)) Q (F0 m 534 ls [])) {H : Heap} {locs : List Loc} {κ κm : Nat → Nat} {cd : Int32} {g : Nat → Int64} {ls : Array Slot} (I : LI s γ A m0 κ κm cd g H locs) (h3 : EQ3 κ κm) (hl : lv_has ls 7 [(0, .ref b), (1, .ref (γ.2.2.2 0)), (2, .ref m0), (3, .ref (m0 + 25)), (4, .int x4)]) : W p l e room_1 s m #[Value.ref b] below meth c H locs (CC κ q) (SS κ q) Q (F0 m 257 ls []) := by
  obtain ⟨hx, hb, hml, hown, hW⟩ := id K.S
  have hbA : ¬ (fun q : Nat => s.heap.size ≤ q) b := Nat.not_le.mpr K.hbl
  refine lv_aload_n hx hb dLaw_law_257 rfl (lv_at hl 1 rfl) ?_
  refine lv_aload_n hx hb dLaw_law_258 rfl (lv_at hl 0 rfl) ?_
  refine lv_iload hx hb dLaw_law_259 (lv_at hl 4 rfl) ?_
  refine lv_iconst (v := 1) hx hb dLaw_law_261 (by decide) ?_
  refine lv_iadd hx hb dLaw_law_262 ?_
  refine va_sld hx hb K.hX K.hbl hbA I.hS (lw_in K.hL hq ex4 1 (by decide) rfl) dLaw_law_263 ?_
  refine lv_aload_n hx hb dLaw_law_264 rfl (lv_at hl 0 rfl) ?_
  refine lv_iload hx hb dLaw_law_265 (lv_at hl 4 rfl) ?_
  refine lv_iconst (v := 2) hx hb dLaw_law_267 (by decide) ?_
  refine lv_iadd hx hb dLaw_law_268 ?_
  refine va_sld hx hb K.hX K.hbl hbA I.hS (lw_in K.hL hq ex4 2 (by decide) rfl) dLaw_law_269 ?_
  refine lv_aload_n hx hb dLaw_law_270 rfl (lv_at hl 3 rfl) ?_
  refine lc_wrap (RES := fun r κ1 g1 => κ1 3 = κ 3 ∧ κ1 0 = κ 0 ∧ κ1 1 = κ 1) K I (by have := K.hL; omega) (w_subtype l K.hst γ A κ s K.hw0 K.hnc K.hA0 H (m0 + 25) K.hAo g (xs (x4 + 1).toNatClampNeg) (xs (x4 + 2).toNatClampNeg)) meLaw_subtype qw_dfdad7d990 ⟨Nat.le_of_ble_eq_true rfl, Nat.le_of_ble_eq_true rfl⟩ rfl hl.1 rfl dLaw_law_271 (fun r H1 h => by obtain ⟨⟨g1, h1⟩, h2⟩ := h; exact ⟨g1, h1, h2⟩) (fun r H1 locs1 κ1 g1 hr I1 => ?_)
  refine lv_istore (lv' := [(5, .int r), (0, .ref b), (1, .ref (γ.2.2.2 0)), (2, .ref m0), (3, .ref (m0 + 25)), (4, .int x4)]) hx hb dLaw_law_274 hl (by decide) rfl (fun ls hl => ?_)
  refine lv_aload_n hx hb dLaw_law_276 rfl (lv_at hl 3 rfl) ?_
  refine lv_aload_n hx hb dLaw_law_277 rfl (lv_at hl 1 rfl) ?_
  refine lv_iload hx hb dLaw_law_278 (lv_at hl 5 rfl) ?_
  refine lv_iconst (v := 1) hx hb dLaw_law_280 (by decide) ?_
  refine lv_iadd hx hb dLaw_law_281 ?_
  refine va_sld hx hb K.hX K.hbl hbA I1.hS (lw_in K.hL hq ex4 1 (by decide) rfl) dLaw_law_282 ?_
  refine lv_aload_n hx hb dLaw_law_283 rfl (lv_at hl 1 rfl) ?_
  refine lv_iload hx hb dLaw_law_284 (lv_at hl 5 rfl) ?_
  refine lv_iconst (v := 2) hx hb dLaw_law_286 (by decide) ?_
  refine lv_iadd hx hb dLaw_law_287 ?_
  refine va_sld hx hb K.hX K.hbl hbA I1.hS (lw_in K.hL hq ex4 2 (by decide) rfl) dLaw_law_288 ?_
  refine lc_model (rest := []) (As := [.int (xs (x4 + 1).toNatClampNeg), .int (xs (x4 + 2).toNatClampNeg)]) (RES := fun r κ2 cd2 => κ2 5 = κm 5 ∧ κ2 0 = κm 0 ∧ κ2 1 = κm 1) K I1 (fun b0 mn ν τ σ F nu hT hZ hF hG _ => m_subtype l γ m0 (B0 m0) _ κm b0 mn ν τ σ F nu hT (xs (x4 + 1).toNatClampNeg) (xs (x4 + 2).toNatClampNeg) hZ hF hG) meModel_subtype rfl qw_7f175f9fcc ⟨Nat.le_of_ble_eq_true rfl, Nat.le_of_ble_eq_true rfl⟩ rfl hl.1 rfl (Nat.le_of_ble_eq_true rfl) dLaw_law_289 (cc_room1 (ph_le I1.hI) (by have := K.hL; omega)) (fun r H1 h => by obtain ⟨κ2, cd2, h1, h2⟩ := h; exact ⟨κ2, cd2, h2, h1⟩) (fun r2 H2 locs2 κ2 cd2 hr2 I2 => ?_)
  refine lv_istore (lv' := [(6, .int r2), (5, .int r), (0, .ref b), (1, .ref (γ.2.2.2 0)), (2, .ref m0), (3, .ref (m0 + 25)), (4, .int x4)]) hx hb dLaw_law_292 hl (by decide) rfl (fun ls hl => ?_)
  refine lv_goto (tgt := 534) hx hb dLaw_law_294 (by decide) ?_
  refine W.up cc_5.1 cc_5.2 ?_
  exact J _ _ κ1 _ _ _ _ I2 (by omega) (lv_sub hl [2, 3, 4, 5, 6] rfl)
set_option maxHeartbeats 4000000 in
set_option maxRecDepth 100000 in
theorem lc_7 {p : Program} {l : Launch} {e : Env} {s : State} {m : MethodId} {below : List Frame} {meth : Method} {c : Code} {b L : Nat} {xs : Nat → Int32} {γ : gE} {A : Nat → Prop} {m0 : Nat} {q : Nat} {x4 : Int32} {Q : State → Prop} (K : LC l p s m c b L xs γ A m0) (hq : q + 5 ≤ L) (ex4 : x4 = nI q) (J : ∀ (H : Heap) (locs : List Loc) (κ κm : Nat → Nat) (cd : Int32) (g : Nat → Int64) (ls : Array Slot), LI s γ A m0 κ κm cd g H locs → EQ3 κ κm → lv_has ls 7 [(0, .ref b), (1, .ref (γ.2.2.2 0)), (2, .ref m0), (3, .ref (m0 + 25)), (4, .int x4)] → W p l e room_1 s m #[Value.ref b] below meth c H locs (CC κ (q + 5)) (SS κ (q + 5)) Q (F0 m 534 ls [])) {H : Heap} {locs : List Loc} {κ κm : Nat → Nat} {cd : Int32} {g : Nat → Int64} {ls : Array Slot} (I : LI s γ A m0 κ κm cd g H locs) (h3 : EQ3 κ κm) (hl : lv_has ls 7 [(0, .ref b), (1, .ref (γ.2.2.2 0)), (2, .ref m0), (3, .ref (m0 + 25)), (4, .int x4)]) : W p l e room_1 s m #[Value.ref b] below meth c H locs (CC κ q) (SS κ q) Q (F0 m 297 ls []) := by
  obtain ⟨hx, hb, hml, hown, hW⟩ := id K.S
  have hbA : ¬ (fun q : Nat => s.heap.size ≤ q) b := Nat.not_le.mpr K.hbl
  refine lv_aload_n hx hb dLaw_law_297 rfl (lv_at hl 1 rfl) ?_
  refine lv_aload_n hx hb dLaw_law_298 rfl (lv_at hl 0 rfl) ?_
  refine lv_iload hx hb dLaw_law_299 (lv_at hl 4 rfl) ?_
  refine lv_iconst (v := 1) hx hb dLaw_law_301 (by decide) ?_
  refine lv_iadd hx hb dLaw_law_302 ?_
  refine va_sld hx hb K.hX K.hbl hbA I.hS (lw_in K.hL hq ex4 1 (by decide) rfl) dLaw_law_303 ?_
  refine lv_aload_n hx hb dLaw_law_304 rfl (lv_at hl 0 rfl) ?_
  refine lv_iload hx hb dLaw_law_305 (lv_at hl 4 rfl) ?_
  refine lv_iconst (v := 2) hx hb dLaw_law_307 (by decide) ?_
  refine lv_iadd hx hb dLaw_law_308 ?_
  refine va_sld hx hb K.hX K.hbl hbA I.hS (lw_in K.hL hq ex4 2 (by decide) rfl) dLaw_law_309 ?_
  refine lv_aload_n hx hb dLaw_law_310 rfl (lv_at hl 0 rfl) ?_
  refine lv_iload hx hb dLaw_law_311 (lv_at hl 4 rfl) ?_
  refine lv_iconst (v := 3) hx hb dLaw_law_313 (by decide) ?_
  refine lv_iadd hx hb dLaw_law_314 ?_
  refine va_sld hx hb K.hX K.hbl hbA I.hS (lw_in K.hL hq ex4 3 (by decide) rfl) dLaw_law_315 ?_
  refine lv_aload_n hx hb dLaw_law_316 rfl (lv_at hl 0 rfl) ?_
  refine lv_iload hx hb dLaw_law_317 (lv_at hl 4 rfl) ?_
  refine lv_iconst (v := 4) hx hb dLaw_law_319 (by decide) ?_
  refine lv_iadd hx hb dLaw_law_320 ?_
  refine va_sld hx hb K.hX K.hbl hbA I.hS (lw_in K.hL hq ex4 4 (by decide) rfl) dLaw_law_321 ?_
  refine lv_aload_n hx hb dLaw_law_322 rfl (lv_at hl 3 rfl) ?_
  refine lc_wrap (RES := fun r κ1 g1 => κ1 3 = κ 3 ∧ κ1 0 = κ 0 ∧ κ1 1 = κ 1) K I (by have := K.hL; omega) (w_declare l K.hst γ A κ s K.hw0 K.hnc K.hA0 H (m0 + 25) K.hAo g (xs (x4 + 1).toNatClampNeg) (xs (x4 + 2).toNatClampNeg) (xs (x4 + 3).toNatClampNeg) (xs (x4 + 4).toNatClampNeg)) meLaw_declare qw_92a1c8ddd1 ⟨Nat.le_of_ble_eq_true rfl, Nat.le_of_ble_eq_true rfl⟩ rfl hl.1 rfl dLaw_law_323 (fun r H1 h => by obtain ⟨⟨g1, h1⟩, h2⟩ := h; exact ⟨g1, h1, h2⟩) (fun r H1 locs1 κ1 g1 hr I1 => ?_)
  refine lv_istore (lv' := [(5, .int r), (0, .ref b), (1, .ref (γ.2.2.2 0)), (2, .ref m0), (3, .ref (m0 + 25)), (4, .int x4)]) hx hb dLaw_law_326 hl (by decide) rfl (fun ls hl => ?_)
  refine lv_aload_n hx hb dLaw_law_328 rfl (lv_at hl 3 rfl) ?_
  refine lv_aload_n hx hb dLaw_law_329 rfl (lv_at hl 1 rfl) ?_
  refine lv_iload hx hb dLaw_law_330 (lv_at hl 5 rfl) ?_
  refine lv_iconst (v := 1) hx hb dLaw_law_332 (by decide) ?_
  refine lv_iadd hx hb dLaw_law_333 ?_
  refine va_sld hx hb K.hX K.hbl hbA I1.hS (lw_in K.hL hq ex4 1 (by decide) rfl) dLaw_law_334 ?_
  refine lv_aload_n hx hb dLaw_law_335 rfl (lv_at hl 1 rfl) ?_
  refine lv_iload hx hb dLaw_law_336 (lv_at hl 5 rfl) ?_
  refine lv_iconst (v := 2) hx hb dLaw_law_338 (by decide) ?_
  refine lv_iadd hx hb dLaw_law_339 ?_
  refine va_sld hx hb K.hX K.hbl hbA I1.hS (lw_in K.hL hq ex4 2 (by decide) rfl) dLaw_law_340 ?_
  refine lv_aload_n hx hb dLaw_law_341 rfl (lv_at hl 1 rfl) ?_
  refine lv_iload hx hb dLaw_law_342 (lv_at hl 5 rfl) ?_
  refine lv_iconst (v := 3) hx hb dLaw_law_344 (by decide) ?_
  refine lv_iadd hx hb dLaw_law_345 ?_
  refine va_sld hx hb K.hX K.hbl hbA I1.hS (lw_in K.hL hq ex4 3 (by decide) rfl) dLaw_law_346 ?_
  refine lv_aload_n hx hb dLaw_law_347 rfl (lv_at hl 1 rfl) ?_
  refine lv_iload hx hb dLaw_law_348 (lv_at hl 5 rfl) ?_
  refine lv_iconst (v := 4) hx hb dLaw_law_350 (by decide) ?_
  refine lv_iadd hx hb dLaw_law_351 ?_
  refine va_sld hx hb K.hX K.hbl hbA I1.hS (lw_in K.hL hq ex4 4 (by decide) rfl) dLaw_law_352 ?_
  refine lc_model (rest := []) (As := [.int (xs (x4 + 1).toNatClampNeg), .int (xs (x4 + 2).toNatClampNeg), .int (xs (x4 + 3).toNatClampNeg), .int (xs (x4 + 4).toNatClampNeg)]) (RES := fun r κ2 cd2 => κ2 5 = κm 5 ∧ κ2 0 = κm 0 ∧ κ2 1 = κm 1) K I1 (fun b0 mn ν τ σ F nu hT hZ hF hG _ => m_declare l γ m0 (B0 m0) _ κm b0 mn ν τ σ F nu hT (xs (x4 + 1).toNatClampNeg) (xs (x4 + 2).toNatClampNeg) (xs (x4 + 3).toNatClampNeg) (xs (x4 + 4).toNatClampNeg) hZ hF hG) meModel_declare rfl qw_cce4fe4997 ⟨Nat.le_of_ble_eq_true rfl, Nat.le_of_ble_eq_true rfl⟩ rfl hl.1 rfl (Nat.le_of_ble_eq_true rfl) dLaw_law_353 (cc_room1 (ph_le I1.hI) (by have := K.hL; omega)) (fun r H1 h => by obtain ⟨κ2, cd2, h1, h2⟩ := h; exact ⟨κ2, cd2, h2, h1⟩) (fun r2 H2 locs2 κ2 cd2 hr2 I2 => ?_)
  refine lv_istore (lv' := [(6, .int r2), (5, .int r), (0, .ref b), (1, .ref (γ.2.2.2 0)), (2, .ref m0), (3, .ref (m0 + 25)), (4, .int x4)]) hx hb dLaw_law_356 hl (by decide) rfl (fun ls hl => ?_)
  refine lv_goto (tgt := 534) hx hb dLaw_law_358 (by decide) ?_
  refine W.up cc_5.1 cc_5.2 ?_
  exact J _ _ κ1 _ _ _ _ I2 (by omega) (lv_sub hl [2, 3, 4, 5, 6] rfl)
set_option maxHeartbeats 4000000 in
set_option maxRecDepth 100000 in
theorem lc_8 {p : Program} {l : Launch} {e : Env} {s : State} {m : MethodId} {below : List Frame} {meth : Method} {c : Code} {b L : Nat} {xs : Nat → Int32} {γ : gE} {A : Nat → Prop} {m0 : Nat} {q : Nat} {x4 : Int32} {Q : State → Prop} (K : LC l p s m c b L xs γ A m0) (hq : q + 5 ≤ L) (ex4 : x4 = nI q) (J : ∀ (H : Heap) (locs : List Loc) (κ κm : Nat → Nat) (cd : Int32) (g : Nat → Int64) (ls : Array Slot), LI s γ A m0 κ κm cd g H locs → EQ3 κ κm → lv_has ls 7 [(0, .ref b), (1, .ref (γ.2.2.2 0)), (2, .ref m0), (3, .ref (m0 + 25)), (4, .int x4)] → W p l e room_1 s m #[Value.ref b] below meth c H locs (CC κ (q + 5)) (SS κ (q + 5)) Q (F0 m 534 ls [])) {H : Heap} {locs : List Loc} {κ κm : Nat → Nat} {cd : Int32} {g : Nat → Int64} {ls : Array Slot} (I : LI s γ A m0 κ κm cd g H locs) (h3 : EQ3 κ κm) (hl : lv_has ls 7 [(0, .ref b), (1, .ref (γ.2.2.2 0)), (2, .ref m0), (3, .ref (m0 + 25)), (4, .int x4)]) : W p l e room_1 s m #[Value.ref b] below meth c H locs (CC κ q) (SS κ q) Q (F0 m 361 ls []) := by
  obtain ⟨hx, hb, hml, hown, hW⟩ := id K.S
  have hbA : ¬ (fun q : Nat => s.heap.size ≤ q) b := Nat.not_le.mpr K.hbl
  refine lv_aload_n hx hb dLaw_law_361 rfl (lv_at hl 1 rfl) ?_
  refine lv_aload_n hx hb dLaw_law_362 rfl (lv_at hl 0 rfl) ?_
  refine lv_iload hx hb dLaw_law_363 (lv_at hl 4 rfl) ?_
  refine lv_iconst (v := 1) hx hb dLaw_law_365 (by decide) ?_
  refine lv_iadd hx hb dLaw_law_366 ?_
  refine va_sld hx hb K.hX K.hbl hbA I.hS (lw_in K.hL hq ex4 1 (by decide) rfl) dLaw_law_367 ?_
  refine lv_aload_n hx hb dLaw_law_368 rfl (lv_at hl 0 rfl) ?_
  refine lv_iload hx hb dLaw_law_369 (lv_at hl 4 rfl) ?_
  refine lv_iconst (v := 2) hx hb dLaw_law_371 (by decide) ?_
  refine lv_iadd hx hb dLaw_law_372 ?_
  refine va_sld hx hb K.hX K.hbl hbA I.hS (lw_in K.hL hq ex4 2 (by decide) rfl) dLaw_law_373 ?_
  refine lv_aload_n hx hb dLaw_law_374 rfl (lv_at hl 3 rfl) ?_
  refine lc_wrap (RES := fun r κ1 g1 => κ1 3 = κ 3 ∧ κ1 0 = κ 0 ∧ κ1 1 = κ 1) K I (by have := K.hL; omega) (w_check l K.hst γ A κ s K.hw0 K.hnc K.hA0 H (m0 + 25) K.hAo g (xs (x4 + 1).toNatClampNeg) (xs (x4 + 2).toNatClampNeg)) meLaw_check qw_4146e1e6a3 ⟨Nat.le_of_ble_eq_true rfl, Nat.le_of_ble_eq_true rfl⟩ rfl hl.1 rfl dLaw_law_375 (fun r H1 h => by obtain ⟨⟨g1, h1⟩, h2⟩ := h; exact ⟨g1, h1, h2⟩) (fun r H1 locs1 κ1 g1 hr I1 => ?_)
  refine lv_istore (lv' := [(5, .int r), (0, .ref b), (1, .ref (γ.2.2.2 0)), (2, .ref m0), (3, .ref (m0 + 25)), (4, .int x4)]) hx hb dLaw_law_378 hl (by decide) rfl (fun ls hl => ?_)
  refine lv_aload_n hx hb dLaw_law_380 rfl (lv_at hl 3 rfl) ?_
  refine lv_aload_n hx hb dLaw_law_381 rfl (lv_at hl 1 rfl) ?_
  refine lv_iload hx hb dLaw_law_382 (lv_at hl 5 rfl) ?_
  refine lv_iconst (v := 1) hx hb dLaw_law_384 (by decide) ?_
  refine lv_iadd hx hb dLaw_law_385 ?_
  refine va_sld hx hb K.hX K.hbl hbA I1.hS (lw_in K.hL hq ex4 1 (by decide) rfl) dLaw_law_386 ?_
  refine lv_aload_n hx hb dLaw_law_387 rfl (lv_at hl 1 rfl) ?_
  refine lv_iload hx hb dLaw_law_388 (lv_at hl 5 rfl) ?_
  refine lv_iconst (v := 2) hx hb dLaw_law_390 (by decide) ?_
  refine lv_iadd hx hb dLaw_law_391 ?_
  refine va_sld hx hb K.hX K.hbl hbA I1.hS (lw_in K.hL hq ex4 2 (by decide) rfl) dLaw_law_392 ?_
  refine lc_model (rest := []) (As := [.int (xs (x4 + 1).toNatClampNeg), .int (xs (x4 + 2).toNatClampNeg)]) (RES := fun r κ2 cd2 => κ2 5 = κm 5 ∧ κ2 0 = κm 0 ∧ κ2 1 = κm 1) K I1 (fun b0 mn ν τ σ F nu hT hZ hF hG _ => m_check l γ m0 (B0 m0) _ κm b0 mn ν τ σ F nu hT (xs (x4 + 1).toNatClampNeg) (xs (x4 + 2).toNatClampNeg) hZ hF hG) meModel_check rfl qw_791b948204 ⟨Nat.le_of_ble_eq_true rfl, Nat.le_of_ble_eq_true rfl⟩ rfl hl.1 rfl (Nat.le_of_ble_eq_true rfl) dLaw_law_393 (cc_room1 (ph_le I1.hI) (by have := K.hL; omega)) (fun r H1 h => by obtain ⟨κ2, cd2, h1, h2⟩ := h; exact ⟨κ2, cd2, h2, h1⟩) (fun r2 H2 locs2 κ2 cd2 hr2 I2 => ?_)
  refine lv_istore (lv' := [(6, .int r2), (5, .int r), (0, .ref b), (1, .ref (γ.2.2.2 0)), (2, .ref m0), (3, .ref (m0 + 25)), (4, .int x4)]) hx hb dLaw_law_396 hl (by decide) rfl (fun ls hl => ?_)
  refine lv_goto (tgt := 534) hx hb dLaw_law_398 (by decide) ?_
  refine W.up cc_5.1 cc_5.2 ?_
  exact J _ _ κ1 _ _ _ _ I2 (by omega) (lv_sub hl [2, 3, 4, 5, 6] rfl)
set_option maxHeartbeats 4000000 in
set_option maxRecDepth 100000 in
theorem lc_9 {p : Program} {l : Launch} {e : Env} {s : State} {m : MethodId} {below : List Frame} {meth : Method} {c : Code} {b L : Nat} {xs : Nat → Int32} {γ : gE} {A : Nat → Prop} {m0 : Nat} {q : Nat} {x4 : Int32} {Q : State → Prop} (K : LC l p s m c b L xs γ A m0) (hq : q + 5 ≤ L) (ex4 : x4 = nI q) (J : ∀ (H : Heap) (locs : List Loc) (κ κm : Nat → Nat) (cd : Int32) (g : Nat → Int64) (ls : Array Slot), LI s γ A m0 κ κm cd g H locs → EQ3 κ κm → lv_has ls 7 [(0, .ref b), (1, .ref (γ.2.2.2 0)), (2, .ref m0), (3, .ref (m0 + 25)), (4, .int x4)] → W p l e room_1 s m #[Value.ref b] below meth c H locs (CC κ (q + 5)) (SS κ (q + 5)) Q (F0 m 534 ls [])) {H : Heap} {locs : List Loc} {κ κm : Nat → Nat} {cd : Int32} {g : Nat → Int64} {ls : Array Slot} (I : LI s γ A m0 κ κm cd g H locs) (h3 : EQ3 κ κm) (hl : lv_has ls 7 [(0, .ref b), (1, .ref (γ.2.2.2 0)), (2, .ref m0), (3, .ref (m0 + 25)), (4, .int x4)]) : W p l e room_1 s m #[Value.ref b] below meth c H locs (CC κ q) (SS κ q) Q (F0 m 401 ls []) := by
  obtain ⟨hx, hb, hml, hown, hW⟩ := id K.S
  have hbA : ¬ (fun q : Nat => s.heap.size ≤ q) b := Nat.not_le.mpr K.hbl
  refine lv_aload_n hx hb dLaw_law_401 rfl (lv_at hl 1 rfl) ?_
  refine lc_place K I hl.1 qw_a0b9b8900a dLaw_law_402 (by have h9 := cc_room (q := q) (ph_le I.hI) (by have := K.hL; omega); exact ⟨Nat.le_trans (Nat.le_add_right _ _) h9.1, Nat.le_trans (Nat.le_add_right _ _) h9.2⟩) (fun r => ?_)
  refine lv_pop hx hb dLaw_law_405 rfl ?_
  refine lv_aload_n hx hb dLaw_law_406 rfl (lv_at hl 2 rfl) ?_
  refine lc_model (rest := []) (As := []) (RES := fun r κ2 cd2 => κ2 5 = κm 5 ∧ κ2 0 = κm 0 ∧ κ2 1 = κm 1) K I (fun b0 mn ν τ σ F nu hT hZ hF hG _ => m_place l γ m0 (B0 m0) _ κm b0 mn ν τ σ F nu hT  hZ hF hG) meModel_place rfl qw_deca89feaf ⟨Nat.le_of_ble_eq_true rfl, Nat.le_of_ble_eq_true rfl⟩ rfl hl.1 rfl (Nat.le_of_ble_eq_true rfl) dLaw_law_407 (by have h9 := cc_room (q := q) (ph_le I.hI) (by have := K.hL; omega); exact ⟨Nat.le_trans (Nat.le_add_right _ _) h9.1, Nat.le_trans (Nat.le_add_right _ _) h9.2⟩) (fun r H1 h => by obtain ⟨κ2, cd2, h1, h2⟩ := h; exact ⟨κ2, cd2, h2, h1⟩) (fun r2 H2 locs2 κ2 cd2 hr2 I2 => ?_)
  refine lv_pop hx hb dLaw_law_410 rfl ?_
  refine lv_goto (tgt := 534) hx hb dLaw_law_411 (by decide) ?_
  refine W.up (Nat.le_trans (Nat.le_succ _) cc_5.1) (Nat.le_trans (Nat.le_add_right _ 6) cc_5.2) ?_
  exact J _ _ κ _ _ _ _ I2 (by omega) (lv_sub hl [0, 1, 2, 3, 4] rfl)
set_option maxHeartbeats 4000000 in
set_option maxRecDepth 100000 in
theorem lc_10 {p : Program} {l : Launch} {e : Env} {s : State} {m : MethodId} {below : List Frame} {meth : Method} {c : Code} {b L : Nat} {xs : Nat → Int32} {γ : gE} {A : Nat → Prop} {m0 : Nat} {q : Nat} {x4 : Int32} {Q : State → Prop} (K : LC l p s m c b L xs γ A m0) (hq : q + 5 ≤ L) (ex4 : x4 = nI q) (J : ∀ (H : Heap) (locs : List Loc) (κ κm : Nat → Nat) (cd : Int32) (g : Nat → Int64) (ls : Array Slot), LI s γ A m0 κ κm cd g H locs → EQ3 κ κm → lv_has ls 7 [(0, .ref b), (1, .ref (γ.2.2.2 0)), (2, .ref m0), (3, .ref (m0 + 25)), (4, .int x4)] → W p l e room_1 s m #[Value.ref b] below meth c H locs (CC κ (q + 5)) (SS κ (q + 5)) Q (F0 m 534 ls [])) {H : Heap} {locs : List Loc} {κ κm : Nat → Nat} {cd : Int32} {g : Nat → Int64} {ls : Array Slot} (I : LI s γ A m0 κ κm cd g H locs) (h3 : EQ3 κ κm) (hl : lv_has ls 7 [(0, .ref b), (1, .ref (γ.2.2.2 0)), (2, .ref m0), (3, .ref (m0 + 25)), (4, .int x4)]) : W p l e room_1 s m #[Value.ref b] below meth c H locs (CC κ q) (SS κ q) Q (F0 m 414 ls []) := by
  obtain ⟨hx, hb, hml, hown, hW⟩ := id K.S
  have hbA : ¬ (fun q : Nat => s.heap.size ≤ q) b := Nat.not_le.mpr K.hbl
  refine lv_aload_n hx hb dLaw_law_414 rfl (lv_at hl 1 rfl) ?_
  refine lv_aload_n hx hb dLaw_law_415 rfl (lv_at hl 0 rfl) ?_
  refine lv_iload hx hb dLaw_law_416 (lv_at hl 4 rfl) ?_
  refine lv_iconst (v := 1) hx hb dLaw_law_418 (by decide) ?_
  refine lv_iadd hx hb dLaw_law_419 ?_
  refine va_sld hx hb K.hX K.hbl hbA I.hS (lw_in K.hL hq ex4 1 (by decide) rfl) dLaw_law_420 ?_
  refine lv_aload_n hx hb dLaw_law_421 rfl (lv_at hl 0 rfl) ?_
  refine lv_iload hx hb dLaw_law_422 (lv_at hl 4 rfl) ?_
  refine lv_iconst (v := 2) hx hb dLaw_law_424 (by decide) ?_
  refine lv_iadd hx hb dLaw_law_425 ?_
  refine va_sld hx hb K.hX K.hbl hbA I.hS (lw_in K.hL hq ex4 2 (by decide) rfl) dLaw_law_426 ?_
  refine lv_aload_n hx hb dLaw_law_427 rfl (lv_at hl 3 rfl) ?_
  refine lc_wrap (RES := fun r κ1 g1 => κ1 3 = κ 3 ∧ κ1 0 = κ 0 ∧ κ1 1 = κ 1) K I (by have := K.hL; omega) (w_typeOf l K.hst γ A κ s K.hw0 K.hnc K.hA0 H (m0 + 25) K.hAo g (xs (x4 + 1).toNatClampNeg) (xs (x4 + 2).toNatClampNeg)) meLaw_typeOf qw_02fa55126c ⟨Nat.le_of_ble_eq_true rfl, Nat.le_of_ble_eq_true rfl⟩ rfl hl.1 rfl dLaw_law_428 (fun r H1 h => by obtain ⟨⟨g1, h1⟩, h2⟩ := h; exact ⟨g1, h1, h2⟩) (fun r H1 locs1 κ1 g1 hr I1 => ?_)
  refine lv_istore (lv' := [(5, .int r), (0, .ref b), (1, .ref (γ.2.2.2 0)), (2, .ref m0), (3, .ref (m0 + 25)), (4, .int x4)]) hx hb dLaw_law_431 hl (by decide) rfl (fun ls hl => ?_)
  refine lv_aload_n hx hb dLaw_law_433 rfl (lv_at hl 3 rfl) ?_
  refine lv_aload_n hx hb dLaw_law_434 rfl (lv_at hl 1 rfl) ?_
  refine lv_iload hx hb dLaw_law_435 (lv_at hl 5 rfl) ?_
  refine lv_iconst (v := 1) hx hb dLaw_law_437 (by decide) ?_
  refine lv_iadd hx hb dLaw_law_438 ?_
  refine va_sld hx hb K.hX K.hbl hbA I1.hS (lw_in K.hL hq ex4 1 (by decide) rfl) dLaw_law_439 ?_
  refine lv_aload_n hx hb dLaw_law_440 rfl (lv_at hl 1 rfl) ?_
  refine lv_iload hx hb dLaw_law_441 (lv_at hl 5 rfl) ?_
  refine lv_iconst (v := 2) hx hb dLaw_law_443 (by decide) ?_
  refine lv_iadd hx hb dLaw_law_444 ?_
  refine va_sld hx hb K.hX K.hbl hbA I1.hS (lw_in K.hL hq ex4 2 (by decide) rfl) dLaw_law_445 ?_
  refine lc_model (rest := []) (As := [.int (xs (x4 + 1).toNatClampNeg), .int (xs (x4 + 2).toNatClampNeg)]) (RES := fun r κ2 cd2 => κ2 5 = κm 5 ∧ κ2 0 = κm 0 ∧ κ2 1 = κm 1) K I1 (fun b0 mn ν τ σ F nu hT hZ hF hG _ => m_typeOf l γ m0 (B0 m0) _ κm b0 mn ν τ σ F nu hT (xs (x4 + 1).toNatClampNeg) (xs (x4 + 2).toNatClampNeg) hZ hF hG) meModel_typeOf rfl qw_80badc1e51 ⟨Nat.le_of_ble_eq_true rfl, Nat.le_of_ble_eq_true rfl⟩ rfl hl.1 rfl (Nat.le_of_ble_eq_true rfl) dLaw_law_446 (cc_room1 (ph_le I1.hI) (by have := K.hL; omega)) (fun r H1 h => by obtain ⟨κ2, cd2, h1, h2⟩ := h; exact ⟨κ2, cd2, h2, h1⟩) (fun r2 H2 locs2 κ2 cd2 hr2 I2 => ?_)
  refine lv_istore (lv' := [(6, .int r2), (5, .int r), (0, .ref b), (1, .ref (γ.2.2.2 0)), (2, .ref m0), (3, .ref (m0 + 25)), (4, .int x4)]) hx hb dLaw_law_449 hl (by decide) rfl (fun ls hl => ?_)
  refine lv_goto (tgt := 534) hx hb dLaw_law_451 (by decide) ?_
  refine W.up cc_5.1 cc_5.2 ?_
  exact J _ _ κ1 _ _ _ _ I2 (by omega) (lv_sub hl [2, 3, 4, 5, 6] rfl)
set_option maxHeartbeats 4000000 in
set_option maxRecDepth 100000 in
theorem lc_11 {p : Program} {l : Launch} {e : Env} {s : State} {m : MethodId} {below : List Frame} {meth : Method} {c : Code} {b L : Nat} {xs : Nat → Int32} {γ : gE} {A : Nat → Prop} {m0 : Nat} {q : Nat} {x4 : Int32} {Q : State → Prop} (K : LC l p s m c b L xs γ A m0) (hq : q + 5 ≤ L) (ex4 : x4 = nI q) (J : ∀ (H : Heap) (locs : List Loc) (κ κm : Nat → Nat) (cd : Int32) (g : Nat → Int64) (ls : Array Slot), LI s γ A m0 κ κm cd g H locs → EQ3 κ κm → lv_has ls 7 [(0, .ref b), (1, .ref (γ.2.2.2 0)), (2, .ref m0), (3, .ref (m0 + 25)), (4, .int x4)] → W p l e room_1 s m #[Value.ref b] below meth c H locs (CC κ (q + 5)) (SS κ (q + 5)) Q (F0 m 534 ls [])) {H : Heap} {locs : List Loc} {κ κm : Nat → Nat} {cd : Int32} {g : Nat → Int64} {ls : Array Slot} (I : LI s γ A m0 κ κm cd g H locs) (h3 : EQ3 κ κm) (hl : lv_has ls 7 [(0, .ref b), (1, .ref (γ.2.2.2 0)), (2, .ref m0), (3, .ref (m0 + 25)), (4, .int x4)]) : W p l e room_1 s m #[Value.ref b] below meth c H locs (CC κ q) (SS κ q) Q (F0 m 454 ls []) := by
  obtain ⟨hx, hb, hml, hown, hW⟩ := id K.S
  have hbA : ¬ (fun q : Nat => s.heap.size ≤ q) b := Nat.not_le.mpr K.hbl
  refine lv_aload_n hx hb dLaw_law_454 rfl (lv_at hl 1 rfl) ?_
  refine lv_aload_n hx hb dLaw_law_455 rfl (lv_at hl 0 rfl) ?_
  refine lv_iload hx hb dLaw_law_456 (lv_at hl 4 rfl) ?_
  refine lv_iconst (v := 1) hx hb dLaw_law_458 (by decide) ?_
  refine lv_iadd hx hb dLaw_law_459 ?_
  refine va_sld hx hb K.hX K.hbl hbA I.hS (lw_in K.hL hq ex4 1 (by decide) rfl) dLaw_law_460 ?_
  refine lv_aload_n hx hb dLaw_law_461 rfl (lv_at hl 0 rfl) ?_
  refine lv_iload hx hb dLaw_law_462 (lv_at hl 4 rfl) ?_
  refine lv_iconst (v := 2) hx hb dLaw_law_464 (by decide) ?_
  refine lv_iadd hx hb dLaw_law_465 ?_
  refine va_sld hx hb K.hX K.hbl hbA I.hS (lw_in K.hL hq ex4 2 (by decide) rfl) dLaw_law_466 ?_
  refine lv_aload_n hx hb dLaw_law_467 rfl (lv_at hl 3 rfl) ?_
  refine lc_wrap (RES := fun r κ1 g1 => κ1 3 = κ 3 ∧ κ1 0 = κ 0 ∧ κ1 1 = κ 1) K I (by have := K.hL; omega) (w_about l K.hst γ A κ s K.hw0 K.hnc K.hA0 H (m0 + 25) K.hAo g (xs (x4 + 1).toNatClampNeg) (xs (x4 + 2).toNatClampNeg)) meLaw_about qw_9858333207 ⟨Nat.le_of_ble_eq_true rfl, Nat.le_of_ble_eq_true rfl⟩ rfl hl.1 rfl dLaw_law_468 (fun r H1 h => by obtain ⟨⟨g1, h1⟩, h2⟩ := h; exact ⟨g1, h1, h2⟩) (fun r H1 locs1 κ1 g1 hr I1 => ?_)
  refine lv_istore (lv' := [(5, .int r), (0, .ref b), (1, .ref (γ.2.2.2 0)), (2, .ref m0), (3, .ref (m0 + 25)), (4, .int x4)]) hx hb dLaw_law_471 hl (by decide) rfl (fun ls hl => ?_)
  refine lv_aload_n hx hb dLaw_law_473 rfl (lv_at hl 3 rfl) ?_
  refine lv_aload_n hx hb dLaw_law_474 rfl (lv_at hl 1 rfl) ?_
  refine lv_iload hx hb dLaw_law_475 (lv_at hl 5 rfl) ?_
  refine lv_iconst (v := 1) hx hb dLaw_law_477 (by decide) ?_
  refine lv_iadd hx hb dLaw_law_478 ?_
  refine va_sld hx hb K.hX K.hbl hbA I1.hS (lw_in K.hL hq ex4 1 (by decide) rfl) dLaw_law_479 ?_
  refine lv_aload_n hx hb dLaw_law_480 rfl (lv_at hl 1 rfl) ?_
  refine lv_iload hx hb dLaw_law_481 (lv_at hl 5 rfl) ?_
  refine lv_iconst (v := 2) hx hb dLaw_law_483 (by decide) ?_
  refine lv_iadd hx hb dLaw_law_484 ?_
  refine va_sld hx hb K.hX K.hbl hbA I1.hS (lw_in K.hL hq ex4 2 (by decide) rfl) dLaw_law_485 ?_
  refine lc_model (rest := []) (As := [.int (xs (x4 + 1).toNatClampNeg), .int (xs (x4 + 2).toNatClampNeg)]) (RES := fun r κ2 cd2 => κ2 5 = κm 5 ∧ κ2 0 = κm 0 ∧ κ2 1 = κm 1) K I1 (fun b0 mn ν τ σ F nu hT hZ hF hG _ => m_about l γ m0 (B0 m0) _ κm b0 mn ν τ σ F nu hT (xs (x4 + 1).toNatClampNeg) (xs (x4 + 2).toNatClampNeg) hZ hF hG) meModel_about rfl qw_d20dbc44b2 ⟨Nat.le_of_ble_eq_true rfl, Nat.le_of_ble_eq_true rfl⟩ rfl hl.1 rfl (Nat.le_of_ble_eq_true rfl) dLaw_law_486 (cc_room1 (ph_le I1.hI) (by have := K.hL; omega)) (fun r H1 h => by obtain ⟨κ2, cd2, h1, h2⟩ := h; exact ⟨κ2, cd2, h2, h1⟩) (fun r2 H2 locs2 κ2 cd2 hr2 I2 => ?_)
  refine lv_istore (lv' := [(6, .int r2), (5, .int r), (0, .ref b), (1, .ref (γ.2.2.2 0)), (2, .ref m0), (3, .ref (m0 + 25)), (4, .int x4)]) hx hb dLaw_law_489 hl (by decide) rfl (fun ls hl => ?_)
  refine lv_goto (tgt := 534) hx hb dLaw_law_491 (by decide) ?_
  refine W.up cc_5.1 cc_5.2 ?_
  exact J _ _ κ1 _ _ _ _ I2 (by omega) (lv_sub hl [2, 3, 4, 5, 6] rfl)
set_option maxHeartbeats 4000000 in
set_option maxRecDepth 100000 in
theorem lc_12 {p : Program} {l : Launch} {e : Env} {s : State} {m : MethodId} {below : List Frame} {meth : Method} {c : Code} {b L : Nat} {xs : Nat → Int32} {γ : gE} {A : Nat → Prop} {m0 : Nat} {q : Nat} {x4 : Int32} {Q : State → Prop} (K : LC l p s m c b L xs γ A m0) (hq : q + 5 ≤ L) (ex4 : x4 = nI q) (J : ∀ (H : Heap) (locs : List Loc) (κ κm : Nat → Nat) (cd : Int32) (g : Nat → Int64) (ls : Array Slot), LI s γ A m0 κ κm cd g H locs → EQ3 κ κm → lv_has ls 7 [(0, .ref b), (1, .ref (γ.2.2.2 0)), (2, .ref m0), (3, .ref (m0 + 25)), (4, .int x4)] → W p l e room_1 s m #[Value.ref b] below meth c H locs (CC κ (q + 5)) (SS κ (q + 5)) Q (F0 m 534 ls [])) {H : Heap} {locs : List Loc} {κ κm : Nat → Nat} {cd : Int32} {g : Nat → Int64} {ls : Array Slot} (I : LI s γ A m0 κ κm cd g H locs) (h3 : EQ3 κ κm) (hl : lv_has ls 7 [(0, .ref b), (1, .ref (γ.2.2.2 0)), (2, .ref m0), (3, .ref (m0 + 25)), (4, .int x4)]) : W p l e room_1 s m #[Value.ref b] below meth c H locs (CC κ q) (SS κ q) Q (F0 m 494 ls []) := by
  obtain ⟨hx, hb, hml, hown, hW⟩ := id K.S
  have hbA : ¬ (fun q : Nat => s.heap.size ≤ q) b := Nat.not_le.mpr K.hbl
  refine lv_aload_n hx hb dLaw_law_494 rfl (lv_at hl 1 rfl) ?_
  refine lv_aload_n hx hb dLaw_law_495 rfl (lv_at hl 0 rfl) ?_
  refine lv_iload hx hb dLaw_law_496 (lv_at hl 4 rfl) ?_
  refine lv_iconst (v := 1) hx hb dLaw_law_498 (by decide) ?_
  refine lv_iadd hx hb dLaw_law_499 ?_
  refine va_sld hx hb K.hX K.hbl hbA I.hS (lw_in K.hL hq ex4 1 (by decide) rfl) dLaw_law_500 ?_
  refine lv_aload_n hx hb dLaw_law_501 rfl (lv_at hl 0 rfl) ?_
  refine lv_iload hx hb dLaw_law_502 (lv_at hl 4 rfl) ?_
  refine lv_iconst (v := 2) hx hb dLaw_law_504 (by decide) ?_
  refine lv_iadd hx hb dLaw_law_505 ?_
  refine va_sld hx hb K.hX K.hbl hbA I.hS (lw_in K.hL hq ex4 2 (by decide) rfl) dLaw_law_506 ?_
  refine lv_aload_n hx hb dLaw_law_507 rfl (lv_at hl 3 rfl) ?_
  refine lc_wrap (RES := fun r κ1 g1 => κ1 3 = κ 3 ∧ κ1 0 = κ 0 ∧ κ1 1 = κ 1) K I (by have := K.hL; omega) (w_value l K.hst γ A κ s K.hw0 K.hnc K.hA0 H (m0 + 25) K.hAo g (xs (x4 + 1).toNatClampNeg) (xs (x4 + 2).toNatClampNeg)) meLaw_value qw_f805544bb6 ⟨Nat.le_of_ble_eq_true rfl, Nat.le_of_ble_eq_true rfl⟩ rfl hl.1 rfl dLaw_law_508 (fun r H1 h => by obtain ⟨⟨g1, h1⟩, h2⟩ := h; exact ⟨g1, h1, h2⟩) (fun r H1 locs1 κ1 g1 hr I1 => ?_)
  refine lv_istore (lv' := [(5, .int r), (0, .ref b), (1, .ref (γ.2.2.2 0)), (2, .ref m0), (3, .ref (m0 + 25)), (4, .int x4)]) hx hb dLaw_law_511 hl (by decide) rfl (fun ls hl => ?_)
  refine lv_aload_n hx hb dLaw_law_513 rfl (lv_at hl 3 rfl) ?_
  refine lv_aload_n hx hb dLaw_law_514 rfl (lv_at hl 1 rfl) ?_
  refine lv_iload hx hb dLaw_law_515 (lv_at hl 5 rfl) ?_
  refine lv_iconst (v := 1) hx hb dLaw_law_517 (by decide) ?_
  refine lv_iadd hx hb dLaw_law_518 ?_
  refine va_sld hx hb K.hX K.hbl hbA I1.hS (lw_in K.hL hq ex4 1 (by decide) rfl) dLaw_law_519 ?_
  refine lv_aload_n hx hb dLaw_law_520 rfl (lv_at hl 1 rfl) ?_
  refine lv_iload hx hb dLaw_law_521 (lv_at hl 5 rfl) ?_
  refine lv_iconst (v := 2) hx hb dLaw_law_523 (by decide) ?_
  refine lv_iadd hx hb dLaw_law_524 ?_
  refine va_sld hx hb K.hX K.hbl hbA I1.hS (lw_in K.hL hq ex4 2 (by decide) rfl) dLaw_law_525 ?_
  refine lc_model (rest := []) (As := [.int (xs (x4 + 1).toNatClampNeg), .int (xs (x4 + 2).toNatClampNeg)]) (RES := fun r κ2 cd2 => κ2 5 = κm 5 ∧ κ2 0 = κm 0 ∧ κ2 1 = κm 1) K I1 (fun b0 mn ν τ σ F nu hT hZ hF hG _ => m_value l γ m0 (B0 m0) _ κm b0 mn ν τ σ F nu hT (xs (x4 + 1).toNatClampNeg) (xs (x4 + 2).toNatClampNeg) hZ hF hG) meModel_value rfl qw_ab55c756e9 ⟨Nat.le_of_ble_eq_true rfl, Nat.le_of_ble_eq_true rfl⟩ rfl hl.1 rfl (Nat.le_of_ble_eq_true rfl) dLaw_law_526 (cc_room1 (ph_le I1.hI) (by have := K.hL; omega)) (fun r H1 h => by obtain ⟨κ2, cd2, h1, h2⟩ := h; exact ⟨κ2, cd2, h2, h1⟩) (fun r2 H2 locs2 κ2 cd2 hr2 I2 => ?_)
  refine lv_istore (lv' := [(6, .int r2), (5, .int r), (0, .ref b), (1, .ref (γ.2.2.2 0)), (2, .ref m0), (3, .ref (m0 + 25)), (4, .int x4)]) hx hb dLaw_law_529 hl (by decide) rfl (fun ls hl => ?_)
  refine lv_goto (tgt := 534) hx hb dLaw_law_531 (by decide) ?_
  refine W.up cc_5.1 cc_5.2 ?_
  exact J _ _ κ1 _ _ _ _ I2 (by omega) (lv_sub hl [2, 3, 4, 5, 6] rfl)
set_option maxHeartbeats 4000000 in
set_option maxRecDepth 100000 in
theorem law_loop {p : Program} {l : Launch} {e : Env} {s : State} {m : MethodId} {below : List Frame} {meth : Method} {c : Code} {b L : Nat} {xs : Nat → Int32} {γ : gE} {A : Nat → Prop} {m0 : Nat} (K : LC l p s m c b L xs γ A m0) (hr : meth.sig.returnType = ret) (hlocks : meth.locks = false) : ∀ (N q : Nat) (x4 : Int32) (H : Heap) (locs : List Loc) (κ κm : Nat → Nat) (cd : Int32) (g : Nat → Int64) (ls : Array Slot), L + 5 ≤ q + N → q ≤ 2600 → x4 = nI q → LI s γ A m0 κ κm cd g H locs → EQ3 κ κm → lv_has ls 7 [(0, .ref b), (1, .ref (γ.2.2.2 0)), (2, .ref m0), (3, .ref (m0 + 25)), (4, .int x4)] → W p l e room_1 s m #[Value.ref b] below meth c H locs (CC κ q) (SS κ q) (lw_Z below #[Value.ref b] s) (F0 m 23 ls []) := by
  obtain ⟨hx, hb, hml, hown, hW⟩ := id K.S
  have hbA : ¬ (fun q : Nat => s.heap.size ≤ q) b := Nat.not_le.mpr K.hbl
  intro N
  induction N using Nat.strongRecOn with
  | ind N ih =>
    intro q x4 H locs κ κm cd g ls hN hq2 ex4 I h3 hl
    refine lv_iload hx hb dLaw_law_23 (lv_at hl 4 rfl) ?_
    refine lv_aload_n hx hb dLaw_law_25 rfl (lv_at hl 0 rfl) ?_
    refine va_slen hx hb K.hX K.hbl hbA I.hS dLaw_law_26 ?_
    refine lv_iconst (v := 5) hx hb dLaw_law_27 (by decide) ?_
    refine lv_isub hx hb dLaw_law_28 ?_
    refine lv_icmp_gt (tgt := 540) hx hb dLaw_law_29 (by decide) (fun c1 => ?_) (fun c1 => ?_)
    · refine lv_iconst (v := 1) hx hb dLaw_law_540 (by decide) ?_
      refine va_forget (fun q hq => I.hS.2.2 q hq) ?_
      have he := cc_end (ph_le I.hI) hq2
      refine W.up he.1 he.2 ?_
      exact lw_ret hx hb hr hlocks dLaw_law_541
    · have hq : q + 5 ≤ L := lw_len K.hL hq2 ex4 c1
      have J : ∀ (H : Heap) (locs : List Loc) (κ κm : Nat → Nat) (cd : Int32) (g : Nat → Int64) (ls : Array Slot), LI s γ A m0 κ κm cd g H locs → EQ3 κ κm → lv_has ls 7 [(0, .ref b), (1, .ref (γ.2.2.2 0)), (2, .ref m0), (3, .ref (m0 + 25)), (4, .int x4)] → W p l e room_1 s m #[Value.ref b] below meth c H locs (CC κ (q + 5)) (SS κ (q + 5)) (lw_Z below #[Value.ref b] s) (F0 m 534 ls []) := by
        intro H locs κ κm cd g ls I h3 hl
        obtain ⟨x5, ex5⟩ : ∃ y : Int32, y = x4 + 5 := ⟨_, rfl⟩
        refine lv_iinc (v := x5) (lv' := [(4, .int x5), (0, .ref b), (1, .ref (γ.2.2.2 0)), (2, .ref m0), (3, .ref (m0 + 25))]) hx hb dLaw_law_534 hl (k := 4) rfl (by rw [ex5]; rfl) (by decide) rfl (fun ls hl => ?_)
        refine lv_goto (tgt := 23) hx hb dLaw_law_537 (by decide) ?_
        have hL := K.hL
        exact ih (N - 5) (by omega) (q + 5) x5 H locs κ κm cd g ls (by omega) (by omega) (by rw [ex5, ex4]; exact nI_add q 5) I h3 (lv_sub hl [1, 2, 3, 4, 0] rfl)
      refine lv_aload_n hx hb dLaw_law_32 rfl (lv_at hl 0 rfl) ?_
      refine lv_iload hx hb dLaw_law_33 (lv_at hl 4 rfl) ?_
      refine va_sld hx hb K.hX K.hbl hbA I.hS (lw_in0 K.hL hq ex4) dLaw_law_35 ?_
      refine lv_bipush (v := 15) hx hb dLaw_law_36 (by decide) ?_
      refine lv_iand hx hb dLaw_law_38 ?_
      refine lv_topi (fun v ev => ?_)
      by_cases k0 : v = 0
      · rw [k0]
        refine lv_tableIn (tgt := 104) hx hb dLaw_law_39 (by decide) (by decide) rfl (by decide) ?_
        exact lc_0 K hq ex4 J I h3 hl
      by_cases k1 : v = 1
      · rw [k1]
        refine lv_tableIn (tgt := 156) hx hb dLaw_law_39 (by decide) (by decide) rfl (by decide) ?_
        exact lc_1 K hq ex4 J I h3 hl
      by_cases k2 : v = 2
      · rw [k2]
        refine lv_tableIn (tgt := 169) hx hb dLaw_law_39 (by decide) (by decide) rfl (by decide) ?_
        exact lc_2 K hq ex4 J I h3 hl
      by_cases k3 : v = 3
      · rw [k3]
        refine lv_tableIn (tgt := 185) hx hb dLaw_law_39 (by decide) (by decide) rfl (by decide) ?_
        exact lc_3 K hq ex4 J I h3 hl
      by_cases k4 : v = 4
      · rw [k4]
        refine lv_tableIn (tgt := 201) hx hb dLaw_law_39 (by decide) (by decide) rfl (by decide) ?_
        exact lc_4 K hq ex4 J I h3 hl
      by_cases k5 : v = 5
      · rw [k5]
        refine lv_tableIn (tgt := 229) hx hb dLaw_law_39 (by decide) (by decide) rfl (by decide) ?_
        exact lc_5 K hq ex4 J I h3 hl
      by_cases k6 : v = 6
      · rw [k6]
        refine lv_tableIn (tgt := 257) hx hb dLaw_law_39 (by decide) (by decide) rfl (by decide) ?_
        exact lc_6 K hq ex4 J I h3 hl
      by_cases k7 : v = 7
      · rw [k7]
        refine lv_tableIn (tgt := 297) hx hb dLaw_law_39 (by decide) (by decide) rfl (by decide) ?_
        exact lc_7 K hq ex4 J I h3 hl
      by_cases k8 : v = 8
      · rw [k8]
        refine lv_tableIn (tgt := 361) hx hb dLaw_law_39 (by decide) (by decide) rfl (by decide) ?_
        exact lc_8 K hq ex4 J I h3 hl
      by_cases k9 : v = 9
      · rw [k9]
        refine lv_tableIn (tgt := 401) hx hb dLaw_law_39 (by decide) (by decide) rfl (by decide) ?_
        exact lc_9 K hq ex4 J I h3 hl
      by_cases k10 : v = 10
      · rw [k10]
        refine lv_tableIn (tgt := 414) hx hb dLaw_law_39 (by decide) (by decide) rfl (by decide) ?_
        exact lc_10 K hq ex4 J I h3 hl
      by_cases k11 : v = 11
      · rw [k11]
        refine lv_tableIn (tgt := 454) hx hb dLaw_law_39 (by decide) (by decide) rfl (by decide) ?_
        exact lc_11 K hq ex4 J I h3 hl
      by_cases k12 : v = 12
      · rw [k12]
        refine lv_tableIn (tgt := 494) hx hb dLaw_law_39 (by decide) (by decide) rfl (by decide) ?_
        exact lc_12 K hq ex4 J I h3 hl
      refine lv_tableOut (tgt := 534) hx hb dLaw_law_39 (by have q0 := lv_neT (a := 0) k0 (by decide); have q1 := lv_neT (a := 1) k1 (by decide); have q2 := lv_neT (a := 2) k2 (by decide); have q3 := lv_neT (a := 3) k3 (by decide); have q4 := lv_neT (a := 4) k4 (by decide); have q5 := lv_neT (a := 5) k5 (by decide); have q6 := lv_neT (a := 6) k6 (by decide); have q7 := lv_neT (a := 7) k7 (by decide); have q8 := lv_neT (a := 8) k8 (by decide); have q9 := lv_neT (a := 9) k9 (by decide); have q10 := lv_neT (a := 10) k10 (by decide); have q11 := lv_neT (a := 11) k11 (by decide); have q12 := lv_neT (a := 12) k12 (by decide); clear J ih; omega) (by decide) ?_
      refine W.up (Nat.le_trans (Nat.le_succ _) cc_5.1) (Nat.le_trans (Nat.le_add_right _ 6) cc_5.2) ?_
      exact J _ _ _ _ _ _ _ I h3 hl
theorem qw_03c310d303 : (Cond.classLink R_Law 8 R_TypeBook) ∈ bs_W0 := bs_in (in_tables_1_1 (List.mem_of_getElem? (i := 24) rfl)) rfl
theorem qw_8238f16ca3 : (Cond.initialized R_TypeBook) ∈ bs_W0 := bs_in (in_tables_1_1 (List.mem_of_getElem? (i := 1) rfl)) rfl
theorem qw_9019471cde : (Cond.methodLink R_Law 53 yTypeBook_init) ∈ bs_W0 := bs_in (in_tables_1_1 (List.mem_of_getElem? (i := 26) rfl)) rfl
theorem qw_e36c7827c8 : (Cond.classLink R_Law 54 R_Model) ∈ bs_W0 := bs_in (in_tables_1_5 (List.mem_of_getElem? (i := 140) rfl)) rfl
theorem qw_150f5c1485 : (Cond.initialized R_Model) ∈ bs_W0 := bs_in (in_tables_1_1 (List.mem_of_getElem? (i := 14) rfl)) rfl
theorem qw_3603f81ea1 : (Cond.methodLink R_Law 56 yModel_init) ∈ bs_W0 := bs_in (in_tables_1_5 (List.mem_of_getElem? (i := 142) rfl)) rfl
/-- where the book's cells may lie -/
def LA (a m0 : Nat) (q : Nat) : Prop := a ≤ q ∧ ¬ (m0 ≤ q ∧ q < m0 + 25) ∧ q ≠ m0 + 25
theorem inv_shrink {γ : gE} {a m0 : Nat} {κ : Nat → Nat} {H : Heap} (hI : INV γ (fun q => a ≤ q) κ H) (hz : H.size = m0) : INV γ (LA a m0) κ H := by
  obtain ⟨ρ, hρ, hc⟩ := hI
  refine ⟨fun q => if q < m0 then ρ q else 0, fun q hq => ?_, fun i h1 h2 => cmp_kept (hc i h1 h2) (fun q _ _ => rfl) (fun q h h9 => ?_)⟩
  · by_cases h : q < m0
    · have hq : (if q < m0 then ρ q else 0) ≠ 0 := hq
      rw [if_pos h] at hq
      exact ⟨hρ q hq, by omega, by omega⟩
    · have hq : (if q < m0 then ρ q else 0) ≠ 0 := hq
      rw [if_neg h] at hq
      exact absurd rfl hq
  · show (if q < m0 then ρ q else 0) = i
    rw [if_pos (by omega)]
    exact h
theorem fsI_dflt {a : Nat} : ∀ j, j < 35 → defaultValue (t_Model j) = vp_V (fsI a (fun _ => 0) 0) j := fun j hj => by
  rcases (show j = 0 ∨ j = 1 ∨ j = 2 ∨ j = 3 ∨ j = 4 ∨ j = 5 ∨ j = 6 ∨ j = 7 ∨ j = 8 ∨ j = 9 ∨ j = 10 ∨ j = 11 ∨ j = 12 ∨ j = 13 ∨ j = 14 ∨ j = 15 ∨ j = 16 ∨ j = 17 ∨ j = 18 ∨ j = 19 ∨ j = 20 ∨ j = 21 ∨ j = 22 ∨ j = 23 ∨ j = 24 ∨ j = 25 ∨ j = 26 ∨ j = 27 ∨ j = 28 ∨ j = 29 ∨ j = 30 ∨ j = 31 ∨ j = 32 ∨ j = 33 ∨ j = 34 by omega) with h | h | h | h | h | h | h | h | h | h | h | h | h | h | h | h | h | h | h | h | h | h | h | h | h | h | h | h | h | h | h | h | h | h | h <;> subst h <;> rfl
set_option maxHeartbeats 4000000 in
set_option maxRecDepth 100000 in
/-- THE LAW, from its entry -/
theorem whole_start {p : Program} {e : Env} {s : State} {m : MethodId} {below : List Frame} {meth : Method} {c : Code} (l : Launch) (hst : l.stackTraces = false) {b L : Nat} {xs : Nat → Int32} (hL : L ≤ 2560) (C0 : lw_At p s m meth c b L xs) : W p l e room_1 s m #[Value.ref b] below meth c s.heap [] 0 0 (lw_Z below #[Value.ref b] s) (entryFrame m ([Value.ref b] : List Value).toArray 7) := by
  obtain ⟨hx, hb, hr, hml, hown, hts, hX, hbl, hlocks, hgv⟩ := id C0
  have hW := law_W hts
  have S : bs_F p s m #[Value.ref b] c code 7 R_law := ⟨hx, hb, hml, hown, hW⟩
  obtain ⟨γ, hC⟩ := law_cx hts
  obtain ⟨hw0, hnc⟩ := law_sw hts hgv
  have hS : va_S (fun q : Nat => s.heap.size ≤ q) s.heap s.heap [] := va_S.rf
  have hA : ∀ q, s.heap.size ≤ q → (fun q : Nat => s.heap.size ≤ q) q := fun _ h => h
  have hl := lv_entry ([.ref b]) (n := 7) (Nat.le_of_ble_eq_true rfl)
  rw [lg_entry_eq]
  generalize (lg_sl ([.ref b]) ++ List.replicate (7 - (lg_sl ([.ref b])).length) Slot.unset).toArray = ls at hl ⊢
  have hl : lv_has ls 7 [(0, .ref b)] := hl
  obtain ⟨a, ha⟩ : ∃ z, z = s.heap.size := ⟨_, rfl⟩
  refine cw_new (ws := []) (fs := [.null, .null, .null, .null, .null, .null, .int 0]) (C := R_TypeBook) (T := T_TypeBook) (N := 7) (ci := 0) S hC in_TypeBook t_TypeBook t_TypeBook_ok qw_03c310d303 qw_98df340de2 qw_8238f16ca3 rfl (fun j hj => by rcases (show j = 0 ∨ j = 1 ∨ j = 2 ∨ j = 3 ∨ j = 4 ∨ j = 5 ∨ j = 6 by omega) with h | h | h | h | h | h | h <;> subst h <;> rfl) (fun k q h => by simp at h) hS hA ha.symm (Nat.le_of_ble_eq_true rfl) (Nat.le_of_ble_eq_true rfl) dLaw_law_0 (fun H hP _ hS hz hk9 => ?_)
  refine lv_dup hx hb dLaw_law_3 rfl ?_
  have hfb : ∀ U : State, U.heap = H → s.WarmedH U.vm → FB s U U.heap := fun U hU hWU => ⟨hWU, by rw [hU]; exact hS.1, fun q hq => by rw [hU]; exact hS.2.1 q hq (Nat.not_le.mpr hq)⟩
  refine ms_I (A := fun q => a ≤ q) (A0 := fun q => s.heap.size ≤ q) (As := []) (rest := [.ref a]) S hC (fun q h => by show a ≤ q; omega) (fun q h => by have h : a ≤ q := h; show s.heap.size ≤ q; omega) hS (i_TypeBook l γ s hw0 a H) ct_blind meTypeBook_init qw_9019471cde ⟨(Nat.le_of_ble_eq_true rfl), (Nat.le_of_ble_eq_true rfl)⟩ (fun U hU hWU => ⟨⟨hfb U hU hWU, by omega⟩, hU, hz, hP⟩) rfl hl.1 rfl (Nat.le_of_ble_eq_true rfl) dLaw_law_4 ⟨(Nat.le_of_ble_eq_true rfl), (Nat.le_of_ble_eq_true rfl)⟩ (fun H1 locs1 hPO hS1 hz1 hk1 => ?_)
  clear hfb
  obtain ⟨hI, hz2⟩ := hPO
  refine lv_astore_n (lv' := [(1, .ref a), (0, .ref b)]) hx hb dLaw_law_7 rfl hl (by decide) rfl (fun ls hl => ?_)
  obtain ⟨m0, hm0⟩ : ∃ z, z = a + 45 := ⟨_, rfl⟩
  rw [← hm0] at hz2
  have hI2 := inv_shrink hI hz2
  have hCT : CX (γT γ a) s := ⟨hC.1, hC.2⟩
  refine cw_new (ws := []) (fs := fsI m0 (fun _ => 0) 0) (C := R_Model) (T := T_Model) (N := 35) (ci := 10) S hCT in_Model t_Model t_Model_ok qw_e36c7827c8 qw_68bc186834 qw_150f5c1485 rfl fsI_dflt (fun k q h => by simp at h) hS1 hA hz2 (Nat.le_of_ble_eq_true rfl) (Nat.le_of_ble_eq_true rfl) dLaw_law_8 (fun H2 hP2 _ hS2 hz3 hk2 => ?_)
  have hI3 := inv_off hI2 (fun q _ h => hk2 q (by omega))
  refine lv_dup hx hb dLaw_law_11 rfl ?_
  have hfb : ∀ U : State, U.heap = H2 → s.WarmedH U.vm → FB s U U.heap := fun U hU hWU => ⟨hWU, by rw [hU]; exact hS2.1, fun q hq => by rw [hU]; exact hS2.2.1 q hq (Nat.not_le.mpr hq)⟩
  refine ms_I (A := fun q => m0 ≤ q) (A0 := fun q => s.heap.size ≤ q) (As := []) (rest := [.ref m0]) S hCT (fun q h => by show m0 ≤ q; omega) (fun q h => by have h : m0 ≤ q := h; show s.heap.size ≤ q; omega) hS2 (i_Model l (γT γ a) s hw0 m0 H2) ct_blind meModel_init qw_3603f81ea1 ⟨(Nat.le_of_ble_eq_true rfl), (Nat.le_of_ble_eq_true rfl)⟩ (fun U hU hWU => ⟨⟨hfb U hU hWU, by omega⟩, hU, hz3, hP2⟩) rfl hl.1 rfl (Nat.le_of_ble_eq_true rfl) dLaw_law_12 ⟨(Nat.le_of_ble_eq_true rfl), (Nat.le_of_ble_eq_true rfl)⟩ (fun H3 locs3 hPO hS3 hz4 hk3 => ?_)
  clear hfb
  obtain ⟨⟨κm, hκ, hM⟩, hz5⟩ := hPO
  have hI4 := inv_off hI3 (fun q h1 h2 => hk3 q h2 (fun h => by have h9 : m0 ≤ q := h; exact h1.2.1 ⟨h9, by omega⟩))
  refine lv_astore_n (lv' := [(2, .ref m0), (1, .ref a), (0, .ref b)]) hx hb dLaw_law_15 rfl hl (by decide) rfl (fun ls hl => ?_)
  refine lv_iconst (v := 1) hx hb dLaw_law_16 (by decide) ?_
  refine cw_new_long (ws := []) (γ := γT γ a) S hCT qw_6933bd775d (fun k q h => by simp at h) ⟨fun i j p q h => by simp at h, fun k q h => by simp at h⟩ hS3 hA hz5 1 rfl (by decide) (Nat.le_of_ble_eq_true rfl) (Nat.le_of_ble_eq_true rfl) dLaw_law_17 (fun H4 hP4 _ hS4 hz6 hk4 => ?_)
  have hI5 := inv_off hI4 (fun q _ h => hk4 q (by omega))
  have hM5 := mi_kept (mi_Z (Z' := iv m0 (m0 + 25)) hM (fun q h1 h2 => ⟨h1, h2⟩)) (fun q _ h => hk4 q h)
  refine lv_astore_n (lv' := [(3, .ref (m0 + 25)), (2, .ref m0), (1, .ref a), (0, .ref b)]) hx hb dLaw_law_19 rfl hl (by decide) rfl (fun ls hl => ?_)
  refine lv_iconst (v := 0) hx hb dLaw_law_20 (by decide) ?_
  refine lv_istore (lv' := [(4, .int 0), (3, .ref (m0 + 25)), (2, .ref m0), (1, .ref a), (0, .ref b)]) hx hb dLaw_law_21 hl (by decide) rfl (fun ls hl => ?_)
  refine W.up (k := CC κT 0) (n := SS κT 0) (Nat.le_of_ble_eq_true rfl) (Nat.le_of_ble_eq_true rfl) ?_
  exact law_loop (γ := γT γ a) (A := LA a m0) (m0 := m0) ⟨hst, S, hCT, hw0, hnc, fun q h => by have h9 := h.1; omega, fun q h => h.2.1, fun h => h.2.2 rfl, fun q h => ⟨by omega, by omega, by omega⟩, by omega, hX, hbl, hL⟩ hr hlocks (L + 5) 0 0 H4 _ κT κm 0 _ ls (by omega) (by omega) nI_0.symm ⟨hI5, hM5, hP4, by omega, hS4⟩ ⟨hκ.1.symm, hκ.2.1.symm, hκ.2.2.symm⟩ (lv_sub hl [4, 3, 2, 1, 0] rfl)
