theorem qw_70d2ddefbe : (Cond.methodLink R_Law 57 yLaw_add) ∈ bs_W0 := bs_in (in_tables_1_2 (List.mem_of_getElem? (i := 86) rfl)) rfl
theorem qw_b5f338fe66 : (Cond.methodLink R_Law 62 yModel_add) ∈ bs_W0 := bs_in (in_tables_1_6 (List.mem_of_getElem? (i := 20) rfl)) rfl
theorem qw_b20f6a16b6 : (Cond.methodLink R_Law 63 yTypeBook_clear) ∈ bs_W0 := bs_in (in_tables_1_2 (List.mem_of_getElem? (i := 74) rfl)) rfl
theorem qw_722a39bd15 : (Cond.methodLink R_Law 66 yModel_clear) ∈ bs_W0 := bs_in (in_tables_1_6 (List.mem_of_getElem? (i := 27) rfl)) rfl
theorem qw_024e23bb92 : (Cond.methodLink R_Law 67 yLaw_enter) ∈ bs_W0 := bs_in (in_tables_1_2 (List.mem_of_getElem? (i := 230) rfl)) rfl
theorem qw_3972cb422a : (Cond.methodLink R_Law 70 yModel_enter) ∈ bs_W0 := bs_in (in_tables_1_6 (List.mem_of_getElem? (i := 31) rfl)) rfl
theorem qw_0870710788 : (Cond.methodLink R_Law 71 yLaw_leave) ∈ bs_W0 := bs_in (in_tables_1_3 (List.mem_of_getElem? (i := 2) rfl)) rfl
theorem qw_46afa56bf9 : (Cond.methodLink R_Law 73 yModel_leave) ∈ bs_W0 := bs_in (in_tables_1_6 (List.mem_of_getElem? (i := 35) rfl)) rfl
theorem qw_0c4280106c : (Cond.methodLink R_Law 74 yLaw_type) ∈ bs_W0 := bs_in (in_tables_1_3 (List.mem_of_getElem? (i := 14) rfl)) rfl
theorem qw_4ebb7ed85d : (Cond.methodLink R_Law 77 yModel_type) ∈ bs_W0 := bs_in (in_tables_1_6 (List.mem_of_getElem? (i := 39) rfl)) rfl
theorem qw_ddc0cd02d5 : (Cond.methodLink R_Law 78 yLaw_enumeration) ∈ bs_W0 := bs_in (in_tables_1_5 (List.mem_of_getElem? (i := 10) rfl)) rfl
theorem qw_71b525f37d : (Cond.methodLink R_Law 80 yModel_enumeration) ∈ bs_W0 := bs_in (in_tables_1_6 (List.mem_of_getElem? (i := 207) rfl)) rfl
theorem qw_dfdad7d990 : (Cond.methodLink R_Law 81 yLaw_subtype) ∈ bs_W0 := bs_in (in_tables_1_5 (List.mem_of_getElem? (i := 44) rfl)) rfl
theorem qw_7f175f9fcc : (Cond.methodLink R_Law 84 yModel_subtype) ∈ bs_W0 := bs_in (in_tables_1_6 (List.mem_of_getElem? (i := 219) rfl)) rfl
theorem qw_92a1c8ddd1 : (Cond.methodLink R_Law 85 yLaw_declare) ∈ bs_W0 := bs_in (in_tables_1_5 (List.mem_of_getElem? (i := 54) rfl)) rfl
theorem qw_cce4fe4997 : (Cond.methodLink R_Law 88 yModel_declare) ∈ bs_W0 := bs_in (in_tables_1_6 (List.mem_of_getElem? (i := 227) rfl)) rfl
theorem qw_4146e1e6a3 : (Cond.methodLink R_Law 89 yLaw_check) ∈ bs_W0 := bs_in (in_tables_1_5 (List.mem_of_getElem? (i := 96) rfl)) rfl
theorem qw_791b948204 : (Cond.methodLink R_Law 91 yModel_check) ∈ bs_W0 := bs_in (in_tables_1_6 (List.mem_of_getElem? (i := 235) rfl)) rfl
theorem qw_a0b9b8900a : (Cond.methodLink R_Law 92 yTypeBook_place) ∈ bs_W0 := bs_in (in_tables_1_2 (List.mem_of_getElem? (i := 82) rfl)) rfl
theorem qw_deca89feaf : (Cond.methodLink R_Law 95 yModel_place) ∈ bs_W0 := bs_in (in_tables_1_6 (List.mem_of_getElem? (i := 239) rfl)) rfl
theorem qw_02fa55126c : (Cond.methodLink R_Law 96 yLaw_typeOf) ∈ bs_W0 := bs_in (in_tables_1_5 (List.mem_of_getElem? (i := 104) rfl)) rfl
theorem qw_80badc1e51 : (Cond.methodLink R_Law 98 yModel_typeOf) ∈ bs_W0 := bs_in (in_tables_1_7 (List.mem_of_getElem? (i := 3) rfl)) rfl
theorem qw_9858333207 : (Cond.methodLink R_Law 99 yLaw_about) ∈ bs_W0 := bs_in (in_tables_1_5 (List.mem_of_getElem? (i := 117) rfl)) rfl
theorem qw_d20dbc44b2 : (Cond.methodLink R_Law 101 yModel_about) ∈ bs_W0 := bs_in (in_tables_1_7 (List.mem_of_getElem? (i := 7) rfl)) rfl
theorem qw_f805544bb6 : (Cond.methodLink R_Law 102 yLaw_value) ∈ bs_W0 := bs_in (in_tables_1_5 (List.mem_of_getElem? (i := 129) rfl)) rfl
theorem qw_ab55c756e9 : (Cond.methodLink R_Law 104 yModel_value) ∈ bs_W0 := bs_in (in_tables_1_7 (List.mem_of_getElem? (i := 11) rfl)) rfl
set_option maxHeartbeats 4000000 in
set_option maxRecDepth 100000 in
theorem lc_0 {p : Program} {l : Launch} {e : Env} {s : State} {m : MethodId} {below : List Frame} {meth : Method} {c : Code} {b L : Nat} {xs : Nat → Int32} {γ : gE} {A : Nat → Prop} {m0 : Nat} {q : Nat} {x4 : Int32} {Q : State → Prop} (K : LC l p s m c b L xs γ A m0) (hq : q + 5 ≤ L) (ex4 : x4 = nI q) (J : ∀ (H : Heap) (locs : List Loc) (κ κm : Nat → Nat) (cd : Int32) (g : Nat → Int64) (ls : Array Slot), LI s γ A m0 κ κm cd g H locs → EQ3 κ κm → lv_has ls 7 [(0, .ref b), (1, .ref (γ.2.2.2 0)), (2, .ref m0), (3, .ref (m0 + 25)), (4, .int x4)] → W p l e room_1 s m #[Value.ref b] below meth c H locs (CC κ (q + 5)) (SS κ (q + 5)) Q (F0 m 534 ls [])) {H : Heap} {locs : List Loc} {κ κm : Nat → Nat} {cd : Int32} {g : Nat → Int64} {ls : Array Slot} (I : LI s γ A m0 κ κm cd g H locs) (h3 : EQ3 κ κm) (hl : lv_has ls 7 [(0, .ref b), (1, .ref (γ.2.2.2 0)), (2, .ref m0), (3, .ref (m0 + 25)), (4, .int x4)]) : W p l e room_1 s m #[Value.ref b] below meth c H locs (CC κ q) (SS κ q) Q (F0 m 104 ls []) := by
  obtain ⟨hx, hb, hml, hown, hW⟩ := id K.S
  have hbA : ¬ (fun q : Nat => s.heap.size ≤ q) b := Nat.not_le.mpr K.hbl
  refine lv_aload_n hx hb dLaw_law_104 rfl (lv_at hl 1 rfl) ?_
  refine lv_aload_n hx hb dLaw_law_105 rfl (lv_at hl 0 rfl) ?_
  refine lv_iload hx hb dLaw_law_106 (lv_at hl 4 rfl) ?_
  refine lv_iconst (v := 1) hx hb dLaw_law_108 (by decide) ?_
  refine lv_iadd hx hb dLaw_law_109 ?_
  refine va_sld hx hb K.hX K.hbl hbA I.hS (lw_in K.hL hq ex4 1 (by decide) rfl) dLaw_law_110 ?_
  refine lv_aload_n hx hb dLaw_law_111 rfl (lv_at hl 0 rfl) ?_
  refine lv_iload hx hb dLaw_law_112 (lv_at hl 4 rfl) ?_
  refine lv_iconst (v := 2) hx hb dLaw_law_114 (by decide) ?_
  refine lv_iadd hx hb dLaw_law_115 ?_
  refine va_sld hx hb K.hX K.hbl hbA I.hS (lw_in K.hL hq ex4 2 (by decide) rfl) dLaw_law_116 ?_
  refine lv_aload_n hx hb dLaw_law_117 rfl (lv_at hl 0 rfl) ?_
  refine lv_iload hx hb dLaw_law_118 (lv_at hl 4 rfl) ?_
  refine lv_iconst (v := 3) hx hb dLaw_law_120 (by decide) ?_
  refine lv_iadd hx hb dLaw_law_121 ?_
  refine va_sld hx hb K.hX K.hbl hbA I.hS (lw_in K.hL hq ex4 3 (by decide) rfl) dLaw_law_122 ?_
  refine lv_aload_n hx hb dLaw_law_123 rfl (lv_at hl 3 rfl) ?_
  refine lc_wrap (RES := fun r κ1 g1 => ADR κ κ1 r (g1 0) (xs (x4 + 1).toNatClampNeg) (xs (x4 + 2).toNatClampNeg) (xs (x4 + 3).toNatClampNeg)) K I (by have := K.hL; omega) (w_add l K.hst γ A κ s K.hw0 K.hnc K.hA0 H (m0 + 25) K.hAo g (xs (x4 + 1).toNatClampNeg) (xs (x4 + 2).toNatClampNeg) (xs (x4 + 3).toNatClampNeg)) meLaw_add qw_70d2ddefbe ⟨Nat.le_of_ble_eq_true rfl, Nat.le_of_ble_eq_true rfl⟩ rfl hl.1 rfl dLaw_law_124 (fun r H1 h => h.elim (fun ⟨h1, h2, ⟨g1, h3, h4⟩, h5⟩ => ⟨g1, h3, h5.mono (fun k h => Or.inl ⟨h1, h2, h4, h⟩)⟩) (fun ⟨h1, ⟨g1, h3⟩, h5⟩ => ⟨g1, h3, h5.mono (fun k h => Or.inr ⟨h1, h⟩)⟩)) (fun r H1 locs1 κ1 g1 hr I1 => ?_)
  refine lv_istore (lv' := [(5, .int r), (0, .ref b), (1, .ref (γ.2.2.2 0)), (2, .ref m0), (3, .ref (m0 + 25)), (4, .int x4)]) hx hb dLaw_law_127 hl (by decide) rfl (fun ls hl => ?_)
  refine lv_aload_n hx hb dLaw_law_129 rfl (lv_at hl 3 rfl) ?_
  refine lv_aload_n hx hb dLaw_law_130 rfl (lv_at hl 1 rfl) ?_
  refine lv_iload hx hb dLaw_law_131 (lv_at hl 5 rfl) ?_
  refine lv_iconst (v := 1) hx hb dLaw_law_133 (by decide) ?_
  refine lv_iadd hx hb dLaw_law_134 ?_
  refine va_sld hx hb K.hX K.hbl hbA I1.hS (lw_in K.hL hq ex4 1 (by decide) rfl) dLaw_law_135 ?_
  refine lv_aload_n hx hb dLaw_law_136 rfl (lv_at hl 1 rfl) ?_
  refine lv_iload hx hb dLaw_law_137 (lv_at hl 5 rfl) ?_
  refine lv_iconst (v := 2) hx hb dLaw_law_139 (by decide) ?_
  refine lv_iadd hx hb dLaw_law_140 ?_
  refine va_sld hx hb K.hX K.hbl hbA I1.hS (lw_in K.hL hq ex4 2 (by decide) rfl) dLaw_law_141 ?_
  refine lv_aload_n hx hb dLaw_law_142 rfl (lv_at hl 1 rfl) ?_
  refine lv_iload hx hb dLaw_law_143 (lv_at hl 5 rfl) ?_
  refine lv_iconst (v := 3) hx hb dLaw_law_145 (by decide) ?_
  refine lv_iadd hx hb dLaw_law_146 ?_
  refine va_sld hx hb K.hX K.hbl hbA I1.hS (lw_in K.hL hq ex4 3 (by decide) rfl) dLaw_law_147 ?_
  refine lc_model (rest := []) (As := [.int (xs (x4 + 1).toNatClampNeg), .int (xs (x4 + 2).toNatClampNeg), .int (xs (x4 + 3).toNatClampNeg)]) (RES := fun r κ2 cd2 => ADM κm κ2 r cd2 (xs (x4 + 1).toNatClampNeg) (xs (x4 + 2).toNatClampNeg) (xs (x4 + 3).toNatClampNeg)) K I1 (fun b0 mn ν τ σ F nu hT hZ hF hG _ => m_add l γ m0 (B0 m0) _ κm b0 mn ν τ σ F nu hT (xs (x4 + 1).toNatClampNeg) (xs (x4 + 2).toNatClampNeg) (xs (x4 + 3).toNatClampNeg) hZ hF hG) meModel_add rfl qw_b5f338fe66 ⟨Nat.le_of_ble_eq_true rfl, Nat.le_of_ble_eq_true rfl⟩ rfl hl.1 rfl (Nat.le_of_ble_eq_true rfl) dLaw_law_148 (cc_room1 (ph_le I1.hI) (by have := K.hL; omega)) (fun r H1 h => h.elim (fun ⟨h1, h2⟩ => ⟨_, _, h2, Or.inl ⟨h1, rfl, rfl⟩⟩) (fun h => h.elim (fun ⟨h1, h2, h3⟩ => ⟨_, _, h3, Or.inr (Or.inl ⟨h1, h2, rfl, rfl⟩)⟩) (fun ⟨h1, h2, h3, κ2, h4, h5, h6, h7⟩ => ⟨κ2, _, h7, Or.inr (Or.inr ⟨h1, h2, h3, h4, h5, h6, rfl⟩)⟩))) (fun r2 H2 locs2 κ2 cd2 hr2 I2 => ?_)
  obtain ⟨hcd, hgr, heq⟩ := cmp_add h3 (hb8 I) hr hr2
  refine lv_istore (lv' := [(6, .int r2), (5, .int r), (0, .ref b), (1, .ref (γ.2.2.2 0)), (2, .ref m0), (3, .ref (m0 + 25)), (4, .int x4)]) hx hb dLaw_law_151 hl (by decide) rfl (fun ls hl => ?_)
  refine lv_goto (tgt := 534) hx hb dLaw_law_153 (by decide) ?_
  refine W.up cc_5.1 cc_5.2 ?_
  exact J _ _ κ1 _ _ _ _ I2 heq (lv_sub hl [2, 3, 4, 5, 6] rfl)
set_option maxHeartbeats 4000000 in
set_option maxRecDepth 100000 in
theorem lc_1 {p : Program} {l : Launch} {e : Env} {s : State} {m : MethodId} {below : List Frame} {meth : Method} {c : Code} {b L : Nat} {xs : Nat → Int32} {γ : gE} {A : Nat → Prop} {m0 : Nat} {q : Nat} {x4 : Int32} {Q : State → Prop} (K : LC l p s m c b L xs γ A m0) (hq : q + 5 ≤ L) (ex4 : x4 = nI q) (J : ∀ (H : Heap) (locs : List Loc) (κ κm : Nat → Nat) (cd : Int32) (g : Nat → Int64) (ls : Array Slot), LI s γ A m0 κ κm cd g H locs → EQ3 κ κm → lv_has ls 7 [(0, .ref b), (1, .ref (γ.2.2.2 0)), (2, .ref m0), (3, .ref (m0 + 25)), (4, .int x4)] → W p l e room_1 s m #[Value.ref b] below meth c H locs (CC κ (q + 5)) (SS κ (q + 5)) Q (F0 m 534 ls [])) {H : Heap} {locs : List Loc} {κ κm : Nat → Nat} {cd : Int32} {g : Nat → Int64} {ls : Array Slot} (I : LI s γ A m0 κ κm cd g H locs) (h3 : EQ3 κ κm) (hl : lv_has ls 7 [(0, .ref b), (1, .ref (γ.2.2.2 0)), (2, .ref m0), (3, .ref (m0 + 25)), (4, .int x4)]) : W p l e room_1 s m #[Value.ref b] below meth c H locs (CC κ q) (SS κ q) Q (F0 m 156 ls []) := by
  obtain ⟨hx, hb, hml, hown, hW⟩ := id K.S
  have hbA : ¬ (fun q : Nat => s.heap.size ≤ q) b := Nat.not_le.mpr K.hbl
  refine lv_aload_n hx hb dLaw_law_156 rfl (lv_at hl 1 rfl) ?_
  refine lc_clear K I hl.1 qw_b20f6a16b6 dLaw_law_157 (by have h9 := cc_room (q := q) (ph_le I.hI) (by have := K.hL; omega); exact ⟨Nat.le_trans (Nat.le_add_right _ _) h9.1, Nat.le_trans (Nat.le_add_right _ _) h9.2⟩) (fun r H1 locs1 hr I1 => ?_)
  refine lv_aload_n hx hb dLaw_law_160 rfl (lv_at hl 2 rfl) ?_
  refine lc_model (rest := [.int r]) (As := []) (RES := fun r κ2 cd2 => r = nI (κm 0) ∧ κ2 = ku (ku κm 0 0) 1 0) K I1 (fun b0 mn ν τ σ F nu hT hZ hF hG _ => m_clear l γ m0 (B0 m0) _ κm b0 mn ν τ σ F nu hT  hZ hF hG) meModel_clear rfl qw_722a39bd15 ⟨Nat.le_of_ble_eq_true rfl, Nat.le_of_ble_eq_true rfl⟩ rfl hl.1 rfl (Nat.le_of_ble_eq_true rfl) dLaw_law_161 (by have h9 := cc_room (q := q) (ph_le I1.hI) (by have := K.hL; omega); exact ⟨Nat.le_trans (Nat.le_add_right _ _) h9.1, Nat.le_trans (Nat.le_add_right _ _) h9.2⟩) (fun r H1 h => by obtain ⟨h1, cd2, h2⟩ := h; exact ⟨_, cd2, h2, h1, rfl⟩) (fun r2 H2 locs2 κ2 cd2 hr2 I2 => ?_)
  refine lv_icmp_eq (tgt := 534) hx hb dLaw_law_164 (by decide) (fun c1 => ?_) (fun c1 => absurd (by rw [hr, hr2.1, h3.2.1]) c1)
  refine W.up (Nat.le_trans (Nat.le_succ _) cc_5.1) (Nat.le_trans (Nat.le_add_right _ 6) cc_5.2) ?_
  exact J _ _ (ku (ku κ 0 0) 1 0) _ _ _ _ I2 (by rw [hr2.2]; exact ⟨h3.1, rfl, rfl⟩) (lv_sub hl [0, 1, 2, 3, 4] rfl)
set_option maxHeartbeats 4000000 in
set_option maxRecDepth 100000 in
theorem lc_2 {p : Program} {l : Launch} {e : Env} {s : State} {m : MethodId} {below : List Frame} {meth : Method} {c : Code} {b L : Nat} {xs : Nat → Int32} {γ : gE} {A : Nat → Prop} {m0 : Nat} {q : Nat} {x4 : Int32} {Q : State → Prop} (K : LC l p s m c b L xs γ A m0) (hq : q + 5 ≤ L) (ex4 : x4 = nI q) (J : ∀ (H : Heap) (locs : List Loc) (κ κm : Nat → Nat) (cd : Int32) (g : Nat → Int64) (ls : Array Slot), LI s γ A m0 κ κm cd g H locs → EQ3 κ κm → lv_has ls 7 [(0, .ref b), (1, .ref (γ.2.2.2 0)), (2, .ref m0), (3, .ref (m0 + 25)), (4, .int x4)] → W p l e room_1 s m #[Value.ref b] below meth c H locs (CC κ (q + 5)) (SS κ (q + 5)) Q (F0 m 534 ls [])) {H : Heap} {locs : List Loc} {κ κm : Nat → Nat} {cd : Int32} {g : Nat → Int64} {ls : Array Slot} (I : LI s γ A m0 κ κm cd g H locs) (h3 : EQ3 κ κm) (hl : lv_has ls 7 [(0, .ref b), (1, .ref (γ.2.2.2 0)), (2, .ref m0), (3, .ref (m0 + 25)), (4, .int x4)]) : W p l e room_1 s m #[Value.ref b] below meth c H locs (CC κ q) (SS κ q) Q (F0 m 169 ls []) := by
  obtain ⟨hx, hb, hml, hown, hW⟩ := id K.S
  have hbA : ¬ (fun q : Nat => s.heap.size ≤ q) b := Nat.not_le.mpr K.hbl
  refine lv_aload_n hx hb dLaw_law_169 rfl (lv_at hl 1 rfl) ?_
  refine lv_aload_n hx hb dLaw_law_170 rfl (lv_at hl 3 rfl) ?_
  refine lc_wrap (RES := fun r κ1 g1 => ENR κ κ1 r (g1 0)) K I (by have := K.hL; omega) (w_enter l K.hst γ A κ s K.hw0 K.hnc K.hA0 H (m0 + 25) K.hAo g ) meLaw_enter qw_024e23bb92 ⟨Nat.le_of_ble_eq_true rfl, Nat.le_of_ble_eq_true rfl⟩ rfl hl.1 rfl dLaw_law_171 (fun r H1 h => h.elim (fun ⟨h1, h2, ⟨g1, h3, h4⟩, h5⟩ => ⟨g1, h3, h5.mono (fun k h => Or.inl ⟨h1, h2, h4, h⟩)⟩) (fun ⟨h1, h2, ⟨g1, h3⟩, h5⟩ => ⟨g1, h3, h5.mono (fun k h => Or.inr ⟨h1, h2, h⟩)⟩)) (fun r H1 locs1 κ1 g1 hr I1 => ?_)
  refine lv_istore (lv' := [(5, .int r), (0, .ref b), (1, .ref (γ.2.2.2 0)), (2, .ref m0), (3, .ref (m0 + 25)), (4, .int x4)]) hx hb dLaw_law_174 hl (by decide) rfl (fun ls hl => ?_)
  refine lv_aload_n hx hb dLaw_law_176 rfl (lv_at hl 3 rfl) ?_
  refine lc_model (rest := []) (As := []) (RES := fun r κ2 cd2 => ENM κm κ2 r cd2) K I1 (fun b0 mn ν τ σ F nu hT hZ hF hG _ => m_enter l γ m0 (B0 m0) _ κm b0 mn ν τ σ F nu hT  hZ hF hG) meModel_enter rfl qw_3972cb422a ⟨Nat.le_of_ble_eq_true rfl, Nat.le_of_ble_eq_true rfl⟩ rfl hl.1 rfl (Nat.le_of_ble_eq_true rfl) dLaw_law_177 (cc_room1 (ph_le I1.hI) (by have := K.hL; omega)) (fun r H1 h => h.elim (fun ⟨h1, h2⟩ => ⟨_, _, h2, Or.inl ⟨h1, rfl, rfl⟩⟩) (fun ⟨h1, h2, h3⟩ => ⟨_, _, h3, Or.inr ⟨h1, h2, ⟨rfl, rfl, rfl⟩, rfl⟩⟩)) (fun r2 H2 locs2 κ2 cd2 hr2 I2 => ?_)
  obtain ⟨hcd, hgr, heq⟩ := cmp_enter h3 (hb8 I) hr hr2
  refine lv_istore (lv' := [(6, .int r2), (5, .int r), (0, .ref b), (1, .ref (γ.2.2.2 0)), (2, .ref m0), (3, .ref (m0 + 25)), (4, .int x4)]) hx hb dLaw_law_180 hl (by decide) rfl (fun ls hl => ?_)
  refine lv_goto (tgt := 534) hx hb dLaw_law_182 (by decide) ?_
  refine W.up cc_5.1 cc_5.2 ?_
  exact J _ _ κ1 _ _ _ _ I2 heq (lv_sub hl [2, 3, 4, 5, 6] rfl)
set_option maxHeartbeats 4000000 in
set_option maxRecDepth 100000 in
theorem lc_3 {p : Program} {l : Launch} {e : Env} {s : State} {m : MethodId} {below : List Frame} {meth : Method} {c : Code} {b L : Nat} {xs : Nat → Int32} {γ : gE} {A : Nat → Prop} {m0 : Nat} {q : Nat} {x4 : Int32} {Q : State → Prop} (K : LC l p s m c b L xs γ A m0) (hq : q + 5 ≤ L) (ex4 : x4 = nI q) (J : ∀ (H : Heap) (locs : List Loc) (κ κm : Nat → Nat) (cd : Int32) (g : Nat → Int64) (ls : Array Slot), LI s γ A m0 κ κm cd g H locs → EQ3 κ κm → lv_has ls 7 [(0, .ref b), (1, .ref (γ.2.2.2 0)), (2, .ref m0), (3, .ref (m0 + 25)), (4, .int x4)] → W p l e room_1 s m #[Value.ref b] below meth c H locs (CC κ (q + 5)) (SS κ (q + 5)) Q (F0 m 534 ls [])) {H : Heap} {locs : List Loc} {κ κm : Nat → Nat} {cd : Int32} {g : Nat → Int64} {ls : Array Slot} (I : LI s γ A m0 κ κm cd g H locs) (h3 : EQ3 κ κm) (hl : lv_has ls 7 [(0, .ref b), (1, .ref (γ.2.2.2 0)), (2, .ref m0), (3, .ref (m0 + 25)), (4, .int x4)]) : W p l e room_1 s m #[Value.ref b] below meth c H locs (CC κ q) (SS κ q) Q (F0 m 185 ls []) := by
  obtain ⟨hx, hb, hml, hown, hW⟩ := id K.S
  have hbA : ¬ (fun q : Nat => s.heap.size ≤ q) b := Nat.not_le.mpr K.hbl
  refine lv_aload_n hx hb dLaw_law_185 rfl (lv_at hl 1 rfl) ?_
  refine lv_aload_n hx hb dLaw_law_186 rfl (lv_at hl 3 rfl) ?_
  refine lc_wrap (RES := fun r κ1 g1 => LVR κ κ1 r (g1 0)) K I (by have := K.hL; omega) (w_leave l K.hst γ A κ s K.hw0 K.hnc K.hA0 H (m0 + 25) K.hAo g ) meLaw_leave qw_0870710788 ⟨Nat.le_of_ble_eq_true rfl, Nat.le_of_ble_eq_true rfl⟩ rfl hl.1 rfl dLaw_law_187 (fun r H1 h => h.elim (fun ⟨h1, h2, ⟨g1, h3, h4⟩, h5⟩ => ⟨g1, h3, h5.mono (fun k h => Or.inl ⟨h1, h2, h4, h⟩)⟩) (fun ⟨h1, h2, ⟨g1, h3⟩, h5⟩ => ⟨g1, h3, h5.mono (fun k h => Or.inr ⟨h1, h2, h⟩)⟩)) (fun r H1 locs1 κ1 g1 hr I1 => ?_)
  refine lv_istore (lv' := [(5, .int r), (0, .ref b), (1, .ref (γ.2.2.2 0)), (2, .ref m0), (3, .ref (m0 + 25)), (4, .int x4)]) hx hb dLaw_law_190 hl (by decide) rfl (fun ls hl => ?_)
  refine lv_aload_n hx hb dLaw_law_192 rfl (lv_at hl 3 rfl) ?_
  refine lc_model (rest := []) (As := []) (RES := fun r κ2 cd2 => LVM κm κ2 r cd2) K I1 (fun b0 mn ν τ σ F nu hT hZ hF hG _ => m_leave l γ m0 (B0 m0) _ κm b0 mn ν τ σ F nu hT  hZ hF hG) meModel_leave rfl qw_46afa56bf9 ⟨Nat.le_of_ble_eq_true rfl, Nat.le_of_ble_eq_true rfl⟩ rfl hl.1 rfl (Nat.le_of_ble_eq_true rfl) dLaw_law_193 (cc_room1 (ph_le I1.hI) (by have := K.hL; omega)) (fun r H1 h => h.elim (fun ⟨h1, h2⟩ => ⟨_, _, h2, Or.inl ⟨h1, rfl, rfl⟩⟩) (fun ⟨h1, h4, κ2, h2, h3⟩ => ⟨_, _, h3, Or.inr ⟨h1, h4, h2, rfl⟩⟩)) (fun r2 H2 locs2 κ2 cd2 hr2 I2 => ?_)
  obtain ⟨hcd, hgr, heq⟩ := cmp_leave h3 (hb8 I) hr hr2
  refine lv_istore (lv' := [(6, .int r2), (5, .int r), (0, .ref b), (1, .ref (γ.2.2.2 0)), (2, .ref m0), (3, .ref (m0 + 25)), (4, .int x4)]) hx hb dLaw_law_196 hl (by decide) rfl (fun ls hl => ?_)
  refine lv_goto (tgt := 534) hx hb dLaw_law_198 (by decide) ?_
  refine W.up cc_5.1 cc_5.2 ?_
  exact J _ _ κ1 _ _ _ _ I2 heq (lv_sub hl [2, 3, 4, 5, 6] rfl)
set_option maxHeartbeats 4000000 in
set_option maxRecDepth 100000 in
theorem lc_4 {p : Program} {l : Launch} {e : Env} {s : State} {m : MethodId} {below : List Frame} {meth : Method} {c : Code} {b L : Nat} {xs : Nat → Int32} {γ : gE} {A : Nat → Prop} {m0 : Nat} {q : Nat} {x4 : Int32} {Q : State → Prop} (K : LC l p s m c b L xs γ A m0) (hq : q + 5 ≤ L) (ex4 : x4 = nI q) (J : ∀ (H : Heap) (locs : List Loc) (κ κm : Nat → Nat) (cd : Int32) (g : Nat → Int64) (ls : Array Slot), LI s γ A m0 κ κm cd g H locs → EQ3 κ κm → lv_has ls 7 [(0, .ref b), (1, .ref (γ.2.2.2 0)), (2, .ref m0), (3, .ref (m0 + 25)), (4, .int x4)] → W p l e room_1 s m #[Value.ref b] below meth c H locs (CC κ (q + 5)) (SS κ (q + 5)) Q (F0 m 534 ls [])) {H : Heap} {locs : List Loc} {κ κm : Nat → Nat} {cd : Int32} {g : Nat → Int64} {ls : Array Slot} (I : LI s γ A m0 κ κm cd g H locs) (h3 : EQ3 κ κm) (hl : lv_has ls 7 [(0, .ref b), (1, .ref (γ.2.2.2 0)), (2, .ref m0), (3, .ref (m0 + 25)), (4, .int x4)]) : W p l e room_1 s m #[Value.ref b] below meth c H locs (CC κ q) (SS κ q) Q (F0 m 201 ls []) := by
  obtain ⟨hx, hb, hml, hown, hW⟩ := id K.S
  have hbA : ¬ (fun q : Nat => s.heap.size ≤ q) b := Nat.not_le.mpr K.hbl
  refine lv_aload_n hx hb dLaw_law_201 rfl (lv_at hl 1 rfl) ?_
  refine lv_aload_n hx hb dLaw_law_202 rfl (lv_at hl 0 rfl) ?_
  refine lv_iload hx hb dLaw_law_203 (lv_at hl 4 rfl) ?_
  refine lv_iconst (v := 1) hx hb dLaw_law_205 (by decide) ?_
  refine lv_iadd hx hb dLaw_law_206 ?_
  refine va_sld hx hb K.hX K.hbl hbA I.hS (lw_in K.hL hq ex4 1 (by decide) rfl) dLaw_law_207 ?_
  refine lv_aload_n hx hb dLaw_law_208 rfl (lv_at hl 3 rfl) ?_
  refine lc_wrap (RES := fun r κ1 g1 => κ1 3 = κ 3 ∧ κ1 0 = κ 0 ∧ κ1 1 = κ 1) K I (by have := K.hL; omega) (w_type l K.hst γ A κ s K.hw0 K.hnc K.hA0 H (m0 + 25) K.hAo g (xs (x4 + 1).toNatClampNeg)) meLaw_type qw_0c4280106c ⟨Nat.le_of_ble_eq_true rfl, Nat.le_of_ble_eq_true rfl⟩ rfl hl.1 rfl dLaw_law_209 (fun r H1 h => by obtain ⟨⟨g1, h1⟩, h2⟩ := h; exact ⟨g1, h1, h2⟩) (fun r H1 locs1 κ1 g1 hr I1 => ?_)
  refine lv_istore (lv' := [(5, .int r), (0, .ref b), (1, .ref (γ.2.2.2 0)), (2, .ref m0), (3, .ref (m0 + 25)), (4, .int x4)]) hx hb dLaw_law_212 hl (by decide) rfl (fun ls hl => ?_)
  refine lv_aload_n hx hb dLaw_law_214 rfl (lv_at hl 3 rfl) ?_
  refine lv_aload_n hx hb dLaw_law_215 rfl (lv_at hl 1 rfl) ?_
  refine lv_iload hx hb dLaw_law_216 (lv_at hl 5 rfl) ?_
  refine lv_iconst (v := 1) hx hb dLaw_law_218 (by decide) ?_
  refine lv_iadd hx hb dLaw_law_219 ?_
  refine va_sld hx hb K.hX K.hbl hbA I1.hS (lw_in K.hL hq ex4 1 (by decide) rfl) dLaw_law_220 ?_
  refine lc_model (rest := []) (As := [.int (xs (x4 + 1).toNatClampNeg)]) (RES := fun r κ2 cd2 => κ2 5 = κm 5 ∧ κ2 0 = κm 0 ∧ κ2 1 = κm 1) K I1 (fun b0 mn ν τ σ F nu hT hZ hF hG _ => m_type l γ m0 (B0 m0) _ κm b0 mn ν τ σ F nu hT (xs (x4 + 1).toNatClampNeg) hZ hF hG) meModel_type rfl qw_4ebb7ed85d ⟨Nat.le_of_ble_eq_true rfl, Nat.le_of_ble_eq_true rfl⟩ rfl hl.1 rfl (Nat.le_of_ble_eq_true rfl) dLaw_law_221 (cc_room1 (ph_le I1.hI) (by have := K.hL; omega)) (fun r H1 h => by obtain ⟨κ2, cd2, h1, h2⟩ := h; exact ⟨κ2, cd2, h2, h1⟩) (fun r2 H2 locs2 κ2 cd2 hr2 I2 => ?_)
  refine lv_istore (lv' := [(6, .int r2), (5, .int r), (0, .ref b), (1, .ref (γ.2.2.2 0)), (2, .ref m0), (3, .ref (m0 + 25)), (4, .int x4)]) hx hb dLaw_law_224 hl (by decide) rfl (fun ls hl => ?_)
  refine lv_goto (tgt := 534) hx hb dLaw_law_226 (by decide) ?_
  refine W.up cc_5.1 cc_5.2 ?_
  exact J _ _ κ1 _ _ _ _ I2 (by omega) (lv_sub hl [2, 3, 4, 5, 6] rfl)
set_option maxHeartbeats 4000000 in
set_option maxRecDepth 100000 in
theorem lc_5 {p : Program} {l : Launch} {e : Env} {s : State} {m : MethodId} {below : List Frame} {meth : Method} {c : Code} {b L : Nat} {xs : Nat → Int32} {γ : gE} {A : Nat → Prop} {m0 : Nat} {q : Nat} {x4 : Int32} {Q : State → Prop} (K : LC l p s m c b L xs γ A m0) (hq : q + 5 ≤ L) (ex4 : x4 = nI q) (J : ∀ (H : Heap) (locs : List Loc) (κ κm : Nat → Nat) (cd : Int32) (g : Nat → Int64) (ls : Array Slot), LI s γ A m0 κ κm cd g H locs → EQ3 κ κm → lv_has ls 7 [(0, .ref b), (1, .ref (γ.2.2.2 0)), (2, .ref m0), (3, .ref (m0 + 25)), (4, .int x4)] → W p l e room_1 s m #[Value.ref b] below meth c H locs (CC κ (q + 5)) (SS κ (q + 5)) Q (F0 m 534 ls [])) {H : Heap} {locs : List Loc} {κ κm : Nat → Nat} {cd : Int32} {g : Nat → Int64} {ls : Array Slot} (I : LI s γ A m0 κ κm cd g H locs) (h3 : EQ3 κ κm) (hl : lv_has ls 7 [(0, .ref b), (1, .ref (γ.2.2.2 0)), (2, .ref m0), (3, .ref (m0 + 25)), (4, .int x4)]) : W p l e room_1 s m #[Value.ref b] below meth c H locs (CC κ q) (SS κ q) Q (F0 m 229 ls []) := by
  obtain ⟨hx, hb, hml, hown, hW⟩ := id K.S
  have hbA : ¬ (fun q : Nat => s.heap.size ≤ q) b := Nat.not_le.mpr K.hbl
  refine lv_aload_n hx hb dLaw_law_229 rfl (lv_at hl 1 rfl) ?_
  refine lv_aload_n hx hb dLaw_law_230 rfl (lv_at hl 0 rfl) ?_
  refine lv_iload hx hb dLaw_law_231 (lv_at hl 4 rfl) ?_
  refine lv_iconst (v := 1) hx hb dLaw_law_233 (by decide) ?_
  refine lv_iadd hx hb dLaw_law_234 ?_
  refine va_sld hx hb K.hX K.hbl hbA I.hS (lw_in K.hL hq ex4 1 (by decide) rfl) dLaw_law_235 ?_
  refine lv_aload_n hx hb dLaw_law_236 rfl (lv_at hl 3 rfl) ?_
  refine lc_wrap (RES := fun r κ1 g1 => κ1 3 = κ 3 ∧ κ1 0 = κ 0 ∧ κ1 1 = κ 1) K I (by have := K.hL; omega) (w_enumeration l K.hst γ A κ s K.hw0 K.hnc K.hA0 H (m0 + 25) K.hAo g (xs (x4 + 1).toNatClampNeg)) meLaw_enumeration qw_ddc0cd02d5 ⟨Nat.le_of_ble_eq_true rfl, Nat.le_of_ble_eq_true rfl⟩ rfl hl.1 rfl dLaw_law_237 (fun r H1 h => by obtain ⟨⟨g1, h1⟩, h2⟩ := h; exact ⟨g1, h1, h2⟩) (fun r H1 locs1 κ1 g1 hr I1 => ?_)
  refine lv_istore (lv' := [(5, .int r), (0, .ref b), (1, .ref (γ.2.2.2 0)), (2, .ref m0), (3, .ref (m0 + 25)), (4, .int x4)]) hx hb dLaw_law_240 hl (by decide) rfl (fun ls hl => ?_)
  refine lv_aload_n hx hb dLaw_law_242 rfl (lv_at hl 3 rfl) ?_
  refine lv_aload_n hx hb dLaw_law_243 rfl (lv_at hl 1 rfl) ?_
  refine lv_iload hx hb dLaw_law_244 (lv_at hl 5 rfl) ?_
  refine lv_iconst (v := 1) hx hb dLaw_law_246 (by decide) ?_
  refine lv_iadd hx hb dLaw_law_247 ?_
  refine va_sld hx hb K.hX K.hbl hbA I1.hS (lw_in K.hL hq ex4 1 (by decide) rfl) dLaw_law_248 ?_
  refine lc_model (rest := []) (As := [.int (xs (x4 + 1).toNatClampNeg)]) (RES := fun r κ2 cd2 => κ2 5 = κm 5 ∧ κ2 0 = κm 0 ∧ κ2 1 = κm 1) K I1 (fun b0 mn ν τ σ F nu hT hZ hF hG _ => m_enumeration l γ m0 (B0 m0) _ κm b0 mn ν τ σ F nu hT (xs (x4 + 1).toNatClampNeg) hZ hF hG) meModel_enumeration rfl qw_71b525f37d ⟨Nat.le_of_ble_eq_true rfl, Nat.le_of_ble_eq_true rfl⟩ rfl hl.1 rfl (Nat.le_of_ble_eq_true rfl) dLaw_law_249 (cc_room1 (ph_le I1.hI) (by have := K.hL; omega)) (fun r H1 h => by obtain ⟨κ2, cd2, h1, h2⟩ := h; exact ⟨κ2, cd2, h2, h1⟩) (fun r2 H2 locs2 κ2 cd2 hr2 I2 => ?_)
  refine lv_istore (lv' := [(6, .int r2), (5, .int r), (0, .ref b), (1, .ref (γ.2.2.2 0)), (2, .ref m0), (3, .ref (m0 + 25)), (4, .int x4)]) hx hb dLaw_law_252 hl (by decide) rfl (fun ls hl => ?_)
  refine lv_goto (tgt := 534) hx hb dLaw_law_254 (by decide) ?_
  refine W.up cc_5.1 cc_5.2 ?_
  exact J _ _ κ1 _ _ _ _ I2 (by omega) (lv_sub hl [2, 3, 4, 5, 6] rfl)
set_option maxHeartbeats 4000000 in
set_option maxRecDepth 100000 in
theorem lc_6 {p : Program} {l : Launch} {e : Env} {s : State} {m : MethodId} {below : List Frame} {meth : Method} {c : Code} {b L : Nat} {xs : Nat → Int32} {γ : gE} {A : Nat → Prop} {m0 : Nat} {q : Nat} {x4 : Int32} {Q : State → Prop} (K : LC l p s m c b L xs γ A m0) (hq : q + 5 ≤ L) (ex4 : x4 = nI q) (J : ∀ (H : Heap) (locs : List Loc) (κ κm : Nat → Nat) (cd : Int32) (g : Nat → Int64) (ls : Array Slot), LI s γ A m0 κ κm cd g H locs → EQ3 κ κm → lv_has ls 7 [(0, .ref b), (1, .ref (γ.2.2.2 0)), (2, .ref m0), (3, .ref (m0 + 25)), (4, .int x4)] → W p l e room_1 s m #[Value.ref b] below meth c H locs (CC κ (q + 5)) (SS κ (q + 5)) Q (F0 m 534 ls [])) {H : Heap} {locs : List Loc} {κ κm : Nat → Nat} {cd : Int32} {g : Nat → Int64} {ls : Array Slot} (I : LI s γ A m0 κ κm cd g H locs) (h3 : EQ3 κ κm) (hl : lv_has ls 7 [(0, .ref b), (1, .ref (γ.2.2.2 0)), (2, .ref m0), (3, .ref (m0 + 25)), (4, .int x4)]) : W p l e room_1 s m #[Value.ref b] below meth c H locs (CC κ q) (SS κ q) Q (F0 m 257 ls []) := by
  obtain ⟨hx, hb, hml, hown, hW⟩ := id K.S
  have hbA : ¬ (fun q : Nat => s.heap.size ≤ q) b := Nat.not_le.mpr K.hbl
  refine lv_aload_n hx hb dLaw_law_257 rfl (lv_at hl 1 rfl) ?_
  refine lv_aload_n hx hb dLaw_law_258 rfl (lv_at hl 0 rfl) ?_
  refine lv_iload hx hb dLaw_law_259 (lv_at hl 4 rfl) ?_
  refine lv_iconst (v := 1) hx hb dLaw_law_261 (by decide) ?_
  refine lv_iadd hx hb dLaw_law_262 ?_
  refine va_sld hx hb K.hX K.hbl hbA I.hS (lw_in K.hL hq ex4 1 (by decide) rfl) dLaw_law_263 ?_
  refine lv_aload_n hx hb dLaw_law_264 rfl (lv_at hl 0 rfl) ?_
  refine lv_iload hx hb dLaw_law_265 (lv_at hl 4 rfl) ?_
  refine lv_iconst (v := 2) hx hb dLaw_law_267 (by decide) ?_
  refine lv_iadd hx hb dLaw_law_268 ?_
  refine va_sld hx hb K.hX K.hbl hbA I.hS (lw_in K.hL hq ex4 2 (by decide) rfl) dLaw_law_269 ?_
  refine lv_aload_n hx hb dLaw_law_270 rfl (lv_at hl 3 rfl) ?_
  refine lc_wrap (RES := fun r κ1 g1 => κ1 3 = κ 3 ∧ κ1 0 = κ 0 ∧ κ1 1 = κ 1) K I (by have := K.hL; omega) (w_subtype l K.hst γ A κ s K.hw0 K.hnc K.hA0 H (m0 + 25) K.hAo g (xs (x4 + 1).toNatClampNeg) (xs (x4 + 2).toNatClampNeg)) meLaw_subtype qw_dfdad7d990 ⟨Nat.le_of_ble_eq_true rfl, Nat.le_of_ble_eq_true rfl⟩ rfl hl.1 rfl dLaw_law_271 (fun r H1 h => by obtain ⟨⟨g1, h1⟩, h2⟩ := h; exact ⟨g1, h1, h2⟩) (fun r H1 locs1 κ1 g1 hr I1 => ?_)
  refine lv_istore (lv' := [(5, .int r), (0, .ref b), (1, .ref (γ.2.2.2 0)), (2, .ref m0), (3, .ref (m0 + 25)), (4, .int x4)]) hx hb dLaw_law_274 hl (by decide) rfl (fun ls hl => ?_)
  refine lv_aload_n hx hb dLaw_law_276 rfl (lv_at hl 3 rfl) ?_
  refine lv_aload_n hx hb dLaw_law_277 rfl (lv_at hl 1 rfl) ?_
  refine lv_iload hx hb dLaw_law_278 (lv_at hl 5 rfl) ?_
  refine lv_iconst (v := 1) hx hb dLaw_law_280 (by decide) ?_
  refine lv_iadd hx hb dLaw_law_281 ?_
  refine va_sld hx hb K.hX K.hbl hbA I1.hS (lw_in K.hL hq ex4 1 (by decide) rfl) dLaw_law_282 ?_
  refine lv_aload_n hx hb dLaw_law_283 rfl (lv_at hl 1 rfl) ?_
  refine lv_iload hx hb dLaw_law_284 (lv_at hl 5 rfl) ?_
  refine lv_iconst (v := 2) hx hb dLaw_law_286 (by decide) ?_
  refine lv_iadd hx hb dLaw_law_287 ?_
  refine va_sld hx hb K.hX K.hbl hbA I1.hS (lw_in K.hL hq ex4 2 (by decide) rfl) dLaw_law_288 ?_
  refine lc_model (rest := []) (As := [.int (xs (x4 + 1).toNatClampNeg), .int (xs (x4 + 2).toNatClampNeg)]) (RES := fun r κ2 cd2 => κ2 5 = κm 5 ∧ κ2 0 = κm 0 ∧ κ2 1 = κm 1) K I1 (fun b0 mn ν τ σ F nu hT hZ hF hG _ => m_subtype l γ m0 (B0 m0) _ κm b0 mn ν τ σ F nu hT (xs (x4 + 1).toNatClampNeg) (xs (x4 + 2).toNatClampNeg) hZ hF hG) meModel_subtype rfl qw_7f175f9fcc ⟨Nat.le_of_ble_eq_true rfl, Nat.le_of_ble_eq_true rfl⟩ rfl hl.1 rfl (Nat.le_of_ble_eq_true rfl) dLaw_law_289 (cc_room1 (ph_le I1.hI) (by have := K.hL; omega)) (fun r H1 h => by obtain ⟨κ2, cd2, h1, h2⟩ := h; exact ⟨κ2, cd2, h2, h1⟩) (fun r2 H2 locs2 κ2 cd2 hr2 I2 => ?_)
  refine lv_istore (lv' := [(6, .int r2), (5, .int r), (0, .ref b), (1, .ref (γ.2.2.2 0)), (2, .ref m0), (3, .ref (m0 + 25)), (4, .int x4)]) hx hb dLaw_law_292 hl (by decide) rfl (fun ls hl => ?_)
  refine lv_goto (tgt := 534) hx hb dLaw_law_294 (by decide) ?_
  refine W.up cc_5.1 cc_5.2 ?_
  exact J _ _ κ1 _ _ _ _ I2 (by omega) (lv_sub hl [2, 3, 4, 5, 6] rfl)
set_option maxHeartbeats 4000000 in
set_option maxRecDepth 100000 in
theorem lc_7 {p : Program} {l : Launch} {e : Env} {s : State} {m : MethodId} {below : List Frame} {meth : Method} {c : Code} {b L : Nat} {xs : Nat → Int32} {γ : gE} {A : Nat → Prop} {m0 : Nat} {q : Nat} {x4 : Int32} {Q : State → Prop} (K : LC l p s m c b L xs γ A m0) (hq : q + 5 ≤ L) (ex4 : x4 = nI q) (J : ∀ (H : Heap) (locs : List Loc) (κ κm : Nat → Nat) (cd : Int32) (g : Nat → Int64) (ls : Array Slot), LI s γ A m0 κ κm cd g H locs → EQ3 κ κm → lv_has ls 7 [(0, .ref b), (1, .ref (γ.2.2.2 0)), (2, .ref m0), (3, .ref (m0 + 25)), (4, .int x4)] → W p l e room_1 s m #[Value.ref b] below meth c H locs (CC κ (q + 5)) (SS κ (q + 5)) Q (F0 m 534 ls [])) {H : Heap} {locs : List Loc} {κ κm : Nat → Nat} {cd : Int32} {g : Nat → Int64} {ls : Array Slot} (I : LI s γ A m0 κ κm cd g H locs) (h3 : EQ3 κ κm) (hl : lv_has ls 7 [(0, .ref b), (1, .ref (γ.2.2.2 0)), (2, .ref m0), (3, .ref (m0 + 25)), (4, .int x4)]) : W p l e room_1 s m #[Value.ref b] below meth c H locs (CC κ q) (SS κ q) Q (F0 m 297 ls []) := by
  obtain ⟨hx, hb, hml, hown, hW⟩ := id K.S
  have hbA : ¬ (fun q : Nat => s.heap.size ≤ q) b := Nat.not_le.mpr K.hbl
  refine lv_aload_n hx hb dLaw_law_297 rfl (lv_at hl 1 rfl) ?_
  refine lv_aload_n hx hb dLaw_law_298 rfl (lv_at hl 0 rfl) ?_
  refine lv_iload hx hb dLaw_law_299 (lv_at hl 4 rfl) ?_
  refine lv_iconst (v := 1) hx hb dLaw_law_301 (by decide) ?_
  refine lv_iadd hx hb dLaw_law_302 ?_
  refine va_sld hx hb K.hX K.hbl hbA I.hS (lw_in K.hL hq ex4 1 (by decide) rfl) dLaw_law_303 ?_
  refine lv_aload_n hx hb dLaw_law_304 rfl (lv_at hl 0 rfl) ?_
  refine lv_iload hx hb dLaw_law_305 (lv_at hl 4 rfl) ?_
  refine lv_iconst (v := 2) hx hb dLaw_law_307 (by decide) ?_
  refine lv_iadd hx hb dLaw_law_308 ?_
  refine va_sld hx hb K.hX K.hbl hbA I.hS (lw_in K.hL hq ex4 2 (by decide) rfl) dLaw_law_309 ?_
  refine lv_aload_n hx hb dLaw_law_310 rfl (lv_at hl 0 rfl) ?_
  refine lv_iload hx hb dLaw_law_311 (lv_at hl 4 rfl) ?_
  refine lv_iconst (v := 3) hx hb dLaw_law_313 (by decide) ?_
  refine lv_iadd hx hb dLaw_law_314 ?_
  refine va_sld hx hb K.hX K.hbl hbA I.hS (lw_in K.hL hq ex4 3 (by decide) rfl) dLaw_law_315 ?_
  refine lv_aload_n hx hb dLaw_law_316 rfl (lv_at hl 0 rfl) ?_
  refine lv_iload hx hb dLaw_law_317 (lv_at hl 4 rfl) ?_
  refine lv_iconst (v := 4) hx hb dLaw_law_319 (by decide) ?_
  refine lv_iadd hx hb dLaw_law_320 ?_
  refine va_sld hx hb K.hX K.hbl hbA I.hS (lw_in K.hL hq ex4 4 (by decide) rfl) dLaw_law_321 ?_
  refine lv_aload_n hx hb dLaw_law_322 rfl (lv_at hl 3 rfl) ?_
  refine lc_wrap (RES := fun r κ1 g1 => κ1 3 = κ 3 ∧ κ1 0 = κ 0 ∧ κ1 1 = κ 1) K I (by have := K.hL; omega) (w_declare l K.hst γ A κ s K.hw0 K.hnc K.hA0 H (m0 + 25) K.hAo g (xs (x4 + 1).toNatClampNeg) (xs (x4 + 2).toNatClampNeg) (xs (x4 + 3).toNatClampNeg) (xs (x4 + 4).toNatClampNeg)) meLaw_declare qw_92a1c8ddd1 ⟨Nat.le_of_ble_eq_true rfl, Nat.le_of_ble_eq_true rfl⟩ rfl hl.1 rfl dLaw_law_323 (fun r H1 h => by obtain ⟨⟨g1, h1⟩, h2⟩ := h; exact ⟨g1, h1, h2⟩) (fun r H1 locs1 κ1 g1 hr I1 => ?_)
  refine lv_istore (lv' := [(5, .int r), (0, .ref b), (1, .ref (γ.2.2.2 0)), (2, .ref m0), (3, .ref (m0 + 25)), (4, .int x4)]) hx hb dLaw_law_326 hl (by decide) rfl (fun ls hl => ?_)
  refine lv_aload_n hx hb dLaw_law_328 rfl (lv_at hl 3 rfl) ?_
  refine lv_aload_n hx hb dLaw_law_329 rfl (lv_at hl 1 rfl) ?_
  refine lv_iload hx hb dLaw_law_330 (lv_at hl 5 rfl) ?_
  refine lv_iconst (v := 1) hx hb dLaw_law_332 (by decide) ?_
  refine lv_iadd hx hb dLaw_law_333 ?_
  refine va_sld hx hb K.hX K.hbl hbA I1.hS (lw_in K.hL hq ex4 1 (by decide) rfl) dLaw_law_334 ?_
  refine lv_aload_n hx hb dLaw_law_335 rfl (lv_at hl 1 rfl) ?_
  refine lv_iload hx hb dLaw_law_336 (lv_at hl 5 rfl) ?_
  refine lv_iconst (v := 2) hx hb dLaw_law_338 (by decide) ?_
  refine lv_iadd hx hb dLaw_law_339 ?_
  refine va_sld hx hb K.hX K.hbl hbA I1.hS (lw_in K.hL hq ex4 2 (by decide) rfl) dLaw_law_340 ?_
  refine lv_aload_n hx hb dLaw_law_341 rfl (lv_at hl 1 rfl) ?_
  refine lv_iload hx hb dLaw_law_342 (lv_at hl 5 rfl) ?_
  refine lv_iconst (v := 3) hx hb dLaw_law_344 (by decide) ?_
  refine lv_iadd hx hb dLaw_law_345 ?_
  refine va_sld hx hb K.hX K.hbl hbA I1.hS (lw_in K.hL hq ex4 3 (by decide) rfl) dLaw_law_346 ?_
  refine lv_aload_n hx hb dLaw_law_347 rfl (lv_at hl 1 rfl) ?_
  refine lv_iload hx hb dLaw_law_348 (lv_at hl 5 rfl) ?_
  refine lv_iconst (v := 4) hx hb dLaw_law_350 (by decide) ?_
  refine lv_iadd hx hb dLaw_law_351 ?_
  refine va_sld hx hb K.hX K.hbl hbA I1.hS (lw_in K.hL hq ex4 4 (by decide) rfl) dLaw_law_352 ?_
  refine lc_model (rest := []) (As := [.int (xs (x4 + 1).toNatClampNeg), .int (xs (x4 + 2).toNatClampNeg), .int (xs (x4 + 3).toNatClampNeg), .int (xs (x4 + 4).toNatClampNeg)]) (RES := fun r κ2 cd2 => κ2 5 = κm 5 ∧ κ2 0 = κm 0 ∧ κ2 1 = κm 1) K I1 (fun b0 mn ν τ σ F nu hT hZ hF hG _ => m_declare l γ m0 (B0 m0) _ κm b0 mn ν τ σ F nu hT (xs (x4 + 1).toNatClampNeg) (xs (x4 + 2).toNatClampNeg) (xs (x4 + 3).toNatClampNeg) (xs (x4 + 4).toNatClampNeg) hZ hF hG) meModel_declare rfl qw_cce4fe4997 ⟨Nat.le_of_ble_eq_true rfl, Nat.le_of_ble_eq_true rfl⟩ rfl hl.1 rfl (Nat.le_of_ble_eq_true rfl) dLaw_law_353 (cc_room1 (ph_le I1.hI) (by have := K.hL; omega)) (fun r H1 h => by obtain ⟨κ2, cd2, h1, h2⟩ := h; exact ⟨κ2, cd2, h2, h1⟩) (fun r2 H2 locs2 κ2 cd2 hr2 I2 => ?_)
  refine lv_istore (lv' := [(6, .int r2), (5, .int r), (0, .ref b), (1, .ref (γ.2.2.2 0)), (2, .ref m0), (3, .ref (m0 + 25)), (4, .int x4)]) hx hb dLaw_law_356 hl (by decide) rfl (fun ls hl => ?_)
  refine lv_goto (tgt := 534) hx hb dLaw_law_358 (by decide) ?_
  refine W.up cc_5.1 cc_5.2 ?_
  exact J _ _ κ1 _ _ _ _ I2 (by omega) (lv_sub hl [2, 3, 4, 5, 6] rfl)
set_option maxHeartbeats 4000000 in
set_option maxRecDepth 100000 in
theorem lc_8 {p : Program} {l : Launch} {e : Env} {s : State} {m : MethodId} {below : List Frame} {meth : Method} {c : Code} {b L : Nat} {xs : Nat → Int32} {γ : gE} {A : Nat → Prop} {m0 : Nat} {q : Nat} {x4 : Int32} {Q : State → Prop} (K : LC l p s m c b L xs γ A m0) (hq : q + 5 ≤ L) (ex4 : x4 = nI q) (J : ∀ (H : Heap) (locs : List Loc) (κ κm : Nat → Nat) (cd : Int32) (g : Nat → Int64) (ls : Array Slot), LI s γ A m0 κ κm cd g H locs → EQ3 κ κm → lv_has ls 7 [(0, .ref b), (1, .ref (γ.2.2.2 0)), (2, .ref m0), (3, .ref (m0 + 25)), (4, .int x4)] → W p l e room_1 s m #[Value.ref b] below meth c H locs (CC κ (q + 5)) (SS κ (q + 5)) Q (F0 m 534 ls [])) {H : Heap} {locs : List Loc} {κ κm : Nat → Nat} {cd : Int32} {g : Nat → Int64} {ls : Array Slot} (I : LI s γ A m0 κ κm cd g H locs) (h3 : EQ3 κ κm) (hl : lv_has ls 7 [(0, .ref b), (1, .ref (γ.2.2.2 0)), (2, .ref m0), (3, .ref (m0 + 25)), (4, .int x4)]) : W p l e room_1 s m #[Value.ref b] below meth c H locs (CC κ q) (SS κ q) Q (F0 m 361 ls []) := by
  obtain ⟨hx, hb, hml, hown, hW⟩ := id K.S
  have hbA : ¬ (fun q : Nat => s.heap.size ≤ q) b := Nat.not_le.mpr K.hbl
  refine lv_aload_n hx hb dLaw_law_361 rfl (lv_at hl 1 rfl) ?_
  refine lv_aload_n hx hb dLaw_law_362 rfl (lv_at hl 0 rfl) ?_
  refine lv_iload hx hb dLaw_law_363 (lv_at hl 4 rfl) ?_
  refine lv_iconst (v := 1) hx hb dLaw_law_365 (by decide) ?_
  refine lv_iadd hx hb dLaw_law_366 ?_
  refine va_sld hx hb K.hX K.hbl hbA I.hS (lw_in K.hL hq ex4 1 (by decide) rfl) dLaw_law_367 ?_
  refine lv_aload_n hx hb dLaw_law_368 rfl (lv_at hl 0 rfl) ?_
  refine lv_iload hx hb dLaw_law_369 (lv_at hl 4 rfl) ?_
  refine lv_iconst (v := 2) hx hb dLaw_law_371 (by decide) ?_
  refine lv_iadd hx hb dLaw_law_372 ?_
  refine va_sld hx hb K.hX K.hbl hbA I.hS (lw_in K.hL hq ex4 2 (by decide) rfl) dLaw_law_373 ?_
  refine lv_aload_n hx hb dLaw_law_374 rfl (lv_at hl 3 rfl) ?_
  refine lc_wrap (RES := fun r κ1 g1 => κ1 3 = κ 3 ∧ κ1 0 = κ 0 ∧ κ1 1 = κ 1) K I (by have := K.hL; omega) (w_check l K.hst γ A κ s K.hw0 K.hnc K.hA0 H (m0 + 25) K.hAo g (xs (x4 + 1).toNatClampNeg) (xs (x4 + 2).toNatClampNeg)) meLaw_check qw_4146e1e6a3 ⟨Nat.le_of_ble_eq_true rfl, Nat.le_of_ble_eq_true rfl⟩ rfl hl.1 rfl dLaw_law_375 (fun r H1 h => by obtain ⟨⟨g1, h1⟩, h2⟩ := h; exact ⟨g1, h1, h2⟩) (fun r H1 locs1 κ1 g1 hr I1 => ?_)
  refine lv_istore (lv' := [(5, .int r), (0, .ref b), (1, .ref (γ.2.2.2 0)), (2, .ref m0), (3, .ref (m0 + 25)), (4, .int x4)]) hx hb dLaw_law_378 hl (by decide) rfl (fun ls hl => ?_)
  refine lv_aload_n hx hb dLaw_law_380 rfl (lv_at hl 3 rfl) ?_
  refine lv_aload_n hx hb dLaw_law_381 rfl (lv_at hl 1 rfl) ?_
  refine lv_iload hx hb dLaw_law_382 (lv_at hl 5 rfl) ?_
  refine lv_iconst (v := 1) hx hb dLaw_law_384 (by decide) ?_
  refine lv_iadd hx hb dLaw_law_385 ?_
  refine va_sld hx hb K.hX K.hbl hbA I1.hS (lw_in K.hL hq ex4 1 (by decide) rfl) dLaw_law_386 ?_
  refine lv_aload_n hx hb dLaw_law_387 rfl (lv_at hl 1 rfl) ?_
  refine lv_iload hx hb dLaw_law_388 (lv_at hl 5 rfl) ?_
  refine lv_iconst (v := 2) hx hb dLaw_law_390 (by decide) ?_
  refine lv_iadd hx hb dLaw_law_391 ?_
  refine va_sld hx hb K.hX K.hbl hbA I1.hS (lw_in K.hL hq ex4 2 (by decide) rfl) dLaw_law_392 ?_
  refine lc_model (rest := []) (As := [.int (xs (x4 + 1).toNatClampNeg), .int (xs (x4 + 2).toNatClampNeg)]) (RES := fun r κ2 cd2 => κ2 5 = κm 5 ∧ κ2 0 = κm 0 ∧ κ2 1 = κm 1) K I1 (fun b0 mn ν τ σ F nu hT hZ hF hG _ => m_check l γ m0 (B0 m0) _ κm b0 mn ν τ σ F nu hT (xs (x4 + 1).toNatClampNeg) (xs (x4 + 2).toNatClampNeg) hZ hF hG) meModel_check rfl qw_791b948204 ⟨Nat.le_of_ble_eq_true rfl, Nat.le_of_ble_eq_true rfl⟩ rfl hl.1 rfl (Nat.le_of_ble_eq_true rfl) dLaw_law_393 (cc_room1 (ph_le I1.hI) (by have := K.hL; omega)) (fun r H1 h => by obtain ⟨κ2, cd2, h1, h2⟩ := h; exact ⟨κ2, cd2, h2, h1⟩) (fun r2 H2 locs2 κ2 cd2 hr2 I2 => ?_)
  refine lv_istore (lv' := [(6, .int r2), (5, .int r), (0, .ref b), (1, .ref (γ.2.2.2 0)), (2, .ref m0), (3, .ref (m0 + 25)), (4, .int x4)]) hx hb dLaw_law_396 hl (by decide) rfl (fun ls hl => ?_)
  refine lv_goto (tgt := 534) hx hb dLaw_law_398 (by decide) ?_
  refine W.up cc_5.1 cc_5.2 ?_
  exact J _ _ κ1 _ _ _ _ I2 (by omega) (lv_sub hl [2, 3, 4, 5, 6] rfl)
set_option maxHeartbeats 4000000 in
set_option maxRecDepth 100000 in
theorem lc_9 {p : Program} {l : Launch} {e : Env} {s : State} {m : MethodId} {below : List Frame} {meth : Method} {c : Code} {b L : Nat} {xs : Nat → Int32} {γ : gE} {A : Nat → Prop} {m0 : Nat} {q : Nat} {x4 : Int32} {Q : State → Prop} (K : LC l p s m c b L xs γ A m0) (hq : q + 5 ≤ L) (ex4 : x4 = nI q) (J : ∀ (H : Heap) (locs : List Loc) (κ κm : Nat → Nat) (cd : Int32) (g : Nat → Int64) (ls : Array Slot), LI s γ A m0 κ κm cd g H locs → EQ3 κ κm → lv_has ls 7 [(0, .ref b), (1, .ref (γ.2.2.2 0)), (2, .ref m0), (3, .ref (m0 + 25)), (4, .int x4)] → W p l e room_1 s m #[Value.ref b] below meth c H locs (CC κ (q + 5)) (SS κ (q + 5)) Q (F0 m 534 ls [])) {H : Heap} {locs : List Loc} {κ κm : Nat → Nat} {cd : Int32} {g : Nat → Int64} {ls : Array Slot} (I : LI s γ A m0 κ κm cd g H locs) (h3 : EQ3 κ κm) (hl : lv_has ls 7 [(0, .ref b), (1, .ref (γ.2.2.2 0)), (2, .ref m0), (3, .ref (m0 + 25)), (4, .int x4)]) : W p l e room_1 s m #[Value.ref b] below meth c H locs (CC κ q) (SS κ q) Q (F0 m 401 ls []) := by
  obtain ⟨hx, hb, hml, hown, hW⟩ := id K.S
  have hbA : ¬ (fun q : Nat => s.heap.size ≤ q) b := Nat.not_le.mpr K.hbl
  refine lv_aload_n hx hb dLaw_law_401 rfl (lv_at hl 1 rfl) ?_
  refine lc_place K I hl.1 qw_a0b9b8900a dLaw_law_402 (by have h9 := cc_room (q := q) (ph_le I.hI) (by have := K.hL; omega); exact ⟨Nat.le_trans (Nat.le_add_right _ _) h9.1, Nat.le_trans (Nat.le_add_right _ _) h9.2⟩) (fun r => ?_)
  refine lv_pop hx hb dLaw_law_405 rfl ?_
  refine lv_aload_n hx hb dLaw_law_406 rfl (lv_at hl 2 rfl) ?_
  refine lc_model (rest := []) (As := []) (RES := fun r κ2 cd2 => κ2 5 = κm 5 ∧ κ2 0 = κm 0 ∧ κ2 1 = κm 1) K I (fun b0 mn ν τ σ F nu hT hZ hF hG _ => m_place l γ m0 (B0 m0) _ κm b0 mn ν τ σ F nu hT  hZ hF hG) meModel_place rfl qw_deca89feaf ⟨Nat.le_of_ble_eq_true rfl, Nat.le_of_ble_eq_true rfl⟩ rfl hl.1 rfl (Nat.le_of_ble_eq_true rfl) dLaw_law_407 (by have h9 := cc_room (q := q) (ph_le I.hI) (by have := K.hL; omega); exact ⟨Nat.le_trans (Nat.le_add_right _ _) h9.1, Nat.le_trans (Nat.le_add_right _ _) h9.2⟩) (fun r H1 h => by obtain ⟨κ2, cd2, h1, h2⟩ := h; exact ⟨κ2, cd2, h2, h1⟩) (fun r2 H2 locs2 κ2 cd2 hr2 I2 => ?_)
  refine lv_pop hx hb dLaw_law_410 rfl ?_
  refine lv_goto (tgt := 534) hx hb dLaw_law_411 (by decide) ?_
  refine W.up (Nat.le_trans (Nat.le_succ _) cc_5.1) (Nat.le_trans (Nat.le_add_right _ 6) cc_5.2) ?_
  exact J _ _ κ _ _ _ _ I2 (by omega) (lv_sub hl [0, 1, 2, 3, 4] rfl)
set_option maxHeartbeats 4000000 in
set_option maxRecDepth 100000 in
theorem lc_10 {p : Program} {l : Launch} {e : Env} {s : State} {m : MethodId} {below : List Frame} {meth : Method} {c : Code} {b L : Nat} {xs : Nat → Int32} {γ : gE} {A : Nat → Prop} {m0 : Nat} {q : Nat} {x4 : Int32} {Q : State → Prop} (K : LC l p s m c b L xs γ A m0) (hq : q + 5 ≤ L) (ex4 : x4 = nI q) (J : ∀ (H : Heap) (locs : List Loc) (κ κm : Nat → Nat) (cd : Int32) (g : Nat → Int64) (ls : Array Slot), LI s γ A m0 κ κm cd g H locs → EQ3 κ κm → lv_has ls 7 [(0, .ref b), (1, .ref (γ.2.2.2 0)), (2, .ref m0), (3, .ref (m0 + 25)), (4, .int x4)] → W p l e room_1 s m #[Value.ref b] below meth c H locs (CC κ (q + 5)) (SS κ (q + 5)) Q (F0 m 534 ls [])) {H : Heap} {locs : List Loc} {κ κm : Nat → Nat} {cd : Int32} {g : Nat → Int64} {ls : Array Slot} (I : LI s γ A m0 κ κm cd g H locs) (h3 : EQ3 κ κm) (hl : lv_has ls 7 [(0, .ref b), (1, .ref (γ.2.2.2 0)), (2, .ref m0), (3, .ref (m0 + 25)), (4, .int x4)]) : W p l e room_1 s m #[Value.ref b] below meth c H locs (CC κ q) (SS κ q) Q (F0 m 414 ls []) := by
  obtain ⟨hx, hb, hml, hown, hW⟩ := id K.S
  have hbA : ¬ (fun q : Nat => s.heap.size ≤ q) b := Nat.not_le.mpr K.hbl
  refine lv_aload_n hx hb dLaw_law_414 rfl (lv_at hl 1 rfl) ?_
  refine lv_aload_n hx hb dLaw_law_415 rfl (lv_at hl 0 rfl) ?_
  refine lv_iload hx hb dLaw_law_416 (lv_at hl 4 rfl) ?_
  refine lv_iconst (v := 1) hx hb dLaw_law_418 (by decide) ?_
  refine lv_iadd hx hb dLaw_law_419 ?_
  refine va_sld hx hb K.hX K.hbl hbA I.hS (lw_in K.hL hq ex4 1 (by decide) rfl) dLaw_law_420 ?_
  refine lv_aload_n hx hb dLaw_law_421 rfl (lv_at hl 0 rfl) ?_
  refine lv_iload hx hb dLaw_law_422 (lv_at hl 4 rfl) ?_
  refine lv_iconst (v := 2) hx hb dLaw_law_424 (by decide) ?_
  refine lv_iadd hx hb dLaw_law_425 ?_
  refine va_sld hx hb K.hX K.hbl hbA I.hS (lw_in K.hL hq ex4 2 (by decide) rfl) dLaw_law_426 ?_
  refine lv_aload_n hx hb dLaw_law_427 rfl (lv_at hl 3 rfl) ?_
  refine lc_wrap (RES := fun r κ1 g1 => κ1 3 = κ 3 ∧ κ1 0 = κ 0 ∧ κ1 1 = κ 1) K I (by have := K.hL; omega) (w_typeOf l K.hst γ A κ s K.hw0 K.hnc K.hA0 H (m0 + 25) K.hAo g (xs (x4 + 1).toNatClampNeg) (xs (x4 + 2).toNatClampNeg)) meLaw_typeOf qw_02fa55126c ⟨Nat.le_of_ble_eq_true rfl, Nat.le_of_ble_eq_true rfl⟩ rfl hl.1 rfl dLaw_law_428 (fun r H1 h => by obtain ⟨⟨g1, h1⟩, h2⟩ := h; exact ⟨g1, h1, h2⟩) (fun r H1 locs1 κ1 g1 hr I1 => ?_)
  refine lv_istore (lv' := [(5, .int r), (0, .ref b), (1, .ref (γ.2.2.2 0)), (2, .ref m0), (3, .ref (m0 + 25)), (4, .int x4)]) hx hb dLaw_law_431 hl (by decide) rfl (fun ls hl => ?_)
  refine lv_aload_n hx hb dLaw_law_433 rfl (lv_at hl 3 rfl) ?_
  refine lv_aload_n hx hb dLaw_law_434 rfl (lv_at hl 1 rfl) ?_
  refine lv_iload hx hb dLaw_law_435 (lv_at hl 5 rfl) ?_
  refine lv_iconst (v := 1) hx hb dLaw_law_437 (by decide) ?_
  refine lv_iadd hx hb dLaw_law_438 ?_
  refine va_sld hx hb K.hX K.hbl hbA I1.hS (lw_in K.hL hq ex4 1 (by decide) rfl) dLaw_law_439 ?_
  refine lv_aload_n hx hb dLaw_law_440 rfl (lv_at hl 1 rfl) ?_
  refine lv_iload hx hb dLaw_law_441 (lv_at hl 5 rfl) ?_
  refine lv_iconst (v := 2) hx hb dLaw_law_443 (by decide) ?_
  refine lv_iadd hx hb dLaw_law_444 ?_
  refine va_sld hx hb K.hX K.hbl hbA I1.hS (lw_in K.hL hq ex4 2 (by decide) rfl) dLaw_law_445 ?_
  refine lc_model (rest := []) (As := [.int (xs (x4 + 1).toNatClampNeg), .int (xs (x4 + 2).toNatClampNeg)]) (RES := fun r κ2 cd2 => κ2 5 = κm 5 ∧ κ2 0 = κm 0 ∧ κ2 1 = κm 1) K I1 (fun b0 mn ν τ σ F nu hT hZ hF hG _ => m_typeOf l γ m0 (B0 m0) _ κm b0 mn ν τ σ F nu hT (xs (x4 + 1).toNatClampNeg) (xs (x4 + 2).toNatClampNeg) hZ hF hG) meModel_typeOf rfl qw_80badc1e51 ⟨Nat.le_of_ble_eq_true rfl, Nat.le_of_ble_eq_true rfl⟩ rfl hl.1 rfl (Nat.le_of_ble_eq_true rfl) dLaw_law_446 (cc_room1 (ph_le I1.hI) (by have := K.hL; omega)) (fun r H1 h => by obtain ⟨κ2, cd2, h1, h2⟩ := h; exact ⟨κ2, cd2, h2, h1⟩) (fun r2 H2 locs2 κ2 cd2 hr2 I2 => ?_)
  refine lv_istore (lv' := [(6, .int r2), (5, .int r), (0, .ref b), (1, .ref (γ.2.2.2 0)), (2, .ref m0), (3, .ref (m0 + 25)), (4, .int x4)]) hx hb dLaw_law_449 hl (by decide) rfl (fun ls hl => ?_)
  refine lv_goto (tgt := 534) hx hb dLaw_law_451 (by decide) ?_
  refine W.up cc_5.1 cc_5.2 ?_
  exact J _ _ κ1 _ _ _ _ I2 (by omega) (lv_sub hl [2, 3, 4, 5, 6] rfl)
set_option maxHeartbeats 4000000 in
set_option maxRecDepth 100000 in
theorem lc_11 {p : Program} {l : Launch} {e : Env} {s : State} {m : MethodId} {below : List Frame} {meth : Method} {c : Code} {b L : Nat} {xs : Nat → Int32} {γ : gE} {A : Nat → Prop} {m0 : Nat} {q : Nat} {x4 : Int32} {Q : State → Prop} (K : LC l p s m c b L xs γ A m0) (hq : q + 5 ≤ L) (ex4 : x4 = nI q) (J : ∀ (H : Heap) (locs : List Loc) (κ κm : Nat → Nat) (cd : Int32) (g : Nat → Int64) (ls : Array Slot), LI s γ A m0 κ κm cd g H locs → EQ3 κ κm → lv_has ls 7 [(0, .ref b), (1, .ref (γ.2.2.2 0)), (2, .ref m0), (3, .ref (m0 + 25)), (4, .int x4)] → W p l e room_1 s m #[Value.ref b] below meth c H locs (CC κ (q + 5)) (SS κ (q + 5)) Q (F0 m 534 ls [])) {H : Heap} {locs : List Loc} {κ κm : Nat → Nat} {cd : Int32} {g : Nat → Int64} {ls : Array Slot} (I : LI s γ A m0 κ κm cd g H locs) (h3 : EQ3 κ κm) (hl : lv_has ls 7 [(0, .ref b), (1, .ref (γ.2.2.2 0)), (2, .ref m0), (3, .ref (m0 + 25)), (4, .int x4)]) : W p l e room_1 s m #[Value.ref b] below meth c H locs (CC κ q) (SS κ q) Q (F0 m 454 ls []) := by
  obtain ⟨hx, hb, hml, hown, hW⟩ := id K.S
  have hbA : ¬ (fun q : Nat => s.heap.size ≤ q) b := Nat.not_le.mpr K.hbl
  refine lv_aload_n hx hb dLaw_law_454 rfl (lv_at hl 1 rfl) ?_
  refine lv_aload_n hx hb dLaw_law_455 rfl (lv_at hl 0 rfl) ?_
  refine lv_iload hx hb dLaw_law_456 (lv_at hl 4 rfl) ?_
  refine lv_iconst (v := 1) hx hb dLaw_law_458 (by decide) ?_
  refine lv_iadd hx hb dLaw_law_459 ?_
  refine va_sld hx hb K.hX K.hbl hbA I.hS (lw_in K.hL hq ex4 1 (by decide) rfl) dLaw_law_460 ?_
  refine lv_aload_n hx hb dLaw_law_461 rfl (lv_at hl 0 rfl) ?_
  refine lv_iload hx hb dLaw_law_462 (lv_at hl 4 rfl) ?_
  refine lv_iconst (v := 2) hx hb dLaw_law_464 (by decide) ?_
  refine lv_iadd hx hb dLaw_law_465 ?_
  refine va_sld hx hb K.hX K.hbl hbA I.hS (lw_in K.hL hq ex4 2 (by decide) rfl) dLaw_law_466 ?_
  refine lv_aload_n hx hb dLaw_law_467 rfl (lv_at hl 3 rfl) ?_
  refine lc_wrap (RES := fun r κ1 g1 => κ1 3 = κ 3 ∧ κ1 0 = κ 0 ∧ κ1 1 = κ 1) K I (by have := K.hL; omega) (w_about l K.hst γ A κ s K.hw0 K.hnc K.hA0 H (m0 + 25) K.hAo g (xs (x4 + 1).toNatClampNeg) (xs (x4 + 2).toNatClampNeg)) meLaw_about qw_9858333207 ⟨Nat.le_of_ble_eq_true rfl, Nat.le_of_ble_eq_true rfl⟩ rfl hl.1 rfl dLaw_law_468 (fun r H1 h => by obtain ⟨⟨g1, h1⟩, h2⟩ := h; exact ⟨g1, h1, h2⟩) (fun r H1 locs1 κ1 g1 hr I1 => ?_)
  refine lv_istore (lv' := [(5, .int r), (0, .ref b), (1, .ref (γ.2.2.2 0)), (2, .ref m0), (3, .ref (m0 + 25)), (4, .int x4)]) hx hb dLaw_law_471 hl (by decide) rfl (fun ls hl => ?_)
  refine lv_aload_n hx hb dLaw_law_473 rfl (lv_at hl 3 rfl) ?_
  refine lv_aload_n hx hb dLaw_law_474 rfl (lv_at hl 1 rfl) ?_
  refine lv_iload hx hb dLaw_law_475 (lv_at hl 5 rfl) ?_
  refine lv_iconst (v := 1) hx hb dLaw_law_477 (by decide) ?_
  refine lv_iadd hx hb dLaw_law_478 ?_
  refine va_sld hx hb K.hX K.hbl hbA I1.hS (lw_in K.hL hq ex4 1 (by decide) rfl) dLaw_law_479 ?_
  refine lv_aload_n hx hb dLaw_law_480 rfl (lv_at hl 1 rfl) ?_
  refine lv_iload hx hb dLaw_law_481 (lv_at hl 5 rfl) ?_
  refine lv_iconst (v := 2) hx hb dLaw_law_483 (by decide) ?_
  refine lv_iadd hx hb dLaw_law_484 ?_
  refine va_sld hx hb K.hX K.hbl hbA I1.hS (lw_in K.hL hq ex4 2 (by decide) rfl) dLaw_law_485 ?_
  refine lc_model (rest := []) (As := [.int (xs (x4 + 1).toNatClampNeg), .int (xs (x4 + 2).toNatClampNeg)]) (RES := fun r κ2 cd2 => κ2 5 = κm 5 ∧ κ2 0 = κm 0 ∧ κ2 1 = κm 1) K I1 (fun b0 mn ν τ σ F nu hT hZ hF hG _ => m_about l γ m0 (B0 m0) _ κm b0 mn ν τ σ F nu hT (xs (x4 + 1).toNatClampNeg) (xs (x4 + 2).toNatClampNeg) hZ hF hG) meModel_about rfl qw_d20dbc44b2 ⟨Nat.le_of_ble_eq_true rfl, Nat.le_of_ble_eq_true rfl⟩ rfl hl.1 rfl (Nat.le_of_ble_eq_true rfl) dLaw_law_486 (cc_room1 (ph_le I1.hI) (by have := K.hL; omega)) (fun r H1 h => by obtain ⟨κ2, cd2, h1, h2⟩ := h; exact ⟨κ2, cd2, h2, h1⟩) (fun r2 H2 locs2 κ2 cd2 hr2 I2 => ?_)
  refine lv_istore (lv' := [(6, .int r2), (5, .int r), (0, .ref b), (1, .ref (γ.2.2.2 0)), (2, .ref m0), (3, .ref (m0 + 25)), (4, .int x4)]) hx hb dLaw_law_489 hl (by decide) rfl (fun ls hl => ?_)
  refine lv_goto (tgt := 534) hx hb dLaw_law_491 (by decide) ?_
  refine W.up cc_5.1 cc_5.2 ?_
  exact J _ _ κ1 _ _ _ _ I2 (by omega) (lv_sub hl [2, 3, 4, 5, 6] rfl)
set_option maxHeartbeats 4000000 in
set_option maxRecDepth 100000 in
theorem lc_12 {p : Program} {l : Launch} {e : Env} {s : State} {m : MethodId} {below : List Frame} {meth : Method} {c : Code} {b L : Nat} {xs : Nat → Int32} {γ : gE} {A : Nat → Prop} {m0 : Nat} {q : Nat} {x4 : Int32} {Q : State → Prop} (K : LC l p s m c b L xs γ A m0) (hq : q + 5 ≤ L) (ex4 : x4 = nI q) (J : ∀ (H : Heap) (locs : List Loc) (κ κm : Nat → Nat) (cd : Int32) (g : Nat → Int64) (ls : Array Slot), LI s γ A m0 κ κm cd g H locs → EQ3 κ κm → lv_has ls 7 [(0, .ref b), (1, .ref (γ.2.2.2 0)), (2, .ref m0), (3, .ref (m0 + 25)), (4, .int x4)] → W p l e room_1 s m #[Value.ref b] below meth c H locs (CC κ (q + 5)) (SS κ (q + 5)) Q (F0 m 534 ls [])) {H : Heap} {locs : List Loc} {κ κm : Nat → Nat} {cd : Int32} {g : Nat → Int64} {ls : Array Slot} (I : LI s γ A m0 κ κm cd g H locs) (h3 : EQ3 κ κm) (hl : lv_has ls 7 [(0, .ref b), (1, .ref (γ.2.2.2 0)), (2, .ref m0), (3, .ref (m0 + 25)), (4, .int x4)]) : W p l e room_1 s m #[Value.ref b] below meth c H locs (CC κ q) (SS κ q) Q (F0 m 494 ls []) := by
  obtain ⟨hx, hb, hml, hown, hW⟩ := id K.S
  have hbA : ¬ (fun q : Nat => s.heap.size ≤ q) b := Nat.not_le.mpr K.hbl
  refine lv_aload_n hx hb dLaw_law_494 rfl (lv_at hl 1 rfl) ?_
  refine lv_aload_n hx hb dLaw_law_495 rfl (lv_at hl 0 rfl) ?_
  refine lv_iload hx hb dLaw_law_496 (lv_at hl 4 rfl) ?_
  refine lv_iconst (v := 1) hx hb dLaw_law_498 (by decide) ?_
  refine lv_iadd hx hb dLaw_law_499 ?_
  refine va_sld hx hb K.hX K.hbl hbA I.hS (lw_in K.hL hq ex4 1 (by decide) rfl) dLaw_law_500 ?_
  refine lv_aload_n hx hb dLaw_law_501 rfl (lv_at hl 0 rfl) ?_
  refine lv_iload hx hb dLaw_law_502 (lv_at hl 4 rfl) ?_
  refine lv_iconst (v := 2) hx hb dLaw_law_504 (by decide) ?_
  refine lv_iadd hx hb dLaw_law_505 ?_
  refine va_sld hx hb K.hX K.hbl hbA I.hS (lw_in K.hL hq ex4 2 (by decide) rfl) dLaw_law_506 ?_
  refine lv_aload_n hx hb dLaw_law_507 rfl (lv_at hl 3 rfl) ?_
  refine lc_wrap (RES := fun r κ1 g1 => κ1 3 = κ 3 ∧ κ1 0 = κ 0 ∧ κ1 1 = κ 1) K I (by have := K.hL; omega) (w_value l K.hst γ A κ s K.hw0 K.hnc K.hA0 H (m0 + 25) K.hAo g (xs (x4 + 1).toNatClampNeg) (xs (x4 + 2).toNatClampNeg)) meLaw_value qw_f805544bb6 ⟨Nat.le_of_ble_eq_true rfl, Nat.le_of_ble_eq_true rfl⟩ rfl hl.1 rfl dLaw_law_508 (fun r H1 h => by obtain ⟨⟨g1, h1⟩, h2⟩ := h; exact ⟨g1, h1, h2⟩) (fun r H1 locs1 κ1 g1 hr I1 => ?_)
  refine lv_istore (lv' := [(5, .int r), (0, .ref b), (1, .ref (γ.2.2.2 0)), (2, .ref m0), (3, .ref (m0 + 25)), (4, .int x4)]) hx hb dLaw_law_511 hl (by decide) rfl (fun ls hl => ?_)
  refine lv_aload_n hx hb dLaw_law_513 rfl (lv_at hl 3 rfl) ?_
  refine lv_aload_n hx hb dLaw_law_514 rfl (lv_at hl 1 rfl) ?_
  refine lv_iload hx hb dLaw_law_515 (lv_at hl 5 rfl) ?_
  refine lv_iconst (v := 1) hx hb dLaw_law_517 (by decide) ?_
  refine lv_iadd hx hb dLaw_law_518 ?_
  refine va_sld hx hb K.hX K.hbl hbA I1.hS (lw_in K.hL hq ex4 1 (by decide) rfl) dLaw_law_519 ?_
  refine lv_aload_n hx hb dLaw_law_520 rfl (lv_at hl 1 rfl) ?_
  refine lv_iload hx hb dLaw_law_521 (lv_at hl 5 rfl) ?_
  refine lv_iconst (v := 2) hx hb dLaw_law_523 (by decide) ?_
  refine lv_iadd hx hb dLaw_law_524 ?_
  refine va_sld hx hb K.hX K.hbl hbA I1.hS (lw_in K.hL hq ex4 2 (by decide) rfl) dLaw_law_525 ?_
  refine lc_model (rest := []) (As := [.int (xs (x4 + 1).toNatClampNeg), .int (xs (x4 + 2).toNatClampNeg)]) (RES := fun r κ2 cd2 => κ2 5 = κm 5 ∧ κ2 0 = κm 0 ∧ κ2 1 = κm 1) K I1 (fun b0 mn ν τ σ F nu hT hZ hF hG _ => m_value l γ m0 (B0 m0) _ κm b0 mn ν τ σ F nu hT (xs (x4 + 1).toNatClampNeg) (xs (x4 + 2).toNatClampNeg) hZ hF hG) meModel_value rfl qw_ab55c756e9 ⟨Nat.le_of_ble_eq_true rfl, Nat.le_of_ble_eq_true rfl⟩ rfl hl.1 rfl (Nat.le_of_ble_eq_true rfl) dLaw_law_526 (cc_room1 (ph_le I1.hI) (by have := K.hL; omega)) (fun r H1 h => by obtain ⟨κ2, cd2, h1, h2⟩ := h; exact ⟨κ2, cd2, h2, h1⟩) (fun r2 H2 locs2 κ2 cd2 hr2 I2 => ?_)
  refine lv_istore (lv' := [(6, .int r2), (5, .int r), (0, .ref b), (1, .ref (γ.2.2.2 0)), (2, .ref m0), (3, .ref (m0 + 25)), (4, .int x4)]) hx hb dLaw_law_529 hl (by decide) rfl (fun ls hl => ?_)
  refine lv_goto (tgt := 534) hx hb dLaw_law_531 (by decide) ?_
  refine W.up cc_5.1 cc_5.2 ?_
  exact J _ _ κ1 _ _ _ _ I2 (by omega) (lv_sub hl [2, 3, 4, 5, 6] rfl)
