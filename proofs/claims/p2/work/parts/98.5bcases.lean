theorem qw_70d2ddefbe : (Cond.methodLink R_Law 57 yLaw_add) ∈ bs_W0 := bs_in (in_tables_1_2 (List.mem_of_getElem? (i := 86) rfl)) rfl
theorem qw_b5f338fe66 : (Cond.methodLink R_Law 62 yModel_add) ∈ bs_W0 := bs_in (in_tables_1_6 (List.mem_of_getElem? (i := 24) rfl)) rfl
theorem qw_fa8219c53e : (Cond.methodLink R_Law 63 yModel_thrown) ∈ bs_W0 := bs_in (in_tables_1_6 (List.mem_of_getElem? (i := 20) rfl)) rfl
theorem qw_e72fb3fd39 : (Cond.methodLink R_Law 66 yTypeBook_clear) ∈ bs_W0 := bs_in (in_tables_1_2 (List.mem_of_getElem? (i := 74) rfl)) rfl
theorem qw_4b8c3bd6e5 : (Cond.methodLink R_Law 69 yModel_clear) ∈ bs_W0 := bs_in (in_tables_1_6 (List.mem_of_getElem? (i := 31) rfl)) rfl
theorem qw_5d5308e039 : (Cond.methodLink R_Law 70 yLaw_enter) ∈ bs_W0 := bs_in (in_tables_1_2 (List.mem_of_getElem? (i := 230) rfl)) rfl
theorem qw_8d09d94fa8 : (Cond.methodLink R_Law 73 yModel_enter) ∈ bs_W0 := bs_in (in_tables_1_6 (List.mem_of_getElem? (i := 35) rfl)) rfl
theorem qw_e2f0faa56e : (Cond.methodLink R_Law 74 yLaw_leave) ∈ bs_W0 := bs_in (in_tables_1_3 (List.mem_of_getElem? (i := 2) rfl)) rfl
theorem qw_41ad58c3a1 : (Cond.methodLink R_Law 76 yModel_leave) ∈ bs_W0 := bs_in (in_tables_1_6 (List.mem_of_getElem? (i := 39) rfl)) rfl
theorem qw_20fb0eeb29 : (Cond.methodLink R_Law 77 yLaw_type) ∈ bs_W0 := bs_in (in_tables_1_3 (List.mem_of_getElem? (i := 14) rfl)) rfl
theorem qw_48653616c3 : (Cond.methodLink R_Law 80 yModel_type) ∈ bs_W0 := bs_in (in_tables_1_6 (List.mem_of_getElem? (i := 43) rfl)) rfl
theorem qw_a195f3ee01 : (Cond.methodLink R_Law 81 yLaw_enumeration) ∈ bs_W0 := bs_in (in_tables_1_5 (List.mem_of_getElem? (i := 10) rfl)) rfl
theorem qw_3a5364f9c7 : (Cond.methodLink R_Law 83 yModel_enumeration) ∈ bs_W0 := bs_in (in_tables_1_6 (List.mem_of_getElem? (i := 211) rfl)) rfl
theorem qw_4dfd4accc0 : (Cond.methodLink R_Law 84 yLaw_subtype) ∈ bs_W0 := bs_in (in_tables_1_5 (List.mem_of_getElem? (i := 44) rfl)) rfl
theorem qw_90f4f7925f : (Cond.methodLink R_Law 87 yModel_subtype) ∈ bs_W0 := bs_in (in_tables_1_6 (List.mem_of_getElem? (i := 223) rfl)) rfl
theorem qw_365c8f3f46 : (Cond.methodLink R_Law 88 yLaw_declare) ∈ bs_W0 := bs_in (in_tables_1_5 (List.mem_of_getElem? (i := 54) rfl)) rfl
theorem qw_f3764a54cb : (Cond.methodLink R_Law 91 yModel_declare) ∈ bs_W0 := bs_in (in_tables_1_6 (List.mem_of_getElem? (i := 231) rfl)) rfl
theorem qw_08d75bfac9 : (Cond.methodLink R_Law 92 yLaw_check) ∈ bs_W0 := bs_in (in_tables_1_5 (List.mem_of_getElem? (i := 96) rfl)) rfl
theorem qw_4fd6ec1137 : (Cond.methodLink R_Law 94 yModel_check) ∈ bs_W0 := bs_in (in_tables_1_6 (List.mem_of_getElem? (i := 239) rfl)) rfl
theorem qw_0809015189 : (Cond.methodLink R_Law 95 yTypeBook_place) ∈ bs_W0 := bs_in (in_tables_1_2 (List.mem_of_getElem? (i := 82) rfl)) rfl
theorem qw_994b943185 : (Cond.methodLink R_Law 98 yModel_place) ∈ bs_W0 := bs_in (in_tables_1_7 (List.mem_of_getElem? (i := 3) rfl)) rfl
theorem qw_21fe75c539 : (Cond.methodLink R_Law 99 yLaw_typeOf) ∈ bs_W0 := bs_in (in_tables_1_5 (List.mem_of_getElem? (i := 104) rfl)) rfl
theorem qw_43f92305fb : (Cond.methodLink R_Law 101 yModel_typeOf) ∈ bs_W0 := bs_in (in_tables_1_7 (List.mem_of_getElem? (i := 7) rfl)) rfl
theorem qw_6e398d7092 : (Cond.methodLink R_Law 102 yLaw_about) ∈ bs_W0 := bs_in (in_tables_1_5 (List.mem_of_getElem? (i := 117) rfl)) rfl
theorem qw_c27b3b6113 : (Cond.methodLink R_Law 104 yModel_about) ∈ bs_W0 := bs_in (in_tables_1_7 (List.mem_of_getElem? (i := 11) rfl)) rfl
theorem qw_d0b1c4e36c : (Cond.methodLink R_Law 105 yLaw_value) ∈ bs_W0 := bs_in (in_tables_1_5 (List.mem_of_getElem? (i := 129) rfl)) rfl
theorem qw_6253d5c13d : (Cond.methodLink R_Law 107 yModel_value) ∈ bs_W0 := bs_in (in_tables_1_7 (List.mem_of_getElem? (i := 15) rfl)) rfl
set_option maxHeartbeats 4000000 in
set_option maxRecDepth 100000 in
theorem lc_0 {p : Program} {l : Launch} {e : Env} {s : State} {m : MethodId} {below : List Frame} {meth : Method} {c : Code} {b L : Nat} {xs : Nat → Int32} {γ : gE} {A : Nat → Prop} {m0 : Nat} {q : Nat} {x4 : Int32} {Q : State → Prop} (K : LC l p s m c b L xs γ A m0) (hq : q + 5 ≤ L) (ex4 : x4 = nI q) (J : ∀ (H : Heap) (locs : List Loc) (κ κm : Nat → Nat) (cd : Int32) (g : Nat → Int64) (ls : Array Slot), LI s γ A m0 κ κm cd g H locs → EQ3 κ κm → lv_has ls 7 [(0, .ref b), (1, .ref (γ.2.2.2 0)), (2, .ref m0), (3, .ref (m0 + 25)), (4, .int x4)] → W p l e room_1 s m #[Value.ref b] below meth c H locs (CC κ (q + 5)) (SS κ (q + 5)) Q (F0 m 562 ls [])) {H : Heap} {locs : List Loc} {κ κm : Nat → Nat} {cd : Int32} {g : Nat → Int64} {ls : Array Slot} (I : LI s γ A m0 κ κm cd g H locs) (h3 : EQ3 κ κm) (hl : lv_has ls 7 [(0, .ref b), (1, .ref (γ.2.2.2 0)), (2, .ref m0), (3, .ref (m0 + 25)), (4, .int x4)]) : W p l e room_1 s m #[Value.ref b] below meth c H locs (CC κ q) (SS κ q) Q (F0 m 104 ls []) := by
  obtain ⟨hx, hb, hml, hown, hW⟩ := id K.S
  have hbA : ¬ (fun q : Nat => s.heap.size ≤ q) b := Nat.not_le.mpr K.hbl
  refine lv_aload_n hx hb dLaw_law_104 rfl (lv_at hl 1 rfl) ?_
  refine lv_aload_n hx hb dLaw_law_105 rfl (lv_at hl 0 rfl) ?_
  refine lv_iload hx hb dLaw_law_106 (lv_at hl 4 rfl) ?_
  refine lv_iconst (v := 1) hx hb dLaw_law_108 (by decide) ?_
  refine lv_iadd hx hb dLaw_law_109 ?_
  refine va_sld hx hb K.hX K.hbl hbA I.hS (lw_in K.hL hq ex4 1 (by decide) rfl) dLaw_law_110 ?_
  refine lv_aload_n hx hb dLaw_law_111 rfl (lv_at hl 0 rfl) ?_
  refine lv_iload hx hb dLaw_law_112 (lv_at hl 4 rfl) ?_
  refine lv_iconst (v := 2) hx hb dLaw_law_114 (by decide) ?_
  refine lv_iadd hx hb dLaw_law_115 ?_
  refine va_sld hx hb K.hX K.hbl hbA I.hS (lw_in K.hL hq ex4 2 (by decide) rfl) dLaw_law_116 ?_
  refine lv_aload_n hx hb dLaw_law_117 rfl (lv_at hl 0 rfl) ?_
  refine lv_iload hx hb dLaw_law_118 (lv_at hl 4 rfl) ?_
  refine lv_iconst (v := 3) hx hb dLaw_law_120 (by decide) ?_
  refine lv_iadd hx hb dLaw_law_121 ?_
  refine va_sld hx hb K.hX K.hbl hbA I.hS (lw_in K.hL hq ex4 3 (by decide) rfl) dLaw_law_122 ?_
  refine lv_aload_n hx hb dLaw_law_123 rfl (lv_at hl 3 rfl) ?_
  refine lc_wrap (RES := fun r κ1 g1 => ADR κ κ1 r (g1 0) (xs (x4 + 1).toNatClampNeg) (xs (x4 + 2).toNatClampNeg) (xs (x4 + 3).toNatClampNeg)) K I (by have := K.hL; omega) (w_add l K.hst γ A κ s K.hw0 K.hnc K.hA0 H (m0 + 25) K.hAo g (xs (x4 + 1).toNatClampNeg) (xs (x4 + 2).toNatClampNeg) (xs (x4 + 3).toNatClampNeg)) meLaw_add qw_70d2ddefbe ⟨Nat.le_of_ble_eq_true rfl, Nat.le_of_ble_eq_true rfl⟩ rfl hl.1 rfl dLaw_law_124 (fun r H1 h => h.elim (fun ⟨h1, h2, ⟨g1, h3, h4⟩, h5⟩ => ⟨g1, h3, h5.mono (fun k h => Or.inl ⟨h1, h2, h4, h⟩)⟩) (fun ⟨h1, ⟨g1, h3⟩, h5⟩ => ⟨g1, h3, h5.mono (fun k h => Or.inr ⟨h1, h⟩)⟩)) (fun r H1 locs1 κ1 g1 hr I1 => ?_)
  refine lv_istore (lv' := [(5, .int r), (0, .ref b), (1, .ref (γ.2.2.2 0)), (2, .ref m0), (3, .ref (m0 + 25)), (4, .int x4)]) hx hb dLaw_law_127 hl (by decide) rfl (fun ls hl => ?_)
  refine lv_aload_n hx hb dLaw_law_129 rfl (lv_at hl 3 rfl) ?_
  refine lv_aload_n hx hb dLaw_law_130 rfl (lv_at hl 1 rfl) ?_
  refine lv_iload hx hb dLaw_law_131 (lv_at hl 5 rfl) ?_
  refine lv_iconst (v := 1) hx hb dLaw_law_133 (by decide) ?_
  refine lv_iadd hx hb dLaw_law_134 ?_
  refine va_sld hx hb K.hX K.hbl hbA I1.hS (lw_in K.hL hq ex4 1 (by decide) rfl) dLaw_law_135 ?_
  refine lv_aload_n hx hb dLaw_law_136 rfl (lv_at hl 1 rfl) ?_
  refine lv_iload hx hb dLaw_law_137 (lv_at hl 5 rfl) ?_
  refine lv_iconst (v := 2) hx hb dLaw_law_139 (by decide) ?_
  refine lv_iadd hx hb dLaw_law_140 ?_
  refine va_sld hx hb K.hX K.hbl hbA I1.hS (lw_in K.hL hq ex4 2 (by decide) rfl) dLaw_law_141 ?_
  refine lv_aload_n hx hb dLaw_law_142 rfl (lv_at hl 1 rfl) ?_
  refine lv_iload hx hb dLaw_law_143 (lv_at hl 5 rfl) ?_
  refine lv_iconst (v := 3) hx hb dLaw_law_145 (by decide) ?_
  refine lv_iadd hx hb dLaw_law_146 ?_
  refine va_sld hx hb K.hX K.hbl hbA I1.hS (lw_in K.hL hq ex4 3 (by decide) rfl) dLaw_law_147 ?_
  refine lc_model (rest := []) (As := [.int (xs (x4 + 1).toNatClampNeg), .int (xs (x4 + 2).toNatClampNeg), .int (xs (x4 + 3).toNatClampNeg)]) (RES := fun r κ2 cd2 => ADM κm κ2 r cd2 (xs (x4 + 1).toNatClampNeg) (xs (x4 + 2).toNatClampNeg) (xs (x4 + 3).toNatClampNeg)) K I1 (fun b0 mn ν τ σ F nu hT hZ hF hG _ => m_add l γ m0 (B0 m0) _ κm b0 mn ν τ σ F nu hT (xs (x4 + 1).toNatClampNeg) (xs (x4 + 2).toNatClampNeg) (xs (x4 + 3).toNatClampNeg) hZ hF hG) meModel_add rfl qw_b5f338fe66 ⟨Nat.le_of_ble_eq_true rfl, Nat.le_of_ble_eq_true rfl⟩ rfl hl.1 rfl (Nat.le_of_ble_eq_true rfl) dLaw_law_148 (cc_room1 (ph_le I1.hI) (by have := K.hL; omega)) (fun r H1 h => h.elim (fun ⟨h1, h2⟩ => ⟨_, _, h2, Or.inl ⟨h1, rfl, rfl⟩⟩) (fun h => h.elim (fun ⟨h1, h2, h3⟩ => ⟨_, _, h3, Or.inr (Or.inl ⟨h1, h2, rfl, rfl⟩)⟩) (fun ⟨h1, h2, h3, κ2, h4, h5, h6, h7⟩ => ⟨κ2, _, h7, Or.inr (Or.inr ⟨h1, h2, h3, h4, h5, h6, rfl⟩)⟩))) (fun r2 H2 locs2 κ2 cd2 hr2 I2 => ?_)
  obtain ⟨hcd, hgr, heq⟩ := cmp_add h3 (hb8 I) hr hr2
  refine lv_istore (lv' := [(6, .int r2), (5, .int r), (0, .ref b), (1, .ref (γ.2.2.2 0)), (2, .ref m0), (3, .ref (m0 + 25)), (4, .int x4)]) hx hb dLaw_law_151 hl (by decide) rfl (fun ls hl => ?_)
  refine lv_aload_n hx hb dLaw_law_153 rfl (lv_at hl 4 rfl) ?_
  refine lc_thrown K I2 hl.1 qw_fa8219c53e dLaw_law_154 (cc_room1 (ph_le I2.hI) (by have := K.hL; omega)) ?_
  refine lv_iload hx hb dLaw_law_157 (lv_at hl 1 rfl) ?_
  refine lv_icmp_eq (tgt := 164) hx hb dLaw_law_159 (by decide) (fun c1 => ?_) (fun c1 => absurd hcd c1)
  refine lv_iload hx hb dLaw_law_164 (lv_at hl 1 rfl) ?_
  have JY : W p l e room_1 s m #[Value.ref b] below meth c H2 locs2 (CC κ1 q + 1) (SS κ1 q + 6) Q (F0 m 181 ls []) := by
    refine lv_goto (tgt := 562) hx hb dLaw_law_181 (by decide) ?_
    refine W.up cc_5.1 cc_5.2 ?_
    exact J _ _ κ1 _ _ _ _ I2 heq (lv_sub hl [2, 3, 4, 5, 6] rfl)
  refine lv_if_ne (tgt := 181) hx hb dLaw_law_166 (by decide) (fun c2 => JY) (fun c2 => ?_)
  refine lv_aload_n hx hb dLaw_law_169 rfl (lv_at hl 5 rfl) ?_
  refine lv_iconst (v := 0) hx hb dLaw_law_170 (by decide) ?_
  refine ou_ld K.S K.hC I2.hO dLaw_law_171 ?_
  refine lv_iload hx hb dLaw_law_172 (lv_at hl 0 rfl) ?_
  refine lv_i2l hx hb dLaw_law_174 rfl ?_
  refine W.lcmp hx hb dLaw_law_175 ?_
  refine lv_topi (fun v9 ev9 => ?_)
  have hv9 : v9 = 0 := by
    have hg9 : g1 0 = r2.toInt64 := hgr c2
    rw [ev9, hg9]
    unfold lg_cmp; simp
  exact lv_if_eq (tgt := 181) hx hb dLaw_law_176 (by decide) (fun _ => JY) (fun c3 => absurd hv9 c3)
set_option maxHeartbeats 4000000 in
set_option maxRecDepth 100000 in
theorem lc_1 {p : Program} {l : Launch} {e : Env} {s : State} {m : MethodId} {below : List Frame} {meth : Method} {c : Code} {b L : Nat} {xs : Nat → Int32} {γ : gE} {A : Nat → Prop} {m0 : Nat} {q : Nat} {x4 : Int32} {Q : State → Prop} (K : LC l p s m c b L xs γ A m0) (hq : q + 5 ≤ L) (ex4 : x4 = nI q) (J : ∀ (H : Heap) (locs : List Loc) (κ κm : Nat → Nat) (cd : Int32) (g : Nat → Int64) (ls : Array Slot), LI s γ A m0 κ κm cd g H locs → EQ3 κ κm → lv_has ls 7 [(0, .ref b), (1, .ref (γ.2.2.2 0)), (2, .ref m0), (3, .ref (m0 + 25)), (4, .int x4)] → W p l e room_1 s m #[Value.ref b] below meth c H locs (CC κ (q + 5)) (SS κ (q + 5)) Q (F0 m 562 ls [])) {H : Heap} {locs : List Loc} {κ κm : Nat → Nat} {cd : Int32} {g : Nat → Int64} {ls : Array Slot} (I : LI s γ A m0 κ κm cd g H locs) (h3 : EQ3 κ κm) (hl : lv_has ls 7 [(0, .ref b), (1, .ref (γ.2.2.2 0)), (2, .ref m0), (3, .ref (m0 + 25)), (4, .int x4)]) : W p l e room_1 s m #[Value.ref b] below meth c H locs (CC κ q) (SS κ q) Q (F0 m 184 ls []) := by
  obtain ⟨hx, hb, hml, hown, hW⟩ := id K.S
  have hbA : ¬ (fun q : Nat => s.heap.size ≤ q) b := Nat.not_le.mpr K.hbl
  refine lv_aload_n hx hb dLaw_law_184 rfl (lv_at hl 1 rfl) ?_
  refine lc_clear K I hl.1 qw_e72fb3fd39 dLaw_law_185 (by have h9 := cc_room (q := q) (ph_le I.hI) (by have := K.hL; omega); exact ⟨Nat.le_trans (Nat.le_add_right _ _) h9.1, Nat.le_trans (Nat.le_add_right _ _) h9.2⟩) (fun r H1 locs1 hr I1 => ?_)
  refine lv_pop hx hb dLaw_law_188 rfl ?_
  refine lv_aload_n hx hb dLaw_law_189 rfl (lv_at hl 2 rfl) ?_
  refine lc_model (rest := []) (As := []) (RES := fun r κ2 cd2 => r = nI (κm 0) ∧ κ2 = ku (ku κm 0 0) 1 0) K I1 (fun b0 mn ν τ σ F nu hT hZ hF hG _ => m_clear l γ m0 (B0 m0) _ κm b0 mn ν τ σ F nu hT  hZ hF hG) meModel_clear rfl qw_4b8c3bd6e5 ⟨Nat.le_of_ble_eq_true rfl, Nat.le_of_ble_eq_true rfl⟩ rfl hl.1 rfl (Nat.le_of_ble_eq_true rfl) dLaw_law_190 (by have h9 := cc_room (q := q) (ph_le I1.hI) (by have := K.hL; omega); exact ⟨Nat.le_trans (Nat.le_add_right _ _) h9.1, Nat.le_trans (Nat.le_add_right _ _) h9.2⟩) (fun r H1 h => by obtain ⟨h1, cd2, h2⟩ := h; exact ⟨_, cd2, h2, h1, rfl⟩) (fun r2 H2 locs2 κ2 cd2 hr2 I2 => ?_)
  refine lv_pop hx hb dLaw_law_193 rfl ?_
  refine lv_goto (tgt := 562) hx hb dLaw_law_194 (by decide) ?_
  refine W.up (Nat.le_trans (Nat.le_succ _) cc_5.1) (Nat.le_trans (Nat.le_add_right _ 6) cc_5.2) ?_
  exact J _ _ (ku (ku κ 0 0) 1 0) _ _ _ _ I2 (by rw [hr2.2]; exact ⟨h3.1, rfl, rfl⟩) (lv_sub hl [0, 1, 2, 3, 4] rfl)
set_option maxHeartbeats 4000000 in
set_option maxRecDepth 100000 in
theorem lc_2 {p : Program} {l : Launch} {e : Env} {s : State} {m : MethodId} {below : List Frame} {meth : Method} {c : Code} {b L : Nat} {xs : Nat → Int32} {γ : gE} {A : Nat → Prop} {m0 : Nat} {q : Nat} {x4 : Int32} {Q : State → Prop} (K : LC l p s m c b L xs γ A m0) (hq : q + 5 ≤ L) (ex4 : x4 = nI q) (J : ∀ (H : Heap) (locs : List Loc) (κ κm : Nat → Nat) (cd : Int32) (g : Nat → Int64) (ls : Array Slot), LI s γ A m0 κ κm cd g H locs → EQ3 κ κm → lv_has ls 7 [(0, .ref b), (1, .ref (γ.2.2.2 0)), (2, .ref m0), (3, .ref (m0 + 25)), (4, .int x4)] → W p l e room_1 s m #[Value.ref b] below meth c H locs (CC κ (q + 5)) (SS κ (q + 5)) Q (F0 m 562 ls [])) {H : Heap} {locs : List Loc} {κ κm : Nat → Nat} {cd : Int32} {g : Nat → Int64} {ls : Array Slot} (I : LI s γ A m0 κ κm cd g H locs) (h3 : EQ3 κ κm) (hl : lv_has ls 7 [(0, .ref b), (1, .ref (γ.2.2.2 0)), (2, .ref m0), (3, .ref (m0 + 25)), (4, .int x4)]) : W p l e room_1 s m #[Value.ref b] below meth c H locs (CC κ q) (SS κ q) Q (F0 m 197 ls []) := by
  obtain ⟨hx, hb, hml, hown, hW⟩ := id K.S
  have hbA : ¬ (fun q : Nat => s.heap.size ≤ q) b := Nat.not_le.mpr K.hbl
  refine lv_aload_n hx hb dLaw_law_197 rfl (lv_at hl 1 rfl) ?_
  refine lv_aload_n hx hb dLaw_law_198 rfl (lv_at hl 3 rfl) ?_
  refine lc_wrap (RES := fun r κ1 g1 => ENR κ κ1 r (g1 0)) K I (by have := K.hL; omega) (w_enter l K.hst γ A κ s K.hw0 K.hnc K.hA0 H (m0 + 25) K.hAo g ) meLaw_enter qw_5d5308e039 ⟨Nat.le_of_ble_eq_true rfl, Nat.le_of_ble_eq_true rfl⟩ rfl hl.1 rfl dLaw_law_199 (fun r H1 h => h.elim (fun ⟨h1, h2, ⟨g1, h3, h4⟩, h5⟩ => ⟨g1, h3, h5.mono (fun k h => Or.inl ⟨h1, h2, h4, h⟩)⟩) (fun ⟨h1, h2, ⟨g1, h3⟩, h5⟩ => ⟨g1, h3, h5.mono (fun k h => Or.inr ⟨h1, h2, h⟩)⟩)) (fun r H1 locs1 κ1 g1 hr I1 => ?_)
  refine lv_istore (lv' := [(5, .int r), (0, .ref b), (1, .ref (γ.2.2.2 0)), (2, .ref m0), (3, .ref (m0 + 25)), (4, .int x4)]) hx hb dLaw_law_202 hl (by decide) rfl (fun ls hl => ?_)
  refine lv_aload_n hx hb dLaw_law_204 rfl (lv_at hl 3 rfl) ?_
  refine lc_model (rest := []) (As := []) (RES := fun r κ2 cd2 => ENM κm κ2 r cd2) K I1 (fun b0 mn ν τ σ F nu hT hZ hF hG _ => m_enter l γ m0 (B0 m0) _ κm b0 mn ν τ σ F nu hT  hZ hF hG) meModel_enter rfl qw_8d09d94fa8 ⟨Nat.le_of_ble_eq_true rfl, Nat.le_of_ble_eq_true rfl⟩ rfl hl.1 rfl (Nat.le_of_ble_eq_true rfl) dLaw_law_205 (cc_room1 (ph_le I1.hI) (by have := K.hL; omega)) (fun r H1 h => h.elim (fun ⟨h1, h2⟩ => ⟨_, _, h2, Or.inl ⟨h1, rfl, rfl⟩⟩) (fun ⟨h1, h2, h3⟩ => ⟨_, _, h3, Or.inr ⟨h1, h2, ⟨rfl, rfl, rfl⟩, rfl⟩⟩)) (fun r2 H2 locs2 κ2 cd2 hr2 I2 => ?_)
  obtain ⟨hcd, hgr, heq⟩ := cmp_enter h3 (hb8 I) hr hr2
  refine lv_istore (lv' := [(6, .int r2), (5, .int r), (0, .ref b), (1, .ref (γ.2.2.2 0)), (2, .ref m0), (3, .ref (m0 + 25)), (4, .int x4)]) hx hb dLaw_law_208 hl (by decide) rfl (fun ls hl => ?_)
  refine lv_goto (tgt := 562) hx hb dLaw_law_210 (by decide) ?_
  refine W.up cc_5.1 cc_5.2 ?_
  exact J _ _ κ1 _ _ _ _ I2 heq (lv_sub hl [2, 3, 4, 5, 6] rfl)
set_option maxHeartbeats 4000000 in
set_option maxRecDepth 100000 in
theorem lc_3 {p : Program} {l : Launch} {e : Env} {s : State} {m : MethodId} {below : List Frame} {meth : Method} {c : Code} {b L : Nat} {xs : Nat → Int32} {γ : gE} {A : Nat → Prop} {m0 : Nat} {q : Nat} {x4 : Int32} {Q : State → Prop} (K : LC l p s m c b L xs γ A m0) (hq : q + 5 ≤ L) (ex4 : x4 = nI q) (J : ∀ (H : Heap) (locs : List Loc) (κ κm : Nat → Nat) (cd : Int32) (g : Nat → Int64) (ls : Array Slot), LI s γ A m0 κ κm cd g H locs → EQ3 κ κm → lv_has ls 7 [(0, .ref b), (1, .ref (γ.2.2.2 0)), (2, .ref m0), (3, .ref (m0 + 25)), (4, .int x4)] → W p l e room_1 s m #[Value.ref b] below meth c H locs (CC κ (q + 5)) (SS κ (q + 5)) Q (F0 m 562 ls [])) {H : Heap} {locs : List Loc} {κ κm : Nat → Nat} {cd : Int32} {g : Nat → Int64} {ls : Array Slot} (I : LI s γ A m0 κ κm cd g H locs) (h3 : EQ3 κ κm) (hl : lv_has ls 7 [(0, .ref b), (1, .ref (γ.2.2.2 0)), (2, .ref m0), (3, .ref (m0 + 25)), (4, .int x4)]) : W p l e room_1 s m #[Value.ref b] below meth c H locs (CC κ q) (SS κ q) Q (F0 m 213 ls []) := by
  obtain ⟨hx, hb, hml, hown, hW⟩ := id K.S
  have hbA : ¬ (fun q : Nat => s.heap.size ≤ q) b := Nat.not_le.mpr K.hbl
  refine lv_aload_n hx hb dLaw_law_213 rfl (lv_at hl 1 rfl) ?_
  refine lv_aload_n hx hb dLaw_law_214 rfl (lv_at hl 3 rfl) ?_
  refine lc_wrap (RES := fun r κ1 g1 => LVR κ κ1 r (g1 0)) K I (by have := K.hL; omega) (w_leave l K.hst γ A κ s K.hw0 K.hnc K.hA0 H (m0 + 25) K.hAo g ) meLaw_leave qw_e2f0faa56e ⟨Nat.le_of_ble_eq_true rfl, Nat.le_of_ble_eq_true rfl⟩ rfl hl.1 rfl dLaw_law_215 (fun r H1 h => h.elim (fun ⟨h1, h2, ⟨g1, h3, h4⟩, h5⟩ => ⟨g1, h3, h5.mono (fun k h => Or.inl ⟨h1, h2, h4, h⟩)⟩) (fun ⟨h1, h2, ⟨g1, h3⟩, h5⟩ => ⟨g1, h3, h5.mono (fun k h => Or.inr ⟨h1, h2, h⟩)⟩)) (fun r H1 locs1 κ1 g1 hr I1 => ?_)
  refine lv_istore (lv' := [(5, .int r), (0, .ref b), (1, .ref (γ.2.2.2 0)), (2, .ref m0), (3, .ref (m0 + 25)), (4, .int x4)]) hx hb dLaw_law_218 hl (by decide) rfl (fun ls hl => ?_)
  refine lv_aload_n hx hb dLaw_law_220 rfl (lv_at hl 3 rfl) ?_
  refine lc_model (rest := []) (As := []) (RES := fun r κ2 cd2 => LVM κm κ2 r cd2) K I1 (fun b0 mn ν τ σ F nu hT hZ hF hG _ => m_leave l γ m0 (B0 m0) _ κm b0 mn ν τ σ F nu hT  hZ hF hG) meModel_leave rfl qw_41ad58c3a1 ⟨Nat.le_of_ble_eq_true rfl, Nat.le_of_ble_eq_true rfl⟩ rfl hl.1 rfl (Nat.le_of_ble_eq_true rfl) dLaw_law_221 (cc_room1 (ph_le I1.hI) (by have := K.hL; omega)) (fun r H1 h => h.elim (fun ⟨h1, h2⟩ => ⟨_, _, h2, Or.inl ⟨h1, rfl, rfl⟩⟩) (fun ⟨h1, h4, κ2, h2, h3⟩ => ⟨_, _, h3, Or.inr ⟨h1, h4, h2, rfl⟩⟩)) (fun r2 H2 locs2 κ2 cd2 hr2 I2 => ?_)
  obtain ⟨hcd, hgr, heq⟩ := cmp_leave h3 (hb8 I) hr hr2
  refine lv_istore (lv' := [(6, .int r2), (5, .int r), (0, .ref b), (1, .ref (γ.2.2.2 0)), (2, .ref m0), (3, .ref (m0 + 25)), (4, .int x4)]) hx hb dLaw_law_224 hl (by decide) rfl (fun ls hl => ?_)
  refine lv_goto (tgt := 562) hx hb dLaw_law_226 (by decide) ?_
  refine W.up cc_5.1 cc_5.2 ?_
  exact J _ _ κ1 _ _ _ _ I2 heq (lv_sub hl [2, 3, 4, 5, 6] rfl)
set_option maxHeartbeats 4000000 in
set_option maxRecDepth 100000 in
theorem lc_4 {p : Program} {l : Launch} {e : Env} {s : State} {m : MethodId} {below : List Frame} {meth : Method} {c : Code} {b L : Nat} {xs : Nat → Int32} {γ : gE} {A : Nat → Prop} {m0 : Nat} {q : Nat} {x4 : Int32} {Q : State → Prop} (K : LC l p s m c b L xs γ A m0) (hq : q + 5 ≤ L) (ex4 : x4 = nI q) (J : ∀ (H : Heap) (locs : List Loc) (κ κm : Nat → Nat) (cd : Int32) (g : Nat → Int64) (ls : Array Slot), LI s γ A m0 κ κm cd g H locs → EQ3 κ κm → lv_has ls 7 [(0, .ref b), (1, .ref (γ.2.2.2 0)), (2, .ref m0), (3, .ref (m0 + 25)), (4, .int x4)] → W p l e room_1 s m #[Value.ref b] below meth c H locs (CC κ (q + 5)) (SS κ (q + 5)) Q (F0 m 562 ls [])) {H : Heap} {locs : List Loc} {κ κm : Nat → Nat} {cd : Int32} {g : Nat → Int64} {ls : Array Slot} (I : LI s γ A m0 κ κm cd g H locs) (h3 : EQ3 κ κm) (hl : lv_has ls 7 [(0, .ref b), (1, .ref (γ.2.2.2 0)), (2, .ref m0), (3, .ref (m0 + 25)), (4, .int x4)]) : W p l e room_1 s m #[Value.ref b] below meth c H locs (CC κ q) (SS κ q) Q (F0 m 229 ls []) := by
  obtain ⟨hx, hb, hml, hown, hW⟩ := id K.S
  have hbA : ¬ (fun q : Nat => s.heap.size ≤ q) b := Nat.not_le.mpr K.hbl
  refine lv_aload_n hx hb dLaw_law_229 rfl (lv_at hl 1 rfl) ?_
  refine lv_aload_n hx hb dLaw_law_230 rfl (lv_at hl 0 rfl) ?_
  refine lv_iload hx hb dLaw_law_231 (lv_at hl 4 rfl) ?_
  refine lv_iconst (v := 1) hx hb dLaw_law_233 (by decide) ?_
  refine lv_iadd hx hb dLaw_law_234 ?_
  refine va_sld hx hb K.hX K.hbl hbA I.hS (lw_in K.hL hq ex4 1 (by decide) rfl) dLaw_law_235 ?_
  refine lv_aload_n hx hb dLaw_law_236 rfl (lv_at hl 3 rfl) ?_
  refine lc_wrap (RES := fun r κ1 g1 => κ1 3 = κ 3 ∧ κ1 0 = κ 0 ∧ κ1 1 = κ 1) K I (by have := K.hL; omega) (w_type l K.hst γ A κ s K.hw0 K.hnc K.hA0 H (m0 + 25) K.hAo g (xs (x4 + 1).toNatClampNeg)) meLaw_type qw_20fb0eeb29 ⟨Nat.le_of_ble_eq_true rfl, Nat.le_of_ble_eq_true rfl⟩ rfl hl.1 rfl dLaw_law_237 (fun r H1 h => by obtain ⟨⟨g1, h1⟩, h2⟩ := h; exact ⟨g1, h1, h2⟩) (fun r H1 locs1 κ1 g1 hr I1 => ?_)
  refine lv_istore (lv' := [(5, .int r), (0, .ref b), (1, .ref (γ.2.2.2 0)), (2, .ref m0), (3, .ref (m0 + 25)), (4, .int x4)]) hx hb dLaw_law_240 hl (by decide) rfl (fun ls hl => ?_)
  refine lv_aload_n hx hb dLaw_law_242 rfl (lv_at hl 3 rfl) ?_
  refine lv_aload_n hx hb dLaw_law_243 rfl (lv_at hl 1 rfl) ?_
  refine lv_iload hx hb dLaw_law_244 (lv_at hl 5 rfl) ?_
  refine lv_iconst (v := 1) hx hb dLaw_law_246 (by decide) ?_
  refine lv_iadd hx hb dLaw_law_247 ?_
  refine va_sld hx hb K.hX K.hbl hbA I1.hS (lw_in K.hL hq ex4 1 (by decide) rfl) dLaw_law_248 ?_
  refine lc_model (rest := []) (As := [.int (xs (x4 + 1).toNatClampNeg)]) (RES := fun r κ2 cd2 => κ2 5 = κm 5 ∧ κ2 0 = κm 0 ∧ κ2 1 = κm 1) K I1 (fun b0 mn ν τ σ F nu hT hZ hF hG _ => m_type l γ m0 (B0 m0) _ κm b0 mn ν τ σ F nu hT (xs (x4 + 1).toNatClampNeg) hZ hF hG) meModel_type rfl qw_48653616c3 ⟨Nat.le_of_ble_eq_true rfl, Nat.le_of_ble_eq_true rfl⟩ rfl hl.1 rfl (Nat.le_of_ble_eq_true rfl) dLaw_law_249 (cc_room1 (ph_le I1.hI) (by have := K.hL; omega)) (fun r H1 h => by obtain ⟨κ2, cd2, h1, h2⟩ := h; exact ⟨κ2, cd2, h2, h1⟩) (fun r2 H2 locs2 κ2 cd2 hr2 I2 => ?_)
  refine lv_istore (lv' := [(6, .int r2), (5, .int r), (0, .ref b), (1, .ref (γ.2.2.2 0)), (2, .ref m0), (3, .ref (m0 + 25)), (4, .int x4)]) hx hb dLaw_law_252 hl (by decide) rfl (fun ls hl => ?_)
  refine lv_goto (tgt := 562) hx hb dLaw_law_254 (by decide) ?_
  refine W.up cc_5.1 cc_5.2 ?_
  exact J _ _ κ1 _ _ _ _ I2 (by omega) (lv_sub hl [2, 3, 4, 5, 6] rfl)
set_option maxHeartbeats 4000000 in
set_option maxRecDepth 100000 in
theorem lc_5 {p : Program} {l : Launch} {e : Env} {s : State} {m : MethodId} {below : List Frame} {meth : Method} {c : Code} {b L : Nat} {xs : Nat → Int32} {γ : gE} {A : Nat → Prop} {m0 : Nat} {q : Nat} {x4 : Int32} {Q : State → Prop} (K : LC l p s m c b L xs γ A m0) (hq : q + 5 ≤ L) (ex4 : x4 = nI q) (J : ∀ (H : Heap) (locs : List Loc) (κ κm : Nat → Nat) (cd : Int32) (g : Nat → Int64) (ls : Array Slot), LI s γ A m0 κ κm cd g H locs → EQ3 κ κm → lv_has ls 7 [(0, .ref b), (1, .ref (γ.2.2.2 0)), (2, .ref m0), (3, .ref (m0 + 25)), (4, .int x4)] → W p l e room_1 s m #[Value.ref b] below meth c H locs (CC κ (q + 5)) (SS κ (q + 5)) Q (F0 m 562 ls [])) {H : Heap} {locs : List Loc} {κ κm : Nat → Nat} {cd : Int32} {g : Nat → Int64} {ls : Array Slot} (I : LI s γ A m0 κ κm cd g H locs) (h3 : EQ3 κ κm) (hl : lv_has ls 7 [(0, .ref b), (1, .ref (γ.2.2.2 0)), (2, .ref m0), (3, .ref (m0 + 25)), (4, .int x4)]) : W p l e room_1 s m #[Value.ref b] below meth c H locs (CC κ q) (SS κ q) Q (F0 m 257 ls []) := by
  obtain ⟨hx, hb, hml, hown, hW⟩ := id K.S
  have hbA : ¬ (fun q : Nat => s.heap.size ≤ q) b := Nat.not_le.mpr K.hbl
  refine lv_aload_n hx hb dLaw_law_257 rfl (lv_at hl 1 rfl) ?_
  refine lv_aload_n hx hb dLaw_law_258 rfl (lv_at hl 0 rfl) ?_
  refine lv_iload hx hb dLaw_law_259 (lv_at hl 4 rfl) ?_
  refine lv_iconst (v := 1) hx hb dLaw_law_261 (by decide) ?_
  refine lv_iadd hx hb dLaw_law_262 ?_
  refine va_sld hx hb K.hX K.hbl hbA I.hS (lw_in K.hL hq ex4 1 (by decide) rfl) dLaw_law_263 ?_
  refine lv_aload_n hx hb dLaw_law_264 rfl (lv_at hl 3 rfl) ?_
  refine lc_wrap (RES := fun r κ1 g1 => κ1 3 = κ 3 ∧ κ1 0 = κ 0 ∧ κ1 1 = κ 1) K I (by have := K.hL; omega) (w_enumeration l K.hst γ A κ s K.hw0 K.hnc K.hA0 H (m0 + 25) K.hAo g (xs (x4 + 1).toNatClampNeg)) meLaw_enumeration qw_a195f3ee01 ⟨Nat.le_of_ble_eq_true rfl, Nat.le_of_ble_eq_true rfl⟩ rfl hl.1 rfl dLaw_law_265 (fun r H1 h => by obtain ⟨⟨g1, h1⟩, h2⟩ := h; exact ⟨g1, h1, h2⟩) (fun r H1 locs1 κ1 g1 hr I1 => ?_)
  refine lv_istore (lv' := [(5, .int r), (0, .ref b), (1, .ref (γ.2.2.2 0)), (2, .ref m0), (3, .ref (m0 + 25)), (4, .int x4)]) hx hb dLaw_law_268 hl (by decide) rfl (fun ls hl => ?_)
  refine lv_aload_n hx hb dLaw_law_270 rfl (lv_at hl 3 rfl) ?_
  refine lv_aload_n hx hb dLaw_law_271 rfl (lv_at hl 1 rfl) ?_
  refine lv_iload hx hb dLaw_law_272 (lv_at hl 5 rfl) ?_
  refine lv_iconst (v := 1) hx hb dLaw_law_274 (by decide) ?_
  refine lv_iadd hx hb dLaw_law_275 ?_
  refine va_sld hx hb K.hX K.hbl hbA I1.hS (lw_in K.hL hq ex4 1 (by decide) rfl) dLaw_law_276 ?_
  refine lc_model (rest := []) (As := [.int (xs (x4 + 1).toNatClampNeg)]) (RES := fun r κ2 cd2 => κ2 5 = κm 5 ∧ κ2 0 = κm 0 ∧ κ2 1 = κm 1) K I1 (fun b0 mn ν τ σ F nu hT hZ hF hG _ => m_enumeration l γ m0 (B0 m0) _ κm b0 mn ν τ σ F nu hT (xs (x4 + 1).toNatClampNeg) hZ hF hG) meModel_enumeration rfl qw_3a5364f9c7 ⟨Nat.le_of_ble_eq_true rfl, Nat.le_of_ble_eq_true rfl⟩ rfl hl.1 rfl (Nat.le_of_ble_eq_true rfl) dLaw_law_277 (cc_room1 (ph_le I1.hI) (by have := K.hL; omega)) (fun r H1 h => by obtain ⟨κ2, cd2, h1, h2⟩ := h; exact ⟨κ2, cd2, h2, h1⟩) (fun r2 H2 locs2 κ2 cd2 hr2 I2 => ?_)
  refine lv_istore (lv' := [(6, .int r2), (5, .int r), (0, .ref b), (1, .ref (γ.2.2.2 0)), (2, .ref m0), (3, .ref (m0 + 25)), (4, .int x4)]) hx hb dLaw_law_280 hl (by decide) rfl (fun ls hl => ?_)
  refine lv_goto (tgt := 562) hx hb dLaw_law_282 (by decide) ?_
  refine W.up cc_5.1 cc_5.2 ?_
  exact J _ _ κ1 _ _ _ _ I2 (by omega) (lv_sub hl [2, 3, 4, 5, 6] rfl)
set_option maxHeartbeats 4000000 in
set_option maxRecDepth 100000 in
theorem lc_6 {p : Program} {l : Launch} {e : Env} {s : State} {m : MethodId} {below : List Frame} {meth : Method} {c : Code} {b L : Nat} {xs : Nat → Int32} {γ : gE} {A : Nat → Prop} {m0 : Nat} {q : Nat} {x4 : Int32} {Q : State → Prop} (K : LC l p s m c b L xs γ A m0) (hq : q + 5 ≤ L) (ex4 : x4 = nI q) (J : ∀ (H : Heap) (locs : List Loc) (κ κm : Nat → Nat) (cd : Int32) (g : Nat → Int64) (ls : Array Slot), LI s γ A m0 κ κm cd g H locs → EQ3 κ κm → lv_has ls 7 [(0, .ref b), (1, .ref (γ.2.2.2 0)), (2, .ref m0), (3, .ref (m0 + 25)), (4, .int x4)] → W p l e room_1 s m #[Value.ref b] below meth c H locs (CC κ (q + 5)) (SS κ (q + 5)) Q (F0 m 562 ls [])) {H : Heap} {locs : List Loc} {κ κm : Nat → Nat} {cd : Int32} {g : Nat → Int64} {ls : Array Slot} (I : LI s γ A m0 κ κm cd g H locs) (h3 : EQ3 κ κm) (hl : lv_has ls 7 [(0, .ref b), (1, .ref (γ.2.2.2 0)), (2, .ref m0), (3, .ref (m0 + 25)), (4, .int x4)]) : W p l e room_1 s m #[Value.ref b] below meth c H locs (CC κ q) (SS κ q) Q (F0 m 285 ls []) := by
  obtain ⟨hx, hb, hml, hown, hW⟩ := id K.S
  have hbA : ¬ (fun q : Nat => s.heap.size ≤ q) b := Nat.not_le.mpr K.hbl
  refine lv_aload_n hx hb dLaw_law_285 rfl (lv_at hl 1 rfl) ?_
  refine lv_aload_n hx hb dLaw_law_286 rfl (lv_at hl 0 rfl) ?_
  refine lv_iload hx hb dLaw_law_287 (lv_at hl 4 rfl) ?_
  refine lv_iconst (v := 1) hx hb dLaw_law_289 (by decide) ?_
  refine lv_iadd hx hb dLaw_law_290 ?_
  refine va_sld hx hb K.hX K.hbl hbA I.hS (lw_in K.hL hq ex4 1 (by decide) rfl) dLaw_law_291 ?_
  refine lv_aload_n hx hb dLaw_law_292 rfl (lv_at hl 0 rfl) ?_
  refine lv_iload hx hb dLaw_law_293 (lv_at hl 4 rfl) ?_
  refine lv_iconst (v := 2) hx hb dLaw_law_295 (by decide) ?_
  refine lv_iadd hx hb dLaw_law_296 ?_
  refine va_sld hx hb K.hX K.hbl hbA I.hS (lw_in K.hL hq ex4 2 (by decide) rfl) dLaw_law_297 ?_
  refine lv_aload_n hx hb dLaw_law_298 rfl (lv_at hl 3 rfl) ?_
  refine lc_wrap (RES := fun r κ1 g1 => κ1 3 = κ 3 ∧ κ1 0 = κ 0 ∧ κ1 1 = κ 1) K I (by have := K.hL; omega) (w_subtype l K.hst γ A κ s K.hw0 K.hnc K.hA0 H (m0 + 25) K.hAo g (xs (x4 + 1).toNatClampNeg) (xs (x4 + 2).toNatClampNeg)) meLaw_subtype qw_4dfd4accc0 ⟨Nat.le_of_ble_eq_true rfl, Nat.le_of_ble_eq_true rfl⟩ rfl hl.1 rfl dLaw_law_299 (fun r H1 h => by obtain ⟨⟨g1, h1⟩, h2⟩ := h; exact ⟨g1, h1, h2⟩) (fun r H1 locs1 κ1 g1 hr I1 => ?_)
  refine lv_istore (lv' := [(5, .int r), (0, .ref b), (1, .ref (γ.2.2.2 0)), (2, .ref m0), (3, .ref (m0 + 25)), (4, .int x4)]) hx hb dLaw_law_302 hl (by decide) rfl (fun ls hl => ?_)
  refine lv_aload_n hx hb dLaw_law_304 rfl (lv_at hl 3 rfl) ?_
  refine lv_aload_n hx hb dLaw_law_305 rfl (lv_at hl 1 rfl) ?_
  refine lv_iload hx hb dLaw_law_306 (lv_at hl 5 rfl) ?_
  refine lv_iconst (v := 1) hx hb dLaw_law_308 (by decide) ?_
  refine lv_iadd hx hb dLaw_law_309 ?_
  refine va_sld hx hb K.hX K.hbl hbA I1.hS (lw_in K.hL hq ex4 1 (by decide) rfl) dLaw_law_310 ?_
  refine lv_aload_n hx hb dLaw_law_311 rfl (lv_at hl 1 rfl) ?_
  refine lv_iload hx hb dLaw_law_312 (lv_at hl 5 rfl) ?_
  refine lv_iconst (v := 2) hx hb dLaw_law_314 (by decide) ?_
  refine lv_iadd hx hb dLaw_law_315 ?_
  refine va_sld hx hb K.hX K.hbl hbA I1.hS (lw_in K.hL hq ex4 2 (by decide) rfl) dLaw_law_316 ?_
  refine lc_model (rest := []) (As := [.int (xs (x4 + 1).toNatClampNeg), .int (xs (x4 + 2).toNatClampNeg)]) (RES := fun r κ2 cd2 => κ2 5 = κm 5 ∧ κ2 0 = κm 0 ∧ κ2 1 = κm 1) K I1 (fun b0 mn ν τ σ F nu hT hZ hF hG _ => m_subtype l γ m0 (B0 m0) _ κm b0 mn ν τ σ F nu hT (xs (x4 + 1).toNatClampNeg) (xs (x4 + 2).toNatClampNeg) hZ hF hG) meModel_subtype rfl qw_90f4f7925f ⟨Nat.le_of_ble_eq_true rfl, Nat.le_of_ble_eq_true rfl⟩ rfl hl.1 rfl (Nat.le_of_ble_eq_true rfl) dLaw_law_317 (cc_room1 (ph_le I1.hI) (by have := K.hL; omega)) (fun r H1 h => by obtain ⟨κ2, cd2, h1, h2⟩ := h; exact ⟨κ2, cd2, h2, h1⟩) (fun r2 H2 locs2 κ2 cd2 hr2 I2 => ?_)
  refine lv_istore (lv' := [(6, .int r2), (5, .int r), (0, .ref b), (1, .ref (γ.2.2.2 0)), (2, .ref m0), (3, .ref (m0 + 25)), (4, .int x4)]) hx hb dLaw_law_320 hl (by decide) rfl (fun ls hl => ?_)
  refine lv_goto (tgt := 562) hx hb dLaw_law_322 (by decide) ?_
  refine W.up cc_5.1 cc_5.2 ?_
  exact J _ _ κ1 _ _ _ _ I2 (by omega) (lv_sub hl [2, 3, 4, 5, 6] rfl)
set_option maxHeartbeats 4000000 in
set_option maxRecDepth 100000 in
theorem lc_7 {p : Program} {l : Launch} {e : Env} {s : State} {m : MethodId} {below : List Frame} {meth : Method} {c : Code} {b L : Nat} {xs : Nat → Int32} {γ : gE} {A : Nat → Prop} {m0 : Nat} {q : Nat} {x4 : Int32} {Q : State → Prop} (K : LC l p s m c b L xs γ A m0) (hq : q + 5 ≤ L) (ex4 : x4 = nI q) (J : ∀ (H : Heap) (locs : List Loc) (κ κm : Nat → Nat) (cd : Int32) (g : Nat → Int64) (ls : Array Slot), LI s γ A m0 κ κm cd g H locs → EQ3 κ κm → lv_has ls 7 [(0, .ref b), (1, .ref (γ.2.2.2 0)), (2, .ref m0), (3, .ref (m0 + 25)), (4, .int x4)] → W p l e room_1 s m #[Value.ref b] below meth c H locs (CC κ (q + 5)) (SS κ (q + 5)) Q (F0 m 562 ls [])) {H : Heap} {locs : List Loc} {κ κm : Nat → Nat} {cd : Int32} {g : Nat → Int64} {ls : Array Slot} (I : LI s γ A m0 κ κm cd g H locs) (h3 : EQ3 κ κm) (hl : lv_has ls 7 [(0, .ref b), (1, .ref (γ.2.2.2 0)), (2, .ref m0), (3, .ref (m0 + 25)), (4, .int x4)]) : W p l e room_1 s m #[Value.ref b] below meth c H locs (CC κ q) (SS κ q) Q (F0 m 325 ls []) := by
  obtain ⟨hx, hb, hml, hown, hW⟩ := id K.S
  have hbA : ¬ (fun q : Nat => s.heap.size ≤ q) b := Nat.not_le.mpr K.hbl
  refine lv_aload_n hx hb dLaw_law_325 rfl (lv_at hl 1 rfl) ?_
  refine lv_aload_n hx hb dLaw_law_326 rfl (lv_at hl 0 rfl) ?_
  refine lv_iload hx hb dLaw_law_327 (lv_at hl 4 rfl) ?_
  refine lv_iconst (v := 1) hx hb dLaw_law_329 (by decide) ?_
  refine lv_iadd hx hb dLaw_law_330 ?_
  refine va_sld hx hb K.hX K.hbl hbA I.hS (lw_in K.hL hq ex4 1 (by decide) rfl) dLaw_law_331 ?_
  refine lv_aload_n hx hb dLaw_law_332 rfl (lv_at hl 0 rfl) ?_
  refine lv_iload hx hb dLaw_law_333 (lv_at hl 4 rfl) ?_
  refine lv_iconst (v := 2) hx hb dLaw_law_335 (by decide) ?_
  refine lv_iadd hx hb dLaw_law_336 ?_
  refine va_sld hx hb K.hX K.hbl hbA I.hS (lw_in K.hL hq ex4 2 (by decide) rfl) dLaw_law_337 ?_
  refine lv_aload_n hx hb dLaw_law_338 rfl (lv_at hl 0 rfl) ?_
  refine lv_iload hx hb dLaw_law_339 (lv_at hl 4 rfl) ?_
  refine lv_iconst (v := 3) hx hb dLaw_law_341 (by decide) ?_
  refine lv_iadd hx hb dLaw_law_342 ?_
  refine va_sld hx hb K.hX K.hbl hbA I.hS (lw_in K.hL hq ex4 3 (by decide) rfl) dLaw_law_343 ?_
  refine lv_aload_n hx hb dLaw_law_344 rfl (lv_at hl 0 rfl) ?_
  refine lv_iload hx hb dLaw_law_345 (lv_at hl 4 rfl) ?_
  refine lv_iconst (v := 4) hx hb dLaw_law_347 (by decide) ?_
  refine lv_iadd hx hb dLaw_law_348 ?_
  refine va_sld hx hb K.hX K.hbl hbA I.hS (lw_in K.hL hq ex4 4 (by decide) rfl) dLaw_law_349 ?_
  refine lv_aload_n hx hb dLaw_law_350 rfl (lv_at hl 3 rfl) ?_
  refine lc_wrap (RES := fun r κ1 g1 => κ1 3 = κ 3 ∧ κ1 0 = κ 0 ∧ κ1 1 = κ 1) K I (by have := K.hL; omega) (w_declare l K.hst γ A κ s K.hw0 K.hnc K.hA0 H (m0 + 25) K.hAo g (xs (x4 + 1).toNatClampNeg) (xs (x4 + 2).toNatClampNeg) (xs (x4 + 3).toNatClampNeg) (xs (x4 + 4).toNatClampNeg)) meLaw_declare qw_365c8f3f46 ⟨Nat.le_of_ble_eq_true rfl, Nat.le_of_ble_eq_true rfl⟩ rfl hl.1 rfl dLaw_law_351 (fun r H1 h => by obtain ⟨⟨g1, h1⟩, h2⟩ := h; exact ⟨g1, h1, h2⟩) (fun r H1 locs1 κ1 g1 hr I1 => ?_)
  refine lv_istore (lv' := [(5, .int r), (0, .ref b), (1, .ref (γ.2.2.2 0)), (2, .ref m0), (3, .ref (m0 + 25)), (4, .int x4)]) hx hb dLaw_law_354 hl (by decide) rfl (fun ls hl => ?_)
  refine lv_aload_n hx hb dLaw_law_356 rfl (lv_at hl 3 rfl) ?_
  refine lv_aload_n hx hb dLaw_law_357 rfl (lv_at hl 1 rfl) ?_
  refine lv_iload hx hb dLaw_law_358 (lv_at hl 5 rfl) ?_
  refine lv_iconst (v := 1) hx hb dLaw_law_360 (by decide) ?_
  refine lv_iadd hx hb dLaw_law_361 ?_
  refine va_sld hx hb K.hX K.hbl hbA I1.hS (lw_in K.hL hq ex4 1 (by decide) rfl) dLaw_law_362 ?_
  refine lv_aload_n hx hb dLaw_law_363 rfl (lv_at hl 1 rfl) ?_
  refine lv_iload hx hb dLaw_law_364 (lv_at hl 5 rfl) ?_
  refine lv_iconst (v := 2) hx hb dLaw_law_366 (by decide) ?_
  refine lv_iadd hx hb dLaw_law_367 ?_
  refine va_sld hx hb K.hX K.hbl hbA I1.hS (lw_in K.hL hq ex4 2 (by decide) rfl) dLaw_law_368 ?_
  refine lv_aload_n hx hb dLaw_law_369 rfl (lv_at hl 1 rfl) ?_
  refine lv_iload hx hb dLaw_law_370 (lv_at hl 5 rfl) ?_
  refine lv_iconst (v := 3) hx hb dLaw_law_372 (by decide) ?_
  refine lv_iadd hx hb dLaw_law_373 ?_
  refine va_sld hx hb K.hX K.hbl hbA I1.hS (lw_in K.hL hq ex4 3 (by decide) rfl) dLaw_law_374 ?_
  refine lv_aload_n hx hb dLaw_law_375 rfl (lv_at hl 1 rfl) ?_
  refine lv_iload hx hb dLaw_law_376 (lv_at hl 5 rfl) ?_
  refine lv_iconst (v := 4) hx hb dLaw_law_378 (by decide) ?_
  refine lv_iadd hx hb dLaw_law_379 ?_
  refine va_sld hx hb K.hX K.hbl hbA I1.hS (lw_in K.hL hq ex4 4 (by decide) rfl) dLaw_law_380 ?_
  refine lc_model (rest := []) (As := [.int (xs (x4 + 1).toNatClampNeg), .int (xs (x4 + 2).toNatClampNeg), .int (xs (x4 + 3).toNatClampNeg), .int (xs (x4 + 4).toNatClampNeg)]) (RES := fun r κ2 cd2 => κ2 5 = κm 5 ∧ κ2 0 = κm 0 ∧ κ2 1 = κm 1) K I1 (fun b0 mn ν τ σ F nu hT hZ hF hG _ => m_declare l γ m0 (B0 m0) _ κm b0 mn ν τ σ F nu hT (xs (x4 + 1).toNatClampNeg) (xs (x4 + 2).toNatClampNeg) (xs (x4 + 3).toNatClampNeg) (xs (x4 + 4).toNatClampNeg) hZ hF hG) meModel_declare rfl qw_f3764a54cb ⟨Nat.le_of_ble_eq_true rfl, Nat.le_of_ble_eq_true rfl⟩ rfl hl.1 rfl (Nat.le_of_ble_eq_true rfl) dLaw_law_381 (cc_room1 (ph_le I1.hI) (by have := K.hL; omega)) (fun r H1 h => by obtain ⟨κ2, cd2, h1, h2⟩ := h; exact ⟨κ2, cd2, h2, h1⟩) (fun r2 H2 locs2 κ2 cd2 hr2 I2 => ?_)
  refine lv_istore (lv' := [(6, .int r2), (5, .int r), (0, .ref b), (1, .ref (γ.2.2.2 0)), (2, .ref m0), (3, .ref (m0 + 25)), (4, .int x4)]) hx hb dLaw_law_384 hl (by decide) rfl (fun ls hl => ?_)
  refine lv_goto (tgt := 562) hx hb dLaw_law_386 (by decide) ?_
  refine W.up cc_5.1 cc_5.2 ?_
  exact J _ _ κ1 _ _ _ _ I2 (by omega) (lv_sub hl [2, 3, 4, 5, 6] rfl)
set_option maxHeartbeats 4000000 in
set_option maxRecDepth 100000 in
theorem lc_8 {p : Program} {l : Launch} {e : Env} {s : State} {m : MethodId} {below : List Frame} {meth : Method} {c : Code} {b L : Nat} {xs : Nat → Int32} {γ : gE} {A : Nat → Prop} {m0 : Nat} {q : Nat} {x4 : Int32} {Q : State → Prop} (K : LC l p s m c b L xs γ A m0) (hq : q + 5 ≤ L) (ex4 : x4 = nI q) (J : ∀ (H : Heap) (locs : List Loc) (κ κm : Nat → Nat) (cd : Int32) (g : Nat → Int64) (ls : Array Slot), LI s γ A m0 κ κm cd g H locs → EQ3 κ κm → lv_has ls 7 [(0, .ref b), (1, .ref (γ.2.2.2 0)), (2, .ref m0), (3, .ref (m0 + 25)), (4, .int x4)] → W p l e room_1 s m #[Value.ref b] below meth c H locs (CC κ (q + 5)) (SS κ (q + 5)) Q (F0 m 562 ls [])) {H : Heap} {locs : List Loc} {κ κm : Nat → Nat} {cd : Int32} {g : Nat → Int64} {ls : Array Slot} (I : LI s γ A m0 κ κm cd g H locs) (h3 : EQ3 κ κm) (hl : lv_has ls 7 [(0, .ref b), (1, .ref (γ.2.2.2 0)), (2, .ref m0), (3, .ref (m0 + 25)), (4, .int x4)]) : W p l e room_1 s m #[Value.ref b] below meth c H locs (CC κ q) (SS κ q) Q (F0 m 389 ls []) := by
  obtain ⟨hx, hb, hml, hown, hW⟩ := id K.S
  have hbA : ¬ (fun q : Nat => s.heap.size ≤ q) b := Nat.not_le.mpr K.hbl
  refine lv_aload_n hx hb dLaw_law_389 rfl (lv_at hl 1 rfl) ?_
  refine lv_aload_n hx hb dLaw_law_390 rfl (lv_at hl 0 rfl) ?_
  refine lv_iload hx hb dLaw_law_391 (lv_at hl 4 rfl) ?_
  refine lv_iconst (v := 1) hx hb dLaw_law_393 (by decide) ?_
  refine lv_iadd hx hb dLaw_law_394 ?_
  refine va_sld hx hb K.hX K.hbl hbA I.hS (lw_in K.hL hq ex4 1 (by decide) rfl) dLaw_law_395 ?_
  refine lv_aload_n hx hb dLaw_law_396 rfl (lv_at hl 0 rfl) ?_
  refine lv_iload hx hb dLaw_law_397 (lv_at hl 4 rfl) ?_
  refine lv_iconst (v := 2) hx hb dLaw_law_399 (by decide) ?_
  refine lv_iadd hx hb dLaw_law_400 ?_
  refine va_sld hx hb K.hX K.hbl hbA I.hS (lw_in K.hL hq ex4 2 (by decide) rfl) dLaw_law_401 ?_
  refine lv_aload_n hx hb dLaw_law_402 rfl (lv_at hl 3 rfl) ?_
  refine lc_wrap (RES := fun r κ1 g1 => κ1 3 = κ 3 ∧ κ1 0 = κ 0 ∧ κ1 1 = κ 1) K I (by have := K.hL; omega) (w_check l K.hst γ A κ s K.hw0 K.hnc K.hA0 H (m0 + 25) K.hAo g (xs (x4 + 1).toNatClampNeg) (xs (x4 + 2).toNatClampNeg)) meLaw_check qw_08d75bfac9 ⟨Nat.le_of_ble_eq_true rfl, Nat.le_of_ble_eq_true rfl⟩ rfl hl.1 rfl dLaw_law_403 (fun r H1 h => by obtain ⟨⟨g1, h1⟩, h2⟩ := h; exact ⟨g1, h1, h2⟩) (fun r H1 locs1 κ1 g1 hr I1 => ?_)
  refine lv_istore (lv' := [(5, .int r), (0, .ref b), (1, .ref (γ.2.2.2 0)), (2, .ref m0), (3, .ref (m0 + 25)), (4, .int x4)]) hx hb dLaw_law_406 hl (by decide) rfl (fun ls hl => ?_)
  refine lv_aload_n hx hb dLaw_law_408 rfl (lv_at hl 3 rfl) ?_
  refine lv_aload_n hx hb dLaw_law_409 rfl (lv_at hl 1 rfl) ?_
  refine lv_iload hx hb dLaw_law_410 (lv_at hl 5 rfl) ?_
  refine lv_iconst (v := 1) hx hb dLaw_law_412 (by decide) ?_
  refine lv_iadd hx hb dLaw_law_413 ?_
  refine va_sld hx hb K.hX K.hbl hbA I1.hS (lw_in K.hL hq ex4 1 (by decide) rfl) dLaw_law_414 ?_
  refine lv_aload_n hx hb dLaw_law_415 rfl (lv_at hl 1 rfl) ?_
  refine lv_iload hx hb dLaw_law_416 (lv_at hl 5 rfl) ?_
  refine lv_iconst (v := 2) hx hb dLaw_law_418 (by decide) ?_
  refine lv_iadd hx hb dLaw_law_419 ?_
  refine va_sld hx hb K.hX K.hbl hbA I1.hS (lw_in K.hL hq ex4 2 (by decide) rfl) dLaw_law_420 ?_
  refine lc_model (rest := []) (As := [.int (xs (x4 + 1).toNatClampNeg), .int (xs (x4 + 2).toNatClampNeg)]) (RES := fun r κ2 cd2 => κ2 5 = κm 5 ∧ κ2 0 = κm 0 ∧ κ2 1 = κm 1) K I1 (fun b0 mn ν τ σ F nu hT hZ hF hG _ => m_check l γ m0 (B0 m0) _ κm b0 mn ν τ σ F nu hT (xs (x4 + 1).toNatClampNeg) (xs (x4 + 2).toNatClampNeg) hZ hF hG) meModel_check rfl qw_4fd6ec1137 ⟨Nat.le_of_ble_eq_true rfl, Nat.le_of_ble_eq_true rfl⟩ rfl hl.1 rfl (Nat.le_of_ble_eq_true rfl) dLaw_law_421 (cc_room1 (ph_le I1.hI) (by have := K.hL; omega)) (fun r H1 h => by obtain ⟨κ2, cd2, h1, h2⟩ := h; exact ⟨κ2, cd2, h2, h1⟩) (fun r2 H2 locs2 κ2 cd2 hr2 I2 => ?_)
  refine lv_istore (lv' := [(6, .int r2), (5, .int r), (0, .ref b), (1, .ref (γ.2.2.2 0)), (2, .ref m0), (3, .ref (m0 + 25)), (4, .int x4)]) hx hb dLaw_law_424 hl (by decide) rfl (fun ls hl => ?_)
  refine lv_goto (tgt := 562) hx hb dLaw_law_426 (by decide) ?_
  refine W.up cc_5.1 cc_5.2 ?_
  exact J _ _ κ1 _ _ _ _ I2 (by omega) (lv_sub hl [2, 3, 4, 5, 6] rfl)
set_option maxHeartbeats 4000000 in
set_option maxRecDepth 100000 in
theorem lc_9 {p : Program} {l : Launch} {e : Env} {s : State} {m : MethodId} {below : List Frame} {meth : Method} {c : Code} {b L : Nat} {xs : Nat → Int32} {γ : gE} {A : Nat → Prop} {m0 : Nat} {q : Nat} {x4 : Int32} {Q : State → Prop} (K : LC l p s m c b L xs γ A m0) (hq : q + 5 ≤ L) (ex4 : x4 = nI q) (J : ∀ (H : Heap) (locs : List Loc) (κ κm : Nat → Nat) (cd : Int32) (g : Nat → Int64) (ls : Array Slot), LI s γ A m0 κ κm cd g H locs → EQ3 κ κm → lv_has ls 7 [(0, .ref b), (1, .ref (γ.2.2.2 0)), (2, .ref m0), (3, .ref (m0 + 25)), (4, .int x4)] → W p l e room_1 s m #[Value.ref b] below meth c H locs (CC κ (q + 5)) (SS κ (q + 5)) Q (F0 m 562 ls [])) {H : Heap} {locs : List Loc} {κ κm : Nat → Nat} {cd : Int32} {g : Nat → Int64} {ls : Array Slot} (I : LI s γ A m0 κ κm cd g H locs) (h3 : EQ3 κ κm) (hl : lv_has ls 7 [(0, .ref b), (1, .ref (γ.2.2.2 0)), (2, .ref m0), (3, .ref (m0 + 25)), (4, .int x4)]) : W p l e room_1 s m #[Value.ref b] below meth c H locs (CC κ q) (SS κ q) Q (F0 m 429 ls []) := by
  obtain ⟨hx, hb, hml, hown, hW⟩ := id K.S
  have hbA : ¬ (fun q : Nat => s.heap.size ≤ q) b := Nat.not_le.mpr K.hbl
  refine lv_aload_n hx hb dLaw_law_429 rfl (lv_at hl 1 rfl) ?_
  refine lc_place K I hl.1 qw_0809015189 dLaw_law_430 (by have h9 := cc_room (q := q) (ph_le I.hI) (by have := K.hL; omega); exact ⟨Nat.le_trans (Nat.le_add_right _ _) h9.1, Nat.le_trans (Nat.le_add_right _ _) h9.2⟩) (fun r => ?_)
  refine lv_pop hx hb dLaw_law_433 rfl ?_
  refine lv_aload_n hx hb dLaw_law_434 rfl (lv_at hl 2 rfl) ?_
  refine lc_model (rest := []) (As := []) (RES := fun r κ2 cd2 => κ2 5 = κm 5 ∧ κ2 0 = κm 0 ∧ κ2 1 = κm 1) K I (fun b0 mn ν τ σ F nu hT hZ hF hG _ => m_place l γ m0 (B0 m0) _ κm b0 mn ν τ σ F nu hT  hZ hF hG) meModel_place rfl qw_994b943185 ⟨Nat.le_of_ble_eq_true rfl, Nat.le_of_ble_eq_true rfl⟩ rfl hl.1 rfl (Nat.le_of_ble_eq_true rfl) dLaw_law_435 (by have h9 := cc_room (q := q) (ph_le I.hI) (by have := K.hL; omega); exact ⟨Nat.le_trans (Nat.le_add_right _ _) h9.1, Nat.le_trans (Nat.le_add_right _ _) h9.2⟩) (fun r H1 h => by obtain ⟨κ2, cd2, h1, h2⟩ := h; exact ⟨κ2, cd2, h2, h1⟩) (fun r2 H2 locs2 κ2 cd2 hr2 I2 => ?_)
  refine lv_pop hx hb dLaw_law_438 rfl ?_
  refine lv_goto (tgt := 562) hx hb dLaw_law_439 (by decide) ?_
  refine W.up (Nat.le_trans (Nat.le_succ _) cc_5.1) (Nat.le_trans (Nat.le_add_right _ 6) cc_5.2) ?_
  exact J _ _ κ _ _ _ _ I2 (by omega) (lv_sub hl [0, 1, 2, 3, 4] rfl)
set_option maxHeartbeats 4000000 in
set_option maxRecDepth 100000 in
theorem lc_10 {p : Program} {l : Launch} {e : Env} {s : State} {m : MethodId} {below : List Frame} {meth : Method} {c : Code} {b L : Nat} {xs : Nat → Int32} {γ : gE} {A : Nat → Prop} {m0 : Nat} {q : Nat} {x4 : Int32} {Q : State → Prop} (K : LC l p s m c b L xs γ A m0) (hq : q + 5 ≤ L) (ex4 : x4 = nI q) (J : ∀ (H : Heap) (locs : List Loc) (κ κm : Nat → Nat) (cd : Int32) (g : Nat → Int64) (ls : Array Slot), LI s γ A m0 κ κm cd g H locs → EQ3 κ κm → lv_has ls 7 [(0, .ref b), (1, .ref (γ.2.2.2 0)), (2, .ref m0), (3, .ref (m0 + 25)), (4, .int x4)] → W p l e room_1 s m #[Value.ref b] below meth c H locs (CC κ (q + 5)) (SS κ (q + 5)) Q (F0 m 562 ls [])) {H : Heap} {locs : List Loc} {κ κm : Nat → Nat} {cd : Int32} {g : Nat → Int64} {ls : Array Slot} (I : LI s γ A m0 κ κm cd g H locs) (h3 : EQ3 κ κm) (hl : lv_has ls 7 [(0, .ref b), (1, .ref (γ.2.2.2 0)), (2, .ref m0), (3, .ref (m0 + 25)), (4, .int x4)]) : W p l e room_1 s m #[Value.ref b] below meth c H locs (CC κ q) (SS κ q) Q (F0 m 442 ls []) := by
  obtain ⟨hx, hb, hml, hown, hW⟩ := id K.S
  have hbA : ¬ (fun q : Nat => s.heap.size ≤ q) b := Nat.not_le.mpr K.hbl
  refine lv_aload_n hx hb dLaw_law_442 rfl (lv_at hl 1 rfl) ?_
  refine lv_aload_n hx hb dLaw_law_443 rfl (lv_at hl 0 rfl) ?_
  refine lv_iload hx hb dLaw_law_444 (lv_at hl 4 rfl) ?_
  refine lv_iconst (v := 1) hx hb dLaw_law_446 (by decide) ?_
  refine lv_iadd hx hb dLaw_law_447 ?_
  refine va_sld hx hb K.hX K.hbl hbA I.hS (lw_in K.hL hq ex4 1 (by decide) rfl) dLaw_law_448 ?_
  refine lv_aload_n hx hb dLaw_law_449 rfl (lv_at hl 0 rfl) ?_
  refine lv_iload hx hb dLaw_law_450 (lv_at hl 4 rfl) ?_
  refine lv_iconst (v := 2) hx hb dLaw_law_452 (by decide) ?_
  refine lv_iadd hx hb dLaw_law_453 ?_
  refine va_sld hx hb K.hX K.hbl hbA I.hS (lw_in K.hL hq ex4 2 (by decide) rfl) dLaw_law_454 ?_
  refine lv_aload_n hx hb dLaw_law_455 rfl (lv_at hl 3 rfl) ?_
  refine lc_wrap (RES := fun r κ1 g1 => κ1 3 = κ 3 ∧ κ1 0 = κ 0 ∧ κ1 1 = κ 1) K I (by have := K.hL; omega) (w_typeOf l K.hst γ A κ s K.hw0 K.hnc K.hA0 H (m0 + 25) K.hAo g (xs (x4 + 1).toNatClampNeg) (xs (x4 + 2).toNatClampNeg)) meLaw_typeOf qw_21fe75c539 ⟨Nat.le_of_ble_eq_true rfl, Nat.le_of_ble_eq_true rfl⟩ rfl hl.1 rfl dLaw_law_456 (fun r H1 h => by obtain ⟨⟨g1, h1⟩, h2⟩ := h; exact ⟨g1, h1, h2⟩) (fun r H1 locs1 κ1 g1 hr I1 => ?_)
  refine lv_istore (lv' := [(5, .int r), (0, .ref b), (1, .ref (γ.2.2.2 0)), (2, .ref m0), (3, .ref (m0 + 25)), (4, .int x4)]) hx hb dLaw_law_459 hl (by decide) rfl (fun ls hl => ?_)
  refine lv_aload_n hx hb dLaw_law_461 rfl (lv_at hl 3 rfl) ?_
  refine lv_aload_n hx hb dLaw_law_462 rfl (lv_at hl 1 rfl) ?_
  refine lv_iload hx hb dLaw_law_463 (lv_at hl 5 rfl) ?_
  refine lv_iconst (v := 1) hx hb dLaw_law_465 (by decide) ?_
  refine lv_iadd hx hb dLaw_law_466 ?_
  refine va_sld hx hb K.hX K.hbl hbA I1.hS (lw_in K.hL hq ex4 1 (by decide) rfl) dLaw_law_467 ?_
  refine lv_aload_n hx hb dLaw_law_468 rfl (lv_at hl 1 rfl) ?_
  refine lv_iload hx hb dLaw_law_469 (lv_at hl 5 rfl) ?_
  refine lv_iconst (v := 2) hx hb dLaw_law_471 (by decide) ?_
  refine lv_iadd hx hb dLaw_law_472 ?_
  refine va_sld hx hb K.hX K.hbl hbA I1.hS (lw_in K.hL hq ex4 2 (by decide) rfl) dLaw_law_473 ?_
  refine lc_model (rest := []) (As := [.int (xs (x4 + 1).toNatClampNeg), .int (xs (x4 + 2).toNatClampNeg)]) (RES := fun r κ2 cd2 => κ2 5 = κm 5 ∧ κ2 0 = κm 0 ∧ κ2 1 = κm 1) K I1 (fun b0 mn ν τ σ F nu hT hZ hF hG _ => m_typeOf l γ m0 (B0 m0) _ κm b0 mn ν τ σ F nu hT (xs (x4 + 1).toNatClampNeg) (xs (x4 + 2).toNatClampNeg) hZ hF hG) meModel_typeOf rfl qw_43f92305fb ⟨Nat.le_of_ble_eq_true rfl, Nat.le_of_ble_eq_true rfl⟩ rfl hl.1 rfl (Nat.le_of_ble_eq_true rfl) dLaw_law_474 (cc_room1 (ph_le I1.hI) (by have := K.hL; omega)) (fun r H1 h => by obtain ⟨κ2, cd2, h1, h2⟩ := h; exact ⟨κ2, cd2, h2, h1⟩) (fun r2 H2 locs2 κ2 cd2 hr2 I2 => ?_)
  refine lv_istore (lv' := [(6, .int r2), (5, .int r), (0, .ref b), (1, .ref (γ.2.2.2 0)), (2, .ref m0), (3, .ref (m0 + 25)), (4, .int x4)]) hx hb dLaw_law_477 hl (by decide) rfl (fun ls hl => ?_)
  refine lv_goto (tgt := 562) hx hb dLaw_law_479 (by decide) ?_
  refine W.up cc_5.1 cc_5.2 ?_
  exact J _ _ κ1 _ _ _ _ I2 (by omega) (lv_sub hl [2, 3, 4, 5, 6] rfl)
set_option maxHeartbeats 4000000 in
set_option maxRecDepth 100000 in
theorem lc_11 {p : Program} {l : Launch} {e : Env} {s : State} {m : MethodId} {below : List Frame} {meth : Method} {c : Code} {b L : Nat} {xs : Nat → Int32} {γ : gE} {A : Nat → Prop} {m0 : Nat} {q : Nat} {x4 : Int32} {Q : State → Prop} (K : LC l p s m c b L xs γ A m0) (hq : q + 5 ≤ L) (ex4 : x4 = nI q) (J : ∀ (H : Heap) (locs : List Loc) (κ κm : Nat → Nat) (cd : Int32) (g : Nat → Int64) (ls : Array Slot), LI s γ A m0 κ κm cd g H locs → EQ3 κ κm → lv_has ls 7 [(0, .ref b), (1, .ref (γ.2.2.2 0)), (2, .ref m0), (3, .ref (m0 + 25)), (4, .int x4)] → W p l e room_1 s m #[Value.ref b] below meth c H locs (CC κ (q + 5)) (SS κ (q + 5)) Q (F0 m 562 ls [])) {H : Heap} {locs : List Loc} {κ κm : Nat → Nat} {cd : Int32} {g : Nat → Int64} {ls : Array Slot} (I : LI s γ A m0 κ κm cd g H locs) (h3 : EQ3 κ κm) (hl : lv_has ls 7 [(0, .ref b), (1, .ref (γ.2.2.2 0)), (2, .ref m0), (3, .ref (m0 + 25)), (4, .int x4)]) : W p l e room_1 s m #[Value.ref b] below meth c H locs (CC κ q) (SS κ q) Q (F0 m 482 ls []) := by
  obtain ⟨hx, hb, hml, hown, hW⟩ := id K.S
  have hbA : ¬ (fun q : Nat => s.heap.size ≤ q) b := Nat.not_le.mpr K.hbl
  refine lv_aload_n hx hb dLaw_law_482 rfl (lv_at hl 1 rfl) ?_
  refine lv_aload_n hx hb dLaw_law_483 rfl (lv_at hl 0 rfl) ?_
  refine lv_iload hx hb dLaw_law_484 (lv_at hl 4 rfl) ?_
  refine lv_iconst (v := 1) hx hb dLaw_law_486 (by decide) ?_
  refine lv_iadd hx hb dLaw_law_487 ?_
  refine va_sld hx hb K.hX K.hbl hbA I.hS (lw_in K.hL hq ex4 1 (by decide) rfl) dLaw_law_488 ?_
  refine lv_aload_n hx hb dLaw_law_489 rfl (lv_at hl 0 rfl) ?_
  refine lv_iload hx hb dLaw_law_490 (lv_at hl 4 rfl) ?_
  refine lv_iconst (v := 2) hx hb dLaw_law_492 (by decide) ?_
  refine lv_iadd hx hb dLaw_law_493 ?_
  refine va_sld hx hb K.hX K.hbl hbA I.hS (lw_in K.hL hq ex4 2 (by decide) rfl) dLaw_law_494 ?_
  refine lv_aload_n hx hb dLaw_law_495 rfl (lv_at hl 3 rfl) ?_
  refine lc_wrap (RES := fun r κ1 g1 => κ1 3 = κ 3 ∧ κ1 0 = κ 0 ∧ κ1 1 = κ 1) K I (by have := K.hL; omega) (w_about l K.hst γ A κ s K.hw0 K.hnc K.hA0 H (m0 + 25) K.hAo g (xs (x4 + 1).toNatClampNeg) (xs (x4 + 2).toNatClampNeg)) meLaw_about qw_6e398d7092 ⟨Nat.le_of_ble_eq_true rfl, Nat.le_of_ble_eq_true rfl⟩ rfl hl.1 rfl dLaw_law_496 (fun r H1 h => by obtain ⟨⟨g1, h1⟩, h2⟩ := h; exact ⟨g1, h1, h2⟩) (fun r H1 locs1 κ1 g1 hr I1 => ?_)
  refine lv_istore (lv' := [(5, .int r), (0, .ref b), (1, .ref (γ.2.2.2 0)), (2, .ref m0), (3, .ref (m0 + 25)), (4, .int x4)]) hx hb dLaw_law_499 hl (by decide) rfl (fun ls hl => ?_)
  refine lv_aload_n hx hb dLaw_law_501 rfl (lv_at hl 3 rfl) ?_
  refine lv_aload_n hx hb dLaw_law_502 rfl (lv_at hl 1 rfl) ?_
  refine lv_iload hx hb dLaw_law_503 (lv_at hl 5 rfl) ?_
  refine lv_iconst (v := 1) hx hb dLaw_law_505 (by decide) ?_
  refine lv_iadd hx hb dLaw_law_506 ?_
  refine va_sld hx hb K.hX K.hbl hbA I1.hS (lw_in K.hL hq ex4 1 (by decide) rfl) dLaw_law_507 ?_
  refine lv_aload_n hx hb dLaw_law_508 rfl (lv_at hl 1 rfl) ?_
  refine lv_iload hx hb dLaw_law_509 (lv_at hl 5 rfl) ?_
  refine lv_iconst (v := 2) hx hb dLaw_law_511 (by decide) ?_
  refine lv_iadd hx hb dLaw_law_512 ?_
  refine va_sld hx hb K.hX K.hbl hbA I1.hS (lw_in K.hL hq ex4 2 (by decide) rfl) dLaw_law_513 ?_
  refine lc_model (rest := []) (As := [.int (xs (x4 + 1).toNatClampNeg), .int (xs (x4 + 2).toNatClampNeg)]) (RES := fun r κ2 cd2 => κ2 5 = κm 5 ∧ κ2 0 = κm 0 ∧ κ2 1 = κm 1) K I1 (fun b0 mn ν τ σ F nu hT hZ hF hG _ => m_about l γ m0 (B0 m0) _ κm b0 mn ν τ σ F nu hT (xs (x4 + 1).toNatClampNeg) (xs (x4 + 2).toNatClampNeg) hZ hF hG) meModel_about rfl qw_c27b3b6113 ⟨Nat.le_of_ble_eq_true rfl, Nat.le_of_ble_eq_true rfl⟩ rfl hl.1 rfl (Nat.le_of_ble_eq_true rfl) dLaw_law_514 (cc_room1 (ph_le I1.hI) (by have := K.hL; omega)) (fun r H1 h => by obtain ⟨κ2, cd2, h1, h2⟩ := h; exact ⟨κ2, cd2, h2, h1⟩) (fun r2 H2 locs2 κ2 cd2 hr2 I2 => ?_)
  refine lv_istore (lv' := [(6, .int r2), (5, .int r), (0, .ref b), (1, .ref (γ.2.2.2 0)), (2, .ref m0), (3, .ref (m0 + 25)), (4, .int x4)]) hx hb dLaw_law_517 hl (by decide) rfl (fun ls hl => ?_)
  refine lv_goto (tgt := 562) hx hb dLaw_law_519 (by decide) ?_
  refine W.up cc_5.1 cc_5.2 ?_
  exact J _ _ κ1 _ _ _ _ I2 (by omega) (lv_sub hl [2, 3, 4, 5, 6] rfl)
set_option maxHeartbeats 4000000 in
set_option maxRecDepth 100000 in
theorem lc_12 {p : Program} {l : Launch} {e : Env} {s : State} {m : MethodId} {below : List Frame} {meth : Method} {c : Code} {b L : Nat} {xs : Nat → Int32} {γ : gE} {A : Nat → Prop} {m0 : Nat} {q : Nat} {x4 : Int32} {Q : State → Prop} (K : LC l p s m c b L xs γ A m0) (hq : q + 5 ≤ L) (ex4 : x4 = nI q) (J : ∀ (H : Heap) (locs : List Loc) (κ κm : Nat → Nat) (cd : Int32) (g : Nat → Int64) (ls : Array Slot), LI s γ A m0 κ κm cd g H locs → EQ3 κ κm → lv_has ls 7 [(0, .ref b), (1, .ref (γ.2.2.2 0)), (2, .ref m0), (3, .ref (m0 + 25)), (4, .int x4)] → W p l e room_1 s m #[Value.ref b] below meth c H locs (CC κ (q + 5)) (SS κ (q + 5)) Q (F0 m 562 ls [])) {H : Heap} {locs : List Loc} {κ κm : Nat → Nat} {cd : Int32} {g : Nat → Int64} {ls : Array Slot} (I : LI s γ A m0 κ κm cd g H locs) (h3 : EQ3 κ κm) (hl : lv_has ls 7 [(0, .ref b), (1, .ref (γ.2.2.2 0)), (2, .ref m0), (3, .ref (m0 + 25)), (4, .int x4)]) : W p l e room_1 s m #[Value.ref b] below meth c H locs (CC κ q) (SS κ q) Q (F0 m 522 ls []) := by
  obtain ⟨hx, hb, hml, hown, hW⟩ := id K.S
  have hbA : ¬ (fun q : Nat => s.heap.size ≤ q) b := Nat.not_le.mpr K.hbl
  refine lv_aload_n hx hb dLaw_law_522 rfl (lv_at hl 1 rfl) ?_
  refine lv_aload_n hx hb dLaw_law_523 rfl (lv_at hl 0 rfl) ?_
  refine lv_iload hx hb dLaw_law_524 (lv_at hl 4 rfl) ?_
  refine lv_iconst (v := 1) hx hb dLaw_law_526 (by decide) ?_
  refine lv_iadd hx hb dLaw_law_527 ?_
  refine va_sld hx hb K.hX K.hbl hbA I.hS (lw_in K.hL hq ex4 1 (by decide) rfl) dLaw_law_528 ?_
  refine lv_aload_n hx hb dLaw_law_529 rfl (lv_at hl 0 rfl) ?_
  refine lv_iload hx hb dLaw_law_530 (lv_at hl 4 rfl) ?_
  refine lv_iconst (v := 2) hx hb dLaw_law_532 (by decide) ?_
  refine lv_iadd hx hb dLaw_law_533 ?_
  refine va_sld hx hb K.hX K.hbl hbA I.hS (lw_in K.hL hq ex4 2 (by decide) rfl) dLaw_law_534 ?_
  refine lv_aload_n hx hb dLaw_law_535 rfl (lv_at hl 3 rfl) ?_
  refine lc_wrap (RES := fun r κ1 g1 => κ1 3 = κ 3 ∧ κ1 0 = κ 0 ∧ κ1 1 = κ 1) K I (by have := K.hL; omega) (w_value l K.hst γ A κ s K.hw0 K.hnc K.hA0 H (m0 + 25) K.hAo g (xs (x4 + 1).toNatClampNeg) (xs (x4 + 2).toNatClampNeg)) meLaw_value qw_d0b1c4e36c ⟨Nat.le_of_ble_eq_true rfl, Nat.le_of_ble_eq_true rfl⟩ rfl hl.1 rfl dLaw_law_536 (fun r H1 h => by obtain ⟨⟨g1, h1⟩, h2⟩ := h; exact ⟨g1, h1, h2⟩) (fun r H1 locs1 κ1 g1 hr I1 => ?_)
  refine lv_istore (lv' := [(5, .int r), (0, .ref b), (1, .ref (γ.2.2.2 0)), (2, .ref m0), (3, .ref (m0 + 25)), (4, .int x4)]) hx hb dLaw_law_539 hl (by decide) rfl (fun ls hl => ?_)
  refine lv_aload_n hx hb dLaw_law_541 rfl (lv_at hl 3 rfl) ?_
  refine lv_aload_n hx hb dLaw_law_542 rfl (lv_at hl 1 rfl) ?_
  refine lv_iload hx hb dLaw_law_543 (lv_at hl 5 rfl) ?_
  refine lv_iconst (v := 1) hx hb dLaw_law_545 (by decide) ?_
  refine lv_iadd hx hb dLaw_law_546 ?_
  refine va_sld hx hb K.hX K.hbl hbA I1.hS (lw_in K.hL hq ex4 1 (by decide) rfl) dLaw_law_547 ?_
  refine lv_aload_n hx hb dLaw_law_548 rfl (lv_at hl 1 rfl) ?_
  refine lv_iload hx hb dLaw_law_549 (lv_at hl 5 rfl) ?_
  refine lv_iconst (v := 2) hx hb dLaw_law_551 (by decide) ?_
  refine lv_iadd hx hb dLaw_law_552 ?_
  refine va_sld hx hb K.hX K.hbl hbA I1.hS (lw_in K.hL hq ex4 2 (by decide) rfl) dLaw_law_553 ?_
  refine lc_model (rest := []) (As := [.int (xs (x4 + 1).toNatClampNeg), .int (xs (x4 + 2).toNatClampNeg)]) (RES := fun r κ2 cd2 => κ2 5 = κm 5 ∧ κ2 0 = κm 0 ∧ κ2 1 = κm 1) K I1 (fun b0 mn ν τ σ F nu hT hZ hF hG _ => m_value l γ m0 (B0 m0) _ κm b0 mn ν τ σ F nu hT (xs (x4 + 1).toNatClampNeg) (xs (x4 + 2).toNatClampNeg) hZ hF hG) meModel_value rfl qw_6253d5c13d ⟨Nat.le_of_ble_eq_true rfl, Nat.le_of_ble_eq_true rfl⟩ rfl hl.1 rfl (Nat.le_of_ble_eq_true rfl) dLaw_law_554 (cc_room1 (ph_le I1.hI) (by have := K.hL; omega)) (fun r H1 h => by obtain ⟨κ2, cd2, h1, h2⟩ := h; exact ⟨κ2, cd2, h2, h1⟩) (fun r2 H2 locs2 κ2 cd2 hr2 I2 => ?_)
  refine lv_istore (lv' := [(6, .int r2), (5, .int r), (0, .ref b), (1, .ref (γ.2.2.2 0)), (2, .ref m0), (3, .ref (m0 + 25)), (4, .int x4)]) hx hb dLaw_law_557 hl (by decide) rfl (fun ls hl => ?_)
  refine lv_goto (tgt := 562) hx hb dLaw_law_559 (by decide) ?_
  refine W.up cc_5.1 cc_5.2 ?_
  exact J _ _ κ1 _ _ _ _ I2 (by omega) (lv_sub hl [2, 3, 4, 5, 6] rfl)
set_option maxHeartbeats 4000000 in
set_option maxRecDepth 100000 in
theorem law_loop {p : Program} {l : Launch} {e : Env} {s : State} {m : MethodId} {below : List Frame} {meth : Method} {c : Code} {b L : Nat} {xs : Nat → Int32} {γ : gE} {A : Nat → Prop} {m0 : Nat} (K : LC l p s m c b L xs γ A m0) (hr : meth.sig.returnType = ret) (hlocks : meth.locks = false) : ∀ (N q : Nat) (x4 : Int32) (H : Heap) (locs : List Loc) (κ κm : Nat → Nat) (cd : Int32) (g : Nat → Int64) (ls : Array Slot), L + 5 ≤ q + N → q ≤ 2600 → x4 = nI q → LI s γ A m0 κ κm cd g H locs → EQ3 κ κm → lv_has ls 7 [(0, .ref b), (1, .ref (γ.2.2.2 0)), (2, .ref m0), (3, .ref (m0 + 25)), (4, .int x4)] → W p l e room_1 s m #[Value.ref b] below meth c H locs (CC κ q) (SS κ q) (lw_Z below #[Value.ref b] s) (F0 m 23 ls []) := by
  obtain ⟨hx, hb, hml, hown, hW⟩ := id K.S
  have hbA : ¬ (fun q : Nat => s.heap.size ≤ q) b := Nat.not_le.mpr K.hbl
  intro N
  induction N using Nat.strongRecOn with
  | ind N ih =>
    intro q x4 H locs κ κm cd g ls hN hq2 ex4 I h3 hl
    refine lv_iload hx hb dLaw_law_23 (lv_at hl 4 rfl) ?_
    refine lv_aload_n hx hb dLaw_law_25 rfl (lv_at hl 0 rfl) ?_
    refine va_slen hx hb K.hX K.hbl hbA I.hS dLaw_law_26 ?_
    refine lv_iconst (v := 5) hx hb dLaw_law_27 (by decide) ?_
    refine lv_isub hx hb dLaw_law_28 ?_
    refine lv_icmp_gt (tgt := 568) hx hb dLaw_law_29 (by decide) (fun c1 => ?_) (fun c1 => ?_)
    · refine lv_iconst (v := 1) hx hb dLaw_law_568 (by decide) ?_
      refine va_forget (fun q hq => I.hS.2.2 q hq) ?_
      have he := cc_end (ph_le I.hI) hq2
      refine W.up he.1 he.2 ?_
      exact lw_ret hx hb hr hlocks dLaw_law_569
    · have hq : q + 5 ≤ L := lw_len K.hL hq2 ex4 c1
      have J : ∀ (H : Heap) (locs : List Loc) (κ κm : Nat → Nat) (cd : Int32) (g : Nat → Int64) (ls : Array Slot), LI s γ A m0 κ κm cd g H locs → EQ3 κ κm → lv_has ls 7 [(0, .ref b), (1, .ref (γ.2.2.2 0)), (2, .ref m0), (3, .ref (m0 + 25)), (4, .int x4)] → W p l e room_1 s m #[Value.ref b] below meth c H locs (CC κ (q + 5)) (SS κ (q + 5)) (lw_Z below #[Value.ref b] s) (F0 m 562 ls []) := by
        intro H locs κ κm cd g ls I h3 hl
        obtain ⟨x5, ex5⟩ : ∃ y : Int32, y = x4 + 5 := ⟨_, rfl⟩
        refine lv_iinc (v := x5) (lv' := [(4, .int x5), (0, .ref b), (1, .ref (γ.2.2.2 0)), (2, .ref m0), (3, .ref (m0 + 25))]) hx hb dLaw_law_562 hl (k := 4) rfl (by rw [ex5]; rfl) (by decide) rfl (fun ls hl => ?_)
        refine lv_goto (tgt := 23) hx hb dLaw_law_565 (by decide) ?_
        have hL := K.hL
        exact ih (N - 5) (by omega) (q + 5) x5 H locs κ κm cd g ls (by omega) (by omega) (by rw [ex5, ex4]; exact nI_add q 5) I h3 (lv_sub hl [1, 2, 3, 4, 0] rfl)
      refine lv_aload_n hx hb dLaw_law_32 rfl (lv_at hl 0 rfl) ?_
      refine lv_iload hx hb dLaw_law_33 (lv_at hl 4 rfl) ?_
      refine va_sld hx hb K.hX K.hbl hbA I.hS (lw_in0 K.hL hq ex4) dLaw_law_35 ?_
      refine lv_bipush (v := 15) hx hb dLaw_law_36 (by decide) ?_
      refine lv_iand hx hb dLaw_law_38 ?_
      refine lv_topi (fun v ev => ?_)
      by_cases k0 : v = 0
      · rw [k0]
        refine lv_tableIn (tgt := 104) hx hb dLaw_law_39 (by decide) (by decide) rfl (by decide) ?_
        exact lc_0 K hq ex4 J I h3 hl
      by_cases k1 : v = 1
      · rw [k1]
        refine lv_tableIn (tgt := 184) hx hb dLaw_law_39 (by decide) (by decide) rfl (by decide) ?_
        exact lc_1 K hq ex4 J I h3 hl
      by_cases k2 : v = 2
      · rw [k2]
        refine lv_tableIn (tgt := 197) hx hb dLaw_law_39 (by decide) (by decide) rfl (by decide) ?_
        exact lc_2 K hq ex4 J I h3 hl
      by_cases k3 : v = 3
      · rw [k3]
        refine lv_tableIn (tgt := 213) hx hb dLaw_law_39 (by decide) (by decide) rfl (by decide) ?_
        exact lc_3 K hq ex4 J I h3 hl
      by_cases k4 : v = 4
      · rw [k4]
        refine lv_tableIn (tgt := 229) hx hb dLaw_law_39 (by decide) (by decide) rfl (by decide) ?_
        exact lc_4 K hq ex4 J I h3 hl
      by_cases k5 : v = 5
      · rw [k5]
        refine lv_tableIn (tgt := 257) hx hb dLaw_law_39 (by decide) (by decide) rfl (by decide) ?_
        exact lc_5 K hq ex4 J I h3 hl
      by_cases k6 : v = 6
      · rw [k6]
        refine lv_tableIn (tgt := 285) hx hb dLaw_law_39 (by decide) (by decide) rfl (by decide) ?_
        exact lc_6 K hq ex4 J I h3 hl
      by_cases k7 : v = 7
      · rw [k7]
        refine lv_tableIn (tgt := 325) hx hb dLaw_law_39 (by decide) (by decide) rfl (by decide) ?_
        exact lc_7 K hq ex4 J I h3 hl
      by_cases k8 : v = 8
      · rw [k8]
        refine lv_tableIn (tgt := 389) hx hb dLaw_law_39 (by decide) (by decide) rfl (by decide) ?_
        exact lc_8 K hq ex4 J I h3 hl
      by_cases k9 : v = 9
      · rw [k9]
        refine lv_tableIn (tgt := 429) hx hb dLaw_law_39 (by decide) (by decide) rfl (by decide) ?_
        exact lc_9 K hq ex4 J I h3 hl
      by_cases k10 : v = 10
      · rw [k10]
        refine lv_tableIn (tgt := 442) hx hb dLaw_law_39 (by decide) (by decide) rfl (by decide) ?_
        exact lc_10 K hq ex4 J I h3 hl
      by_cases k11 : v = 11
      · rw [k11]
        refine lv_tableIn (tgt := 482) hx hb dLaw_law_39 (by decide) (by decide) rfl (by decide) ?_
        exact lc_11 K hq ex4 J I h3 hl
      by_cases k12 : v = 12
      · rw [k12]
        refine lv_tableIn (tgt := 522) hx hb dLaw_law_39 (by decide) (by decide) rfl (by decide) ?_
        exact lc_12 K hq ex4 J I h3 hl
      refine lv_tableOut (tgt := 562) hx hb dLaw_law_39 (by have q0 := lv_neT (a := 0) k0 (by decide); have q1 := lv_neT (a := 1) k1 (by decide); have q2 := lv_neT (a := 2) k2 (by decide); have q3 := lv_neT (a := 3) k3 (by decide); have q4 := lv_neT (a := 4) k4 (by decide); have q5 := lv_neT (a := 5) k5 (by decide); have q6 := lv_neT (a := 6) k6 (by decide); have q7 := lv_neT (a := 7) k7 (by decide); have q8 := lv_neT (a := 8) k8 (by decide); have q9 := lv_neT (a := 9) k9 (by decide); have q10 := lv_neT (a := 10) k10 (by decide); have q11 := lv_neT (a := 11) k11 (by decide); have q12 := lv_neT (a := 12) k12 (by decide); clear J ih; omega) (by decide) ?_
      refine W.up (Nat.le_trans (Nat.le_succ _) cc_5.1) (Nat.le_trans (Nat.le_add_right _ 6) cc_5.2) ?_
      exact J _ _ _ _ _ _ _ I h3 hl
theorem qw_03c310d303 : (Cond.classLink R_Law 8 R_TypeBook) ∈ bs_W0 := bs_in (in_tables_1_1 (List.mem_of_getElem? (i := 24) rfl)) rfl
theorem qw_8238f16ca3 : (Cond.initialized R_TypeBook) ∈ bs_W0 := bs_in (in_tables_1_1 (List.mem_of_getElem? (i := 1) rfl)) rfl
theorem qw_9019471cde : (Cond.methodLink R_Law 53 yTypeBook_init) ∈ bs_W0 := bs_in (in_tables_1_1 (List.mem_of_getElem? (i := 26) rfl)) rfl
theorem qw_e36c7827c8 : (Cond.classLink R_Law 54 R_Model) ∈ bs_W0 := bs_in (in_tables_1_5 (List.mem_of_getElem? (i := 140) rfl)) rfl
theorem qw_150f5c1485 : (Cond.initialized R_Model) ∈ bs_W0 := bs_in (in_tables_1_1 (List.mem_of_getElem? (i := 14) rfl)) rfl
theorem qw_3603f81ea1 : (Cond.methodLink R_Law 56 yModel_init) ∈ bs_W0 := bs_in (in_tables_1_5 (List.mem_of_getElem? (i := 142) rfl)) rfl
/-- where the book's cells may lie -/
def LA (a m0 : Nat) (q : Nat) : Prop := a ≤ q ∧ ¬ (m0 ≤ q ∧ q < m0 + 25) ∧ q ≠ m0 + 25
theorem inv_shrink {γ : gE} {a m0 : Nat} {κ : Nat → Nat} {H : Heap} (hI : INV γ (fun q => a ≤ q) κ H) (hz : H.size = m0) : INV γ (LA a m0) κ H := by
  obtain ⟨ρ, hρ, hc⟩ := hI
  refine ⟨fun q => if q < m0 then ρ q else 0, fun q hq => ?_, fun i h1 h2 => cmp_kept (hc i h1 h2) (fun q _ _ => rfl) (fun q h h9 => ?_)⟩
  · by_cases h : q < m0
    · have hq : (if q < m0 then ρ q else 0) ≠ 0 := hq
      rw [if_pos h] at hq
      exact ⟨hρ q hq, by omega, by omega⟩
    · have hq : (if q < m0 then ρ q else 0) ≠ 0 := hq
      rw [if_neg h] at hq
      exact absurd rfl hq
  · show (if q < m0 then ρ q else 0) = i
    rw [if_pos (by omega)]
    exact h
theorem fsI_dflt {a : Nat} : ∀ j, j < 35 → defaultValue (t_Model j) = vp_V (fsI a (fun _ => 0) 0) j := fun j hj => by
  rcases (show j = 0 ∨ j = 1 ∨ j = 2 ∨ j = 3 ∨ j = 4 ∨ j = 5 ∨ j = 6 ∨ j = 7 ∨ j = 8 ∨ j = 9 ∨ j = 10 ∨ j = 11 ∨ j = 12 ∨ j = 13 ∨ j = 14 ∨ j = 15 ∨ j = 16 ∨ j = 17 ∨ j = 18 ∨ j = 19 ∨ j = 20 ∨ j = 21 ∨ j = 22 ∨ j = 23 ∨ j = 24 ∨ j = 25 ∨ j = 26 ∨ j = 27 ∨ j = 28 ∨ j = 29 ∨ j = 30 ∨ j = 31 ∨ j = 32 ∨ j = 33 ∨ j = 34 by omega) with h | h | h | h | h | h | h | h | h | h | h | h | h | h | h | h | h | h | h | h | h | h | h | h | h | h | h | h | h | h | h | h | h | h | h <;> subst h <;> rfl
set_option maxHeartbeats 4000000 in
set_option maxRecDepth 100000 in
/-- THE LAW, from its entry -/
theorem whole_start {p : Program} {e : Env} {s : State} {m : MethodId} {below : List Frame} {meth : Method} {c : Code} (l : Launch) (hst : l.stackTraces = false) {b L : Nat} {xs : Nat → Int32} (hL : L ≤ 2560) (C0 : lw_At p s m meth c b L xs) : W p l e room_1 s m #[Value.ref b] below meth c s.heap [] 0 0 (lw_Z below #[Value.ref b] s) (entryFrame m ([Value.ref b] : List Value).toArray 7) := by
  obtain ⟨hx, hb, hr, hml, hown, hts, hX, hbl, hlocks, hgv⟩ := id C0
  have hW := law_W hts
  have S : bs_F p s m #[Value.ref b] c code 7 R_law := ⟨hx, hb, hml, hown, hW⟩
  obtain ⟨γ, hC⟩ := law_cx hts
  obtain ⟨hw0, hnc⟩ := law_sw hts hgv
  have hS : va_S (fun q : Nat => s.heap.size ≤ q) s.heap s.heap [] := va_S.rf
  have hA : ∀ q, s.heap.size ≤ q → (fun q : Nat => s.heap.size ≤ q) q := fun _ h => h
  have hl := lv_entry ([.ref b]) (n := 7) (Nat.le_of_ble_eq_true rfl)
  rw [lg_entry_eq]
  generalize (lg_sl ([.ref b]) ++ List.replicate (7 - (lg_sl ([.ref b])).length) Slot.unset).toArray = ls at hl ⊢
  have hl : lv_has ls 7 [(0, .ref b)] := hl
  obtain ⟨a, ha⟩ : ∃ z, z = s.heap.size := ⟨_, rfl⟩
  refine cw_new (ws := []) (fs := [.null, .null, .null, .null, .null, .null, .int 0]) (C := R_TypeBook) (T := T_TypeBook) (N := 7) (ci := 0) S hC in_TypeBook t_TypeBook t_TypeBook_ok qw_03c310d303 qw_98df340de2 qw_8238f16ca3 rfl (fun j hj => by rcases (show j = 0 ∨ j = 1 ∨ j = 2 ∨ j = 3 ∨ j = 4 ∨ j = 5 ∨ j = 6 by omega) with h | h | h | h | h | h | h <;> subst h <;> rfl) (fun k q h => by simp at h) hS hA ha.symm (Nat.le_of_ble_eq_true rfl) (Nat.le_of_ble_eq_true rfl) dLaw_law_0 (fun H hP _ hS hz hk9 => ?_)
  refine lv_dup hx hb dLaw_law_3 rfl ?_
  have hfb : ∀ U : State, U.heap = H → s.WarmedH U.vm → FB s U U.heap := fun U hU hWU => ⟨hWU, by rw [hU]; exact hS.1, fun q hq => by rw [hU]; exact hS.2.1 q hq (Nat.not_le.mpr hq)⟩
  refine ms_I (A := fun q => a ≤ q) (A0 := fun q => s.heap.size ≤ q) (As := []) (rest := [.ref a]) S hC (fun q h => by show a ≤ q; omega) (fun q h => by have h : a ≤ q := h; show s.heap.size ≤ q; omega) hS (i_TypeBook l γ s hw0 a H) ct_blind meTypeBook_init qw_9019471cde ⟨(Nat.le_of_ble_eq_true rfl), (Nat.le_of_ble_eq_true rfl)⟩ (fun U hU hWU => ⟨⟨hfb U hU hWU, by omega⟩, hU, hz, hP⟩) rfl hl.1 rfl (Nat.le_of_ble_eq_true rfl) dLaw_law_4 ⟨(Nat.le_of_ble_eq_true rfl), (Nat.le_of_ble_eq_true rfl)⟩ (fun H1 locs1 hPO hS1 hz1 hk1 => ?_)
  clear hfb
  obtain ⟨hI, hz2⟩ := hPO
  refine lv_astore_n (lv' := [(1, .ref a), (0, .ref b)]) hx hb dLaw_law_7 rfl hl (by decide) rfl (fun ls hl => ?_)
  obtain ⟨m0, hm0⟩ : ∃ z, z = a + 45 := ⟨_, rfl⟩
  rw [← hm0] at hz2
  have hI2 := inv_shrink hI hz2
  have hCT : CX (γT γ a) s := ⟨hC.1, hC.2⟩
  refine cw_new (ws := []) (fs := fsI m0 (fun _ => 0) 0) (C := R_Model) (T := T_Model) (N := 35) (ci := 10) S hCT in_Model t_Model t_Model_ok qw_e36c7827c8 qw_68bc186834 qw_150f5c1485 rfl fsI_dflt (fun k q h => by simp at h) hS1 hA hz2 (Nat.le_of_ble_eq_true rfl) (Nat.le_of_ble_eq_true rfl) dLaw_law_8 (fun H2 hP2 _ hS2 hz3 hk2 => ?_)
  have hI3 := inv_off hI2 (fun q _ h => hk2 q (by omega))
  refine lv_dup hx hb dLaw_law_11 rfl ?_
  have hfb : ∀ U : State, U.heap = H2 → s.WarmedH U.vm → FB s U U.heap := fun U hU hWU => ⟨hWU, by rw [hU]; exact hS2.1, fun q hq => by rw [hU]; exact hS2.2.1 q hq (Nat.not_le.mpr hq)⟩
  refine ms_I (A := fun q => m0 ≤ q) (A0 := fun q => s.heap.size ≤ q) (As := []) (rest := [.ref m0]) S hCT (fun q h => by show m0 ≤ q; omega) (fun q h => by have h : m0 ≤ q := h; show s.heap.size ≤ q; omega) hS2 (i_Model l (γT γ a) s hw0 m0 H2) ct_blind meModel_init qw_3603f81ea1 ⟨(Nat.le_of_ble_eq_true rfl), (Nat.le_of_ble_eq_true rfl)⟩ (fun U hU hWU => ⟨⟨hfb U hU hWU, by omega⟩, hU, hz3, hP2⟩) rfl hl.1 rfl (Nat.le_of_ble_eq_true rfl) dLaw_law_12 ⟨(Nat.le_of_ble_eq_true rfl), (Nat.le_of_ble_eq_true rfl)⟩ (fun H3 locs3 hPO hS3 hz4 hk3 => ?_)
  clear hfb
  obtain ⟨⟨κm, hκ, hM⟩, hz5⟩ := hPO
  have hI4 := inv_off hI3 (fun q h1 h2 => hk3 q h2 (fun h => by have h9 : m0 ≤ q := h; exact h1.2.1 ⟨h9, by omega⟩))
  refine lv_astore_n (lv' := [(2, .ref m0), (1, .ref a), (0, .ref b)]) hx hb dLaw_law_15 rfl hl (by decide) rfl (fun ls hl => ?_)
  refine lv_iconst (v := 1) hx hb dLaw_law_16 (by decide) ?_
  refine cw_new_long (ws := []) (γ := γT γ a) S hCT qw_6933bd775d (fun k q h => by simp at h) ⟨fun i j p q h => by simp at h, fun k q h => by simp at h⟩ hS3 hA hz5 1 rfl (by decide) (Nat.le_of_ble_eq_true rfl) (Nat.le_of_ble_eq_true rfl) dLaw_law_17 (fun H4 hP4 _ hS4 hz6 hk4 => ?_)
  have hI5 := inv_off hI4 (fun q _ h => hk4 q (by omega))
  have hM5 := mi_kept (mi_Z (Z' := iv m0 (m0 + 25)) hM (fun q h1 h2 => ⟨h1, h2⟩)) (fun q _ h => hk4 q h)
  refine lv_astore_n (lv' := [(3, .ref (m0 + 25)), (2, .ref m0), (1, .ref a), (0, .ref b)]) hx hb dLaw_law_19 rfl hl (by decide) rfl (fun ls hl => ?_)
  refine lv_iconst (v := 0) hx hb dLaw_law_20 (by decide) ?_
  refine lv_istore (lv' := [(4, .int 0), (3, .ref (m0 + 25)), (2, .ref m0), (1, .ref a), (0, .ref b)]) hx hb dLaw_law_21 hl (by decide) rfl (fun ls hl => ?_)
  refine W.up (k := CC κT 0) (n := SS κT 0) (Nat.le_of_ble_eq_true rfl) (Nat.le_of_ble_eq_true rfl) ?_
  exact law_loop (γ := γT γ a) (A := LA a m0) (m0 := m0) ⟨hst, S, hCT, hw0, hnc, fun q h => by have h9 := h.1; omega, fun q h => h.2.1, fun h => h.2.2 rfl, fun q h => ⟨by omega, by omega, by omega⟩, by omega, hX, hbl, hL⟩ hr hlocks (L + 5) 0 0 H4 _ κT κm 0 _ ls (by omega) (by omega) nI_0.symm ⟨hI5, hM5, hP4, by omega, hS4⟩ ⟨hκ.1.symm, hκ.2.1.symm, hκ.2.2.symm⟩ (lv_sub hl [4, 3, 2, 1, 0] rfl)
