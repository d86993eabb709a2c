def Q_goodName  (x0 : Int32) : Int32 := (if x0 < 0 then 0 else (if 10000 ≤ x0 then 0 else 1))
set_option maxHeartbeats 4000000 in
set_option maxRecDepth 100000 in
theorem n_goodName (l : Launch) (γ : gE) (P : Heap → Prop) (x0 : Int32) : PU l yModel_goodName bModel_goodName 1 (some .boolean) 0 0 [.int x0] γ P (vp_Si (fun v : Int32 => ((v = 1 ∧ GNm x0) ∨ (v = 0 ∧ ¬ GNm x0)) ∧ v = Q_goodName  x0)) := by
  refine pu_openZ (by decide) (Nat.le_of_ble_eq_true rfl) ?_
  intro p e s m args below meth c ls Q S hC hM hE hl
  obtain ⟨hx, hb, hml, hown, hW⟩ := id S
  have hl : lv_has ls 1 [(0, .int x0)] := hl
  obtain ⟨OUT, hQ, hO⟩ : ∃ z, (z = Q_goodName  x0) ∧ Oq z (Q_goodName  x0) := ⟨_, rfl, rfl⟩
  rw [← hQ] at hE
  clear hQ
  refine lv_iload_n hx hb dModel_goodName_0 rfl (lv_at hl 0 rfl) ?_
  refine lv_if_lt (tgt := 15) hx hb dModel_goodName_1 (by decide) (fun c1 => ?_) (fun c1 => ?_)
  · refine lv_iconst (v := 0) hx hb dModel_goodName_15 (by decide) ?_
    exact hE _ _ _ rfl ⟨(by first | exact Or.inl ⟨rfl, gm_t (by assumption) (by assumption)⟩ | exact Or.inr ⟨rfl, fun h9 => h9.1 (by assumption)⟩ | exact Or.inr ⟨rfl, gm_2 (by assumption)⟩), (by exact (hO.tr (if_pos c1)).symm)⟩ dModel_goodName_16
  · refine lv_iload_n hx hb dModel_goodName_4 rfl (lv_at hl 0 rfl) ?_
    refine lv_sipush (v := 10000) hx hb dModel_goodName_5 (by decide) ?_
    refine lv_icmp_ge (tgt := 15) hx hb dModel_goodName_8 (by decide) (fun c2 => ?_) (fun c2 => ?_)
    · refine lv_iconst (v := 0) hx hb dModel_goodName_15 (by decide) ?_
      exact hE _ _ _ rfl ⟨(by first | exact Or.inl ⟨rfl, gm_t (by assumption) (by assumption)⟩ | exact Or.inr ⟨rfl, fun h9 => h9.1 (by assumption)⟩ | exact Or.inr ⟨rfl, gm_2 (by assumption)⟩), (by exact (hO.tr ((if_neg c1).trans (if_pos c2))).symm)⟩ dModel_goodName_16
    · refine lv_iconst (v := 1) hx hb dModel_goodName_11 (by decide) ?_
      refine lv_goto (tgt := 16) hx hb dModel_goodName_12 (by decide) ?_
      exact hE _ _ _ rfl ⟨(by first | exact Or.inl ⟨rfl, gm_t (by assumption) (by assumption)⟩ | exact Or.inr ⟨rfl, fun h9 => h9.1 (by assumption)⟩ | exact Or.inr ⟨rfl, gm_2 (by assumption)⟩), (by exact (hO.tr ((if_neg c1).trans (if_neg c2))).symm)⟩ dModel_goodName_16
def Q_isLow_11  (x0 : Int32) : Int32 := 1
def Q_isLow  (x0 : Int32) : Int32 := (if x0 = 2 then (Q_isLow_11  x0  ) else (if x0 = 6 then (Q_isLow_11  x0  ) else 0))
set_option maxHeartbeats 4000000 in
set_option maxRecDepth 100000 in
theorem n_isLow (l : Launch) (γ : gE) (P : Heap → Prop) (x0 : Int32) : PU l yModel_isLow bModel_isLow 1 (some .boolean) 0 0 [.int x0] γ P (vp_Si (fun v : Int32 => (True) ∧ v = Q_isLow  x0)) := by
  refine pu_openZ (by decide) (Nat.le_of_ble_eq_true rfl) ?_
  intro p e s m args below meth c ls Q S hC hM hE hl
  obtain ⟨hx, hb, hml, hown, hW⟩ := id S
  have hl : lv_has ls 1 [(0, .int x0)] := hl
  obtain ⟨OUT, hQ, hO⟩ : ∃ z, (z = Q_isLow  x0) ∧ Oq z (Q_isLow  x0) := ⟨_, rfl, rfl⟩
  rw [← hQ] at hE
  clear hQ
  refine lv_iload_n hx hb dModel_isLow_0 rfl (lv_at hl 0 rfl) ?_
  refine lv_iconst (v := 2) hx hb dModel_isLow_1 (by decide) ?_
  have J11 : ∀ (ls : Array Slot), (Oq OUT (Q_isLow_11  x0   )) → lv_has ls 1 [(0, .int x0)] → W p l e (bs_rm 0 0 0 0) s m args below meth c s.heap [] 0 0 Q (F0 m 11 ls []) := by
    intro ls hO hl
    refine lv_iconst (v := 1) hx hb dModel_isLow_11 (by decide) ?_
    refine lv_goto (tgt := 16) hx hb dModel_isLow_12 (by decide) ?_
    exact hE _ _ _ rfl ⟨trivial, (by exact (hO.tr rfl).symm)⟩ dModel_isLow_16
  refine lv_icmp_eq (tgt := 11) hx hb dModel_isLow_2 (by decide) (fun c3 => ?_) (fun c3 => ?_)
  · exact J11 ls (by exact hO.tr (if_pos c3)) (lv_sub hl [0] rfl)
  · refine lv_iload_n hx hb dModel_isLow_5 rfl (lv_at hl 0 rfl) ?_
    refine lv_bipush (v := 6) hx hb dModel_isLow_6 (by decide) ?_
    refine lv_icmp_ne (tgt := 15) hx hb dModel_isLow_8 (by decide) (fun c4 => ?_) (fun c4 => ?_)
    · refine lv_iconst (v := 0) hx hb dModel_isLow_15 (by decide) ?_
      exact hE _ _ _ rfl ⟨trivial, (by exact (hO.tr ((if_neg c3).trans (if_neg c4))).symm)⟩ dModel_isLow_16
    · exact J11 ls (by exact hO.tr ((if_neg c3).trans (if_pos c4))) (lv_sub hl [0] rfl)
def Q_isHigh_11  (x0 : Int32) : Int32 := 1
def Q_isHigh  (x0 : Int32) : Int32 := (if x0 = 3 then (Q_isHigh_11  x0  ) else (if x0 = 7 then (Q_isHigh_11  x0  ) else 0))
set_option maxHeartbeats 4000000 in
set_option maxRecDepth 100000 in
theorem n_isHigh (l : Launch) (γ : gE) (P : Heap → Prop) (x0 : Int32) : PU l yModel_isHigh bModel_isHigh 1 (some .boolean) 0 0 [.int x0] γ P (vp_Si (fun v : Int32 => (True) ∧ v = Q_isHigh  x0)) := by
  refine pu_openZ (by decide) (Nat.le_of_ble_eq_true rfl) ?_
  intro p e s m args below meth c ls Q S hC hM hE hl
  obtain ⟨hx, hb, hml, hown, hW⟩ := id S
  have hl : lv_has ls 1 [(0, .int x0)] := hl
  obtain ⟨OUT, hQ, hO⟩ : ∃ z, (z = Q_isHigh  x0) ∧ Oq z (Q_isHigh  x0) := ⟨_, rfl, rfl⟩
  rw [← hQ] at hE
  clear hQ
  refine lv_iload_n hx hb dModel_isHigh_0 rfl (lv_at hl 0 rfl) ?_
  refine lv_iconst (v := 3) hx hb dModel_isHigh_1 (by decide) ?_
  have J11 : ∀ (ls : Array Slot), (Oq OUT (Q_isHigh_11  x0   )) → lv_has ls 1 [(0, .int x0)] → W p l e (bs_rm 0 0 0 0) s m args below meth c s.heap [] 0 0 Q (F0 m 11 ls []) := by
    intro ls hO hl
    refine lv_iconst (v := 1) hx hb dModel_isHigh_11 (by decide) ?_
    refine lv_goto (tgt := 16) hx hb dModel_isHigh_12 (by decide) ?_
    exact hE _ _ _ rfl ⟨trivial, (by exact (hO.tr rfl).symm)⟩ dModel_isHigh_16
  refine lv_icmp_eq (tgt := 11) hx hb dModel_isHigh_2 (by decide) (fun c3 => ?_) (fun c3 => ?_)
  · exact J11 ls (by exact hO.tr (if_pos c3)) (lv_sub hl [0] rfl)
  · refine lv_iload_n hx hb dModel_isHigh_5 rfl (lv_at hl 0 rfl) ?_
    refine lv_bipush (v := 7) hx hb dModel_isHigh_6 (by decide) ?_
    refine lv_icmp_ne (tgt := 15) hx hb dModel_isHigh_8 (by decide) (fun c4 => ?_) (fun c4 => ?_)
    · refine lv_iconst (v := 0) hx hb dModel_isHigh_15 (by decide) ?_
      exact hE _ _ _ rfl ⟨trivial, (by exact (hO.tr ((if_neg c3).trans (if_neg c4))).symm)⟩ dModel_isHigh_16
    · exact J11 ls (by exact hO.tr ((if_neg c3).trans (if_pos c4))) (lv_sub hl [0] rfl)
def Q_not  (x0 : Int32) : Int32 := (if x0 = 0 then 0 else (if (Q_isLow x0) = 0 then (if (Q_isHigh x0) = 0 then 1 else 2) else 3))
set_option maxHeartbeats 4000000 in
set_option maxRecDepth 100000 in
theorem n_not (l : Launch) (γ : gE) (P : Heap → Prop) (x0 : Int32) : PU l yModel_not bModel_not 1 (some .int) 1 20 [.int x0] γ P (vp_Si (fun v : Int32 => (True) ∧ v = Q_not  x0)) := by
  refine pu_openI (by decide) (Nat.le_of_ble_eq_true rfl) ?_
  intro p e s m args below meth c ls Q S hC hM hE hl
  obtain ⟨hx, hb, hml, hown, hW⟩ := id S
  have hl : lv_has ls 1 [(0, .int x0)] := hl
  obtain ⟨OUT, hQ, hO⟩ : ∃ z, (z = Q_not  x0) ∧ Oq z (Q_not  x0) := ⟨_, rfl, rfl⟩
  rw [← hQ] at hE
  clear hQ
  refine lv_iload_n hx hb dModel_not_0 rfl (lv_at hl 0 rfl) ?_
  refine lv_if_ne (tgt := 8) hx hb dModel_not_1 (by decide) (fun c1 => ?_) (fun c1 => ?_)
  · refine lv_iload_n hx hb dModel_not_8 rfl (lv_at hl 0 rfl) ?_
    refine pu_Si (rest := []) S hC (n_isLow l γ _ x0) meModel_isLow qw_50d7321591 ⟨Nat.le_of_ble_eq_true rfl, Nat.le_of_ble_eq_true rfl⟩ hM rfl hl.1 rfl (Nat.le_of_ble_eq_true rfl) dModel_not_9 ⟨Nat.zero_le _, Nat.zero_le _⟩ (fun r2 hr2 => ?_)
    obtain ⟨hr2, er2⟩ := hr2
    refine lv_if_eq (tgt := 19) hx hb dModel_not_12 (by decide) (fun c3 => ?_) (fun c3 => ?_)
    · refine lv_iload_n hx hb dModel_not_19 rfl (lv_at hl 0 rfl) ?_
      refine pu_Si (rest := []) S hC (n_isHigh l γ _ x0) meModel_isHigh qw_7b38890176 ⟨Nat.le_of_ble_eq_true rfl, Nat.le_of_ble_eq_true rfl⟩ hM rfl hl.1 rfl (Nat.le_of_ble_eq_true rfl) dModel_not_20 ⟨Nat.zero_le _, Nat.zero_le _⟩ (fun r4 hr4 => ?_)
      obtain ⟨hr4, er4⟩ := hr4
      refine lv_if_eq (tgt := 30) hx hb dModel_not_23 (by decide) (fun c5 => ?_) (fun c5 => ?_)
      · refine lv_iconst (v := 1) hx hb dModel_not_30 (by decide) ?_
        exact hE _ _ _ ⟨trivial, (by subst er4 er2; exact (hO.tr ((if_neg c1).trans ((if_pos c3).trans (if_pos c5)))).symm)⟩ dModel_not_31
      · refine lv_iconst (v := 2) hx hb dModel_not_26 (by decide) ?_
        refine lv_goto (tgt := 31) hx hb dModel_not_27 (by decide) ?_
        exact hE _ _ _ ⟨trivial, (by subst er4 er2; exact (hO.tr ((if_neg c1).trans ((if_pos c3).trans (if_neg c5)))).symm)⟩ dModel_not_31
    · refine lv_iconst (v := 3) hx hb dModel_not_15 (by decide) ?_
      refine lv_goto (tgt := 31) hx hb dModel_not_16 (by decide) ?_
      exact hE _ _ _ ⟨trivial, (by subst er2; exact (hO.tr ((if_neg c1).trans (if_neg c3))).symm)⟩ dModel_not_31
  · refine lv_iconst (v := 0) hx hb dModel_not_4 (by decide) ?_
    refine lv_goto (tgt := 31) hx hb dModel_not_5 (by decide) ?_
    exact hE _ _ _ ⟨trivial, (by exact (hO.tr (if_pos c1)).symm)⟩ dModel_not_31
def Q_join_30  (x0 : Int32) (x1 : Int32) (x2 : Int32) : Int32 := 0
def Q_join_18  (x0 : Int32) (x1 : Int32) (x2 : Int32) : Int32 := 2
def Q_join_85  (x0 : Int32) (x1 : Int32) (x2 : Int32) : Int32 := 0
def Q_join_73  (x0 : Int32) (x1 : Int32) (x2 : Int32) : Int32 := 3
def Q_join_152  (x0 : Int32) (x1 : Int32) (x2 : Int32) (t0_152 : Int32) : Int32 := (if t0_152 = 0 then 1 else (if (Q_isHigh x1) = (Q_isHigh x2) then 2 else 3))
def Q_join_151  (x0 : Int32) (x1 : Int32) (x2 : Int32) : Int32 := (Q_join_152  x0 x1 x2  0)
def Q_join_147  (x0 : Int32) (x1 : Int32) (x2 : Int32) : Int32 := (Q_join_152  x0 x1 x2  1)
def Q_join_133  (x0 : Int32) (x1 : Int32) (x2 : Int32) : Int32 := (if (Q_isLow x2) = 0 then (if (Q_isHigh x2) = 0 then (Q_join_151  x0 x1 x2  ) else (Q_join_147  x0 x1 x2  )) else (Q_join_147  x0 x1 x2  ))
def Q_join  (x0 : Int32) (x1 : Int32) (x2 : Int32) : Int32 := (if x0 = 0 then (if (Q_isLow x1) = 0 then (if (Q_isLow x2) = 0 then (if x1 = 0 then (Q_join_30  x0 x1 x2  ) else (if x2 = 0 then (Q_join_30  x0 x1 x2  ) else (if (Q_isHigh x1) = 0 then 1 else (if (Q_isHigh x2) = 0 then 1 else 3)))) else (Q_join_18  x0 x1 x2  )) else (Q_join_18  x0 x1 x2  )) else (if x0 = 1 then (if (Q_isHigh x1) = 0 then (if (Q_isHigh x2) = 0 then (if x1 = 0 then (Q_join_85  x0 x1 x2  ) else (if x2 = 0 then (Q_join_85  x0 x1 x2  ) else (if (Q_isLow x1) = 0 then 1 else (if (Q_isLow x2) = 0 then 1 else 2)))) else (Q_join_73  x0 x1 x2  )) else (Q_join_73  x0 x1 x2  )) else (if x1 = 0 then 0 else (if x2 = 0 then 0 else (if (Q_isLow x1) = 0 then (if (Q_isHigh x1) = 0 then (Q_join_151  x0 x1 x2  ) else (Q_join_133  x0 x1 x2  )) else (Q_join_133  x0 x1 x2  ))))))
set_option maxHeartbeats 4000000 in
set_option maxRecDepth 100000 in
theorem n_join (l : Launch) (γ : gE) (P : Heap → Prop) (x0 : Int32) (x1 : Int32) (x2 : Int32) : PU l yModel_join bModel_join 4 (some .int) 1 20 [.int x0, .int x1, .int x2] γ P (vp_Si (fun v : Int32 => (True) ∧ v = Q_join  x0 x1 x2)) := by
  refine pu_openI (by decide) (Nat.le_of_ble_eq_true rfl) ?_
  intro p e s m args below meth c ls Q S hC hM hE hl
  obtain ⟨hx, hb, hml, hown, hW⟩ := id S
  have hl : lv_has ls 4 [(0, .int x0), (1, .int x1), (2, .int x2)] := hl
  obtain ⟨OUT, hQ, hO⟩ : ∃ z, (z = Q_join  x0 x1 x2) ∧ Oq z (Q_join  x0 x1 x2) := ⟨_, rfl, rfl⟩
  rw [← hQ] at hE
  clear hQ
  refine lv_iload_n hx hb dModel_join_0 rfl (lv_at hl 0 rfl) ?_
  refine lv_if_ne (tgt := 54) hx hb dModel_join_1 (by decide) (fun c1 => ?_) (fun c1 => ?_)
  · refine lv_iload_n hx hb dModel_join_54 rfl (lv_at hl 0 rfl) ?_
    refine lv_iconst (v := 1) hx hb dModel_join_55 (by decide) ?_
    refine lv_icmp_ne (tgt := 109) hx hb dModel_join_56 (by decide) (fun c2 => ?_) (fun c2 => ?_)
    · refine lv_iload_n hx hb dModel_join_109 rfl (lv_at hl 1 rfl) ?_
      refine lv_if_eq (tgt := 117) hx hb dModel_join_110 (by decide) (fun c3 => ?_) (fun c3 => ?_)
      · refine lv_iconst (v := 0) hx hb dModel_join_117 (by decide) ?_
        exact hE _ _ _ ⟨trivial, (by exact (hO.tr ((if_neg c1).trans ((if_neg c2).trans (if_pos c3)))).symm)⟩ dModel_join_118
      · refine lv_iload_n hx hb dModel_join_113 rfl (lv_at hl 2 rfl) ?_
        refine lv_if_ne (tgt := 119) hx hb dModel_join_114 (by decide) (fun c4 => ?_) (fun c4 => ?_)
        · refine lv_iload_n hx hb dModel_join_119 rfl (lv_at hl 1 rfl) ?_
          refine pu_Si (rest := []) S hC (n_isLow l γ _ x1) meModel_isLow qw_50d7321591 ⟨Nat.le_of_ble_eq_true rfl, Nat.le_of_ble_eq_true rfl⟩ hM rfl hl.1 rfl (Nat.le_of_ble_eq_true rfl) dModel_join_120 ⟨Nat.zero_le _, Nat.zero_le _⟩ (fun r5 hr5 => ?_)
          obtain ⟨hr5, er5⟩ := hr5
          have J152 : ∀ (ls : Array Slot) (t0_152 : Int32), (Oq OUT (Q_join_152  x0 x1 x2   t0_152)) → lv_has ls 4 [(0, .int x0), (1, .int x1), (2, .int x2)] → W p l e (bs_rm 1 0 0 20) s m args below meth c s.heap [] 0 0 Q (F0 m 152 ls [.int t0_152]) := by
            intro ls t0_152 hO hl
            refine lv_istore_n (lv' := [(3, .int t0_152), (0, .int x0), (1, .int x1), (2, .int x2)]) hx hb dModel_join_152 rfl hl (by decide) rfl (fun ls hl => ?_)
            refine lv_iload_n hx hb dModel_join_153 rfl (lv_at hl 0 rfl) ?_
            refine lv_if_ne (tgt := 161) hx hb dModel_join_154 (by decide) (fun c17 => ?_) (fun c17 => ?_)
            · refine lv_iload_n hx hb dModel_join_161 rfl (lv_at hl 2 rfl) ?_
              refine pu_Si (rest := []) S hC (n_isHigh l γ _ x1) meModel_isHigh qw_7b38890176 ⟨Nat.le_of_ble_eq_true rfl, Nat.le_of_ble_eq_true rfl⟩ hM rfl hl.1 rfl (Nat.le_of_ble_eq_true rfl) dModel_join_162 ⟨Nat.zero_le _, Nat.zero_le _⟩ (fun r18 hr18 => ?_)
              obtain ⟨hr18, er18⟩ := hr18
              refine lv_iload_n hx hb dModel_join_165 rfl (lv_at hl 3 rfl) ?_
              refine pu_Si (rest := [.int r18]) S hC (n_isHigh l γ _ x2) meModel_isHigh qw_7b38890176 ⟨Nat.le_of_ble_eq_true rfl, Nat.le_of_ble_eq_true rfl⟩ hM rfl hl.1 rfl (Nat.le_of_ble_eq_true rfl) dModel_join_166 ⟨Nat.zero_le _, Nat.zero_le _⟩ (fun r19 hr19 => ?_)
              obtain ⟨hr19, er19⟩ := hr19
              refine lv_icmp_ne (tgt := 176) hx hb dModel_join_169 (by decide) (fun c20 => ?_) (fun c20 => ?_)
              · refine lv_iconst (v := 3) hx hb dModel_join_176 (by decide) ?_
                exact hE _ _ _ ⟨trivial, (by subst er19 er18 er5; exact (hO.tr ((if_neg c17).trans (if_neg c20))).symm)⟩ dModel_join_177
              · refine lv_iconst (v := 2) hx hb dModel_join_172 (by decide) ?_
                refine lv_goto (tgt := 177) hx hb dModel_join_173 (by decide) ?_
                exact hE _ _ _ ⟨trivial, (by subst er19 er18 er5; exact (hO.tr ((if_neg c17).trans (if_pos c20))).symm)⟩ dModel_join_177
            · refine lv_iconst (v := 1) hx hb dModel_join_157 (by decide) ?_
              refine lv_goto (tgt := 177) hx hb dModel_join_158 (by decide) ?_
              exact hE _ _ _ ⟨trivial, (by subst er5; exact (hO.tr (if_pos c17)).symm)⟩ dModel_join_177
          have J151 : ∀ (ls : Array Slot), (Oq OUT (Q_join_151  x0 x1 x2   )) → lv_has ls 4 [(0, .int x0), (1, .int x1), (2, .int x2)] → W p l e (bs_rm 1 0 0 20) s m args below meth c s.heap [] 0 0 Q (F0 m 151 ls []) := by
            intro ls hO hl
            refine lv_iconst (v := 0) hx hb dModel_join_151 (by decide) ?_
            exact J152 ls 0 (by subst er5; exact hO.tr rfl) (lv_sub hl [0, 1, 2] rfl)
          have J133 : ∀ (ls : Array Slot), (Oq OUT (Q_join_133  x0 x1 x2   )) → lv_has ls 4 [(0, .int x0), (1, .int x1), (2, .int x2)] → W p l e (bs_rm 1 0 0 20) s m args below meth c s.heap [] 0 0 Q (F0 m 133 ls []) := by
            intro ls hO hl
            refine lv_iload_n hx hb dModel_join_133 rfl (lv_at hl 2 rfl) ?_
            refine pu_Si (rest := []) S hC (n_isLow l γ _ x2) meModel_isLow qw_50d7321591 ⟨Nat.le_of_ble_eq_true rfl, Nat.le_of_ble_eq_true rfl⟩ hM rfl hl.1 rfl (Nat.le_of_ble_eq_true rfl) dModel_join_134 ⟨Nat.zero_le _, Nat.zero_le _⟩ (fun r21 hr21 => ?_)
            obtain ⟨hr21, er21⟩ := hr21
            have J147 : ∀ (ls : Array Slot), (Oq OUT (Q_join_147  x0 x1 x2   )) → lv_has ls 4 [(0, .int x0), (1, .int x1), (2, .int x2)] → W p l e (bs_rm 1 0 0 20) s m args below meth c s.heap [] 0 0 Q (F0 m 147 ls []) := by
              intro ls hO hl
              refine lv_iconst (v := 1) hx hb dModel_join_147 (by decide) ?_
              refine lv_goto (tgt := 152) hx hb dModel_join_148 (by decide) ?_
              exact J152 ls 1 (by subst er21 er5; exact hO.tr rfl) (lv_sub hl [0, 1, 2] rfl)
            refine lv_if_ne (tgt := 147) hx hb dModel_join_137 (by decide) (fun c25 => ?_) (fun c25 => ?_)
            · exact J147 ls (by subst er21 er5; exact hO.tr (if_neg c25)) (lv_sub hl [0, 1, 2] rfl)
            · refine lv_iload_n hx hb dModel_join_140 rfl (lv_at hl 2 rfl) ?_
              refine pu_Si (rest := []) S hC (n_isHigh l γ _ x2) meModel_isHigh qw_7b38890176 ⟨Nat.le_of_ble_eq_true rfl, Nat.le_of_ble_eq_true rfl⟩ hM rfl hl.1 rfl (Nat.le_of_ble_eq_true rfl) dModel_join_141 ⟨Nat.zero_le _, Nat.zero_le _⟩ (fun r26 hr26 => ?_)
              obtain ⟨hr26, er26⟩ := hr26
              refine lv_if_eq (tgt := 151) hx hb dModel_join_144 (by decide) (fun c27 => ?_) (fun c27 => ?_)
              · exact J151 ls (by subst er26 er21 er5; exact hO.tr ((if_pos c25).trans (if_pos c27))) (lv_sub hl [0, 1, 2] rfl)
              · exact J147 ls (by subst er26 er21 er5; exact hO.tr ((if_pos c25).trans (if_neg c27))) (lv_sub hl [0, 1, 2] rfl)
          refine lv_if_ne (tgt := 133) hx hb dModel_join_123 (by decide) (fun c28 => ?_) (fun c28 => ?_)
          · exact J133 ls (by subst er5; exact hO.tr ((if_neg c1).trans ((if_neg c2).trans ((if_neg c3).trans ((if_neg c4).trans (if_neg c28)))))) (lv_sub hl [0, 1, 2] rfl)
          · refine lv_iload_n hx hb dModel_join_126 rfl (lv_at hl 1 rfl) ?_
            refine pu_Si (rest := []) S hC (n_isHigh l γ _ x1) meModel_isHigh qw_7b38890176 ⟨Nat.le_of_ble_eq_true rfl, Nat.le_of_ble_eq_true rfl⟩ hM rfl hl.1 rfl (Nat.le_of_ble_eq_true rfl) dModel_join_127 ⟨Nat.zero_le _, Nat.zero_le _⟩ (fun r29 hr29 => ?_)
            obtain ⟨hr29, er29⟩ := hr29
            refine lv_if_eq (tgt := 151) hx hb dModel_join_130 (by decide) (fun c30 => ?_) (fun c30 => ?_)
            · exact J151 ls (by subst er29 er5; exact hO.tr ((if_neg c1).trans ((if_neg c2).trans ((if_neg c3).trans ((if_neg c4).trans ((if_pos c28).trans (if_pos c30))))))) (lv_sub hl [0, 1, 2] rfl)
            · exact J133 ls (by subst er29 er5; exact hO.tr ((if_neg c1).trans ((if_neg c2).trans ((if_neg c3).trans ((if_neg c4).trans ((if_pos c28).trans (if_neg c30))))))) (lv_sub hl [0, 1, 2] rfl)
        · refine lv_iconst (v := 0) hx hb dModel_join_117 (by decide) ?_
          exact hE _ _ _ ⟨trivial, (by exact (hO.tr ((if_neg c1).trans ((if_neg c2).trans ((if_neg c3).trans (if_pos c4))))).symm)⟩ dModel_join_118
    · refine lv_iload_n hx hb dModel_join_59 rfl (lv_at hl 1 rfl) ?_
      refine pu_Si (rest := []) S hC (n_isHigh l γ _ x1) meModel_isHigh qw_7b38890176 ⟨Nat.le_of_ble_eq_true rfl, Nat.le_of_ble_eq_true rfl⟩ hM rfl hl.1 rfl (Nat.le_of_ble_eq_true rfl) dModel_join_60 ⟨Nat.zero_le _, Nat.zero_le _⟩ (fun r31 hr31 => ?_)
      obtain ⟨hr31, er31⟩ := hr31
      have J73 : ∀ (ls : Array Slot), (Oq OUT (Q_join_73  x0 x1 x2   )) → lv_has ls 4 [(0, .int x0), (1, .int x1), (2, .int x2)] → W p l e (bs_rm 1 0 0 20) s m args below meth c s.heap [] 0 0 Q (F0 m 73 ls []) := by
        intro ls hO hl
        refine lv_iconst (v := 3) hx hb dModel_join_73 (by decide) ?_
        refine lv_goto (tgt := 108) hx hb dModel_join_74 (by decide) ?_
        exact hE _ _ _ ⟨trivial, (by subst er31; exact (hO.tr rfl).symm)⟩ dModel_join_108
      refine lv_if_ne (tgt := 73) hx hb dModel_join_63 (by decide) (fun c41 => ?_) (fun c41 => ?_)
      · exact J73 ls (by subst er31; exact hO.tr ((if_neg c1).trans ((if_pos c2).trans (if_neg c41)))) (lv_sub hl [0, 1, 2] rfl)
      · refine lv_iload_n hx hb dModel_join_66 rfl (lv_at hl 2 rfl) ?_
        refine pu_Si (rest := []) S hC (n_isHigh l γ _ x2) meModel_isHigh qw_7b38890176 ⟨Nat.le_of_ble_eq_true rfl, Nat.le_of_ble_eq_true rfl⟩ hM rfl hl.1 rfl (Nat.le_of_ble_eq_true rfl) dModel_join_67 ⟨Nat.zero_le _, Nat.zero_le _⟩ (fun r42 hr42 => ?_)
        obtain ⟨hr42, er42⟩ := hr42
        refine lv_if_eq (tgt := 77) hx hb dModel_join_70 (by decide) (fun c43 => ?_) (fun c43 => ?_)
        · refine lv_iload_n hx hb dModel_join_77 rfl (lv_at hl 1 rfl) ?_
          have J85 : ∀ (ls : Array Slot), (Oq OUT (Q_join_85  x0 x1 x2   )) → lv_has ls 4 [(0, .int x0), (1, .int x1), (2, .int x2)] → W p l e (bs_rm 1 0 0 20) s m args below meth c s.heap [] 0 0 Q (F0 m 85 ls []) := by
            intro ls hO hl
            refine lv_iconst (v := 0) hx hb dModel_join_85 (by decide) ?_
            refine lv_goto (tgt := 108) hx hb dModel_join_86 (by decide) ?_
            exact hE _ _ _ ⟨trivial, (by subst er42 er31; exact (hO.tr rfl).symm)⟩ dModel_join_108
          refine lv_if_eq (tgt := 85) hx hb dModel_join_78 (by decide) (fun c50 => ?_) (fun c50 => ?_)
          · exact J85 ls (by subst er42 er31; exact hO.tr ((if_neg c1).trans ((if_pos c2).trans ((if_pos c41).trans ((if_pos c43).trans (if_pos c50)))))) (lv_sub hl [0, 1, 2] rfl)
          · refine lv_iload_n hx hb dModel_join_81 rfl (lv_at hl 2 rfl) ?_
            refine lv_if_ne (tgt := 89) hx hb dModel_join_82 (by decide) (fun c51 => ?_) (fun c51 => ?_)
            · refine lv_iload_n hx hb dModel_join_89 rfl (lv_at hl 1 rfl) ?_
              refine pu_Si (rest := []) S hC (n_isLow l γ _ x1) meModel_isLow qw_50d7321591 ⟨Nat.le_of_ble_eq_true rfl, Nat.le_of_ble_eq_true rfl⟩ hM rfl hl.1 rfl (Nat.le_of_ble_eq_true rfl) dModel_join_90 ⟨Nat.zero_le _, Nat.zero_le _⟩ (fun r52 hr52 => ?_)
              obtain ⟨hr52, er52⟩ := hr52
              refine lv_if_eq (tgt := 107) hx hb dModel_join_93 (by decide) (fun c53 => ?_) (fun c53 => ?_)
              · refine lv_iconst (v := 1) hx hb dModel_join_107 (by decide) ?_
                exact hE _ _ _ ⟨trivial, (by subst er52 er42 er31; exact (hO.tr ((if_neg c1).trans ((if_pos c2).trans ((if_pos c41).trans ((if_pos c43).trans ((if_neg c50).trans ((if_neg c51).trans (if_pos c53)))))))).symm)⟩ dModel_join_108
              · refine lv_iload_n hx hb dModel_join_96 rfl (lv_at hl 2 rfl) ?_
                refine pu_Si (rest := []) S hC (n_isLow l γ _ x2) meModel_isLow qw_50d7321591 ⟨Nat.le_of_ble_eq_true rfl, Nat.le_of_ble_eq_true rfl⟩ hM rfl hl.1 rfl (Nat.le_of_ble_eq_true rfl) dModel_join_97 ⟨Nat.zero_le _, Nat.zero_le _⟩ (fun r54 hr54 => ?_)
                obtain ⟨hr54, er54⟩ := hr54
                refine lv_if_eq (tgt := 107) hx hb dModel_join_100 (by decide) (fun c55 => ?_) (fun c55 => ?_)
                · refine lv_iconst (v := 1) hx hb dModel_join_107 (by decide) ?_
                  exact hE _ _ _ ⟨trivial, (by subst er54 er52 er42 er31; exact (hO.tr ((if_neg c1).trans ((if_pos c2).trans ((if_pos c41).trans ((if_pos c43).trans ((if_neg c50).trans ((if_neg c51).trans ((if_neg c53).trans (if_pos c55))))))))).symm)⟩ dModel_join_108
                · refine lv_iconst (v := 2) hx hb dModel_join_103 (by decide) ?_
                  refine lv_goto (tgt := 108) hx hb dModel_join_104 (by decide) ?_
                  exact hE _ _ _ ⟨trivial, (by subst er54 er52 er42 er31; exact (hO.tr ((if_neg c1).trans ((if_pos c2).trans ((if_pos c41).trans ((if_pos c43).trans ((if_neg c50).trans ((if_neg c51).trans ((if_neg c53).trans (if_neg c55))))))))).symm)⟩ dModel_join_108
            · exact J85 ls (by subst er42 er31; exact hO.tr ((if_neg c1).trans ((if_pos c2).trans ((if_pos c41).trans ((if_pos c43).trans ((if_neg c50).trans (if_pos c51))))))) (lv_sub hl [0, 1, 2] rfl)
        · exact J73 ls (by subst er42 er31; exact hO.tr ((if_neg c1).trans ((if_pos c2).trans ((if_pos c41).trans (if_neg c43))))) (lv_sub hl [0, 1, 2] rfl)
  · refine lv_iload_n hx hb dModel_join_4 rfl (lv_at hl 1 rfl) ?_
    refine pu_Si (rest := []) S hC (n_isLow l γ _ x1) meModel_isLow qw_50d7321591 ⟨Nat.le_of_ble_eq_true rfl, Nat.le_of_ble_eq_true rfl⟩ hM rfl hl.1 rfl (Nat.le_of_ble_eq_true rfl) dModel_join_5 ⟨Nat.zero_le _, Nat.zero_le _⟩ (fun r56 hr56 => ?_)
    obtain ⟨hr56, er56⟩ := hr56
    have J18 : ∀ (ls : Array Slot), (Oq OUT (Q_join_18  x0 x1 x2   )) → lv_has ls 4 [(0, .int x0), (1, .int x1), (2, .int x2)] → W p l e (bs_rm 1 0 0 20) s m args below meth c s.heap [] 0 0 Q (F0 m 18 ls []) := by
      intro ls hO hl
      refine lv_iconst (v := 2) hx hb dModel_join_18 (by decide) ?_
      refine lv_goto (tgt := 53) hx hb dModel_join_19 (by decide) ?_
      exact hE _ _ _ ⟨trivial, (by subst er56; exact (hO.tr rfl).symm)⟩ dModel_join_53
    refine lv_if_ne (tgt := 18) hx hb dModel_join_8 (by decide) (fun c66 => ?_) (fun c66 => ?_)
    · exact J18 ls (by subst er56; exact hO.tr ((if_pos c1).trans (if_neg c66))) (lv_sub hl [0, 1, 2] rfl)
    · refine lv_iload_n hx hb dModel_join_11 rfl (lv_at hl 2 rfl) ?_
      refine pu_Si (rest := []) S hC (n_isLow l γ _ x2) meModel_isLow qw_50d7321591 ⟨Nat.le_of_ble_eq_true rfl, Nat.le_of_ble_eq_true rfl⟩ hM rfl hl.1 rfl (Nat.le_of_ble_eq_true rfl) dModel_join_12 ⟨Nat.zero_le _, Nat.zero_le _⟩ (fun r67 hr67 => ?_)
      obtain ⟨hr67, er67⟩ := hr67
      refine lv_if_eq (tgt := 22) hx hb dModel_join_15 (by decide) (fun c68 => ?_) (fun c68 => ?_)
      · refine lv_iload_n hx hb dModel_join_22 rfl (lv_at hl 1 rfl) ?_
        have J30 : ∀ (ls : Array Slot), (Oq OUT (Q_join_30  x0 x1 x2   )) → lv_has ls 4 [(0, .int x0), (1, .int x1), (2, .int x2)] → W p l e (bs_rm 1 0 0 20) s m args below meth c s.heap [] 0 0 Q (F0 m 30 ls []) := by
          intro ls hO hl
          refine lv_iconst (v := 0) hx hb dModel_join_30 (by decide) ?_
          refine lv_goto (tgt := 53) hx hb dModel_join_31 (by decide) ?_
          exact hE _ _ _ ⟨trivial, (by subst er67 er56; exact (hO.tr rfl).symm)⟩ dModel_join_53
        refine lv_if_eq (tgt := 30) hx hb dModel_join_23 (by decide) (fun c75 => ?_) (fun c75 => ?_)
        · exact J30 ls (by subst er67 er56; exact hO.tr ((if_pos c1).trans ((if_pos c66).trans ((if_pos c68).trans (if_pos c75))))) (lv_sub hl [0, 1, 2] rfl)
        · refine lv_iload_n hx hb dModel_join_26 rfl (lv_at hl 2 rfl) ?_
          refine lv_if_ne (tgt := 34) hx hb dModel_join_27 (by decide) (fun c76 => ?_) (fun c76 => ?_)
          · refine lv_iload_n hx hb dModel_join_34 rfl (lv_at hl 1 rfl) ?_
            refine pu_Si (rest := []) S hC (n_isHigh l γ _ x1) meModel_isHigh qw_7b38890176 ⟨Nat.le_of_ble_eq_true rfl, Nat.le_of_ble_eq_true rfl⟩ hM rfl hl.1 rfl (Nat.le_of_ble_eq_true rfl) dModel_join_35 ⟨Nat.zero_le _, Nat.zero_le _⟩ (fun r77 hr77 => ?_)
            obtain ⟨hr77, er77⟩ := hr77
            refine lv_if_eq (tgt := 52) hx hb dModel_join_38 (by decide) (fun c78 => ?_) (fun c78 => ?_)
            · refine lv_iconst (v := 1) hx hb dModel_join_52 (by decide) ?_
              exact hE _ _ _ ⟨trivial, (by subst er77 er67 er56; exact (hO.tr ((if_pos c1).trans ((if_pos c66).trans ((if_pos c68).trans ((if_neg c75).trans ((if_neg c76).trans (if_pos c78))))))).symm)⟩ dModel_join_53
            · refine lv_iload_n hx hb dModel_join_41 rfl (lv_at hl 2 rfl) ?_
              refine pu_Si (rest := []) S hC (n_isHigh l γ _ x2) meModel_isHigh qw_7b38890176 ⟨Nat.le_of_ble_eq_true rfl, Nat.le_of_ble_eq_true rfl⟩ hM rfl hl.1 rfl (Nat.le_of_ble_eq_true rfl) dModel_join_42 ⟨Nat.zero_le _, Nat.zero_le _⟩ (fun r79 hr79 => ?_)
              obtain ⟨hr79, er79⟩ := hr79
              refine lv_if_eq (tgt := 52) hx hb dModel_join_45 (by decide) (fun c80 => ?_) (fun c80 => ?_)
              · refine lv_iconst (v := 1) hx hb dModel_join_52 (by decide) ?_
                exact hE _ _ _ ⟨trivial, (by subst er79 er77 er67 er56; exact (hO.tr ((if_pos c1).trans ((if_pos c66).trans ((if_pos c68).trans ((if_neg c75).trans ((if_neg c76).trans ((if_neg c78).trans (if_pos c80)))))))).symm)⟩ dModel_join_53
              · refine lv_iconst (v := 3) hx hb dModel_join_48 (by decide) ?_
                refine lv_goto (tgt := 53) hx hb dModel_join_49 (by decide) ?_
                exact hE _ _ _ ⟨trivial, (by subst er79 er77 er67 er56; exact (hO.tr ((if_pos c1).trans ((if_pos c66).trans ((if_pos c68).trans ((if_neg c75).trans ((if_neg c76).trans ((if_neg c78).trans (if_neg c80)))))))).symm)⟩ dModel_join_53
          · exact J30 ls (by subst er67 er56; exact hO.tr ((if_pos c1).trans ((if_pos c66).trans ((if_pos c68).trans ((if_neg c75).trans (if_pos c76)))))) (lv_sub hl [0, 1, 2] rfl)
      · exact J18 ls (by subst er67 er56; exact hO.tr ((if_pos c1).trans ((if_pos c66).trans (if_neg c68)))) (lv_sub hl [0, 1, 2] rfl)
def Q_logic_49  (x0 : Int32) (x1 : Int32) (x2 : Int32) (t0_28 : Int32) : Int32 := (Q_not (Q_join t0_28 x1 x2))
def Q_logic_28  (x0 : Int32) (x1 : Int32) (x2 : Int32) (t0_28 : Int32) : Int32 := (if x0 = 2 then (Q_logic_49  x0 x1 x2 t0_28  ) else (if x0 = 3 then (Q_logic_49  x0 x1 x2 t0_28  ) else (if x0 = 5 then (Q_logic_49  x0 x1 x2 t0_28  ) else (Q_join t0_28 x1 x2))))
def Q_logic  (x0 : Int32) (x1 : Int32) (x2 : Int32) : Int32 := (if x0 = 2 then (Q_logic_28  x0 x1 x2  0) else (if x0 = 3 then (Q_logic_28  x0 x1 x2  1) else (if x0 = 5 then (Q_logic_28  x0 x1 x2  4) else (Q_logic_28  x0 x1 x2  x0))))
set_option maxHeartbeats 4000000 in
set_option maxRecDepth 100000 in
theorem n_logic (l : Launch) (γ : gE) (P : Heap → Prop) (x0 : Int32) (x1 : Int32) (x2 : Int32) : PU l yModel_logic bModel_logic 4 (some .int) 2 43 [.int x0, .int x1, .int x2] γ P (vp_Si (fun v : Int32 => (True) ∧ v = Q_logic  x0 x1 x2)) := by
  refine pu_openI (by decide) (Nat.le_of_ble_eq_true rfl) ?_
  intro p e s m args below meth c ls Q S hC hM hE hl
  obtain ⟨hx, hb, hml, hown, hW⟩ := id S
  have hl : lv_has ls 4 [(0, .int x0), (1, .int x1), (2, .int x2)] := hl
  obtain ⟨OUT, hQ, hO⟩ : ∃ z, (z = Q_logic  x0 x1 x2) ∧ Oq z (Q_logic  x0 x1 x2) := ⟨_, rfl, rfl⟩
  rw [← hQ] at hE
  clear hQ
  refine lv_iload_n hx hb dModel_logic_0 rfl (lv_at hl 0 rfl) ?_
  refine lv_iconst (v := 2) hx hb dModel_logic_1 (by decide) ?_
  have J28 : ∀ (ls : Array Slot) (t0_28 : Int32), (Oq OUT (Q_logic_28  x0 x1 x2   t0_28)) → lv_has ls 4 [(0, .int x0), (1, .int x1), (2, .int x2)] → W p l e (bs_rm 2 0 0 43) s m args below meth c s.heap [] 0 0 Q (F0 m 28 ls [.int t0_28]) := by
    intro ls t0_28 hO hl
    refine lv_iload_n hx hb dModel_logic_28 rfl (lv_at hl 1 rfl) ?_
    refine lv_iload_n hx hb dModel_logic_29 rfl (lv_at hl 2 rfl) ?_
    refine pu_Si (rest := []) S hC (n_join l γ _ t0_28 x1 x2) meModel_join qw_c5109eb5e5 ⟨Nat.le_of_ble_eq_true rfl, Nat.le_of_ble_eq_true rfl⟩ hM rfl hl.1 rfl (Nat.le_of_ble_eq_true rfl) dModel_logic_30 ⟨Nat.zero_le _, Nat.zero_le _⟩ (fun r9 hr9 => ?_)
    obtain ⟨hr9, er9⟩ := hr9
    refine lv_istore_n (lv' := [(3, .int r9), (0, .int x0), (1, .int x1), (2, .int x2)]) hx hb dModel_logic_33 rfl hl (by decide) rfl (fun ls hl => ?_)
    refine lv_iload_n hx hb dModel_logic_34 rfl (lv_at hl 1 rfl) ?_
    refine lv_iconst (v := 2) hx hb dModel_logic_35 (by decide) ?_
    have J49 : ∀ (ls : Array Slot), (Oq OUT (Q_logic_49  x0 x1 x2 t0_28   )) → lv_has ls 4 [(0, .int x0), (1, .int x1), (2, .int x2), (3, .int r9)] → W p l e (bs_rm 2 0 0 43) s m args below meth c s.heap [] 0 0 Q (F0 m 49 ls []) := by
      intro ls hO hl
      refine lv_iload_n hx hb dModel_logic_49 rfl (lv_at hl 3 rfl) ?_
      refine pu_Si (rest := []) S hC (n_not l γ _ r9) meModel_not qw_ecedfa5d8c ⟨Nat.le_of_ble_eq_true rfl, Nat.le_of_ble_eq_true rfl⟩ hM rfl hl.1 rfl (Nat.le_of_ble_eq_true rfl) dModel_logic_50 ⟨Nat.zero_le _, Nat.zero_le _⟩ (fun r14 hr14 => ?_)
      obtain ⟨hr14, er14⟩ := hr14
      refine lv_goto (tgt := 57) hx hb dModel_logic_53 (by decide) ?_
      exact hE _ _ _ ⟨trivial, (by subst er14 er9; exact (hO.tr rfl).symm)⟩ dModel_logic_57
    refine lv_icmp_eq (tgt := 49) hx hb dModel_logic_36 (by decide) (fun c15 => ?_) (fun c15 => ?_)
    · exact J49 ls (by subst er9; exact hO.tr (if_pos c15)) (lv_sub hl [1, 2, 3, 0] rfl)
    · refine lv_iload_n hx hb dModel_logic_39 rfl (lv_at hl 1 rfl) ?_
      refine lv_iconst (v := 3) hx hb dModel_logic_40 (by decide) ?_
      refine lv_icmp_eq (tgt := 49) hx hb dModel_logic_41 (by decide) (fun c16 => ?_) (fun c16 => ?_)
      · exact J49 ls (by subst er9; exact hO.tr ((if_neg c15).trans (if_pos c16))) (lv_sub hl [1, 2, 3, 0] rfl)
      · refine lv_iload_n hx hb dModel_logic_44 rfl (lv_at hl 1 rfl) ?_
        refine lv_iconst (v := 5) hx hb dModel_logic_45 (by decide) ?_
        refine lv_icmp_ne (tgt := 56) hx hb dModel_logic_46 (by decide) (fun c17 => ?_) (fun c17 => ?_)
        · refine lv_iload_n hx hb dModel_logic_56 rfl (lv_at hl 0 rfl) ?_
          exact hE _ _ _ ⟨trivial, (by subst er9; exact (hO.tr ((if_neg c15).trans ((if_neg c16).trans (if_neg c17)))).symm)⟩ dModel_logic_57
        · exact J49 ls (by subst er9; exact hO.tr ((if_neg c15).trans ((if_neg c16).trans (if_pos c17)))) (lv_sub hl [1, 2, 3, 0] rfl)
  refine lv_icmp_ne (tgt := 9) hx hb dModel_logic_2 (by decide) (fun c18 => ?_) (fun c18 => ?_)
  · refine lv_iload_n hx hb dModel_logic_9 rfl (lv_at hl 0 rfl) ?_
    refine lv_iconst (v := 3) hx hb dModel_logic_10 (by decide) ?_
    refine lv_icmp_ne (tgt := 18) hx hb dModel_logic_11 (by decide) (fun c19 => ?_) (fun c19 => ?_)
    · refine lv_iload_n hx hb dModel_logic_18 rfl (lv_at hl 0 rfl) ?_
      refine lv_iconst (v := 5) hx hb dModel_logic_19 (by decide) ?_
      refine lv_icmp_ne (tgt := 27) hx hb dModel_logic_20 (by decide) (fun c20 => ?_) (fun c20 => ?_)
      · refine lv_iload_n hx hb dModel_logic_27 rfl (lv_at hl 0 rfl) ?_
        exact J28 ls x0 (by exact hO.tr ((if_neg c18).trans ((if_neg c19).trans (if_neg c20)))) (lv_sub hl [0, 1, 2] rfl)
      · refine lv_iconst (v := 4) hx hb dModel_logic_23 (by decide) ?_
        refine lv_goto (tgt := 28) hx hb dModel_logic_24 (by decide) ?_
        exact J28 ls 4 (by exact hO.tr ((if_neg c18).trans ((if_neg c19).trans (if_pos c20)))) (lv_sub hl [0, 1, 2] rfl)
    · refine lv_iconst (v := 1) hx hb dModel_logic_14 (by decide) ?_
      refine lv_goto (tgt := 28) hx hb dModel_logic_15 (by decide) ?_
      exact J28 ls 1 (by exact hO.tr ((if_neg c18).trans (if_pos c19))) (lv_sub hl [0, 1, 2] rfl)
  · refine lv_iconst (v := 0) hx hb dModel_logic_5 (by decide) ?_
    refine lv_goto (tgt := 28) hx hb dModel_logic_6 (by decide) ?_
    exact J28 ls 0 (by exact hO.tr (if_pos c18)) (lv_sub hl [0, 1, 2] rfl)
def Q_truth_82  (x0 : Int32) (x1 : Int32) (x2 : Int32) (t0_61 : Int32) (t0_82 : Int32) : Int32 := (if t0_82 = t0_61 then 0 else 1)
def Q_truth_77  (x0 : Int32) (x1 : Int32) (x2 : Int32) (t0_61 : Int32) : Int32 := (Q_truth_82  x0 x1 x2 t0_61  1)
def Q_truth_61  (x0 : Int32) (x1 : Int32) (x2 : Int32) (t0_61 : Int32) : Int32 := (if x0 = 2 then (Q_truth_77  x0 x1 x2 t0_61  ) else (if x0 = 3 then (Q_truth_77  x0 x1 x2 t0_61  ) else (if x0 = 5 then (Q_truth_77  x0 x1 x2 t0_61  ) else (Q_truth_82  x0 x1 x2 t0_61  0))))
def Q_truth_21  (x0 : Int32) (x1 : Int32) (x2 : Int32) : Int32 := (Q_truth_61  x0 x1 x2  0)
def Q_truth_9  (x0 : Int32) (x1 : Int32) (x2 : Int32) : Int32 := (if x1 = 0 then (Q_truth_21  x0 x1 x2  ) else (if x2 = 0 then (Q_truth_21  x0 x1 x2  ) else (Q_truth_61  x0 x1 x2  1)))
def Q_truth_43  (x0 : Int32) (x1 : Int32) (x2 : Int32) : Int32 := (Q_truth_61  x0 x1 x2  1)
def Q_truth_35  (x0 : Int32) (x1 : Int32) (x2 : Int32) : Int32 := (if x1 = 0 then (if x2 = 0 then (Q_truth_61  x0 x1 x2  0) else (Q_truth_43  x0 x1 x2  )) else (Q_truth_43  x0 x1 x2  ))
def Q_truth  (x0 : Int32) (x1 : Int32) (x2 : Int32) : Int32 := (if x0 = 0 then (Q_truth_9  x0 x1 x2  ) else (if x0 = 2 then (Q_truth_9  x0 x1 x2  ) else (if x0 = 1 then (Q_truth_35  x0 x1 x2  ) else (if x0 = 3 then (Q_truth_35  x0 x1 x2  ) else (if x1 = x2 then (Q_truth_61  x0 x1 x2  0) else (Q_truth_61  x0 x1 x2  1))))))
set_option maxHeartbeats 4000000 in
set_option maxRecDepth 100000 in
theorem n_truth (l : Launch) (γ : gE) (P : Heap → Prop) (x0 : Int32) (x1 : Int32) (x2 : Int32) : PU l yModel_truth bModel_truth 4 (some .boolean) 0 0 [.int x0, .int x1, .int x2] γ P (vp_Si (fun v : Int32 => (True) ∧ v = Q_truth  x0 x1 x2)) := by
  refine pu_openZ (by decide) (Nat.le_of_ble_eq_true rfl) ?_
  intro p e s m args below meth c ls Q S hC hM hE hl
  obtain ⟨hx, hb, hml, hown, hW⟩ := id S
  have hl : lv_has ls 4 [(0, .int x0), (1, .int x1), (2, .int x2)] := hl
  obtain ⟨OUT, hQ, hO⟩ : ∃ z, (z = Q_truth  x0 x1 x2) ∧ Oq z (Q_truth  x0 x1 x2) := ⟨_, rfl, rfl⟩
  rw [← hQ] at hE
  clear hQ
  refine lv_iload_n hx hb dModel_truth_0 rfl (lv_at hl 0 rfl) ?_
  have J61 : ∀ (ls : Array Slot) (t0_61 : Int32), (Oq OUT (Q_truth_61  x0 x1 x2   t0_61)) → lv_has ls 4 [(0, .int x0), (1, .int x1), (2, .int x2)] → W p l e (bs_rm 0 0 0 0) s m args below meth c s.heap [] 0 0 Q (F0 m 61 ls [.int t0_61]) := by
    intro ls t0_61 hO hl
    refine lv_istore_n (lv' := [(3, .int t0_61), (0, .int x0), (1, .int x1), (2, .int x2)]) hx hb dModel_truth_61 rfl hl (by decide) rfl (fun ls hl => ?_)
    refine lv_iload_n hx hb dModel_truth_62 rfl (lv_at hl 1 rfl) ?_
    refine lv_iconst (v := 2) hx hb dModel_truth_63 (by decide) ?_
    have J82 : ∀ (ls : Array Slot) (t0_82 : Int32), (Oq OUT (Q_truth_82  x0 x1 x2 t0_61   t0_82)) → lv_has ls 4 [(0, .int x0), (1, .int x1), (2, .int x2), (3, .int t0_61)] → W p l e (bs_rm 0 0 0 0) s m args below meth c s.heap [] 0 0 Q (F0 m 82 ls [.int t0_82]) := by
      intro ls t0_82 hO hl
      refine lv_iload_n hx hb dModel_truth_82 rfl (lv_at hl 3 rfl) ?_
      refine lv_icmp_eq (tgt := 90) hx hb dModel_truth_83 (by decide) (fun c18 => ?_) (fun c18 => ?_)
      · refine lv_iconst (v := 0) hx hb dModel_truth_90 (by decide) ?_
        exact hE _ _ _ rfl ⟨trivial, (by exact (hO.tr (if_pos c18)).symm)⟩ dModel_truth_91
      · refine lv_iconst (v := 1) hx hb dModel_truth_86 (by decide) ?_
        refine lv_goto (tgt := 91) hx hb dModel_truth_87 (by decide) ?_
        exact hE _ _ _ rfl ⟨trivial, (by exact (hO.tr (if_neg c18)).symm)⟩ dModel_truth_91
    have J77 : ∀ (ls : Array Slot), (Oq OUT (Q_truth_77  x0 x1 x2 t0_61   )) → lv_has ls 4 [(0, .int x0), (1, .int x1), (2, .int x2), (3, .int t0_61)] → W p l e (bs_rm 0 0 0 0) s m args below meth c s.heap [] 0 0 Q (F0 m 77 ls []) := by
      intro ls hO hl
      refine lv_iconst (v := 1) hx hb dModel_truth_77 (by decide) ?_
      refine lv_goto (tgt := 82) hx hb dModel_truth_78 (by decide) ?_
      exact J82 ls 1 (by exact hO.tr rfl) (lv_sub hl [0, 1, 2, 3] rfl)
    refine lv_icmp_eq (tgt := 77) hx hb dModel_truth_64 (by decide) (fun c19 => ?_) (fun c19 => ?_)
    · exact J77 ls (by exact hO.tr (if_pos c19)) (lv_sub hl [1, 2, 3, 0] rfl)
    · refine lv_iload_n hx hb dModel_truth_67 rfl (lv_at hl 1 rfl) ?_
      refine lv_iconst (v := 3) hx hb dModel_truth_68 (by decide) ?_
      refine lv_icmp_eq (tgt := 77) hx hb dModel_truth_69 (by decide) (fun c20 => ?_) (fun c20 => ?_)
      · exact J77 ls (by exact hO.tr ((if_neg c19).trans (if_pos c20))) (lv_sub hl [1, 2, 3, 0] rfl)
      · refine lv_iload_n hx hb dModel_truth_72 rfl (lv_at hl 1 rfl) ?_
        refine lv_iconst (v := 5) hx hb dModel_truth_73 (by decide) ?_
        refine lv_icmp_ne (tgt := 81) hx hb dModel_truth_74 (by decide) (fun c21 => ?_) (fun c21 => ?_)
        · refine lv_iconst (v := 0) hx hb dModel_truth_81 (by decide) ?_
          exact J82 ls 0 (by exact hO.tr ((if_neg c19).trans ((if_neg c20).trans (if_neg c21)))) (lv_sub hl [1, 2, 3, 0] rfl)
        · exact J77 ls (by exact hO.tr ((if_neg c19).trans ((if_neg c20).trans (if_pos c21)))) (lv_sub hl [1, 2, 3, 0] rfl)
  have J9 : ∀ (ls : Array Slot), (Oq OUT (Q_truth_9  x0 x1 x2   )) → lv_has ls 4 [(0, .int x0), (1, .int x1), (2, .int x2)] → W p l e (bs_rm 0 0 0 0) s m args below meth c s.heap [] 0 0 Q (F0 m 9 ls []) := by
    intro ls hO hl
    refine lv_iload_n hx hb dModel_truth_9 rfl (lv_at hl 1 rfl) ?_
    have J21 : ∀ (ls : Array Slot), (Oq OUT (Q_truth_21  x0 x1 x2   )) → lv_has ls 4 [(0, .int x0), (1, .int x1), (2, .int x2)] → W p l e (bs_rm 0 0 0 0) s m args below meth c s.heap [] 0 0 Q (F0 m 21 ls []) := by
      intro ls hO hl
      refine lv_iconst (v := 0) hx hb dModel_truth_21 (by decide) ?_
      refine lv_goto (tgt := 61) hx hb dModel_truth_22 (by decide) ?_
      exact J61 ls 0 (by exact hO.tr rfl) (lv_sub hl [0, 1, 2] rfl)
    refine lv_if_eq (tgt := 21) hx hb dModel_truth_10 (by decide) (fun c24 => ?_) (fun c24 => ?_)
    · exact J21 ls (by exact hO.tr (if_pos c24)) (lv_sub hl [0, 1, 2] rfl)
    · refine lv_iload_n hx hb dModel_truth_13 rfl (lv_at hl 2 rfl) ?_
      refine lv_if_eq (tgt := 21) hx hb dModel_truth_14 (by decide) (fun c25 => ?_) (fun c25 => ?_)
      · exact J21 ls (by exact hO.tr ((if_neg c24).trans (if_pos c25))) (lv_sub hl [0, 1, 2] rfl)
      · refine lv_iconst (v := 1) hx hb dModel_truth_17 (by decide) ?_
        refine lv_goto (tgt := 61) hx hb dModel_truth_18 (by decide) ?_
        exact J61 ls 1 (by exact hO.tr ((if_neg c24).trans (if_neg c25))) (lv_sub hl [0, 1, 2] rfl)
  refine lv_if_eq (tgt := 9) hx hb dModel_truth_1 (by decide) (fun c26 => ?_) (fun c26 => ?_)
  · exact J9 ls (by exact hO.tr (if_pos c26)) (lv_sub hl [0, 1, 2] rfl)
  · refine lv_iload_n hx hb dModel_truth_4 rfl (lv_at hl 0 rfl) ?_
    refine lv_iconst (v := 2) hx hb dModel_truth_5 (by decide) ?_
    refine lv_icmp_ne (tgt := 25) hx hb dModel_truth_6 (by decide) (fun c27 => ?_) (fun c27 => ?_)
    · refine lv_iload_n hx hb dModel_truth_25 rfl (lv_at hl 0 rfl) ?_
      refine lv_iconst (v := 1) hx hb dModel_truth_26 (by decide) ?_
      have J35 : ∀ (ls : Array Slot), (Oq OUT (Q_truth_35  x0 x1 x2   )) → lv_has ls 4 [(0, .int x0), (1, .int x1), (2, .int x2)] → W p l e (bs_rm 0 0 0 0) s m args below meth c s.heap [] 0 0 Q (F0 m 35 ls []) := by
        intro ls hO hl
        refine lv_iload_n hx hb dModel_truth_35 rfl (lv_at hl 1 rfl) ?_
        have J43 : ∀ (ls : Array Slot), (Oq OUT (Q_truth_43  x0 x1 x2   )) → lv_has ls 4 [(0, .int x0), (1, .int x1), (2, .int x2)] → W p l e (bs_rm 0 0 0 0) s m args below meth c s.heap [] 0 0 Q (F0 m 43 ls []) := by
          intro ls hO hl
          refine lv_iconst (v := 1) hx hb dModel_truth_43 (by decide) ?_
          refine lv_goto (tgt := 61) hx hb dModel_truth_44 (by decide) ?_
          exact J61 ls 1 (by exact hO.tr rfl) (lv_sub hl [0, 1, 2] rfl)
        refine lv_if_ne (tgt := 43) hx hb dModel_truth_36 (by decide) (fun c35 => ?_) (fun c35 => ?_)
        · exact J43 ls (by exact hO.tr (if_neg c35)) (lv_sub hl [0, 1, 2] rfl)
        · refine lv_iload_n hx hb dModel_truth_39 rfl (lv_at hl 2 rfl) ?_
          refine lv_if_eq (tgt := 47) hx hb dModel_truth_40 (by decide) (fun c36 => ?_) (fun c36 => ?_)
          · refine lv_iconst (v := 0) hx hb dModel_truth_47 (by decide) ?_
            refine lv_goto (tgt := 61) hx hb dModel_truth_48 (by decide) ?_
            exact J61 ls 0 (by exact hO.tr ((if_pos c35).trans (if_pos c36))) (lv_sub hl [0, 1, 2] rfl)
          · exact J43 ls (by exact hO.tr ((if_pos c35).trans (if_neg c36))) (lv_sub hl [0, 1, 2] rfl)
      refine lv_icmp_eq (tgt := 35) hx hb dModel_truth_27 (by decide) (fun c37 => ?_) (fun c37 => ?_)
      · exact J35 ls (by exact hO.tr ((if_neg c26).trans ((if_neg c27).trans (if_pos c37)))) (lv_sub hl [0, 1, 2] rfl)
      · refine lv_iload_n hx hb dModel_truth_30 rfl (lv_at hl 0 rfl) ?_
        refine lv_iconst (v := 3) hx hb dModel_truth_31 (by decide) ?_
        refine lv_icmp_ne (tgt := 51) hx hb dModel_truth_32 (by decide) (fun c38 => ?_) (fun c38 => ?_)
        · refine lv_iload_n hx hb dModel_truth_51 rfl (lv_at hl 1 rfl) ?_
          refine lv_iload_n hx hb dModel_truth_52 rfl (lv_at hl 2 rfl) ?_
          refine lv_icmp_eq (tgt := 60) hx hb dModel_truth_53 (by decide) (fun c39 => ?_) (fun c39 => ?_)
          · refine lv_iconst (v := 0) hx hb dModel_truth_60 (by decide) ?_
            exact J61 ls 0 (by exact hO.tr ((if_neg c26).trans ((if_neg c27).trans ((if_neg c37).trans ((if_neg c38).trans (if_pos c39)))))) (lv_sub hl [0, 1, 2] rfl)
          · refine lv_iconst (v := 1) hx hb dModel_truth_56 (by decide) ?_
            refine lv_goto (tgt := 61) hx hb dModel_truth_57 (by decide) ?_
            exact J61 ls 1 (by exact hO.tr ((if_neg c26).trans ((if_neg c27).trans ((if_neg c37).trans ((if_neg c38).trans (if_neg c39)))))) (lv_sub hl [0, 1, 2] rfl)
        · exact J35 ls (by exact hO.tr ((if_neg c26).trans ((if_neg c27).trans ((if_neg c37).trans (if_pos c38))))) (lv_sub hl [0, 1, 2] rfl)
    · exact J9 ls (by exact hO.tr ((if_neg c26).trans (if_pos c27))) (lv_sub hl [0, 1, 2] rfl)
def Q_noNode_12 (κ : Nat → Nat) (τ : gf) (σ : Nat → Int32) (F : gf) (nu : gg) (x1 : Int32) : Int32 := 1
def Q_noNode (κ : Nat → Nat) (τ : gf) (σ : Nat → Int32) (F : gf) (nu : gg) (x1 : Int32) : Int32 := (if x1 < 0 then (Q_noNode_12 κ τ σ F nu x1  ) else (if x1 < (nI (κ 0)) then 0 else (Q_noNode_12 κ τ σ F nu x1  )))
set_option maxHeartbeats 4000000 in
set_option maxRecDepth 100000 in
theorem n_noNode (l : Launch) (γ : gE) (a : Nat) (B : Nat → Nat) (Z : Nat → Prop) (κ b mn : Nat → Nat) (ν : Nat → Int32) (τ : Nat → Nat → Int32) (σ : Nat → Int32) (F : Nat → Nat → Int32) (nu : Nat → Int64) (hT : ST κ b mn ν τ) (x1 : Int32)  : PU l yModel_noNode bModel_noNode 2 (some .boolean) 0 0 [.ref a, .int x1] γ (MD γ a B Z ν τ σ F nu) (vp_Si (fun v : Int32 => (v = 0 → vp_in x1 (κ 0)) ∧ v = Q_noNode κ τ σ F nu x1)) := by
  refine pu_openZ (by decide) (Nat.le_of_ble_eq_true rfl) ?_
  intro p e s m args below meth c ls Q S hC hM hE hl
  obtain ⟨hx, hb, hml, hown, hW⟩ := id S
  obtain ⟨⟨hs0, hs1, hs2, hs3, hs4, hs5, hs6⟩, ⟨hv6, hv8, hv21, hv24, hv30, hv31⟩, hTR, hTY, hOB, hNM⟩ := id hT
  have hl : lv_has ls 2 [(0, .ref a), (1, .int x1)] := hl
  obtain ⟨OUT, hQ, hO⟩ : ∃ z, (z = Q_noNode κ τ σ F nu x1) ∧ Oq z (Q_noNode κ τ σ F nu x1) := ⟨_, rfl, rfl⟩
  rw [← hQ] at hE
  clear hQ
  refine lv_iload_n hx hb dModel_noNode_0 rfl (lv_at hl 1 rfl) ?_
  have J12 : ∀ (ls : Array Slot), (Oq OUT (Q_noNode_12 κ τ σ F nu x1   )) → lv_has ls 2 [(0, .ref a), (1, .int x1)] → W p l e (bs_rm 0 0 0 0) s m args below meth c s.heap [] 0 0 Q (F0 m 12 ls []) := by
    intro ls hO hl
    refine lv_iconst (v := 1) hx hb dModel_noNode_12 (by decide) ?_
    refine lv_goto (tgt := 17) hx hb dModel_noNode_13 (by decide) ?_
    exact hE _ _ _ rfl ⟨(by first | exact (fun h => absurd h (by decide)) | exact (fun _ => vcmp (by assumption) (by assumption) (lt_nge (by assumption)) (by omega))), (by exact (hO.tr rfl).symm)⟩ dModel_noNode_17
  refine lv_if_lt (tgt := 12) hx hb dModel_noNode_1 (by decide) (fun c4 => ?_) (fun c4 => ?_)
  · exact J12 ls (by exact hO.tr (if_pos c4)) (lv_sub hl [0, 1] rfl)
  · refine lv_iload_n hx hb dModel_noNode_4 rfl (lv_at hl 1 rfl) ?_
    refine lv_aload_n hx hb dModel_noNode_5 rfl (lv_at hl 0 rfl) ?_
    refine md_gI S hC hM 6 (v := nI (κ 0)) hv6 (by decide) rfl qw_f42008621b dModel_noNode_6 ?_
    refine lv_topi (fun v5 ev5 => ?_)
    refine lv_icmp_lt (tgt := 16) hx hb dModel_noNode_9 (by decide) (fun c6 => ?_) (fun c6 => ?_)
    · refine lv_iconst (v := 0) hx hb dModel_noNode_16 (by decide) ?_
      exact hE _ _ _ rfl ⟨(by first | exact (fun h => absurd h (by decide)) | exact (fun _ => vcmp (by assumption) (by assumption) (lt_nge (by assumption)) (by omega))), (by subst ev5; exact (hO.tr ((if_neg c4).trans (if_pos c6))).symm)⟩ dModel_noNode_17
    · exact J12 ls (by subst ev5; exact hO.tr ((if_neg c4).trans (if_neg c6))) (lv_sub hl [0, 1] rfl)
def Q_noType_12 (κ : Nat → Nat) (τ : gf) (σ : Nat → Int32) (F : gf) (nu : gg) (x1 : Int32) : Int32 := 1
def Q_noType (κ : Nat → Nat) (τ : gf) (σ : Nat → Int32) (F : gf) (nu : gg) (x1 : Int32) : Int32 := (if x1 < 0 then (Q_noType_12 κ τ σ F nu x1  ) else (if x1 < (nI (κ 2)) then 0 else (Q_noType_12 κ τ σ F nu x1  )))
set_option maxHeartbeats 4000000 in
set_option maxRecDepth 100000 in
theorem n_noType (l : Launch) (γ : gE) (a : Nat) (B : Nat → Nat) (Z : Nat → Prop) (κ b mn : Nat → Nat) (ν : Nat → Int32) (τ : Nat → Nat → Int32) (σ : Nat → Int32) (F : Nat → Nat → Int32) (nu : Nat → Int64) (hT : ST κ b mn ν τ) (x1 : Int32)  : PU l yModel_noType bModel_noType 2 (some .boolean) 0 0 [.ref a, .int x1] γ (MD γ a B Z ν τ σ F nu) (vp_Si (fun v : Int32 => (v = 0 → vp_in x1 (κ 2)) ∧ v = Q_noType κ τ σ F nu x1)) := by
  refine pu_openZ (by decide) (Nat.le_of_ble_eq_true rfl) ?_
  intro p e s m args below meth c ls Q S hC hM hE hl
  obtain ⟨hx, hb, hml, hown, hW⟩ := id S
  obtain ⟨⟨hs0, hs1, hs2, hs3, hs4, hs5, hs6⟩, ⟨hv6, hv8, hv21, hv24, hv30, hv31⟩, hTR, hTY, hOB, hNM⟩ := id hT
  have hl : lv_has ls 2 [(0, .ref a), (1, .int x1)] := hl
  obtain ⟨OUT, hQ, hO⟩ : ∃ z, (z = Q_noType κ τ σ F nu x1) ∧ Oq z (Q_noType κ τ σ F nu x1) := ⟨_, rfl, rfl⟩
  rw [← hQ] at hE
  clear hQ
  refine lv_iload_n hx hb dModel_noType_0 rfl (lv_at hl 1 rfl) ?_
  have J12 : ∀ (ls : Array Slot), (Oq OUT (Q_noType_12 κ τ σ F nu x1   )) → lv_has ls 2 [(0, .ref a), (1, .int x1)] → W p l e (bs_rm 0 0 0 0) s m args below meth c s.heap [] 0 0 Q (F0 m 12 ls []) := by
    intro ls hO hl
    refine lv_iconst (v := 1) hx hb dModel_noType_12 (by decide) ?_
    refine lv_goto (tgt := 17) hx hb dModel_noType_13 (by decide) ?_
    exact hE _ _ _ rfl ⟨(by first | exact (fun h => absurd h (by decide)) | exact (fun _ => vcmp (by assumption) (by assumption) (lt_nge (by assumption)) (by omega))), (by exact (hO.tr rfl).symm)⟩ dModel_noType_17
  refine lv_if_lt (tgt := 12) hx hb dModel_noType_1 (by decide) (fun c4 => ?_) (fun c4 => ?_)
  · exact J12 ls (by exact hO.tr (if_pos c4)) (lv_sub hl [0, 1] rfl)
  · refine lv_iload_n hx hb dModel_noType_4 rfl (lv_at hl 1 rfl) ?_
    refine lv_aload_n hx hb dModel_noType_5 rfl (lv_at hl 0 rfl) ?_
    refine md_gI S hC hM 21 (v := nI (κ 2)) hv21 (by decide) rfl qw_c82bee9e97 dModel_noType_6 ?_
    refine lv_topi (fun v5 ev5 => ?_)
    refine lv_icmp_lt (tgt := 16) hx hb dModel_noType_9 (by decide) (fun c6 => ?_) (fun c6 => ?_)
    · refine lv_iconst (v := 0) hx hb dModel_noType_16 (by decide) ?_
      exact hE _ _ _ rfl ⟨(by first | exact (fun h => absurd h (by decide)) | exact (fun _ => vcmp (by assumption) (by assumption) (lt_nge (by assumption)) (by omega))), (by subst ev5; exact (hO.tr ((if_neg c4).trans (if_pos c6))).symm)⟩ dModel_noType_17
    · exact J12 ls (by subst ev5; exact hO.tr ((if_neg c4).trans (if_neg c6))) (lv_sub hl [0, 1] rfl)
def Q_child_7 (κ : Nat → Nat) (τ : gf) (σ : Nat → Int32) (F : gf) (nu : gg) (x1 : Int32) (x2 : Int32) : Nat → Int32 → Int32 → Int32
  | 0, _, _ => default
  | n + 1, i4_7, i3_7 => (if x2 ≤ i4_7 then i3_7 else (Q_child_7 κ τ σ F nu x1 x2  n (i4_7 + 1) ((τ 5 i3_7.toNatClampNeg) - 1)))
def Q_child (κ : Nat → Nat) (τ : gf) (σ : Nat → Int32) (F : gf) (nu : gg) (x1 : Int32) (x2 : Int32) : Int32 := (Q_child_7 κ τ σ F nu x1 x2  ((2147483647 - (0 : Int32).toInt).toNat + 1) 0 (x1 - 1))
set_option maxHeartbeats 4000000 in
set_option maxRecDepth 100000 in
theorem n_child (l : Launch) (γ : gE) (a : Nat) (B : Nat → Nat) (Z : Nat → Prop) (κ b mn : Nat → Nat) (ν : Nat → Int32) (τ : Nat → Nat → Int32) (σ : Nat → Int32) (F : Nat → Nat → Int32) (nu : Nat → Int64) (hT : ST κ b mn ν τ) (x1 : Int32) (x2 : Int32) (hp : vp_in x1 (κ 0)) (hj : vp_in x2 (mn x1.toNatClampNeg)) : PU l yModel_child bModel_child 5 (some .int) 0 0 [.ref a, .int x1, .int x2] γ (MD γ a B Z ν τ σ F nu) (vp_Si (fun v : Int32 => (v = nI (tX b x1.toNatClampNeg x2.toNatClampNeg - 1)) ∧ v = Q_child κ τ σ F nu x1 x2)) := by
  refine pu_openI (by decide) (Nat.le_of_ble_eq_true rfl) ?_
  intro p e s m args below meth c ls Q S hC hM hE hl
  obtain ⟨hx, hb, hml, hown, hW⟩ := id S
  obtain ⟨⟨hs0, hs1, hs2, hs3, hs4, hs5, hs6⟩, ⟨hv6, hv8, hv21, hv24, hv30, hv31⟩, hTR, hTY, hOB, hNM⟩ := id hT
  have hmx : mn x1.toNatClampNeg ≤ 4000 := (hTR.2.1 _ (vix hp)).2.1
  have hl : lv_has ls 5 [(0, .ref a), (1, .int x1), (2, .int x2)] := hl
  obtain ⟨OUT, hQ, hO⟩ : ∃ z, (z = Q_child κ τ σ F nu x1 x2) ∧ Oq z (Q_child κ τ σ F nu x1 x2) := ⟨_, rfl, rfl⟩
  rw [← hQ] at hE
  clear hQ
  have hone : 1 ≤ x1.toNatClampNeg := (hTR.2.1 _ (vix hp)).2.2.1 0 (by have := vix hj; omega)
  refine lv_iload_n hx hb dModel_child_0 rfl (lv_at hl 1 rfl) ?_
  refine lv_iconst (v := 1) hx hb dModel_child_1 (by decide) ?_
  refine lv_isub hx hb dModel_child_2 ?_
  refine lv_topi (fun v1 ev1 => ?_)
  refine lv_istore_n (lv' := [(3, .int v1), (0, .ref a), (1, .int x1), (2, .int x2)]) hx hb dModel_child_3 rfl hl (by decide) rfl (fun ls hl => ?_)
  refine lv_iconst (v := 0) hx hb dModel_child_4 (by decide) ?_
  refine lv_istore (lv' := [(4, .int 0), (3, .int v1), (0, .ref a), (1, .int x1), (2, .int x2)]) hx hb dModel_child_5 hl (by decide) rfl (fun ls hl => ?_)
  have J7 : ∀ (N7 : Nat) (ls : Array Slot) (i4_7 : Int32) (i3_7 : Int32), (∃ i, i ≤ x2.toNatClampNeg ∧ i4_7 = nI i ∧ i3_7 = nI (tX b x1.toNatClampNeg i - 1)) → (Oq OUT (Q_child_7 κ τ σ F nu x1 x2  (N7 + 1) i4_7 i3_7)) → (2147483647 - i4_7.toInt).toNat = N7 → lv_has ls 5 [(0, .ref a), (1, .int x1), (2, .int x2), (3, .int i3_7), (4, .int i4_7)] → W p l e (bs_rm 0 0 0 0) s m args below meth c s.heap [] 0 0 Q (F0 m 7 ls []) := by
    intro N7
    induction N7 using Nat.strongRecOn with
    | ind N7 ih7 =>
      intro ls i4_7 i3_7 hch hO hm7 hl
      refine lv_iload hx hb dModel_child_7 (lv_at hl 4 rfl) ?_
      refine lv_iload_n hx hb dModel_child_9 rfl (lv_at hl 2 rfl) ?_
      refine lv_icmp_ge (tgt := 28) hx hb dModel_child_10 (by decide) (fun c2 => ?_) (fun c2 => ?_)
      · obtain ⟨i, hi1, hi2, hi3⟩ := hch
        have hge : x2.toNatClampNeg ≤ i := (nI_leI (by have := vix hj; omega) (by have := vix hj; omega)).mp (by rw [← vnI hj, ← hi2]; assumption)
        obtain rfl : i = x2.toNatClampNeg := by omega
        refine lv_iload_n hx hb dModel_child_28 rfl (lv_at hl 3 rfl) ?_
        exact hE _ _ _ ⟨hi3, (by subst ev1; exact (hO.tr (if_pos c2)).symm)⟩ dModel_child_29
      · obtain ⟨i, hi1, hi2, hi3⟩ := hch
        have hlt : i < x2.toNatClampNeg := nge_ok (by assumption) (vnI hj) (by assumption) (by have := vix hj; omega) (by have := vix hj; omega)
        have hst := ch_step hTR hs0 (vix hp) (show i < mn x1.toNatClampNeg by have := vix hj; omega) hi3
        have hone2 : 1 ≤ tX b x1.toNatClampNeg (i + 1) := (hTR.2.1 _ (vix hp)).2.2.1 (i + 1) (by have := vix hj; omega)
        refine lv_aload_n hx hb dModel_child_13 rfl (lv_at hl 0 rfl) ?_
        refine md_gA S hC hM 5 (by decide) rfl qw_7e4081a75e dModel_child_14 ?_
        refine lv_iload_n hx hb dModel_child_17 rfl (lv_at hl 3 rfl) ?_
        refine md_ild S hC hM 5 3 4000 (τ 5) rfl rfl (by decide) rfl rfl (vin hst.1 (by omega)) dModel_child_18 ?_
        refine lv_topi (fun v3 ev3 => ?_)
        refine lv_iconst (v := 1) hx hb dModel_child_19 (by decide) ?_
        refine lv_isub hx hb dModel_child_20 ?_
        refine lv_topi (fun v4 ev4 => ?_)
        refine lv_istore_n (lv' := [(3, .int v4), (0, .ref a), (1, .int x1), (2, .int x2), (4, .int i4_7)]) hx hb dModel_child_21 rfl hl (by decide) rfl (fun ls hl => ?_)
        obtain ⟨v5, ev5⟩ : ∃ y : Int32, y = i4_7 + 1 := ⟨_, rfl⟩
        refine lv_iinc (v := v5) (lv' := [(4, .int v5), (3, .int v4), (0, .ref a), (1, .int x1), (2, .int x2)]) hx hb dModel_child_22 hl (k := 4) rfl (by rw [ev5]; rfl) (by decide) rfl (fun ls hl => ?_)
        refine lv_goto (tgt := 7) hx hb dModel_child_25 (by decide) ?_
        exact ih7 _ (by have q1 : i4_7.toInt < 2147483647 := (by first | assumption | exact (mu_up (k := i4_7) (by assumption)).2); have q2 := mu_lt q1; rw [← ev5] at q2; omega) ls v5 v4 ⟨i + 1, by omega, by rw [ev5, hi2]; exact (nI_succ i).symm, by rw [ev4, ev3, hst.2]; exact nI_sub1 hone2⟩ (by have hN : N7 = (2147483647 - v5.toInt).toNat + 1 := (by have q1 : i4_7.toInt < 2147483647 := (by first | assumption | exact (mu_up (k := i4_7) (by assumption)).2); have q2 := mu_lt q1; rw [← ev5] at q2; omega); rw [← hN]; clear hN; subst ev5 ev4 ev3 ev1; exact hO.tr (if_neg c2)) rfl (lv_sub hl [2, 3, 4, 1, 0] rfl)
  exact J7 _ ls 0 v1 ⟨0, Nat.zero_le _, rfl, by rw [ev1]; have h9 := nI_sub1 (n := x1.toNatClampNeg) hone; rw [← vnI hp] at h9; exact h9⟩ (by subst ev1; exact hO.tr rfl) rfl (lv_sub hl [2, 3, 4, 1, 0] rfl)
def Q_hasHere_44 (κ : Nat → Nat) (τ : gf) (σ : Nat → Int32) (F : gf) (nu : gg) (x1 : Int32) (i3_4 : Int32) (i2_4 : Int32) (k4 : Int32 → Int32 → Int32) (t0_44 : Int32) : Int32 := (k4 (i3_4 + 1) t0_44)
def Q_hasHere_39 (κ : Nat → Nat) (τ : gf) (σ : Nat → Int32) (F : gf) (nu : gg) (x1 : Int32) (i3_4 : Int32) (i2_4 : Int32) (k4 : Int32 → Int32 → Int32) : Int32 := (Q_hasHere_44 κ τ σ F nu x1 i3_4 i2_4 k4 1)
def Q_hasHere_43 (κ : Nat → Nat) (τ : gf) (σ : Nat → Int32) (F : gf) (nu : gg) (x1 : Int32) (i3_4 : Int32) (i2_4 : Int32) (k4 : Int32 → Int32 → Int32) : Int32 := (Q_hasHere_44 κ τ σ F nu x1 i3_4 i2_4 k4 0)
def Q_hasHere_4 (κ : Nat → Nat) (τ : gf) (σ : Nat → Int32) (F : gf) (nu : gg) (x1 : Int32) : Nat → Int32 → Int32 → Int32
  | 0, _, _ => default
  | n + 1, i3_4, i2_4 => (if (nI (κ 4)) ≤ i3_4 then i2_4 else (if i2_4 = 0 then (if (τ 25 i3_4.toNatClampNeg) = x1 then (if (τ 29 i3_4.toNatClampNeg) = (nI (κ 5)) then (Q_hasHere_39 κ τ σ F nu x1 i3_4 i2_4 (fun a0 a1 => Q_hasHere_4 κ τ σ F nu x1  n a0 a1) ) else (Q_hasHere_43 κ τ σ F nu x1 i3_4 i2_4 (fun a0 a1 => Q_hasHere_4 κ τ σ F nu x1  n a0 a1) )) else (Q_hasHere_43 κ τ σ F nu x1 i3_4 i2_4 (fun a0 a1 => Q_hasHere_4 κ τ σ F nu x1  n a0 a1) )) else (Q_hasHere_39 κ τ σ F nu x1 i3_4 i2_4 (fun a0 a1 => Q_hasHere_4 κ τ σ F nu x1  n a0 a1) )))
def Q_hasHere (κ : Nat → Nat) (τ : gf) (σ : Nat → Int32) (F : gf) (nu : gg) (x1 : Int32) : Int32 := (Q_hasHere_4 κ τ σ F nu x1  ((2147483647 - (0 : Int32).toInt).toNat + 1) 0 0)
set_option maxHeartbeats 4000000 in
set_option maxRecDepth 100000 in
theorem n_hasHere (l : Launch) (γ : gE) (a : Nat) (B : Nat → Nat) (Z : Nat → Prop) (κ b mn : Nat → Nat) (ν : Nat → Int32) (τ : Nat → Nat → Int32) (σ : Nat → Int32) (F : Nat → Nat → Int32) (nu : Nat → Int64) (hT : ST κ b mn ν τ) (x1 : Int32)  : PU l yModel_hasHere bModel_hasHere 4 (some .boolean) 0 0 [.ref a, .int x1] γ (MD γ a B Z ν τ σ F nu) (vp_Si (fun v : Int32 => (True) ∧ v = Q_hasHere κ τ σ F nu x1)) := by
  refine pu_openZ (by decide) (Nat.le_of_ble_eq_true rfl) ?_
  intro p e s m args below meth c ls Q S hC hM hE hl
  obtain ⟨hx, hb, hml, hown, hW⟩ := id S
  obtain ⟨⟨hs0, hs1, hs2, hs3, hs4, hs5, hs6⟩, ⟨hv6, hv8, hv21, hv24, hv30, hv31⟩, hTR, hTY, hOB, hNM⟩ := id hT
  have hl : lv_has ls 4 [(0, .ref a), (1, .int x1)] := hl
  obtain ⟨OUT, hQ, hO⟩ : ∃ z, (z = Q_hasHere κ τ σ F nu x1) ∧ Oq z (Q_hasHere κ τ σ F nu x1) := ⟨_, rfl, rfl⟩
  rw [← hQ] at hE
  clear hQ
  refine lv_iconst (v := 0) hx hb dModel_hasHere_0 (by decide) ?_
  refine lv_istore_n (lv' := [(2, .int 0), (0, .ref a), (1, .int x1)]) hx hb dModel_hasHere_1 rfl hl (by decide) rfl (fun ls hl => ?_)
  refine lv_iconst (v := 0) hx hb dModel_hasHere_2 (by decide) ?_
  refine lv_istore_n (lv' := [(3, .int 0), (2, .int 0), (0, .ref a), (1, .int x1)]) hx hb dModel_hasHere_3 rfl hl (by decide) rfl (fun ls hl => ?_)
  have J4 : ∀ (N4 : Nat) (ls : Array Slot) (i3_4 : Int32) (i2_4 : Int32), (¬ i3_4 < 0) → (i2_4 = 0 ∨ i2_4 = 1) → (Oq OUT (Q_hasHere_4 κ τ σ F nu x1  (N4 + 1) i3_4 i2_4)) → (2147483647 - i3_4.toInt).toNat = N4 → lv_has ls 4 [(0, .ref a), (1, .int x1), (2, .int i2_4), (3, .int i3_4)] → W p l e (bs_rm 0 0 0 0) s m args below meth c s.heap [] 0 0 Q (F0 m 4 ls []) := by
    intro N4
    induction N4 using Nat.strongRecOn with
    | ind N4 ih4 =>
      intro ls i3_4 i2_4 hi3_4 hi2_4 hO hm4 hl
      refine lv_iload_n hx hb dModel_hasHere_4 rfl (lv_at hl 3 rfl) ?_
      refine lv_aload_n hx hb dModel_hasHere_5 rfl (lv_at hl 0 rfl) ?_
      refine md_gI S hC hM 30 (v := nI (κ 4)) hv30 (by decide) rfl qw_8d5d48b583 dModel_hasHere_6 ?_
      refine lv_topi (fun v1 ev1 => ?_)
      refine lv_icmp_ge (tgt := 51) hx hb dModel_hasHere_9 (by decide) (fun c2 => ?_) (fun c2 => ?_)
      · refine lv_iload_n hx hb dModel_hasHere_51 rfl (lv_at hl 2 rfl) ?_
        exact hE _ _ _ (by rcases (show i2_4 = 0 ∨ i2_4 = 1 by first | assumption | exact Or.inl rfl | exact Or.inr rfl) with h9 | h9 <;> rw [h9] <;> rfl) ⟨trivial, (by subst ev1; exact (hO.tr (if_pos c2)).symm)⟩ dModel_hasHere_52
      · have hin3 : vp_in i3_4 (κ 4) := vcmp (by assumption) (by assumption) (by assumption) (by omega)
        refine lv_iload_n hx hb dModel_hasHere_12 rfl (lv_at hl 2 rfl) ?_
        have J44 : ∀ (ls : Array Slot) (t0_44 : Int32), (t0_44 = 0 ∨ t0_44 = 1) → (Oq OUT (Q_hasHere_44 κ τ σ F nu x1 i3_4 i2_4 (fun a0 a1 => Q_hasHere_4 κ τ σ F nu x1  N4 a0 a1)  t0_44)) → lv_has ls 4 [(0, .ref a), (1, .int x1), (2, .int i2_4), (3, .int i3_4)] → W p l e (bs_rm 0 0 0 0) s m args below meth c s.heap [] 0 0 Q (F0 m 44 ls [.int t0_44]) := by
          intro ls t0_44 ht0_44 hO hl
          refine lv_istore_n (lv' := [(2, .int t0_44), (0, .ref a), (1, .int x1), (3, .int i3_4)]) hx hb dModel_hasHere_44 rfl hl (by decide) rfl (fun ls hl => ?_)
          obtain ⟨v10, ev10⟩ : ∃ y : Int32, y = i3_4 + 1 := ⟨_, rfl⟩
          refine lv_iinc (v := v10) (lv' := [(3, .int v10), (2, .int t0_44), (0, .ref a), (1, .int x1)]) hx hb dModel_hasHere_45 hl (k := 3) rfl (by rw [ev10]; rfl) (by decide) rfl (fun ls hl => ?_)
          refine lv_goto (tgt := 4) hx hb dModel_hasHere_48 (by decide) ?_
          exact ih4 _ (by have q1 : i3_4.toInt < 2147483647 := (by first | assumption | exact (mu_up (k := i3_4) (by assumption)).2); have q2 := mu_lt q1; rw [← ev10] at q2; omega) ls v10 t0_44 (by first | decide | exact nn_inc (by assumption) (by assumption) (by assumption)) (by first | assumption | exact Or.inl rfl | exact Or.inr rfl) (by have hN : N4 = (2147483647 - v10.toInt).toNat + 1 := (by have q1 : i3_4.toInt < 2147483647 := (by first | assumption | exact (mu_up (k := i3_4) (by assumption)).2); have q2 := mu_lt q1; rw [← ev10] at q2; omega); rw [← hN]; clear hN; subst ev10 ev1; exact hO.tr rfl) rfl (lv_sub hl [2, 3, 1, 0] rfl)
        have J39 : ∀ (ls : Array Slot), (Oq OUT (Q_hasHere_39 κ τ σ F nu x1 i3_4 i2_4 (fun a0 a1 => Q_hasHere_4 κ τ σ F nu x1  N4 a0 a1)  )) → lv_has ls 4 [(0, .ref a), (1, .int x1), (2, .int i2_4), (3, .int i3_4)] → W p l e (bs_rm 0 0 0 0) s m args below meth c s.heap [] 0 0 Q (F0 m 39 ls []) := by
          intro ls hO hl
          refine lv_iconst (v := 1) hx hb dModel_hasHere_39 (by decide) ?_
          refine lv_goto (tgt := 44) hx hb dModel_hasHere_40 (by decide) ?_
          exact J44 ls 1 (by first | assumption | exact Or.inl rfl | exact Or.inr rfl) (by subst ev1; exact hO.tr rfl) (lv_sub hl [0, 1, 2, 3] rfl)
        refine lv_if_ne (tgt := 39) hx hb dModel_hasHere_13 (by decide) (fun c11 => ?_) (fun c11 => ?_)
        · exact J39 ls (by subst ev1; exact hO.tr ((if_neg c2).trans (if_neg c11))) (lv_sub hl [0, 1, 2, 3] rfl)
        · refine lv_aload_n hx hb dModel_hasHere_16 rfl (lv_at hl 0 rfl) ?_
          refine md_gA S hC hM 25 (by decide) rfl qw_0f8ce80864 dModel_hasHere_17 ?_
          refine lv_iload_n hx hb dModel_hasHere_20 rfl (lv_at hl 3 rfl) ?_
          refine md_ild S hC hM 25 19 3000 (τ 25) rfl rfl (by decide) rfl rfl (vin (by assumption) (by omega)) dModel_hasHere_21 ?_
          refine lv_topi (fun v12 ev12 => ?_)
          refine lv_iload_n hx hb dModel_hasHere_22 rfl (lv_at hl 1 rfl) ?_
          have J43 : ∀ (ls : Array Slot), (Oq OUT (Q_hasHere_43 κ τ σ F nu x1 i3_4 i2_4 (fun a0 a1 => Q_hasHere_4 κ τ σ F nu x1  N4 a0 a1)  )) → lv_has ls 4 [(0, .ref a), (1, .int x1), (2, .int i2_4), (3, .int i3_4)] → W p l e (bs_rm 0 0 0 0) s m args below meth c s.heap [] 0 0 Q (F0 m 43 ls []) := by
            intro ls hO hl
            refine lv_iconst (v := 0) hx hb dModel_hasHere_43 (by decide) ?_
            exact J44 ls 0 (by first | assumption | exact Or.inl rfl | exact Or.inr rfl) (by subst ev12 ev1; exact hO.tr rfl) (lv_sub hl [0, 1, 2, 3] rfl)
          refine lv_icmp_ne (tgt := 43) hx hb dModel_hasHere_23 (by decide) (fun c17 => ?_) (fun c17 => ?_)
          · exact J43 ls (by subst ev12 ev1; exact hO.tr ((if_neg c2).trans ((if_pos c11).trans (if_neg c17)))) (lv_sub hl [0, 1, 2, 3] rfl)
          · refine lv_aload_n hx hb dModel_hasHere_26 rfl (lv_at hl 0 rfl) ?_
            refine md_gA S hC hM 29 (by decide) rfl qw_6551c8877a dModel_hasHere_27 ?_
            refine lv_iload_n hx hb dModel_hasHere_30 rfl (lv_at hl 3 rfl) ?_
            refine md_ild S hC hM 29 23 3000 (τ 29) rfl rfl (by decide) rfl rfl (vin (by assumption) (by omega)) dModel_hasHere_31 ?_
            refine lv_topi (fun v18 ev18 => ?_)
            refine lv_aload_n hx hb dModel_hasHere_32 rfl (lv_at hl 0 rfl) ?_
            refine md_gI S hC hM 31 (v := nI (κ 5)) hv31 (by decide) rfl qw_e3979b88d4 dModel_hasHere_33 ?_
            refine lv_topi (fun v19 ev19 => ?_)
            refine lv_icmp_ne (tgt := 43) hx hb dModel_hasHere_36 (by decide) (fun c20 => ?_) (fun c20 => ?_)
            · exact J43 ls (by subst ev19 ev18 ev12 ev1; exact hO.tr ((if_neg c2).trans ((if_pos c11).trans ((if_pos c17).trans (if_neg c20))))) (lv_sub hl [0, 1, 2, 3] rfl)
            · exact J39 ls (by subst ev19 ev18 ev12 ev1; exact hO.tr ((if_neg c2).trans ((if_pos c11).trans ((if_pos c17).trans (if_pos c20))))) (lv_sub hl [0, 1, 2, 3] rfl)
  exact J4 _ ls 0 0 (by first | decide | exact nn_inc (by assumption) (by assumption) (by assumption)) (by first | assumption | exact Or.inl rfl | exact Or.inr rfl) (by exact hO.tr rfl) rfl (lv_sub hl [2, 3, 1, 0] rfl)
def Q_element (κ : Nat → Nat) (τ : gf) (σ : Nat → Int32) (F : gf) (nu : gg) (x1 : Int32) (x2 : Int32) : Int32 := (F 14 ((64 * x1) + x2).toNatClampNeg)
set_option maxHeartbeats 4000000 in
set_option maxRecDepth 100000 in
theorem n_element (l : Launch) (γ : gE) (a : Nat) (B : Nat → Nat) (Z : Nat → Prop) (κ b mn : Nat → Nat) (ν : Nat → Int32) (τ : Nat → Nat → Int32) (σ : Nat → Int32) (F : Nat → Nat → Int32) (nu : Nat → Int64) (hT : ST κ b mn ν τ) (x1 : Int32) (x2 : Int32) (he : vp_in (64 * x1 + x2) 640000) : PU l yModel_element bModel_element 3 (some .int) 0 0 [.ref a, .int x1, .int x2] γ (MD γ a B Z ν τ σ F nu) (vp_Si (fun v : Int32 => (True) ∧ v = Q_element κ τ σ F nu x1 x2)) := by
  refine pu_openI (by decide) (Nat.le_of_ble_eq_true rfl) ?_
  intro p e s m args below meth c ls Q S hC hM hE hl
  obtain ⟨hx, hb, hml, hown, hW⟩ := id S
  obtain ⟨⟨hs0, hs1, hs2, hs3, hs4, hs5, hs6⟩, ⟨hv6, hv8, hv21, hv24, hv30, hv31⟩, hTR, hTY, hOB, hNM⟩ := id hT
  have hl : lv_has ls 3 [(0, .ref a), (1, .int x1), (2, .int x2)] := hl
  obtain ⟨OUT, hQ, hO⟩ : ∃ z, (z = Q_element κ τ σ F nu x1 x2) ∧ Oq z (Q_element κ τ σ F nu x1 x2) := ⟨_, rfl, rfl⟩
  rw [← hQ] at hE
  clear hQ
  refine lv_aload_n hx hb dModel_element_0 rfl (lv_at hl 0 rfl) ?_
  refine md_gA S hC hM 14 (by decide) rfl qw_e487507e04 dModel_element_1 ?_
  refine lv_bipush (v := 64) hx hb dModel_element_4 (by decide) ?_
  refine lv_iload_n hx hb dModel_element_6 rfl (lv_at hl 1 rfl) ?_
  refine lv_imul hx hb dModel_element_7 ?_
  refine lv_topi (fun v1 ev1 => ?_)
  refine lv_iload_n hx hb dModel_element_8 rfl (lv_at hl 2 rfl) ?_
  refine lv_iadd hx hb dModel_element_9 ?_
  refine lv_topi (fun v2 ev2 => ?_)
  refine md_bld S hC hM 14 10 640000 (F 14) rfl rfl (by decide) rfl rfl (by subst_vars; exact he) dModel_element_10 ?_
  refine lv_topi (fun v3 ev3 => ?_)
  exact hE _ _ _ ⟨trivial, (by subst ev3 ev2 ev1; exact (hO.tr rfl).symm)⟩ dModel_element_11
def Q_setElement (κ : Nat → Nat) (τ : gf) (σ : Nat → Int32) (F : gf) (nu : gg) (x1 : Int32) (x2 : Int32) (x3 : Int32) : (Nat → Int32) × gf × gg := (σ, (Au F 14 ((64 * x1) + x2).toNatClampNeg (vp_nar .byte (x3.toInt8.toInt32))), nu)
set_option maxHeartbeats 4000000 in
set_option maxRecDepth 100000 in
theorem n_setElement (l : Launch) (γ : gE) (a : Nat) (B : Nat → Nat) (Z : Nat → Prop) (κ b mn : Nat → Nat) (ν : Nat → Int32) (τ : Nat → Nat → Int32) (σ : Nat → Int32) (F : Nat → Nat → Int32) (nu : Nat → Int64) (hT : ST κ b mn ν τ) (x1 : Int32) (x2 : Int32) (x3 : Int32) (he : vp_in (64 * x1 + x2) 640000) : MU l yModel_setElement bModel_setElement 4 (none) 0 0 0 0 [.ref a, .int x1, .int x2, .int x3] γ Z (MD γ a B Z ν τ σ F nu) (mQv (fun H => ∃ F' : Nat → Nat → Int32, Oq (Q_setElement κ τ σ F nu x1 x2 x3) (σ, F', nu) ∧ MD γ a B Z ν τ σ F' nu H ∧ EQ14 F F') Z) := by
  refine mu_openV (by decide) (Nat.le_of_ble_eq_true rfl) ?_
  intro p e s m args below meth c ls Q S hnm hC hA hM hE hl
  have hS : va_S Z s.heap s.heap [] := va_S.rf
  obtain ⟨hx, hb, hml, hown, hW⟩ := id S
  obtain ⟨⟨hs0, hs1, hs2, hs3, hs4, hs5, hs6⟩, ⟨hv6, hv8, hv21, hv24, hv30, hv31⟩, hTR, hTY, hOB, hNM⟩ := id hT
  have hl : lv_has ls 4 [(0, .ref a), (1, .int x1), (2, .int x2), (3, .int x3)] := hl
  obtain ⟨OUT, hQ, hO⟩ : ∃ z, (z = Q_setElement κ τ σ F nu x1 x2 x3) ∧ Oq z (Q_setElement κ τ σ F nu x1 x2 x3) := ⟨_, rfl, rfl⟩
  rw [← hQ] at hE
  clear hQ
  refine lv_aload_n hx hb dModel_setElement_0 rfl (lv_at hl 0 rfl) ?_
  refine md_gA S hC hM 14 (by decide) rfl qw_e487507e04 dModel_setElement_1 ?_
  refine lv_bipush (v := 64) hx hb dModel_setElement_4 (by decide) ?_
  refine lv_iload_n hx hb dModel_setElement_6 rfl (lv_at hl 1 rfl) ?_
  refine lv_imul hx hb dModel_setElement_7 ?_
  refine lv_topi (fun v1 ev1 => ?_)
  refine lv_iload_n hx hb dModel_setElement_8 rfl (lv_at hl 2 rfl) ?_
  refine lv_iadd hx hb dModel_setElement_9 ?_
  refine lv_topi (fun v2 ev2 => ?_)
  refine lv_iload_n hx hb dModel_setElement_10 rfl (lv_at hl 3 rfl) ?_
  refine lv_i2b hx hb dModel_setElement_11 rfl ?_
  refine lv_topi (fun v3 ev3 => ?_)
  refine md_bstD S hC hM hS 14 10 640000 rfl rfl (by decide) rfl rfl (by subst_vars; exact he) dModel_setElement_12 (fun H locs hM hS => ?_)
  obtain ⟨F4, eF4⟩ : ∃ z : Nat → Nat → Int32, z = Au F 14 v2.toNatClampNeg (vp_nar .byte v3) := ⟨_, rfl⟩
  rw [← eF4] at hM
  exact hE _ _ _ _ hS ⟨F4, (by subst eF4 ev3 ev2 ev1; exact hO.tr rfl), hM, EQ14.au eF4⟩ dModel_setElement_13
def Q_isClear_47 (κ : Nat → Nat) (τ : gf) (σ : Nat → Int32) (F : gf) (nu : gg) (x1 : Int32) (i3_4 : Int32) (i2_4 : Int32) (k4 : Int32 → Int32 → Int32) (t0_47 : Int32) : Int32 := (k4 (i3_4 + 1) t0_47)
def Q_isClear_46 (κ : Nat → Nat) (τ : gf) (σ : Nat → Int32) (F : gf) (nu : gg) (x1 : Int32) (i3_4 : Int32) (i2_4 : Int32) (k4 : Int32 → Int32 → Int32) : Int32 := (Q_isClear_47 κ τ σ F nu x1 i3_4 i2_4 k4 0)
def Q_isClear_42 (κ : Nat → Nat) (τ : gf) (σ : Nat → Int32) (F : gf) (nu : gg) (x1 : Int32) (i3_4 : Int32) (i2_4 : Int32) (k4 : Int32 → Int32 → Int32) : Int32 := (Q_isClear_47 κ τ σ F nu x1 i3_4 i2_4 k4 1)
def Q_isClear_4 (κ : Nat → Nat) (τ : gf) (σ : Nat → Int32) (F : gf) (nu : gg) (x1 : Int32) : Nat → Int32 → Int32 → Int32
  | 0, _, _ => default
  | n + 1, i3_4, i2_4 => (if (F 10 x1.toNatClampNeg) ≤ i3_4 then i2_4 else (if i2_4 = 0 then (Q_isClear_46 κ τ σ F nu x1 i3_4 i2_4 (fun a0 a1 => Q_isClear_4 κ τ σ F nu x1  n a0 a1) ) else (if (Q_isLow (Q_element κ τ σ F nu x1 i3_4)) = 0 then (if (Q_isHigh (Q_element κ τ σ F nu x1 i3_4)) = 0 then (Q_isClear_46 κ τ σ F nu x1 i3_4 i2_4 (fun a0 a1 => Q_isClear_4 κ τ σ F nu x1  n a0 a1) ) else (Q_isClear_42 κ τ σ F nu x1 i3_4 i2_4 (fun a0 a1 => Q_isClear_4 κ τ σ F nu x1  n a0 a1) )) else (Q_isClear_42 κ τ σ F nu x1 i3_4 i2_4 (fun a0 a1 => Q_isClear_4 κ τ σ F nu x1  n a0 a1) ))))
def Q_isClear (κ : Nat → Nat) (τ : gf) (σ : Nat → Int32) (F : gf) (nu : gg) (x1 : Int32) : Int32 := (Q_isClear_4 κ τ σ F nu x1  ((2147483647 - (0 : Int32).toInt).toNat + 1) 0 1)
set_option maxHeartbeats 4000000 in
set_option maxRecDepth 100000 in
theorem n_isClear (l : Launch) (γ : gE) (a : Nat) (B : Nat → Nat) (Z : Nat → Prop) (κ b mn : Nat → Nat) (ν : Nat → Int32) (τ : Nat → Nat → Int32) (σ : Nat → Int32) (F : Nat → Nat → Int32) (nu : Nat → Int64) (hT : ST κ b mn ν τ) (x1 : Int32) (hx1 : vp_in x1 (4000)) (hZ : SZ F) : PU l yModel_isClear bModel_isClear 4 (some .boolean) 1 22 [.ref a, .int x1] γ (MD γ a B Z ν τ σ F nu) (vp_Si (fun v : Int32 => (True) ∧ v = Q_isClear κ τ σ F nu x1)) := by
  refine pu_openZ (by decide) (Nat.le_of_ble_eq_true rfl) ?_
  intro p e s m args below meth c ls Q S hC hM hE hl
  obtain ⟨hx, hb, hml, hown, hW⟩ := id S
  obtain ⟨⟨hs0, hs1, hs2, hs3, hs4, hs5, hs6⟩, ⟨hv6, hv8, hv21, hv24, hv30, hv31⟩, hTR, hTY, hOB, hNM⟩ := id hT
  have hl : lv_has ls 4 [(0, .ref a), (1, .int x1)] := hl
  obtain ⟨OUT, hQ, hO⟩ : ∃ z, (z = Q_isClear κ τ σ F nu x1) ∧ Oq z (Q_isClear κ τ σ F nu x1) := ⟨_, rfl, rfl⟩
  rw [← hQ] at hE
  clear hQ
  refine lv_iconst (v := 1) hx hb dModel_isClear_0 (by decide) ?_
  refine lv_istore_n (lv' := [(2, .int 1), (0, .ref a), (1, .int x1)]) hx hb dModel_isClear_1 rfl hl (by decide) rfl (fun ls hl => ?_)
  refine lv_iconst (v := 0) hx hb dModel_isClear_2 (by decide) ?_
  refine lv_istore_n (lv' := [(3, .int 0), (2, .int 1), (0, .ref a), (1, .int x1)]) hx hb dModel_isClear_3 rfl hl (by decide) rfl (fun ls hl => ?_)
  have J4 : ∀ (N4 : Nat) (ls : Array Slot) (i3_4 : Int32) (i2_4 : Int32), (¬ i3_4 < 0) → (i2_4 = 0 ∨ i2_4 = 1) → (Oq OUT (Q_isClear_4 κ τ σ F nu x1  (N4 + 1) i3_4 i2_4)) → (2147483647 - i3_4.toInt).toNat = N4 → lv_has ls 4 [(0, .ref a), (1, .int x1), (2, .int i2_4), (3, .int i3_4)] → W p l e (bs_rm 1 0 0 22) s m args below meth c s.heap [] 0 0 Q (F0 m 4 ls []) := by
    intro N4
    induction N4 using Nat.strongRecOn with
    | ind N4 ih4 =>
      intro ls i3_4 i2_4 hi3_4 hi2_4 hO hm4 hl
      refine lv_iload_n hx hb dModel_isClear_4 rfl (lv_at hl 3 rfl) ?_
      refine lv_aload_n hx hb dModel_isClear_5 rfl (lv_at hl 0 rfl) ?_
      refine md_gA S hC hM 10 (by decide) rfl qw_bd0251c605 dModel_isClear_6 ?_
      refine lv_iload_n hx hb dModel_isClear_9 rfl (lv_at hl 1 rfl) ?_
      refine md_ild S hC hM 10 6 10000 (F 10) rfl rfl (by decide) rfl rfl (vin (by assumption) (by omega)) dModel_isClear_10 ?_
      refine lv_topi (fun v1 ev1 => ?_)
      refine lv_icmp_ge (tgt := 54) hx hb dModel_isClear_11 (by decide) (fun c2 => ?_) (fun c2 => ?_)
      · refine lv_iload_n hx hb dModel_isClear_54 rfl (lv_at hl 2 rfl) ?_
        exact hE _ _ _ (by rcases (show i2_4 = 0 ∨ i2_4 = 1 by first | assumption | exact Or.inl rfl | exact Or.inr rfl) with h9 | h9 <;> rw [h9] <;> rfl) ⟨trivial, (by subst ev1; exact (hO.tr (if_pos c2)).symm)⟩ dModel_isClear_55
      · have hin3 : vp_in i3_4 1000 := vsz hZ (vix (vin hx1 (by omega))) (by assumption) (by assumption) (by assumption)
        refine lv_iload_n hx hb dModel_isClear_14 rfl (lv_at hl 2 rfl) ?_
        have J47 : ∀ (ls : Array Slot) (t0_47 : Int32), (t0_47 = 0 ∨ t0_47 = 1) → (Oq OUT (Q_isClear_47 κ τ σ F nu x1 i3_4 i2_4 (fun a0 a1 => Q_isClear_4 κ τ σ F nu x1  N4 a0 a1)  t0_47)) → lv_has ls 4 [(0, .ref a), (1, .int x1), (2, .int i2_4), (3, .int i3_4)] → W p l e (bs_rm 1 0 0 22) s m args below meth c s.heap [] 0 0 Q (F0 m 47 ls [.int t0_47]) := by
          intro ls t0_47 ht0_47 hO hl
          refine lv_istore_n (lv' := [(2, .int t0_47), (0, .ref a), (1, .int x1), (3, .int i3_4)]) hx hb dModel_isClear_47 rfl hl (by decide) rfl (fun ls hl => ?_)
          obtain ⟨v11, ev11⟩ : ∃ y : Int32, y = i3_4 + 1 := ⟨_, rfl⟩
          refine lv_iinc (v := v11) (lv' := [(3, .int v11), (2, .int t0_47), (0, .ref a), (1, .int x1)]) hx hb dModel_isClear_48 hl (k := 3) rfl (by rw [ev11]; rfl) (by decide) rfl (fun ls hl => ?_)
          refine lv_goto (tgt := 4) hx hb dModel_isClear_51 (by decide) ?_
          exact ih4 _ (by have q1 : i3_4.toInt < 2147483647 := (by first | assumption | exact (mu_up (k := i3_4) (by assumption)).2); have q2 := mu_lt q1; rw [← ev11] at q2; omega) ls v11 t0_47 (by first | decide | exact nn_inc (by assumption) (by assumption) (by assumption)) (by first | assumption | exact Or.inl rfl | exact Or.inr rfl) (by have hN : N4 = (2147483647 - v11.toInt).toNat + 1 := (by have q1 : i3_4.toInt < 2147483647 := (by first | assumption | exact (mu_up (k := i3_4) (by assumption)).2); have q2 := mu_lt q1; rw [← ev11] at q2; omega); rw [← hN]; clear hN; subst ev11 ev1; exact hO.tr rfl) rfl (lv_sub hl [2, 3, 1, 0] rfl)
        have J46 : ∀ (ls : Array Slot), (Oq OUT (Q_isClear_46 κ τ σ F nu x1 i3_4 i2_4 (fun a0 a1 => Q_isClear_4 κ τ σ F nu x1  N4 a0 a1)  )) → lv_has ls 4 [(0, .ref a), (1, .int x1), (2, .int i2_4), (3, .int i3_4)] → W p l e (bs_rm 1 0 0 22) s m args below meth c s.heap [] 0 0 Q (F0 m 46 ls []) := by
          intro ls hO hl
          refine lv_iconst (v := 0) hx hb dModel_isClear_46 (by decide) ?_
          exact J47 ls 0 (by first | assumption | exact Or.inl rfl | exact Or.inr rfl) (by subst ev1; exact hO.tr rfl) (lv_sub hl [0, 1, 2, 3] rfl)
        refine lv_if_eq (tgt := 46) hx hb dModel_isClear_15 (by decide) (fun c12 => ?_) (fun c12 => ?_)
        · exact J46 ls (by subst ev1; exact hO.tr ((if_neg c2).trans (if_pos c12))) (lv_sub hl [0, 1, 2, 3] rfl)
        · refine lv_aload_n hx hb dModel_isClear_18 rfl (lv_at hl 0 rfl) ?_
          refine lv_iload_n hx hb dModel_isClear_19 rfl (lv_at hl 1 rfl) ?_
          refine lv_iload_n hx hb dModel_isClear_20 rfl (lv_at hl 3 rfl) ?_
          refine pu_Vi (rest := []) S hC (n_element l γ a B Z κ b mn ν τ σ F nu hT x1 i3_4 (el_in (by assumption) (by assumption) (by omega))) meModel_element qw_ceb3d87d61 ⟨Nat.le_of_ble_eq_true rfl, Nat.le_of_ble_eq_true rfl⟩ (md_rv hC hM) hM rfl hl.1 rfl (Nat.le_of_ble_eq_true rfl) dModel_isClear_21 ⟨Nat.zero_le _, Nat.zero_le _⟩ (fun r13 hr13 => ?_)
          obtain ⟨hr13, er13⟩ := hr13
          refine pu_Si (rest := []) S hC (n_isLow l γ _ r13) meModel_isLow qw_50d7321591 ⟨Nat.le_of_ble_eq_true rfl, Nat.le_of_ble_eq_true rfl⟩ hM rfl hl.1 rfl (Nat.le_of_ble_eq_true rfl) dModel_isClear_24 ⟨Nat.zero_le _, Nat.zero_le _⟩ (fun r14 hr14 => ?_)
          obtain ⟨hr14, er14⟩ := hr14
          have J42 : ∀ (ls : Array Slot), (Oq OUT (Q_isClear_42 κ τ σ F nu x1 i3_4 i2_4 (fun a0 a1 => Q_isClear_4 κ τ σ F nu x1  N4 a0 a1)  )) → lv_has ls 4 [(0, .ref a), (1, .int x1), (2, .int i2_4), (3, .int i3_4)] → W p l e (bs_rm 1 0 0 22) s m args below meth c s.heap [] 0 0 Q (F0 m 42 ls []) := by
            intro ls hO hl
            refine lv_iconst (v := 1) hx hb dModel_isClear_42 (by decide) ?_
            refine lv_goto (tgt := 47) hx hb dModel_isClear_43 (by decide) ?_
            exact J47 ls 1 (by first | assumption | exact Or.inl rfl | exact Or.inr rfl) (by subst er14 er13 ev1; exact hO.tr rfl) (lv_sub hl [0, 1, 2, 3] rfl)
          refine lv_if_ne (tgt := 42) hx hb dModel_isClear_27 (by decide) (fun c19 => ?_) (fun c19 => ?_)
          · exact J42 ls (by subst er14 er13 ev1; exact hO.tr ((if_neg c2).trans ((if_neg c12).trans (if_neg c19)))) (lv_sub hl [0, 1, 2, 3] rfl)
          · refine lv_aload_n hx hb dModel_isClear_30 rfl (lv_at hl 0 rfl) ?_
            refine lv_iload_n hx hb dModel_isClear_31 rfl (lv_at hl 1 rfl) ?_
            refine lv_iload_n hx hb dModel_isClear_32 rfl (lv_at hl 3 rfl) ?_
            refine pu_Vi (rest := []) S hC (n_element l γ a B Z κ b mn ν τ σ F nu hT x1 i3_4 (el_in (by assumption) (by assumption) (by omega))) meModel_element qw_ceb3d87d61 ⟨Nat.le_of_ble_eq_true rfl, Nat.le_of_ble_eq_true rfl⟩ (md_rv hC hM) hM rfl hl.1 rfl (Nat.le_of_ble_eq_true rfl) dModel_isClear_33 ⟨Nat.zero_le _, Nat.zero_le _⟩ (fun r20 hr20 => ?_)
            obtain ⟨hr20, er20⟩ := hr20
            refine pu_Si (rest := []) S hC (n_isHigh l γ _ r20) meModel_isHigh qw_7b38890176 ⟨Nat.le_of_ble_eq_true rfl, Nat.le_of_ble_eq_true rfl⟩ hM rfl hl.1 rfl (Nat.le_of_ble_eq_true rfl) dModel_isClear_36 ⟨Nat.zero_le _, Nat.zero_le _⟩ (fun r21 hr21 => ?_)
            obtain ⟨hr21, er21⟩ := hr21
            refine lv_if_eq (tgt := 46) hx hb dModel_isClear_39 (by decide) (fun c22 => ?_) (fun c22 => ?_)
            · exact J46 ls (by subst er21 er20 er14 er13 ev1; exact hO.tr ((if_neg c2).trans ((if_neg c12).trans ((if_pos c19).trans (if_pos c22))))) (lv_sub hl [0, 1, 2, 3] rfl)
            · exact J42 ls (by subst er21 er20 er14 er13 ev1; exact hO.tr ((if_neg c2).trans ((if_neg c12).trans ((if_pos c19).trans (if_neg c22))))) (lv_sub hl [0, 1, 2, 3] rfl)
  exact J4 _ ls 0 1 (by first | decide | exact nn_inc (by assumption) (by assumption) (by assumption)) (by first | assumption | exact Or.inl rfl | exact Or.inr rfl) (by exact hO.tr rfl) rfl (lv_sub hl [2, 3, 1, 0] rfl)
def Q_numberOf_40 (κ : Nat → Nat) (τ : gf) (σ : Nat → Int32) (F : gf) (nu : gg) (x1 : Int32) (i4_12 : Int32) (i2_12 : Int64) (k12 : Int32 → Int64 → Int64) (t0_40 : Int64) : Int64 := (k12 (i4_12 + (-1)) ((2 * i2_12) + t0_40))
def Q_numberOf_12 (κ : Nat → Nat) (τ : gf) (σ : Nat → Int32) (F : gf) (nu : gg) (x1 : Int32) : Nat → Int32 → Int64 → Int64
  | 0, _, _ => default
  | n + 1, i4_12, i2_12 => (if i4_12 < 0 then i2_12 else (if (Q_isHigh (Q_element κ τ σ F nu x1 i4_12)) = 0 then (Q_numberOf_40 κ τ σ F nu x1 i4_12 i2_12 (fun a0 a1 => Q_numberOf_12 κ τ σ F nu x1  n a0 a1) 0) else (Q_numberOf_40 κ τ σ F nu x1 i4_12 i2_12 (fun a0 a1 => Q_numberOf_12 κ τ σ F nu x1  n a0 a1) 1)))
def Q_numberOf (κ : Nat → Nat) (τ : gf) (σ : Nat → Int32) (F : gf) (nu : gg) (x1 : Int32) : Int64 := (Q_numberOf_12 κ τ σ F nu x1  ((((F 10 x1.toNatClampNeg) - 1).toInt + 2147483648).toNat + 1) ((F 10 x1.toNatClampNeg) - 1) 0)
set_option maxHeartbeats 4000000 in
set_option maxRecDepth 100000 in
theorem n_numberOf (l : Launch) (γ : gE) (a : Nat) (B : Nat → Nat) (Z : Nat → Prop) (κ b mn : Nat → Nat) (ν : Nat → Int32) (τ : Nat → Nat → Int32) (σ : Nat → Int32) (F : Nat → Nat → Int32) (nu : Nat → Int64) (hT : ST κ b mn ν τ) (x1 : Int32) (hx1 : vp_in x1 (4000)) (hZ : SZ F) : PU l yModel_numberOf bModel_numberOf 5 (some .long) 1 22 [.ref a, .int x1] γ (MD γ a B Z ν τ σ F nu) (vp_Sl (fun v : Int64 => (True) ∧ v = Q_numberOf κ τ σ F nu x1)) := by
  refine pu_openJ (by decide) (Nat.le_of_ble_eq_true rfl) ?_
  intro p e s m args below meth c ls Q S hC hM hE hl
  obtain ⟨hx, hb, hml, hown, hW⟩ := id S
  obtain ⟨⟨hs0, hs1, hs2, hs3, hs4, hs5, hs6⟩, ⟨hv6, hv8, hv21, hv24, hv30, hv31⟩, hTR, hTY, hOB, hNM⟩ := id hT
  have hl : lv_has ls 5 [(0, .ref a), (1, .int x1)] := hl
  obtain ⟨OUT, hQ, hO⟩ : ∃ z, (z = Q_numberOf κ τ σ F nu x1) ∧ Oq z (Q_numberOf κ τ σ F nu x1) := ⟨_, rfl, rfl⟩
  rw [← hQ] at hE
  clear hQ
  refine lv_lconst (v := 0) hx hb dModel_numberOf_0 (by decide) ?_
  refine lv_lstore_n (lv' := [(2, .long 0), (0, .ref a), (1, .int x1)]) hx hb dModel_numberOf_1 rfl hl (by decide) rfl (fun ls hl => ?_)
  refine lv_aload_n hx hb dModel_numberOf_2 rfl (lv_at hl 1 rfl) ?_
  refine md_gA S hC hM 10 (by decide) rfl qw_bd0251c605 dModel_numberOf_3 ?_
  refine lv_iload_n hx hb dModel_numberOf_6 rfl (lv_at hl 2 rfl) ?_
  refine md_ild S hC hM 10 6 10000 (F 10) rfl rfl (by decide) rfl rfl (vin (by assumption) (by omega)) dModel_numberOf_7 ?_
  refine lv_topi (fun v1 ev1 => ?_)
  refine lv_iconst (v := 1) hx hb dModel_numberOf_8 (by decide) ?_
  refine lv_isub hx hb dModel_numberOf_9 ?_
  refine lv_topi (fun v2 ev2 => ?_)
  refine lv_istore (lv' := [(4, .int v2), (2, .long 0), (0, .ref a), (1, .int x1)]) hx hb dModel_numberOf_10 hl (by decide) rfl (fun ls hl => ?_)
  have J12 : ∀ (N12 : Nat) (ls : Array Slot) (i4_12 : Int32) (i2_12 : Int64), (i4_12.toInt < 1000) → (Oq OUT (Q_numberOf_12 κ τ σ F nu x1  (N12 + 1) i4_12 i2_12)) → (i4_12.toInt + 2147483648).toNat = N12 → lv_has ls 5 [(0, .ref a), (1, .int x1), (2, .long i2_12), (4, .int i4_12)] → W p l e (bs_rm 1 0 0 22) s m args below meth c s.heap [] 0 0 Q (F0 m 12 ls []) := by
    intro N12
    induction N12 using Nat.strongRecOn with
    | ind N12 ih12 =>
      intro ls i4_12 i2_12 hi4 hO hm12 hl
      refine lv_iload hx hb dModel_numberOf_12 (lv_at hl 3 rfl) ?_
      refine lv_if_lt (tgt := 48) hx hb dModel_numberOf_14 (by decide) (fun c3 => ?_) (fun c3 => ?_)
      · refine lv_lload_n hx hb dModel_numberOf_48 rfl (lv_at hl 2 rfl) ?_
        exact hE _ _ _ ⟨trivial, (by subst ev2 ev1; exact (hO.tr (if_pos c3)).symm)⟩ dModel_numberOf_49
      · have hnn := i0_int (by assumption)
        have hin4 : vp_in i4_12 1000 := vin_le (by assumption) hi4
        have hdn : -2147483648 < i4_12.toInt := by omega
        refine lv_ldc2 (v := 2) hx hb hown (hW _ qw_6824d59f67) dModel_numberOf_17 ?_
        refine lv_lload_n hx hb dModel_numberOf_20 rfl (lv_at hl 2 rfl) ?_
        refine lv_lmul hx hb dModel_numberOf_21 ?_
        refine lv_topl (fun v4 ev4 => ?_)
        refine lv_aload_n hx hb dModel_numberOf_22 rfl (lv_at hl 0 rfl) ?_
        refine lv_iload_n hx hb dModel_numberOf_23 rfl (lv_at hl 1 rfl) ?_
        refine lv_iload hx hb dModel_numberOf_24 (lv_at hl 3 rfl) ?_
        refine pu_Vi (rest := [.long v4]) S hC (n_element l γ a B Z κ b mn ν τ σ F nu hT x1 i4_12 (el_in (by assumption) (by assumption) (by omega))) meModel_element qw_ceb3d87d61 ⟨Nat.le_of_ble_eq_true rfl, Nat.le_of_ble_eq_true rfl⟩ (md_rv hC hM) hM rfl hl.1 rfl (Nat.le_of_ble_eq_true rfl) dModel_numberOf_26 ⟨Nat.zero_le _, Nat.zero_le _⟩ (fun r5 hr5 => ?_)
        obtain ⟨hr5, er5⟩ := hr5
        refine pu_Si (rest := [.long v4]) S hC (n_isHigh l γ _ r5) meModel_isHigh qw_7b38890176 ⟨Nat.le_of_ble_eq_true rfl, Nat.le_of_ble_eq_true rfl⟩ hM rfl hl.1 rfl (Nat.le_of_ble_eq_true rfl) dModel_numberOf_29 ⟨Nat.zero_le _, Nat.zero_le _⟩ (fun r6 hr6 => ?_)
        obtain ⟨hr6, er6⟩ := hr6
        have J40 : ∀ (ls : Array Slot) (t0_40 : Int64), (Oq OUT (Q_numberOf_40 κ τ σ F nu x1 i4_12 i2_12 (fun a0 a1 => Q_numberOf_12 κ τ σ F nu x1  N12 a0 a1)  t0_40)) → lv_has ls 5 [(0, .ref a), (1, .int x1), (2, .long i2_12), (4, .int i4_12)] → W p l e (bs_rm 1 0 0 22) s m args below meth c s.heap [] 0 0 Q (F0 m 40 ls [.long t0_40, .long v4]) := by
          intro ls t0_40 hO hl
          refine lv_ladd hx hb dModel_numberOf_40 ?_
          refine lv_topl (fun v10 ev10 => ?_)
          refine lv_lstore_n (lv' := [(2, .long v10), (0, .ref a), (1, .int x1), (4, .int i4_12)]) hx hb dModel_numberOf_41 rfl hl (by decide) rfl (fun ls hl => ?_)
          obtain ⟨v11, ev11⟩ : ∃ y : Int32, y = i4_12 + (-1) := ⟨_, rfl⟩
          refine lv_iinc (v := v11) (lv' := [(4, .int v11), (2, .long v10), (0, .ref a), (1, .int x1)]) hx hb dModel_numberOf_42 hl (k := 3) rfl (by rw [ev11]; rfl) (by decide) rfl (fun ls hl => ?_)
          refine lv_goto (tgt := 12) hx hb dModel_numberOf_45 (by decide) ?_
          exact ih12 _ (by have q1 : -2147483648 < i4_12.toInt := (by first | assumption | omega); have q2 := mu_dn q1; rw [← ev11] at q2; omega) ls v11 v10 (by have q1 := mu_dn (k := i4_12) (by assumption); rw [← ev11] at q1; omega) (by have hN : N12 = (v11.toInt + 2147483648).toNat + 1 := (by have q1 : -2147483648 < i4_12.toInt := (by first | assumption | omega); have q2 := mu_dn q1; rw [← ev11] at q2; omega); rw [← hN]; clear hN; subst ev11 ev10 er6 er5 ev4 ev2 ev1; exact hO.tr rfl) rfl (lv_sub hl [2, 3, 1, 0] rfl)
        refine lv_if_eq (tgt := 39) hx hb dModel_numberOf_32 (by decide) (fun c12 => ?_) (fun c12 => ?_)
        · refine lv_lconst (v := 0) hx hb dModel_numberOf_39 (by decide) ?_
          exact J40 ls 0 (by subst er6 er5 ev4 ev2 ev1; exact hO.tr ((if_neg c3).trans (if_pos c12))) (lv_sub hl [0, 1, 2, 3] rfl)
        · refine lv_lconst (v := 1) hx hb dModel_numberOf_35 (by decide) ?_
          refine lv_goto (tgt := 40) hx hb dModel_numberOf_36 (by decide) ?_
          exact J40 ls 1 (by subst er6 er5 ev4 ev2 ev1; exact hO.tr ((if_neg c3).trans (if_neg c12))) (lv_sub hl [0, 1, 2, 3] rfl)
  exact J12 _ ls v2 0 (by rw [ev2]; exact sz_pred hZ (vix (vin hx1 (by omega))) (by assumption)) (by subst ev2 ev1; exact hO.tr rfl) rfl (lv_sub hl [2, 3, 1, 0] rfl)
def Q_bits_34 (κ : Nat → Nat) (τ : gf) (σ : Nat → Int32) (F : gf) (nu : gg) (x1 : Int32) (x2 : Int64) (F_3 : gf) (i4_3 : Int32) (k3 : gf → Int32 → (Nat → Int32) × gf × gg) (t0_34 : Int32) : (Nat → Int32) × gf × gg := (k3 ((Q_setElement κ τ σ F_3 nu x1 i4_3 t0_34).2.1) (i4_3 + 1))
def Q_bits_3 (κ : Nat → Nat) (τ : gf) (σ : Nat → Int32) (F : gf) (nu : gg) (x1 : Int32) (x2 : Int64) : Nat → gf → Int32 → (Nat → Int32) × gf × gg
  | 0, _, _ => default
  | n + 1, F_3, i4_3 => (if (F_3 10 x1.toNatClampNeg) ≤ i4_3 then (σ, F_3, nu) else (if (lg_cmp ((x2 >>> (i4_3.toInt64 &&& 63)) &&& 1) 1) = 0 then (Q_bits_34 κ τ σ F nu x1 x2 F_3 i4_3 (fun a0 a1 => Q_bits_3 κ τ σ F nu x1 x2  n a0 a1) 3) else (Q_bits_34 κ τ σ F nu x1 x2 F_3 i4_3 (fun a0 a1 => Q_bits_3 κ τ σ F nu x1 x2  n a0 a1) 2)))
def Q_bits (κ : Nat → Nat) (τ : gf) (σ : Nat → Int32) (F : gf) (nu : gg) (x1 : Int32) (x2 : Int64) : (Nat → Int32) × gf × gg := (Q_bits_3 κ τ σ F nu x1 x2  ((2147483647 - (0 : Int32).toInt).toNat + 1) F 0)
set_option maxHeartbeats 4000000 in
set_option maxRecDepth 100000 in
theorem n_bits (l : Launch) (γ : gE) (a : Nat) (B : Nat → Nat) (Z : Nat → Prop) (κ b mn : Nat → Nat) (ν : Nat → Int32) (τ : Nat → Nat → Int32) (σ : Nat → Int32) (F : Nat → Nat → Int32) (nu : Nat → Int64) (hT : ST κ b mn ν τ) (x1 : Int32) (x2 : Int64) (hx1 : vp_in x1 (4000)) (hZ : SZ F) : MU l yModel_bits bModel_bits 5 (none) 1 23 0 0 [.ref a, .int x1, .long x2] γ Z (MD γ a B Z ν τ σ F nu) (mQv (fun H => ∃ F' : Nat → Nat → Int32, Oq (Q_bits κ τ σ F nu x1 x2) (σ, F', nu) ∧ MD γ a B Z ν τ σ F' nu H ∧ EQ14 F F') Z) := by
  refine mu_openV (by decide) (Nat.le_of_ble_eq_true rfl) ?_
  intro p e s m args below meth c ls Q S hnm hC hA hM hE hl
  have hS : va_S Z s.heap s.heap [] := va_S.rf
  obtain ⟨hx, hb, hml, hown, hW⟩ := id S
  obtain ⟨⟨hs0, hs1, hs2, hs3, hs4, hs5, hs6⟩, ⟨hv6, hv8, hv21, hv24, hv30, hv31⟩, hTR, hTY, hOB, hNM⟩ := id hT
  have hl : lv_has ls 5 [(0, .ref a), (1, .int x1), (2, .long x2)] := hl
  obtain ⟨OUT, hQ, hO⟩ : ∃ z, (z = Q_bits κ τ σ F nu x1 x2) ∧ Oq z (Q_bits κ τ σ F nu x1 x2) := ⟨_, rfl, rfl⟩
  rw [← hQ] at hE
  clear hQ
  have hE4 : EQ14 F F := EQ14.rf
  refine lv_iconst (v := 0) hx hb dModel_bits_0 (by decide) ?_
  refine lv_istore (lv' := [(4, .int 0), (0, .ref a), (1, .int x1), (2, .long x2)]) hx hb dModel_bits_1 hl (by decide) rfl (fun ls hl => ?_)
  have J3 : ∀ (N3 : Nat) (ls : Array Slot) (H : Heap) (locs : List Loc) (F_3 : Nat → Nat → Int32) (i4_3 : Int32), MD γ a B Z ν τ σ F_3 nu H → va_S Z s.heap H locs → (EQ14 F F_3) → (SZ F_3) → (¬ i4_3 < 0) → (Oq OUT (Q_bits_3 κ τ σ F nu x1 x2  (N3 + 1) F_3 i4_3)) → (2147483647 - i4_3.toInt).toNat = N3 → lv_has ls 5 [(0, .ref a), (1, .int x1), (2, .long x2), (4, .int i4_3)] → W p l e (bs_rm 1 0 0 23) s m args below meth c H locs 0 0 Q (F0 m 3 ls []) := by
    intro N3
    induction N3 using Nat.strongRecOn with
    | ind N3 ih3 =>
      intro ls H locs F_3 i4_3 hM hS hE4 hZ hi4_3 hO hm3 hl
      refine lv_iload hx hb dModel_bits_3 (lv_at hl 3 rfl) ?_
      refine lv_aload_n hx hb dModel_bits_5 rfl (lv_at hl 0 rfl) ?_
      refine md_gA S hC hM 10 (by decide) rfl qw_bd0251c605 dModel_bits_6 ?_
      refine lv_iload_n hx hb dModel_bits_9 rfl (lv_at hl 1 rfl) ?_
      refine md_ild S hC hM 10 6 10000 (F_3 10) rfl rfl (by decide) rfl rfl (vin (by assumption) (by omega)) dModel_bits_10 ?_
      refine lv_topi (fun v1 ev1 => ?_)
      refine lv_icmp_ge (tgt := 43) hx hb dModel_bits_11 (by decide) (fun c2 => ?_) (fun c2 => ?_)
      · exact hE _ _ _ _ hS ⟨F_3, (by subst ev1; exact hO.tr (if_pos c2)), hM, hE4⟩ dModel_bits_43
      · have hin4 : vp_in i4_3 1000 := vsz hZ (vix (vin hx1 (by omega))) (by assumption) (by assumption) (by assumption)
        refine lv_aload_n hx hb dModel_bits_14 rfl (lv_at hl 0 rfl) ?_
        refine lv_iload_n hx hb dModel_bits_15 rfl (lv_at hl 1 rfl) ?_
        refine lv_iload hx hb dModel_bits_16 (lv_at hl 3 rfl) ?_
        refine lv_lload_n hx hb dModel_bits_18 rfl (lv_at hl 2 rfl) ?_
        refine lv_iload hx hb dModel_bits_19 (lv_at hl 3 rfl) ?_
        refine lv_lshr hx hb dModel_bits_21 rfl ?_
        refine lv_topl (fun v3 ev3 => ?_)
        refine lv_lconst (v := 1) hx hb dModel_bits_22 (by decide) ?_
        refine lv_land hx hb dModel_bits_23 ?_
        refine lv_topl (fun v4 ev4 => ?_)
        refine lv_lconst (v := 1) hx hb dModel_bits_24 (by decide) ?_
        refine W.lcmp hx hb dModel_bits_25 ?_
        refine lv_topi (fun v5 ev5 => ?_)
        have J34 : ∀ (ls : Array Slot) (t0_34 : Int32), (Oq OUT (Q_bits_34 κ τ σ F nu x1 x2 F_3 i4_3 (fun a0 a1 => Q_bits_3 κ τ σ F nu x1 x2  N3 a0 a1)  t0_34)) → lv_has ls 5 [(0, .ref a), (1, .int x1), (2, .long x2), (4, .int i4_3)] → W p l e (bs_rm 1 0 0 23) s m args below meth c H locs 0 0 Q (F0 m 34 ls [.int t0_34, .int i4_3, .int x1, .ref a]) := by
          intro ls t0_34 hO hl
          refine mu_Vv (rest := []) S hC (fun q h => hA q (Nat.le_trans hS.1 h)) (fun q h => h) hS (n_setElement l γ a B Z κ b mn ν τ σ F_3 nu hT x1 i4_3 t0_34 (el_in (by assumption) (by assumption) (by omega))) meModel_setElement qw_143403ccb9 ⟨Nat.le_of_ble_eq_true rfl, Nat.le_of_ble_eq_true rfl⟩ (md_rv hC hM) hM rfl hl.1 rfl (Nat.le_of_ble_eq_true rfl) dModel_bits_34 ⟨Nat.le_refl _, Nat.le_refl _⟩ (fun H locs hPO hS _ _ => ?_)
          obtain ⟨Fr9, eOr9, hM, hqr9⟩ := hPO
          have eFr9 : Fr9 = (Q_setElement κ τ σ F_3 nu x1 i4_3 t0_34).2.1 := by rw [eOr9.eq]
          clear eOr9
          have hZ : SZ Fr9 := hZ.e14 hqr9
          have hE4 : EQ14 F Fr9 := hE4.trans hqr9
          obtain ⟨v10, ev10⟩ : ∃ y : Int32, y = i4_3 + 1 := ⟨_, rfl⟩
          refine lv_iinc (v := v10) (lv' := [(4, .int v10), (0, .ref a), (1, .int x1), (2, .long x2)]) hx hb dModel_bits_37 hl (k := 3) rfl (by rw [ev10]; rfl) (by decide) rfl (fun ls hl => ?_)
          refine lv_goto (tgt := 3) hx hb dModel_bits_40 (by decide) ?_
          exact ih3 _ (by have q1 : i4_3.toInt < 2147483647 := (by first | assumption | exact (mu_up (k := i4_3) (by assumption)).2); have q2 := mu_lt q1; rw [← ev10] at q2; omega) ls _ _ Fr9 v10 hM hS hE4 hZ (by first | decide | exact nn_inc (by assumption) (by assumption) (by assumption)) (by have hN : N3 = (2147483647 - v10.toInt).toNat + 1 := (by have q1 : i4_3.toInt < 2147483647 := (by first | assumption | exact (mu_up (k := i4_3) (by assumption)).2); have q2 := mu_lt q1; rw [← ev10] at q2; omega); rw [← hN]; clear hN; subst ev10 eFr9 ev5 ev4 ev3 ev1; exact hO.tr rfl) rfl (lv_sub hl [1, 2, 3, 0] rfl)
        refine lv_if_ne (tgt := 33) hx hb dModel_bits_26 (by decide) (fun c11 => ?_) (fun c11 => ?_)
        · refine lv_iconst (v := 2) hx hb dModel_bits_33 (by decide) ?_
          exact J34 ls 2 (by subst ev5 ev4 ev3 ev1; exact hO.tr ((if_neg c2).trans (if_neg c11))) (lv_sub hl [0, 1, 2, 3] rfl)
        · refine lv_iconst (v := 3) hx hb dModel_bits_29 (by decide) ?_
          refine lv_goto (tgt := 34) hx hb dModel_bits_30 (by decide) ?_
          exact J34 ls 3 (by subst ev5 ev4 ev3 ev1; exact hO.tr ((if_neg c2).trans (if_pos c11))) (lv_sub hl [0, 1, 2, 3] rfl)
  exact J3 _ ls _ _ F 0 hM hS hE4 hZ (by first | decide | exact nn_inc (by assumption) (by assumption) (by assumption)) (by exact hO.tr rfl) rfl (lv_sub hl [1, 2, 3, 0] rfl)
def Q_fact_39 (κ : Nat → Nat) (τ : gf) (σ : Nat → Int32) (F : gf) (nu : gg) (x1 : Int32) (x2 : Int32) (x3 : Int32) (x4 : Int32) : Nat → gf → Int32 → (Nat → Int32) × gf × gg
  | 0, _, _ => default
  | n + 1, F_39, i5_39 => (if 64 ≤ i5_39 then (σ, F_39, (vp_updL nu x1.toNatClampNeg 0)) else (Q_fact_39 κ τ σ F nu x1 x2 x3 x4  n ((Q_setElement κ τ σ F_39 (vp_updL nu x1.toNatClampNeg 0) x1 i5_39 0).2.1) (i5_39 + 1)))
def Q_fact (κ : Nat → Nat) (τ : gf) (σ : Nat → Int32) (F : gf) (nu : gg) (x1 : Int32) (x2 : Int32) (x3 : Int32) (x4 : Int32) : (Nat → Int32) × gf × gg := (Q_fact_39 κ τ σ F nu x1 x2 x3 x4  ((2147483647 - (0 : Int32).toInt).toNat + 1) (Au (Au (Au (Au F 9 x1.toNatClampNeg x2) 10 x1.toNatClampNeg x3) 11 x1.toNatClampNeg (vp_nar .boolean x4)) 12 x1.toNatClampNeg (-1)) 0)
set_option maxHeartbeats 4000000 in
set_option maxRecDepth 100000 in
theorem n_fact (l : Launch) (γ : gE) (a : Nat) (B : Nat → Nat) (Z : Nat → Prop) (κ b mn : Nat → Nat) (ν : Nat → Int32) (τ : Nat → Nat → Int32) (σ : Nat → Int32) (F : Nat → Nat → Int32) (nu : Nat → Int64) (hT : ST κ b mn ν τ) (x1 : Int32) (x2 : Int32) (x3 : Int32) (x4 : Int32) (hx1 : vp_in x1 (10000)) (hn : ∃ j, j ≤ 1000 ∧ x3 = nI j) : MU l yModel_fact bModel_fact 6 (none) 1 23 0 0 [.ref a, .int x1, .int x2, .int x3, .int x4] γ Z (MD γ a B Z ν τ σ F nu) (mQv (fun H => ∃ (F' : Nat → Nat → Int32) (nu' : Nat → Int64), Oq (Q_fact κ τ σ F nu x1 x2 x3 x4) (σ, F', nu') ∧ MD γ a B Z ν τ σ F' nu' H ∧ SLT x1.toNatClampNeg x2 x3 0 F nu F' nu' ∧ F' 11 = upd (F 11) x1.toNatClampNeg (vp_nar .boolean x4)) Z) := by
  refine mu_openV (by decide) (Nat.le_of_ble_eq_true rfl) ?_
  intro p e s m args below meth c ls Q S hnm hC hA hM hE hl
  have hS : va_S Z s.heap s.heap [] := va_S.rf
  obtain ⟨hx, hb, hml, hown, hW⟩ := id S
  obtain ⟨⟨hs0, hs1, hs2, hs3, hs4, hs5, hs6⟩, ⟨hv6, hv8, hv21, hv24, hv30, hv31⟩, hTR, hTY, hOB, hNM⟩ := id hT
  have hl : lv_has ls 6 [(0, .ref a), (1, .int x1), (2, .int x2), (3, .int x3), (4, .int x4)] := hl
  obtain ⟨OUT, hQ, hO⟩ : ∃ z, (z = Q_fact κ τ σ F nu x1 x2 x3 x4) ∧ Oq z (Q_fact κ τ σ F nu x1 x2 x3 x4) := ⟨_, rfl, rfl⟩
  rw [← hQ] at hE
  clear hQ
  refine lv_aload_n hx hb dModel_fact_0 rfl (lv_at hl 0 rfl) ?_
  refine md_gA S hC hM 9 (by decide) rfl qw_a119aeeca0 dModel_fact_1 ?_
  refine lv_iload_n hx hb dModel_fact_4 rfl (lv_at hl 1 rfl) ?_
  refine lv_iload_n hx hb dModel_fact_5 rfl (lv_at hl 2 rfl) ?_
  refine md_istD S hC hM hS 9 5 10000 rfl rfl (by decide) rfl rfl (vin (by assumption) (by omega)) dModel_fact_6 (fun H locs hM hS => ?_)
  obtain ⟨F1, eF1⟩ : ∃ z : Nat → Nat → Int32, z = Au F 9 x1.toNatClampNeg x2 := ⟨_, rfl⟩
  rw [← eF1] at hM
  refine lv_aload_n hx hb dModel_fact_7 rfl (lv_at hl 0 rfl) ?_
  refine md_gA S hC hM 10 (by decide) rfl qw_bd0251c605 dModel_fact_8 ?_
  refine lv_iload_n hx hb dModel_fact_11 rfl (lv_at hl 1 rfl) ?_
  refine lv_iload_n hx hb dModel_fact_12 rfl (lv_at hl 3 rfl) ?_
  refine md_istD S hC hM hS 10 6 10000 rfl rfl (by decide) rfl rfl (vin (by assumption) (by omega)) dModel_fact_13 (fun H locs hM hS => ?_)
  obtain ⟨F2, eF2⟩ : ∃ z : Nat → Nat → Int32, z = Au F1 10 x1.toNatClampNeg x3 := ⟨_, rfl⟩
  rw [← eF2] at hM
  refine lv_aload_n hx hb dModel_fact_14 rfl (lv_at hl 0 rfl) ?_
  refine md_gA S hC hM 11 (by decide) rfl qw_88b9028ba7 dModel_fact_15 ?_
  refine lv_iload_n hx hb dModel_fact_18 rfl (lv_at hl 1 rfl) ?_
  refine lv_iload hx hb dModel_fact_19 (lv_at hl 4 rfl) ?_
  refine md_zstD S hC hM hS 11 7 10000 rfl rfl (by decide) rfl rfl (vin (by assumption) (by omega)) dModel_fact_21 (fun H locs hM hS => ?_)
  obtain ⟨F3, eF3⟩ : ∃ z : Nat → Nat → Int32, z = Au F2 11 x1.toNatClampNeg (vp_nar .boolean x4) := ⟨_, rfl⟩
  rw [← eF3] at hM
  refine lv_aload_n hx hb dModel_fact_22 rfl (lv_at hl 0 rfl) ?_
  refine md_gA S hC hM 12 (by decide) rfl qw_19df235c4a dModel_fact_23 ?_
  refine lv_iload_n hx hb dModel_fact_26 rfl (lv_at hl 1 rfl) ?_
  refine lv_iconst (v := (-1)) hx hb dModel_fact_27 (by decide) ?_
  refine md_istD S hC hM hS 12 8 10000 rfl rfl (by decide) rfl rfl (vin (by assumption) (by omega)) dModel_fact_28 (fun H locs hM hS => ?_)
  obtain ⟨F4, eF4⟩ : ∃ z : Nat → Nat → Int32, z = Au F3 12 x1.toNatClampNeg (-1) := ⟨_, rfl⟩
  rw [← eF4] at hM
  refine lv_aload_n hx hb dModel_fact_29 rfl (lv_at hl 0 rfl) ?_
  refine md_gA S hC hM 13 (by decide) rfl qw_7b809afc8c dModel_fact_30 ?_
  refine lv_iload_n hx hb dModel_fact_33 rfl (lv_at hl 1 rfl) ?_
  refine lv_lconst (v := 0) hx hb dModel_fact_34 (by decide) ?_
  refine md_lst S hC hM hS (vin (by assumption) (by omega)) dModel_fact_35 (fun H locs hM hS => ?_)
  obtain ⟨nu5, enu5⟩ : ∃ z : Nat → Int64, z = vp_updL nu x1.toNatClampNeg 0 := ⟨_, rfl⟩
  rw [← enu5] at hM
  have hE4 : EQ14 F4 F4 := EQ14.rf
  refine lv_iconst (v := 0) hx hb dModel_fact_36 (by decide) ?_
  refine lv_istore (lv' := [(5, .int 0), (0, .ref a), (1, .int x1), (2, .int x2), (3, .int x3), (4, .int x4)]) hx hb dModel_fact_37 hl (by decide) rfl (fun ls hl => ?_)
  have J39 : ∀ (N39 : Nat) (ls : Array Slot) (H : Heap) (locs : List Loc) (F_39 : Nat → Nat → Int32) (i5_39 : Int32), MD γ a B Z ν τ σ F_39 nu5 H → va_S Z s.heap H locs → (EQ14 F4 F_39) → (¬ i5_39 < 0) → (Oq OUT (Q_fact_39 κ τ σ F nu x1 x2 x3 x4  (N39 + 1) F_39 i5_39)) → (2147483647 - i5_39.toInt).toNat = N39 → lv_has ls 6 [(0, .ref a), (1, .int x1), (2, .int x2), (3, .int x3), (4, .int x4), (5, .int i5_39)] → W p l e (bs_rm 1 0 0 23) s m args below meth c H locs 0 0 Q (F0 m 39 ls []) := by
    intro N39
    induction N39 using Nat.strongRecOn with
    | ind N39 ih39 =>
      intro ls H locs F_39 i5_39 hM hS hE4 hi5_39 hO hm39 hl
      refine lv_iload hx hb dModel_fact_39 (lv_at hl 5 rfl) ?_
      refine lv_bipush (v := 64) hx hb dModel_fact_41 (by decide) ?_
      refine lv_icmp_ge (tgt := 60) hx hb dModel_fact_43 (by decide) (fun c6 => ?_) (fun c6 => ?_)
      · exact hE _ _ _ _ hS (by have h9 := slt_fact eF1 eF2 eF3 eF4 hE4 enu5; exact ⟨F_39, nu5, (by subst enu5 eF4 eF3 eF2 eF1; exact hO.tr (if_pos c6)), hM, h9.1, h9.2⟩) dModel_fact_60
      · have hin5 : vp_in i5_39 64 := in_cmp (by assumption) (by assumption) (by omega)
        refine lv_aload_n hx hb dModel_fact_46 rfl (lv_at hl 0 rfl) ?_
        refine lv_iload_n hx hb dModel_fact_47 rfl (lv_at hl 1 rfl) ?_
        refine lv_iload hx hb dModel_fact_48 (lv_at hl 5 rfl) ?_
        refine lv_iconst (v := 0) hx hb dModel_fact_50 (by decide) ?_
        refine mu_Vv (rest := []) S hC (fun q h => hA q (Nat.le_trans hS.1 h)) (fun q h => h) hS (n_setElement l γ a B Z κ b mn ν τ σ F_39 nu5 hT x1 i5_39 0 (el_in (by assumption) (by assumption) (by omega))) meModel_setElement qw_143403ccb9 ⟨Nat.le_of_ble_eq_true rfl, Nat.le_of_ble_eq_true rfl⟩ (md_rv hC hM) hM rfl hl.1 rfl (Nat.le_of_ble_eq_true rfl) dModel_fact_51 ⟨Nat.le_refl _, Nat.le_refl _⟩ (fun H locs hPO hS _ _ => ?_)
        obtain ⟨Fr7, eOr7, hM, hqr7⟩ := hPO
        have eFr7 : Fr7 = (Q_setElement κ τ σ F_39 nu5 x1 i5_39 0).2.1 := by rw [eOr7.eq]
        clear eOr7
        have hE4 : EQ14 F4 Fr7 := hE4.trans hqr7
        obtain ⟨v8, ev8⟩ : ∃ y : Int32, y = i5_39 + 1 := ⟨_, rfl⟩
        refine lv_iinc (v := v8) (lv' := [(5, .int v8), (0, .ref a), (1, .int x1), (2, .int x2), (3, .int x3), (4, .int x4)]) hx hb dModel_fact_54 hl (k := 5) rfl (by rw [ev8]; rfl) (by decide) rfl (fun ls hl => ?_)
        refine lv_goto (tgt := 39) hx hb dModel_fact_57 (by decide) ?_
        exact ih39 _ (by have q1 : i5_39.toInt < 2147483647 := (by first | assumption | exact (mu_up (k := i5_39) (by assumption)).2); have q2 := mu_lt q1; rw [← ev8] at q2; omega) ls _ _ Fr7 v8 hM hS hE4 (by first | decide | exact nn_inc (by assumption) (by assumption) (by assumption)) (by have hN : N39 = (2147483647 - v8.toInt).toNat + 1 := (by have q1 : i5_39.toInt < 2147483647 := (by first | assumption | exact (mu_up (k := i5_39) (by assumption)).2); have q2 := mu_lt q1; rw [← ev8] at q2; omega); rw [← hN]; clear hN; subst ev8 eFr7 enu5 eF4 eF3 eF2 eF1; exact hO.tr (if_neg c6)) rfl (lv_sub hl [1, 2, 3, 4, 5, 0] rfl)
  exact J39 _ ls _ _ F4 0 hM hS hE4 (by first | decide | exact nn_inc (by assumption) (by assumption) (by assumption)) (by subst enu5 eF4 eF3 eF2 eF1; exact hO.tr rfl) rfl (lv_sub hl [1, 2, 3, 4, 5, 0] rfl)
def Q_copy_62 (κ : Nat → Nat) (τ : gf) (σ : Nat → Int32) (F : gf) (nu : gg) (x1 : Int32) (x2 : Int32) : Nat → gf → Int32 → (Nat → Int32) × gf × gg
  | 0, _, _ => default
  | n + 1, F_62, i3_62 => (if 64 ≤ i3_62 then (σ, F_62, (vp_updL nu x2.toNatClampNeg (nu x1.toNatClampNeg))) else (Q_copy_62 κ τ σ F nu x1 x2  n ((Q_setElement κ τ σ F_62 (vp_updL nu x2.toNatClampNeg (nu x1.toNatClampNeg)) x2 i3_62 (Q_element κ τ σ F_62 (vp_updL nu x2.toNatClampNeg (nu x1.toNatClampNeg)) x1 i3_62)).2.1) (i3_62 + 1)))
def Q_copy (κ : Nat → Nat) (τ : gf) (σ : Nat → Int32) (F : gf) (nu : gg) (x1 : Int32) (x2 : Int32) : (Nat → Int32) × gf × gg := (Q_copy_62 κ τ σ F nu x1 x2  ((2147483647 - (0 : Int32).toInt).toNat + 1) (Au (Au (Au (Au F 9 x2.toNatClampNeg (F 9 x1.toNatClampNeg)) 10 x2.toNatClampNeg ((Au F 9 x2.toNatClampNeg (F 9 x1.toNatClampNeg)) 10 x1.toNatClampNeg)) 11 x2.toNatClampNeg (vp_nar .boolean ((Au (Au F 9 x2.toNatClampNeg (F 9 x1.toNatClampNeg)) 10 x2.toNatClampNeg ((Au F 9 x2.toNatClampNeg (F 9 x1.toNatClampNeg)) 10 x1.toNatClampNeg)) 11 x1.toNatClampNeg))) 12 x2.toNatClampNeg ((Au (Au (Au F 9 x2.toNatClampNeg (F 9 x1.toNatClampNeg)) 10 x2.toNatClampNeg ((Au F 9 x2.toNatClampNeg (F 9 x1.toNatClampNeg)) 10 x1.toNatClampNeg)) 11 x2.toNatClampNeg (vp_nar .boolean ((Au (Au F 9 x2.toNatClampNeg (F 9 x1.toNatClampNeg)) 10 x2.toNatClampNeg ((Au F 9 x2.toNatClampNeg (F 9 x1.toNatClampNeg)) 10 x1.toNatClampNeg)) 11 x1.toNatClampNeg))) 12 x1.toNatClampNeg)) 0)
set_option maxHeartbeats 4000000 in
set_option maxRecDepth 100000 in
theorem n_copy (l : Launch) (γ : gE) (a : Nat) (B : Nat → Nat) (Z : Nat → Prop) (κ b mn : Nat → Nat) (ν : Nat → Int32) (τ : Nat → Nat → Int32) (σ : Nat → Int32) (F : Nat → Nat → Int32) (nu : Nat → Int64) (hT : ST κ b mn ν τ) (x1 : Int32) (x2 : Int32) (hx1 : vp_in x1 (10000)) (hx2 : vp_in x2 (10000)) : MU l yModel_copy bModel_copy 4 (none) 1 23 0 0 [.ref a, .int x1, .int x2] γ Z (MD γ a B Z ν τ σ F nu) (mQv (fun H => ∃ (F' : Nat → Nat → Int32) (nu' : Nat → Int64), Oq (Q_copy κ τ σ F nu x1 x2) (σ, F', nu') ∧ MD γ a B Z ν τ σ F' nu' H ∧ SLT x2.toNatClampNeg (F 9 x1.toNatClampNeg) (F 10 x1.toNatClampNeg) (nu x1.toNatClampNeg) F nu F' nu') Z) := by
  refine mu_openV (by decide) (Nat.le_of_ble_eq_true rfl) ?_
  intro p e s m args below meth c ls Q S hnm hC hA hM hE hl
  have hS : va_S Z s.heap s.heap [] := va_S.rf
  obtain ⟨hx, hb, hml, hown, hW⟩ := id S
  obtain ⟨⟨hs0, hs1, hs2, hs3, hs4, hs5, hs6⟩, ⟨hv6, hv8, hv21, hv24, hv30, hv31⟩, hTR, hTY, hOB, hNM⟩ := id hT
  have hl : lv_has ls 4 [(0, .ref a), (1, .int x1), (2, .int x2)] := hl
  obtain ⟨OUT, hQ, hO⟩ : ∃ z, (z = Q_copy κ τ σ F nu x1 x2) ∧ Oq z (Q_copy κ τ σ F nu x1 x2) := ⟨_, rfl, rfl⟩
  rw [← hQ] at hE
  clear hQ
  refine lv_aload_n hx hb dModel_copy_0 rfl (lv_at hl 0 rfl) ?_
  refine md_gA S hC hM 9 (by decide) rfl qw_a119aeeca0 dModel_copy_1 ?_
  refine lv_iload_n hx hb dModel_copy_4 rfl (lv_at hl 2 rfl) ?_
  refine lv_aload_n hx hb dModel_copy_5 rfl (lv_at hl 0 rfl) ?_
  refine md_gA S hC hM 9 (by decide) rfl qw_a119aeeca0 dModel_copy_6 ?_
  refine lv_iload_n hx hb dModel_copy_9 rfl (lv_at hl 1 rfl) ?_
  refine md_ild S hC hM 9 5 10000 (F 9) rfl rfl (by decide) rfl rfl (vin (by assumption) (by omega)) dModel_copy_10 ?_
  refine lv_topi (fun v1 ev1 => ?_)
  refine md_istD S hC hM hS 9 5 10000 rfl rfl (by decide) rfl rfl (vin (by assumption) (by omega)) dModel_copy_11 (fun H locs hM hS => ?_)
  obtain ⟨F2, eF2⟩ : ∃ z : Nat → Nat → Int32, z = Au F 9 x2.toNatClampNeg v1 := ⟨_, rfl⟩
  rw [← eF2] at hM
  refine lv_aload_n hx hb dModel_copy_12 rfl (lv_at hl 0 rfl) ?_
  refine md_gA S hC hM 10 (by decide) rfl qw_bd0251c605 dModel_copy_13 ?_
  refine lv_iload_n hx hb dModel_copy_16 rfl (lv_at hl 2 rfl) ?_
  refine lv_aload_n hx hb dModel_copy_17 rfl (lv_at hl 0 rfl) ?_
  refine md_gA S hC hM 10 (by decide) rfl qw_bd0251c605 dModel_copy_18 ?_
  refine lv_iload_n hx hb dModel_copy_21 rfl (lv_at hl 1 rfl) ?_
  refine md_ild S hC hM 10 6 10000 (F2 10) rfl rfl (by decide) rfl rfl (vin (by assumption) (by omega)) dModel_copy_22 ?_
  refine lv_topi (fun v3 ev3 => ?_)
  refine md_istD S hC hM hS 10 6 10000 rfl rfl (by decide) rfl rfl (vin (by assumption) (by omega)) dModel_copy_23 (fun H locs hM hS => ?_)
  obtain ⟨F4, eF4⟩ : ∃ z : Nat → Nat → Int32, z = Au F2 10 x2.toNatClampNeg v3 := ⟨_, rfl⟩
  rw [← eF4] at hM
  refine lv_aload_n hx hb dModel_copy_24 rfl (lv_at hl 0 rfl) ?_
  refine md_gA S hC hM 11 (by decide) rfl qw_88b9028ba7 dModel_copy_25 ?_
  refine lv_iload_n hx hb dModel_copy_28 rfl (lv_at hl 2 rfl) ?_
  refine lv_aload_n hx hb dModel_copy_29 rfl (lv_at hl 0 rfl) ?_
  refine md_gA S hC hM 11 (by decide) rfl qw_88b9028ba7 dModel_copy_30 ?_
  refine lv_iload_n hx hb dModel_copy_33 rfl (lv_at hl 1 rfl) ?_
  refine md_zld S hC hM 11 7 10000 (F4 11) rfl rfl (by decide) rfl rfl (vin (by assumption) (by omega)) dModel_copy_34 ?_
  refine lv_topi (fun v5 ev5 => ?_)
  refine md_zstD S hC hM hS 11 7 10000 rfl rfl (by decide) rfl rfl (vin (by assumption) (by omega)) dModel_copy_35 (fun H locs hM hS => ?_)
  obtain ⟨F6, eF6⟩ : ∃ z : Nat → Nat → Int32, z = Au F4 11 x2.toNatClampNeg (vp_nar .boolean v5) := ⟨_, rfl⟩
  rw [← eF6] at hM
  refine lv_aload_n hx hb dModel_copy_36 rfl (lv_at hl 0 rfl) ?_
  refine md_gA S hC hM 12 (by decide) rfl qw_19df235c4a dModel_copy_37 ?_
  refine lv_iload_n hx hb dModel_copy_40 rfl (lv_at hl 2 rfl) ?_
  refine lv_aload_n hx hb dModel_copy_41 rfl (lv_at hl 0 rfl) ?_
  refine md_gA S hC hM 12 (by decide) rfl qw_19df235c4a dModel_copy_42 ?_
  refine lv_iload_n hx hb dModel_copy_45 rfl (lv_at hl 1 rfl) ?_
  refine md_ild S hC hM 12 8 10000 (F6 12) rfl rfl (by decide) rfl rfl (vin (by assumption) (by omega)) dModel_copy_46 ?_
  refine lv_topi (fun v7 ev7 => ?_)
  refine md_istD S hC hM hS 12 8 10000 rfl rfl (by decide) rfl rfl (vin (by assumption) (by omega)) dModel_copy_47 (fun H locs hM hS => ?_)
  obtain ⟨F8, eF8⟩ : ∃ z : Nat → Nat → Int32, z = Au F6 12 x2.toNatClampNeg v7 := ⟨_, rfl⟩
  rw [← eF8] at hM
  refine lv_aload_n hx hb dModel_copy_48 rfl (lv_at hl 0 rfl) ?_
  refine md_gA S hC hM 13 (by decide) rfl qw_7b809afc8c dModel_copy_49 ?_
  refine lv_iload_n hx hb dModel_copy_52 rfl (lv_at hl 2 rfl) ?_
  refine lv_aload_n hx hb dModel_copy_53 rfl (lv_at hl 0 rfl) ?_
  refine md_gA S hC hM 13 (by decide) rfl qw_7b809afc8c dModel_copy_54 ?_
  refine lv_iload_n hx hb dModel_copy_57 rfl (lv_at hl 1 rfl) ?_
  refine md_lld S hC hM (vin (by assumption) (by omega)) dModel_copy_58 ?_
  refine lv_topl (fun v9 ev9 => ?_)
  have ev9 : v9 = nu x1.toNatClampNeg := ev9
  refine md_lst S hC hM hS (vin (by assumption) (by omega)) dModel_copy_59 (fun H locs hM hS => ?_)
  obtain ⟨nu10, enu10⟩ : ∃ z : Nat → Int64, z = vp_updL nu x2.toNatClampNeg v9 := ⟨_, rfl⟩
  rw [← enu10] at hM
  have hE4 : EQ14 F8 F8 := EQ14.rf
  refine lv_iconst (v := 0) hx hb dModel_copy_60 (by decide) ?_
  refine lv_istore_n (lv' := [(3, .int 0), (0, .ref a), (1, .int x1), (2, .int x2)]) hx hb dModel_copy_61 rfl hl (by decide) rfl (fun ls hl => ?_)
  have J62 : ∀ (N62 : Nat) (ls : Array Slot) (H : Heap) (locs : List Loc) (F_62 : Nat → Nat → Int32) (i3_62 : Int32), MD γ a B Z ν τ σ F_62 nu10 H → va_S Z s.heap H locs → (EQ14 F8 F_62) → (¬ i3_62 < 0) → (Oq OUT (Q_copy_62 κ τ σ F nu x1 x2  (N62 + 1) F_62 i3_62)) → (2147483647 - i3_62.toInt).toNat = N62 → lv_has ls 4 [(0, .ref a), (1, .int x1), (2, .int x2), (3, .int i3_62)] → W p l e (bs_rm 1 0 0 23) s m args below meth c H locs 0 0 Q (F0 m 62 ls []) := by
    intro N62
    induction N62 using Nat.strongRecOn with
    | ind N62 ih62 =>
      intro ls H locs F_62 i3_62 hM hS hE4 hi3_62 hO hm62 hl
      refine lv_iload_n hx hb dModel_copy_62 rfl (lv_at hl 3 rfl) ?_
      refine lv_bipush (v := 64) hx hb dModel_copy_63 (by decide) ?_
      refine lv_icmp_ge (tgt := 86) hx hb dModel_copy_65 (by decide) (fun c11 => ?_) (fun c11 => ?_)
      · exact hE _ _ _ _ hS (by have h9 := slt_fact eF2 eF4 eF6 eF8 hE4 enu10; rw [ev1, ev3, ev9, au_10 eF2] at h9; exact ⟨F_62, nu10, (by subst enu10 ev9 eF8 ev7 eF6 ev5 eF4 ev3 eF2 ev1; exact hO.tr (if_pos c11)), hM, h9.1⟩) dModel_copy_86
      · have hin3 : vp_in i3_62 64 := in_cmp (by assumption) (by assumption) (by omega)
        refine lv_aload_n hx hb dModel_copy_68 rfl (lv_at hl 0 rfl) ?_
        refine lv_iload_n hx hb dModel_copy_69 rfl (lv_at hl 2 rfl) ?_
        refine lv_iload_n hx hb dModel_copy_70 rfl (lv_at hl 3 rfl) ?_
        refine lv_aload_n hx hb dModel_copy_71 rfl (lv_at hl 0 rfl) ?_
        refine lv_iload_n hx hb dModel_copy_72 rfl (lv_at hl 1 rfl) ?_
        refine lv_iload_n hx hb dModel_copy_73 rfl (lv_at hl 3 rfl) ?_
        refine pu_Vi (rest := [.int i3_62, .int x2, .ref a]) S hC (n_element l γ a B Z κ b mn ν τ σ F_62 nu10 hT x1 i3_62 (el_in (by assumption) (by assumption) (by omega))) meModel_element qw_ceb3d87d61 ⟨Nat.le_of_ble_eq_true rfl, Nat.le_of_ble_eq_true rfl⟩ (md_rv hC hM) hM rfl hl.1 rfl (Nat.le_of_ble_eq_true rfl) dModel_copy_74 ⟨Nat.zero_le _, Nat.zero_le _⟩ (fun r12 hr12 => ?_)
        obtain ⟨hr12, er12⟩ := hr12
        refine mu_Vv (rest := []) S hC (fun q h => hA q (Nat.le_trans hS.1 h)) (fun q h => h) hS (n_setElement l γ a B Z κ b mn ν τ σ F_62 nu10 hT x2 i3_62 r12 (el_in (by assumption) (by assumption) (by omega))) meModel_setElement qw_143403ccb9 ⟨Nat.le_of_ble_eq_true rfl, Nat.le_of_ble_eq_true rfl⟩ (md_rv hC hM) hM rfl hl.1 rfl (Nat.le_of_ble_eq_true rfl) dModel_copy_77 ⟨Nat.le_refl _, Nat.le_refl _⟩ (fun H locs hPO hS _ _ => ?_)
        obtain ⟨Fr13, eOr13, hM, hqr13⟩ := hPO
        have eFr13 : Fr13 = (Q_setElement κ τ σ F_62 nu10 x2 i3_62 r12).2.1 := by rw [eOr13.eq]
        clear eOr13
        have hE4 : EQ14 F8 Fr13 := hE4.trans hqr13
        obtain ⟨v14, ev14⟩ : ∃ y : Int32, y = i3_62 + 1 := ⟨_, rfl⟩
        refine lv_iinc (v := v14) (lv' := [(3, .int v14), (0, .ref a), (1, .int x1), (2, .int x2)]) hx hb dModel_copy_80 hl (k := 3) rfl (by rw [ev14]; rfl) (by decide) rfl (fun ls hl => ?_)
        refine lv_goto (tgt := 62) hx hb dModel_copy_83 (by decide) ?_
        exact ih62 _ (by have q1 : i3_62.toInt < 2147483647 := (by first | assumption | exact (mu_up (k := i3_62) (by assumption)).2); have q2 := mu_lt q1; rw [← ev14] at q2; omega) ls _ _ Fr13 v14 hM hS hE4 (by first | decide | exact nn_inc (by assumption) (by assumption) (by assumption)) (by have hN : N62 = (2147483647 - v14.toInt).toNat + 1 := (by have q1 : i3_62.toInt < 2147483647 := (by first | assumption | exact (mu_up (k := i3_62) (by assumption)).2); have q2 := mu_lt q1; rw [← ev14] at q2; omega); rw [← hN]; clear hN; subst ev14 eFr13 er12 enu10 ev9 eF8 ev7 eF6 ev5 eF4 ev3 eF2 ev1; exact hO.tr (if_neg c11)) rfl (lv_sub hl [1, 2, 3, 0] rfl)
  exact J62 _ ls _ _ F8 0 hM hS hE4 (by first | decide | exact nn_inc (by assumption) (by assumption) (by assumption)) (by subst enu10 ev9 eF8 ev7 eF6 ev5 eF4 ev3 eF2 ev1; exact hO.tr rfl) rfl (lv_sub hl [1, 2, 3, 0] rfl)
def Q_known_18 (κ : Nat → Nat) (τ : gf) (σ : Nat → Int32) (F : gf) (nu : gg) (x1 : Int32) : Nat → gf → Int32 → Int32 × (Nat → Int32) × gf × gg
  | 0, _, _ => default
  | n + 1, F_18, i2_18 => (if 64 ≤ i2_18 then (0, σ, F_18, (vp_updL nu x1.toNatClampNeg 0)) else (Q_known_18 κ τ σ F nu x1  n ((Q_setElement κ τ σ F_18 (vp_updL nu x1.toNatClampNeg 0) x1 i2_18 0).2.1) (i2_18 + 1)))
def Q_known (κ : Nat → Nat) (τ : gf) (σ : Nat → Int32) (F : gf) (nu : gg) (x1 : Int32) : Int32 × (Nat → Int32) × gf × gg := (if (F 11 x1.toNatClampNeg) = 0 then (Q_known_18 κ τ σ F nu x1  ((2147483647 - (0 : Int32).toInt).toNat + 1) F 0) else (0, σ, F, nu))
set_option maxHeartbeats 4000000 in
set_option maxRecDepth 100000 in
theorem n_known (l : Launch) (γ : gE) (a : Nat) (B : Nat → Nat) (Z : Nat → Prop) (κ b mn : Nat → Nat) (ν : Nat → Int32) (τ : Nat → Nat → Int32) (σ : Nat → Int32) (F : Nat → Nat → Int32) (nu : Nat → Int64) (hT : ST κ b mn ν τ) (x1 : Int32) (hx1 : vp_in x1 (4000)) : MU l yModel_known bModel_known 3 (some .int) 1 23 0 0 [.ref a, .int x1] γ Z (MD γ a B Z ν τ σ F nu) (mQi (fun r H => r = 0 ∧ ∃ (F' : Nat → Nat → Int32) (nu' : Nat → Int64), Oq (Q_known κ τ σ F nu x1) (r, σ, F', nu') ∧ MD γ a B Z ν τ σ F' nu' H ∧ EQ14 F F' ∧ (nu' = nu ∨ nu' = vp_updL nu x1.toNatClampNeg 0)) Z) := by
  refine mu_openI (by decide) (Nat.le_of_ble_eq_true rfl) ?_
  intro p e s m args below meth c ls Q S hnm hC hA hM hE hl
  have hS : va_S Z s.heap s.heap [] := va_S.rf
  obtain ⟨hx, hb, hml, hown, hW⟩ := id S
  obtain ⟨⟨hs0, hs1, hs2, hs3, hs4, hs5, hs6⟩, ⟨hv6, hv8, hv21, hv24, hv30, hv31⟩, hTR, hTY, hOB, hNM⟩ := id hT
  have hl : lv_has ls 3 [(0, .ref a), (1, .int x1)] := hl
  obtain ⟨OUT, hQ, hO⟩ : ∃ z, (z = Q_known κ τ σ F nu x1) ∧ Oq z (Q_known κ τ σ F nu x1) := ⟨_, rfl, rfl⟩
  rw [← hQ] at hE
  clear hQ
  have hE4 : EQ14 F F := EQ14.rf
  refine lv_aload_n hx hb dModel_known_0 rfl (lv_at hl 0 rfl) ?_
  refine md_gA S hC hM 11 (by decide) rfl qw_88b9028ba7 dModel_known_1 ?_
  refine lv_iload_n hx hb dModel_known_4 rfl (lv_at hl 1 rfl) ?_
  refine md_zld S hC hM 11 7 10000 (F 11) rfl rfl (by decide) rfl rfl (vin (by assumption) (by omega)) dModel_known_5 ?_
  refine lv_topi (fun v1 ev1 => ?_)
  refine lv_if_ne (tgt := 37) hx hb dModel_known_6 (by decide) (fun c2 => ?_) (fun c2 => ?_)
  · refine lv_iconst (v := 0) hx hb dModel_known_37 (by decide) ?_
    exact hE _ _ _ _ _ hS ⟨rfl, F, nu, (by subst ev1; exact hO.tr (if_neg c2)), hM, hE4, Or.inl rfl⟩ dModel_known_38
  · refine lv_aload_n hx hb dModel_known_9 rfl (lv_at hl 0 rfl) ?_
    refine md_gA S hC hM 13 (by decide) rfl qw_7b809afc8c dModel_known_10 ?_
    refine lv_iload_n hx hb dModel_known_13 rfl (lv_at hl 1 rfl) ?_
    refine lv_lconst (v := 0) hx hb dModel_known_14 (by decide) ?_
    refine md_lst S hC hM hS (vin (by assumption) (by omega)) dModel_known_15 (fun H locs hM hS => ?_)
    obtain ⟨nu3, enu3⟩ : ∃ z : Nat → Int64, z = vp_updL nu x1.toNatClampNeg 0 := ⟨_, rfl⟩
    rw [← enu3] at hM
    refine lv_iconst (v := 0) hx hb dModel_known_16 (by decide) ?_
    refine lv_istore_n (lv' := [(2, .int 0), (0, .ref a), (1, .int x1)]) hx hb dModel_known_17 rfl hl (by decide) rfl (fun ls hl => ?_)
    have J18 : ∀ (N18 : Nat) (ls : Array Slot) (H : Heap) (locs : List Loc) (F_18 : Nat → Nat → Int32) (i2_18 : Int32), MD γ a B Z ν τ σ F_18 nu3 H → va_S Z s.heap H locs → (EQ14 F F_18) → (¬ i2_18 < 0) → (Oq OUT (Q_known_18 κ τ σ F nu x1  (N18 + 1) F_18 i2_18)) → (2147483647 - i2_18.toInt).toNat = N18 → lv_has ls 3 [(0, .ref a), (1, .int x1), (2, .int i2_18)] → W p l e (bs_rm 1 0 0 23) s m args below meth c H locs 0 0 Q (F0 m 18 ls []) := by
      intro N18
      induction N18 using Nat.strongRecOn with
      | ind N18 ih18 =>
        intro ls H locs F_18 i2_18 hM hS hE4 hi2_18 hO hm18 hl
        refine lv_iload_n hx hb dModel_known_18 rfl (lv_at hl 2 rfl) ?_
        refine lv_bipush (v := 64) hx hb dModel_known_19 (by decide) ?_
        refine lv_icmp_ge (tgt := 37) hx hb dModel_known_21 (by decide) (fun c4 => ?_) (fun c4 => ?_)
        · refine lv_iconst (v := 0) hx hb dModel_known_37 (by decide) ?_
          exact hE _ _ _ _ _ hS ⟨rfl, F_18, nu3, (by subst enu3 ev1; exact hO.tr (if_pos c4)), hM, hE4, Or.inr enu3⟩ dModel_known_38
        · have hin2 : vp_in i2_18 64 := in_cmp (by assumption) (by assumption) (by omega)
          refine lv_aload_n hx hb dModel_known_24 rfl (lv_at hl 0 rfl) ?_
          refine lv_iload_n hx hb dModel_known_25 rfl (lv_at hl 1 rfl) ?_
          refine lv_iload_n hx hb dModel_known_26 rfl (lv_at hl 2 rfl) ?_
          refine lv_iconst (v := 0) hx hb dModel_known_27 (by decide) ?_
          refine mu_Vv (rest := []) S hC (fun q h => hA q (Nat.le_trans hS.1 h)) (fun q h => h) hS (n_setElement l γ a B Z κ b mn ν τ σ F_18 nu3 hT x1 i2_18 0 (el_in (by assumption) (by assumption) (by omega))) meModel_setElement qw_143403ccb9 ⟨Nat.le_of_ble_eq_true rfl, Nat.le_of_ble_eq_true rfl⟩ (md_rv hC hM) hM rfl hl.1 rfl (Nat.le_of_ble_eq_true rfl) dModel_known_28 ⟨Nat.le_refl _, Nat.le_refl _⟩ (fun H locs hPO hS _ _ => ?_)
          obtain ⟨Fr5, eOr5, hM, hqr5⟩ := hPO
          have eFr5 : Fr5 = (Q_setElement κ τ σ F_18 nu3 x1 i2_18 0).2.1 := by rw [eOr5.eq]
          clear eOr5
          have hE4 : EQ14 F Fr5 := hE4.trans hqr5
          obtain ⟨v6, ev6⟩ : ∃ y : Int32, y = i2_18 + 1 := ⟨_, rfl⟩
          refine lv_iinc (v := v6) (lv' := [(2, .int v6), (0, .ref a), (1, .int x1)]) hx hb dModel_known_31 hl (k := 2) rfl (by rw [ev6]; rfl) (by decide) rfl (fun ls hl => ?_)
          refine lv_goto (tgt := 18) hx hb dModel_known_34 (by decide) ?_
          exact ih18 _ (by have q1 : i2_18.toInt < 2147483647 := (by first | assumption | exact (mu_up (k := i2_18) (by assumption)).2); have q2 := mu_lt q1; rw [← ev6] at q2; omega) ls _ _ Fr5 v6 hM hS hE4 (by first | decide | exact nn_inc (by assumption) (by assumption) (by assumption)) (by have hN : N18 = (2147483647 - v6.toInt).toNat + 1 := (by have q1 : i2_18.toInt < 2147483647 := (by first | assumption | exact (mu_up (k := i2_18) (by assumption)).2); have q2 := mu_lt q1; rw [← ev6] at q2; omega); rw [← hN]; clear hN; subst ev6 eFr5 enu3 ev1; exact hO.tr (if_neg c4)) rfl (lv_sub hl [1, 2, 0] rfl)
    exact J18 _ ls _ _ F 0 hM hS hE4 (by first | decide | exact nn_inc (by assumption) (by assumption) (by assumption)) (by subst enu3 ev1; exact hO.tr (if_pos c2)) rfl (lv_sub hl [1, 2, 0] rfl)
def Q_factOfType_42 (κ : Nat → Nat) (τ : gf) (σ : Nat → Int32) (F : gf) (nu : gg) (x1 : Int32) (x2 : Int32) (t0_42 : Int32) : (Nat → Int32) × gf × gg := (σ, ((Q_fact κ τ σ F nu x1 (τ 16 x2.toNatClampNeg) t0_42 0).2.1), ((Q_fact κ τ σ F nu x1 (τ 16 x2.toNatClampNeg) t0_42 0).2.2))
def Q_factOfType (κ : Nat → Nat) (τ : gf) (σ : Nat → Int32) (F : gf) (nu : gg) (x1 : Int32) (x2 : Int32) : (Nat → Int32) × gf × gg := (if (τ 16 x2.toNatClampNeg) = 3 then (Q_factOfType_42 κ τ σ F nu x1 x2  (τ 19 x2.toNatClampNeg)) else (if (τ 16 x2.toNatClampNeg) = 4 then (Q_factOfType_42 κ τ σ F nu x1 x2  x2) else (Q_factOfType_42 κ τ σ F nu x1 x2  0)))
set_option maxHeartbeats 4000000 in
set_option maxRecDepth 100000 in
theorem n_factOfType (l : Launch) (γ : gE) (a : Nat) (B : Nat → Nat) (Z : Nat → Prop) (κ b mn : Nat → Nat) (ν : Nat → Int32) (τ : Nat → Nat → Int32) (σ : Nat → Int32) (F : Nat → Nat → Int32) (nu : Nat → Int64) (hT : ST κ b mn ν τ) (x1 : Int32) (x2 : Int32) (hx1 : vp_in x1 (10000)) (hx2 : vp_in x2 (1000)) : MU l yModel_factOfType bModel_factOfType 3 (none) 2 48 0 0 [.ref a, .int x1, .int x2] γ Z (MD γ a B Z ν τ σ F nu) (mQv (fun H => ∃ (F' : Nat → Nat → Int32) (nu' : Nat → Int64) (c n : Int32), Oq (Q_factOfType κ τ σ F nu x1 x2) (σ, F', nu') ∧ MD γ a B Z ν τ σ F' nu' H ∧ SLT x1.toNatClampNeg c n 0 F nu F' nu' ∧ ∃ j, j ≤ 1000 ∧ n = nI j) Z) := by
  refine mu_openV (by decide) (Nat.le_of_ble_eq_true rfl) ?_
  intro p e s m args below meth c ls Q S hnm hC hA hM hE hl
  have hS : va_S Z s.heap s.heap [] := va_S.rf
  obtain ⟨hx, hb, hml, hown, hW⟩ := id S
  obtain ⟨⟨hs0, hs1, hs2, hs3, hs4, hs5, hs6⟩, ⟨hv6, hv8, hv21, hv24, hv30, hv31⟩, hTR, hTY, hOB, hNM⟩ := id hT
  have hl : lv_has ls 3 [(0, .ref a), (1, .int x1), (2, .int x2)] := hl
  obtain ⟨OUT, hQ, hO⟩ : ∃ z, (z = Q_factOfType κ τ σ F nu x1 x2) ∧ Oq z (Q_factOfType κ τ σ F nu x1 x2) := ⟨_, rfl, rfl⟩
  rw [← hQ] at hE
  clear hQ
  refine lv_aload_n hx hb dModel_factOfType_0 rfl (lv_at hl 0 rfl) ?_
  refine lv_iload_n hx hb dModel_factOfType_1 rfl (lv_at hl 1 rfl) ?_
  refine lv_aload_n hx hb dModel_factOfType_2 rfl (lv_at hl 0 rfl) ?_
  refine md_gA S hC hM 16 (by decide) rfl qw_9bd8ea24bb dModel_factOfType_3 ?_
  refine lv_iload_n hx hb dModel_factOfType_6 rfl (lv_at hl 2 rfl) ?_
  refine md_ild S hC hM 16 12 1000 (τ 16) rfl rfl (by decide) rfl rfl (vin (by assumption) (by omega)) dModel_factOfType_7 ?_
  refine lv_topi (fun v1 ev1 => ?_)
  refine lv_aload_n hx hb dModel_factOfType_8 rfl (lv_at hl 0 rfl) ?_
  refine md_gA S hC hM 16 (by decide) rfl qw_9bd8ea24bb dModel_factOfType_9 ?_
  refine lv_iload_n hx hb dModel_factOfType_12 rfl (lv_at hl 2 rfl) ?_
  refine md_ild S hC hM 16 12 1000 (τ 16) rfl rfl (by decide) rfl rfl (vin (by assumption) (by omega)) dModel_factOfType_13 ?_
  refine lv_topi (fun v2 ev2 => ?_)
  refine lv_iconst (v := 3) hx hb dModel_factOfType_14 (by decide) ?_
  have J42 : ∀ (ls : Array Slot) (t0_42 : Int32), (∃ j, j ≤ 1000 ∧ t0_42 = nI j) → (Oq OUT (Q_factOfType_42 κ τ σ F nu x1 x2   t0_42)) → lv_has ls 3 [(0, .ref a), (1, .int x1), (2, .int x2)] → W p l e (bs_rm 2 0 0 48) s m args below meth c s.heap [] 0 0 Q (F0 m 42 ls [.int t0_42, .int v1, .int x1, .ref a]) := by
    intro ls t0_42 ht0_42 hO hl
    refine lv_iconst (v := 0) hx hb dModel_factOfType_42 (by decide) ?_
    have hnr8 : ∃ j, j ≤ 1000 ∧ t0_42 = nI j := ht0_42
    refine mu_Vv (rest := []) S hC (fun q h => hA q (Nat.le_trans hS.1 h)) (fun q h => h) hS (n_fact l γ a B Z κ b mn ν τ σ F nu hT x1 v1 t0_42 0 (vin (by assumption) (by omega)) hnr8) meModel_fact qw_02871250ec ⟨Nat.le_of_ble_eq_true rfl, Nat.le_of_ble_eq_true rfl⟩ (md_rv hC hM) hM rfl hl.1 rfl (Nat.le_of_ble_eq_true rfl) dModel_factOfType_43 ⟨Nat.le_refl _, Nat.le_refl _⟩ (fun H locs hPO hS _ _ => ?_)
    obtain ⟨Fr8, nur8, eOr8, hM, hqr8, hcr8⟩ := hPO
    have eFr8 : Fr8 = (Q_fact κ τ σ F nu x1 v1 t0_42 0).2.1 := by rw [eOr8.eq]
    have enur8 : nur8 = (Q_fact κ τ σ F nu x1 v1 t0_42 0).2.2 := by rw [eOr8.eq]
    clear eOr8
    exact hE _ _ _ _ hS ⟨Fr8, nur8, _, _, (by subst enur8 eFr8 ev2 ev1; exact hO.tr rfl), hM, hqr8, ht0_42⟩ dModel_factOfType_46
  refine lv_icmp_ne (tgt := 27) hx hb dModel_factOfType_15 (by decide) (fun c9 => ?_) (fun c9 => ?_)
  · refine lv_aload_n hx hb dModel_factOfType_27 rfl (lv_at hl 0 rfl) ?_
    refine md_gA S hC hM 16 (by decide) rfl qw_9bd8ea24bb dModel_factOfType_28 ?_
    refine lv_iload_n hx hb dModel_factOfType_31 rfl (lv_at hl 2 rfl) ?_
    refine md_ild S hC hM 16 12 1000 (τ 16) rfl rfl (by decide) rfl rfl (vin (by assumption) (by omega)) dModel_factOfType_32 ?_
    refine lv_topi (fun v10 ev10 => ?_)
    refine lv_iconst (v := 4) hx hb dModel_factOfType_33 (by decide) ?_
    refine lv_icmp_ne (tgt := 41) hx hb dModel_factOfType_34 (by decide) (fun c11 => ?_) (fun c11 => ?_)
    · refine lv_iconst (v := 0) hx hb dModel_factOfType_41 (by decide) ?_
      exact J42 ls 0 (by first | exact ⟨0, by omega, rfl⟩ | exact ⟨_, Nat.le_of_lt (vix hx2), vnI hx2⟩ | exact ft_row hTY hx2 (by assumption) (by assumption) (by assumption)) (by subst ev10 ev2 ev1; exact hO.tr ((if_neg c9).trans (if_neg c11))) (lv_sub hl [0, 1, 2] rfl)
    · refine lv_iload_n hx hb dModel_factOfType_37 rfl (lv_at hl 2 rfl) ?_
      refine lv_goto (tgt := 42) hx hb dModel_factOfType_38 (by decide) ?_
      exact J42 ls x2 (by first | exact ⟨0, by omega, rfl⟩ | exact ⟨_, Nat.le_of_lt (vix hx2), vnI hx2⟩ | exact ft_row hTY hx2 (by assumption) (by assumption) (by assumption)) (by subst ev10 ev2 ev1; exact hO.tr ((if_neg c9).trans (if_pos c11))) (lv_sub hl [0, 1, 2] rfl)
  · refine lv_aload_n hx hb dModel_factOfType_18 rfl (lv_at hl 0 rfl) ?_
    refine md_gA S hC hM 19 (by decide) rfl qw_c139dbceda dModel_factOfType_19 ?_
    refine lv_iload_n hx hb dModel_factOfType_22 rfl (lv_at hl 2 rfl) ?_
    refine md_ild S hC hM 19 15 1000 (τ 19) rfl rfl (by decide) rfl rfl (vin (by assumption) (by omega)) dModel_factOfType_23 ?_
    refine lv_topi (fun v12 ev12 => ?_)
    refine lv_goto (tgt := 42) hx hb dModel_factOfType_24 (by decide) ?_
    exact J42 ls v12 (by first | exact ⟨0, by omega, rfl⟩ | exact ⟨_, Nat.le_of_lt (vix hx2), vnI hx2⟩ | exact ft_row hTY hx2 (by assumption) (by assumption) (by assumption)) (by subst ev12 ev2 ev1; exact hO.tr (if_pos c9)) (lv_sub hl [0, 1, 2] rfl)
def Q_find_148 (κ : Nat → Nat) (τ : gf) (σ : Nat → Int32) (F : gf) (nu : gg) (x1 : Int32) (t0_41 : Int32) (t0_90 : Int32) (σ_100 : gs) (i2_100 : Int32) (k100 : gs → Int32 → (Nat → Int32) × gf × gg) (σ_148 : gs) : (Nat → Int32) × gf × gg := (k100 σ_148 (i2_100 + 1))
def Q_find_100 (κ : Nat → Nat) (τ : gf) (σ : Nat → Int32) (F : gf) (nu : gg) (x1 : Int32) (t0_41 : Int32) (t0_90 : Int32) : Nat → gs → Int32 → (Nat → Int32) × gf × gg
  | 0, _, _ => default
  | n + 1, σ_100, i2_100 => (if (nI (κ 4)) ≤ i2_100 then (σ_100, F, nu) else (if (τ 25 i2_100.toNatClampNeg) = x1 then (Q_find_148 κ τ σ F nu x1 t0_41 t0_90 σ_100 i2_100 (fun a0 a1 => Q_find_100 κ τ σ F nu x1 t0_41 t0_90  n a0 a1) (upd (upd (upd σ_100 32 (τ 26 i2_100.toNatClampNeg)) 33 (τ 27 i2_100.toNatClampNeg)) 34 (τ 28 i2_100.toNatClampNeg))) else (Q_find_148 κ τ σ F nu x1 t0_41 t0_90 σ_100 i2_100 (fun a0 a1 => Q_find_100 κ τ σ F nu x1 t0_41 t0_90  n a0 a1) σ_100)))
def Q_find_90 (κ : Nat → Nat) (τ : gf) (σ : Nat → Int32) (F : gf) (nu : gg) (x1 : Int32) (t0_41 : Int32) (t0_90 : Int32) : (Nat → Int32) × gf × gg := (Q_find_100 κ τ σ F nu x1 t0_41 t0_90  ((2147483647 - (0 : Int32).toInt).toNat + 1) (upd (upd (upd σ 32 t0_41) 33 t0_90) 34 0) 0)
def Q_find_41 (κ : Nat → Nat) (τ : gf) (σ : Nat → Int32) (F : gf) (nu : gg) (x1 : Int32) (t0_41 : Int32) : (Nat → Int32) × gf × gg := (if x1 = 0 then (Q_find_90 κ τ σ F nu x1 t0_41  2) else (if x1 = 1 then (Q_find_90 κ τ σ F nu x1 t0_41  3) else (if x1 = 2 then (Q_find_90 κ τ σ F nu x1 t0_41  4) else (if x1 = 3 then (Q_find_90 κ τ σ F nu x1 t0_41  1) else (if x1 = 4 then (Q_find_90 κ τ σ F nu x1 t0_41  0) else (Q_find_90 κ τ σ F nu x1 t0_41  x1))))))
def Q_find (κ : Nat → Nat) (τ : gf) (σ : Nat → Int32) (F : gf) (nu : gg) (x1 : Int32) : (Nat → Int32) × gf × gg := (if 5 ≤ x1 then (if x1 = 5 then (Q_find_41 κ τ σ F nu x1  6) else (if 8 ≤ x1 then (if 12 ≤ x1 then (Q_find_41 κ τ σ F nu x1  5) else (Q_find_41 κ τ σ F nu x1  4)) else (Q_find_41 κ τ σ F nu x1  3))) else (Q_find_41 κ τ σ F nu x1  0))
set_option maxHeartbeats 4000000 in
set_option maxRecDepth 100000 in
theorem n_find (l : Launch) (γ : gE) (a : Nat) (B : Nat → Nat) (Z : Nat → Prop) (κ b mn : Nat → Nat) (ν : Nat → Int32) (τ : Nat → Nat → Int32) (σ : Nat → Int32) (F : Nat → Nat → Int32) (nu : Nat → Int64) (hT : ST κ b mn ν τ) (x1 : Int32)  : MU l yModel_find bModel_find 3 (none) 0 0 0 0 [.ref a, .int x1] γ Z (MD γ a B Z ν τ σ F nu) (mQv (fun H => ∃ σ' : Nat → Int32, Oq (Q_find κ τ σ F nu x1) (σ', F, nu) ∧ MD γ a B Z ν τ σ' F nu H ∧ FD σ') Z) := by
  refine mu_openV (by decide) (Nat.le_of_ble_eq_true rfl) ?_
  intro p e s m args below meth c ls Q S hnm hC hA hM hE hl
  have hS : va_S Z s.heap s.heap [] := va_S.rf
  obtain ⟨hx, hb, hml, hown, hW⟩ := id S
  obtain ⟨⟨hs0, hs1, hs2, hs3, hs4, hs5, hs6⟩, ⟨hv6, hv8, hv21, hv24, hv30, hv31⟩, hTR, hTY, hOB, hNM⟩ := id hT
  have hl : lv_has ls 3 [(0, .ref a), (1, .int x1)] := hl
  obtain ⟨OUT, hQ, hO⟩ : ∃ z, (z = Q_find κ τ σ F nu x1) ∧ Oq z (Q_find κ τ σ F nu x1) := ⟨_, rfl, rfl⟩
  rw [← hQ] at hE
  clear hQ
  refine lv_aload_n hx hb dModel_find_0 rfl (lv_at hl 0 rfl) ?_
  refine lv_iload_n hx hb dModel_find_1 rfl (lv_at hl 1 rfl) ?_
  refine lv_iconst (v := 5) hx hb dModel_find_2 (by decide) ?_
  have J41 : ∀ (ls : Array Slot) (t0_41 : Int32), (¬ t0_41 = 1 ∧ ¬ t0_41 = 2 ∧ (t0_41 = 4 → ¬ 12 ≤ x1)) → (Oq OUT (Q_find_41 κ τ σ F nu x1   t0_41)) → lv_has ls 3 [(0, .ref a), (1, .int x1)] → W p l e (bs_rm 0 0 0 0) s m args below meth c s.heap [] 0 0 Q (F0 m 41 ls [.int t0_41, .ref a]) := by
    intro ls t0_41 ht0_41 hO hl
    refine md_pD S hC hM hS 32 rfl (by decide) rfl qw_9d5e299446 rfl (by decide +kernel) dModel_find_41 (fun H locs hM hS => ?_)
    obtain ⟨σ24, eσ24⟩ : ∃ z : Nat → Int32, z = upd σ 32 t0_41 := ⟨_, rfl⟩
    rw [← eσ24] at hM
    refine lv_aload_n hx hb dModel_find_44 rfl (lv_at hl 0 rfl) ?_
    refine lv_iload_n hx hb dModel_find_45 rfl (lv_at hl 1 rfl) ?_
    have J90 : ∀ (ls : Array Slot) (t0_90 : Int32), (t0_90 = x1 ∨ ¬ 11 < t0_90) → (Oq OUT (Q_find_90 κ τ σ F nu x1 t0_41   t0_90)) → lv_has ls 3 [(0, .ref a), (1, .int x1)] → W p l e (bs_rm 0 0 0 0) s m args below meth c H locs 0 0 Q (F0 m 90 ls [.int t0_90, .ref a]) := by
      intro ls t0_90 ht0_90 hO hl
      refine md_pD S hC hM hS 33 rfl (by decide) rfl qw_c60a40a4a7 rfl (by decide +kernel) dModel_find_90 (fun H locs hM hS => ?_)
      obtain ⟨σ43, eσ43⟩ : ∃ z : Nat → Int32, z = upd σ24 33 t0_90 := ⟨_, rfl⟩
      rw [← eσ43] at hM
      refine lv_aload_n hx hb dModel_find_93 rfl (lv_at hl 0 rfl) ?_
      refine lv_iconst (v := 0) hx hb dModel_find_94 (by decide) ?_
      refine md_pD S hC hM hS 34 rfl (by decide) rfl qw_6a7082029c rfl (by decide +kernel) dModel_find_95 (fun H locs hM hS => ?_)
      obtain ⟨σ44, eσ44⟩ : ∃ z : Nat → Int32, z = upd σ43 34 0 := ⟨_, rfl⟩
      rw [← eσ44] at hM
      refine lv_iconst (v := 0) hx hb dModel_find_98 (by decide) ?_
      refine lv_istore_n (lv' := [(2, .int 0), (0, .ref a), (1, .int x1)]) hx hb dModel_find_99 rfl hl (by decide) rfl (fun ls hl => ?_)
      have J100 : ∀ (N100 : Nat) (ls : Array Slot) (H : Heap) (locs : List Loc) (σ_100 : Nat → Int32) (i2_100 : Int32), MD γ a B Z ν τ σ_100 F nu H → va_S Z s.heap H locs → (¬ i2_100 < 0) → (FD σ_100) → (Oq OUT (Q_find_100 κ τ σ F nu x1 t0_41 t0_90  (N100 + 1) σ_100 i2_100)) → (2147483647 - i2_100.toInt).toNat = N100 → lv_has ls 3 [(0, .ref a), (1, .int x1), (2, .int i2_100)] → W p l e (bs_rm 0 0 0 0) s m args below meth c H locs 0 0 Q (F0 m 100 ls []) := by
        intro N100
        induction N100 using Nat.strongRecOn with
        | ind N100 ih100 =>
          intro ls H locs σ_100 i2_100 hM hS hi2_100 hF hO hm100 hl
          refine lv_iload_n hx hb dModel_find_100 rfl (lv_at hl 2 rfl) ?_
          refine lv_aload_n hx hb dModel_find_101 rfl (lv_at hl 0 rfl) ?_
          refine md_gI S hC hM 30 (v := nI (κ 4)) hv30 (by decide) rfl qw_8d5d48b583 dModel_find_102 ?_
          refine lv_topi (fun v45 ev45 => ?_)
          refine lv_icmp_ge (tgt := 154) hx hb dModel_find_105 (by decide) (fun c46 => ?_) (fun c46 => ?_)
          · exact hE _ _ _ _ hS ⟨σ_100, (by subst ev45 eσ44 eσ43 eσ24; exact hO.tr (if_pos c46)), hM, hF⟩ dModel_find_154
          · have hin2 : vp_in i2_100 (κ 4) := vcmp (by assumption) (by assumption) (by assumption) (by omega)
            refine lv_aload_n hx hb dModel_find_108 rfl (lv_at hl 0 rfl) ?_
            refine md_gA S hC hM 25 (by decide) rfl qw_0f8ce80864 dModel_find_109 ?_
            refine lv_iload_n hx hb dModel_find_112 rfl (lv_at hl 2 rfl) ?_
            refine md_ild S hC hM 25 19 3000 (τ 25) rfl rfl (by decide) rfl rfl (vin (by assumption) (by omega)) dModel_find_113 ?_
            refine lv_topi (fun v47 ev47 => ?_)
            refine lv_iload_n hx hb dModel_find_114 rfl (lv_at hl 1 rfl) ?_
            have J148 : ∀ (ls : Array Slot) (H : Heap) (locs : List Loc) (σ_148 : Nat → Int32), MD γ a B Z ν τ σ_148 F nu H → va_S Z s.heap H locs → (FD σ_148) → (Oq OUT (Q_find_148 κ τ σ F nu x1 t0_41 t0_90 σ_100 i2_100 (fun a0 a1 => Q_find_100 κ τ σ F nu x1 t0_41 t0_90  N100 a0 a1)  σ_148)) → lv_has ls 3 [(0, .ref a), (1, .int x1), (2, .int i2_100)] → W p l e (bs_rm 0 0 0 0) s m args below meth c H locs 0 0 Q (F0 m 148 ls []) := by
              intro ls H locs σ_148 hM hS hF hO hl
              obtain ⟨v56, ev56⟩ : ∃ y : Int32, y = i2_100 + 1 := ⟨_, rfl⟩
              refine lv_iinc (v := v56) (lv' := [(2, .int v56), (0, .ref a), (1, .int x1)]) hx hb dModel_find_148 hl (k := 2) rfl (by rw [ev56]; rfl) (by decide) rfl (fun ls hl => ?_)
              refine lv_goto (tgt := 100) hx hb dModel_find_151 (by decide) ?_
              exact ih100 _ (by have q1 : i2_100.toInt < 2147483647 := (by first | assumption | exact (mu_up (k := i2_100) (by assumption)).2); have q2 := mu_lt q1; rw [← ev56] at q2; omega) ls _ _ σ_148 v56 hM hS (by first | decide | exact nn_inc (by assumption) (by assumption) (by assumption)) hF (by have hN : N100 = (2147483647 - v56.toInt).toNat + 1 := (by have q1 : i2_100.toInt < 2147483647 := (by first | assumption | exact (mu_up (k := i2_100) (by assumption)).2); have q2 := mu_lt q1; rw [← ev56] at q2; omega); rw [← hN]; clear hN; subst ev56 ev47 ev45 eσ44 eσ43 eσ24; exact hO.tr rfl) rfl (lv_sub hl [1, 2, 0] rfl)
            refine lv_icmp_ne (tgt := 148) hx hb dModel_find_115 (by decide) (fun c57 => ?_) (fun c57 => ?_)
            · exact J148 ls _ _ σ_100 hM hS (by first | assumption | exact fd_nm hNM (vix (vin hin2 (by omega))) ev49 ev51 eσ50 eσ52 eσ_100) (by subst ev47 ev45 eσ44 eσ43 eσ24; exact hO.tr ((if_neg c46).trans (if_neg c57))) (lv_sub hl [0, 1, 2] rfl)
            · refine lv_aload_n hx hb dModel_find_118 rfl (lv_at hl 0 rfl) ?_
              refine lv_aload_n hx hb dModel_find_119 rfl (lv_at hl 0 rfl) ?_
              refine md_gA S hC hM 26 (by decide) rfl qw_e95de6bb1e dModel_find_120 ?_
              refine lv_iload_n hx hb dModel_find_123 rfl (lv_at hl 2 rfl) ?_
              refine md_ild S hC hM 26 20 3000 (τ 26) rfl rfl (by decide) rfl rfl (vin (by assumption) (by omega)) dModel_find_124 ?_
              refine lv_topi (fun v58 ev58 => ?_)
              refine md_pD S hC hM hS 32 rfl (by decide) rfl qw_9d5e299446 rfl (by decide +kernel) dModel_find_125 (fun H locs hM hS => ?_)
              obtain ⟨σ59, eσ59⟩ : ∃ z : Nat → Int32, z = upd σ_100 32 v58 := ⟨_, rfl⟩
              rw [← eσ59] at hM
              refine lv_aload_n hx hb dModel_find_128 rfl (lv_at hl 0 rfl) ?_
              refine lv_aload_n hx hb dModel_find_129 rfl (lv_at hl 0 rfl) ?_
              refine md_gA S hC hM 27 (by decide) rfl qw_5b2f86bc41 dModel_find_130 ?_
              refine lv_iload_n hx hb dModel_find_133 rfl (lv_at hl 2 rfl) ?_
              refine md_ild S hC hM 27 21 3000 (τ 27) rfl rfl (by decide) rfl rfl (vin (by assumption) (by omega)) dModel_find_134 ?_
              refine lv_topi (fun v60 ev60 => ?_)
              refine md_pD S hC hM hS 33 rfl (by decide) rfl qw_c60a40a4a7 rfl (by decide +kernel) dModel_find_135 (fun H locs hM hS => ?_)
              obtain ⟨σ61, eσ61⟩ : ∃ z : Nat → Int32, z = upd σ59 33 v60 := ⟨_, rfl⟩
              rw [← eσ61] at hM
              refine lv_aload_n hx hb dModel_find_138 rfl (lv_at hl 0 rfl) ?_
              refine lv_aload_n hx hb dModel_find_139 rfl (lv_at hl 0 rfl) ?_
              refine md_gA S hC hM 28 (by decide) rfl qw_73fdadc701 dModel_find_140 ?_
              refine lv_iload_n hx hb dModel_find_143 rfl (lv_at hl 2 rfl) ?_
              refine md_ild S hC hM 28 22 3000 (τ 28) rfl rfl (by decide) rfl rfl (vin (by assumption) (by omega)) dModel_find_144 ?_
              refine lv_topi (fun v62 ev62 => ?_)
              refine md_pD S hC hM hS 34 rfl (by decide) rfl qw_6a7082029c rfl (by decide +kernel) dModel_find_145 (fun H locs hM hS => ?_)
              obtain ⟨σ63, eσ63⟩ : ∃ z : Nat → Int32, z = upd σ61 34 v62 := ⟨_, rfl⟩
              rw [← eσ63] at hM
              exact J148 ls _ _ σ63 hM hS (by first | assumption | exact fd_nm hNM (vix (vin hin2 (by omega))) ev58 ev60 eσ59 eσ61 eσ63) (by subst eσ63 ev62 eσ61 ev60 eσ59 ev58 ev47 ev45 eσ44 eσ43 eσ24; exact hO.tr ((if_neg c46).trans (if_pos c57))) (lv_sub hl [0, 1, 2] rfl)
      exact J100 _ ls _ _ σ44 0 hM hS (by first | decide | exact nn_inc (by assumption) (by assumption) (by assumption)) (fd_3 eσ24 eσ43 eσ44 ht0_41 ht0_90) (by subst eσ44 eσ43 eσ24; exact hO.tr rfl) rfl (lv_sub hl [1, 2, 0] rfl)
    refine lv_if_ne (tgt := 53) hx hb dModel_find_46 (by decide) (fun c64 => ?_) (fun c64 => ?_)
    · refine lv_iload_n hx hb dModel_find_53 rfl (lv_at hl 1 rfl) ?_
      refine lv_iconst (v := 1) hx hb dModel_find_54 (by decide) ?_
      refine lv_icmp_ne (tgt := 62) hx hb dModel_find_55 (by decide) (fun c65 => ?_) (fun c65 => ?_)
      · refine lv_iload_n hx hb dModel_find_62 rfl (lv_at hl 1 rfl) ?_
        refine lv_iconst (v := 2) hx hb dModel_find_63 (by decide) ?_
        refine lv_icmp_ne (tgt := 71) hx hb dModel_find_64 (by decide) (fun c66 => ?_) (fun c66 => ?_)
        · refine lv_iload_n hx hb dModel_find_71 rfl (lv_at hl 1 rfl) ?_
          refine lv_iconst (v := 3) hx hb dModel_find_72 (by decide) ?_
          refine lv_icmp_ne (tgt := 80) hx hb dModel_find_73 (by decide) (fun c67 => ?_) (fun c67 => ?_)
          · refine lv_iload_n hx hb dModel_find_80 rfl (lv_at hl 1 rfl) ?_
            refine lv_iconst (v := 4) hx hb dModel_find_81 (by decide) ?_
            refine lv_icmp_ne (tgt := 89) hx hb dModel_find_82 (by decide) (fun c68 => ?_) (fun c68 => ?_)
            · refine lv_iload_n hx hb dModel_find_89 rfl (lv_at hl 1 rfl) ?_
              exact J90 ls x1 (by first | exact Or.inl rfl | exact Or.inr (by decide)) (by subst eσ24; exact hO.tr ((if_neg c64).trans ((if_neg c65).trans ((if_neg c66).trans ((if_neg c67).trans (if_neg c68)))))) (lv_sub hl [0, 1] rfl)
            · refine lv_iconst (v := 0) hx hb dModel_find_85 (by decide) ?_
              refine lv_goto (tgt := 90) hx hb dModel_find_86 (by decide) ?_
              exact J90 ls 0 (by first | exact Or.inl rfl | exact Or.inr (by decide)) (by subst eσ24; exact hO.tr ((if_neg c64).trans ((if_neg c65).trans ((if_neg c66).trans ((if_neg c67).trans (if_pos c68)))))) (lv_sub hl [0, 1] rfl)
          · refine lv_iconst (v := 1) hx hb dModel_find_76 (by decide) ?_
            refine lv_goto (tgt := 90) hx hb dModel_find_77 (by decide) ?_
            exact J90 ls 1 (by first | exact Or.inl rfl | exact Or.inr (by decide)) (by subst eσ24; exact hO.tr ((if_neg c64).trans ((if_neg c65).trans ((if_neg c66).trans (if_pos c67))))) (lv_sub hl [0, 1] rfl)
        · refine lv_iconst (v := 4) hx hb dModel_find_67 (by decide) ?_
          refine lv_goto (tgt := 90) hx hb dModel_find_68 (by decide) ?_
          exact J90 ls 4 (by first | exact Or.inl rfl | exact Or.inr (by decide)) (by subst eσ24; exact hO.tr ((if_neg c64).trans ((if_neg c65).trans (if_pos c66)))) (lv_sub hl [0, 1] rfl)
      · refine lv_iconst (v := 3) hx hb dModel_find_58 (by decide) ?_
        refine lv_goto (tgt := 90) hx hb dModel_find_59 (by decide) ?_
        exact J90 ls 3 (by first | exact Or.inl rfl | exact Or.inr (by decide)) (by subst eσ24; exact hO.tr ((if_neg c64).trans (if_pos c65))) (lv_sub hl [0, 1] rfl)
    · refine lv_iconst (v := 2) hx hb dModel_find_49 (by decide) ?_
      refine lv_goto (tgt := 90) hx hb dModel_find_50 (by decide) ?_
      exact J90 ls 2 (by first | exact Or.inl rfl | exact Or.inr (by decide)) (by subst eσ24; exact hO.tr (if_pos c64)) (lv_sub hl [0, 1] rfl)
  refine lv_icmp_ge (tgt := 10) hx hb dModel_find_3 (by decide) (fun c69 => ?_) (fun c69 => ?_)
  · refine lv_iload_n hx hb dModel_find_10 rfl (lv_at hl 1 rfl) ?_
    refine lv_iconst (v := 5) hx hb dModel_find_11 (by decide) ?_
    refine lv_icmp_ne (tgt := 20) hx hb dModel_find_12 (by decide) (fun c70 => ?_) (fun c70 => ?_)
    · refine lv_iload_n hx hb dModel_find_20 rfl (lv_at hl 1 rfl) ?_
      refine lv_bipush (v := 8) hx hb dModel_find_21 (by decide) ?_
      refine lv_icmp_ge (tgt := 30) hx hb dModel_find_23 (by decide) (fun c71 => ?_) (fun c71 => ?_)
      · refine lv_iload_n hx hb dModel_find_30 rfl (lv_at hl 1 rfl) ?_
        refine lv_bipush (v := 12) hx hb dModel_find_31 (by decide) ?_
        refine lv_icmp_ge (tgt := 40) hx hb dModel_find_33 (by decide) (fun c72 => ?_) (fun c72 => ?_)
        · refine lv_iconst (v := 5) hx hb dModel_find_40 (by decide) ?_
          exact J41 ls 5 (by first | decide | exact ⟨by decide, by decide, fun _ => by assumption⟩ | exact ⟨by decide, by decide, fun h9 => absurd h9 (by decide)⟩) (by exact hO.tr ((if_pos c69).trans ((if_neg c70).trans ((if_pos c71).trans (if_pos c72))))) (lv_sub hl [0, 1] rfl)
        · refine lv_iconst (v := 4) hx hb dModel_find_36 (by decide) ?_
          refine lv_goto (tgt := 41) hx hb dModel_find_37 (by decide) ?_
          exact J41 ls 4 (by first | decide | exact ⟨by decide, by decide, fun _ => by assumption⟩ | exact ⟨by decide, by decide, fun h9 => absurd h9 (by decide)⟩) (by exact hO.tr ((if_pos c69).trans ((if_neg c70).trans ((if_pos c71).trans (if_neg c72))))) (lv_sub hl [0, 1] rfl)
      · refine lv_iconst (v := 3) hx hb dModel_find_26 (by decide) ?_
        refine lv_goto (tgt := 41) hx hb dModel_find_27 (by decide) ?_
        exact J41 ls 3 (by first | decide | exact ⟨by decide, by decide, fun _ => by assumption⟩ | exact ⟨by decide, by decide, fun h9 => absurd h9 (by decide)⟩) (by exact hO.tr ((if_pos c69).trans ((if_neg c70).trans (if_neg c71)))) (lv_sub hl [0, 1] rfl)
    · refine lv_bipush (v := 6) hx hb dModel_find_15 (by decide) ?_
      refine lv_goto (tgt := 41) hx hb dModel_find_17 (by decide) ?_
      exact J41 ls 6 (by first | decide | exact ⟨by decide, by decide, fun _ => by assumption⟩ | exact ⟨by decide, by decide, fun h9 => absurd h9 (by decide)⟩) (by exact hO.tr ((if_pos c69).trans (if_pos c70))) (lv_sub hl [0, 1] rfl)
  · refine lv_iconst (v := 0) hx hb dModel_find_6 (by decide) ?_
    refine lv_goto (tgt := 41) hx hb dModel_find_7 (by decide) ?_
    exact J41 ls 0 (by first | decide | exact ⟨by decide, by decide, fun _ => by assumption⟩ | exact ⟨by decide, by decide, fun h9 => absurd h9 (by decide)⟩) (by exact hO.tr (if_neg c69)) (lv_sub hl [0, 1] rfl)
