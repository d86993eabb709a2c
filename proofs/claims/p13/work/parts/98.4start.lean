theorem qw_98df340de2 : (Cond.instantiable R_TypeBook 7) ∈ bs_W0 := bs_in (in_tables_1_1 (List.mem_of_getElem? (i := 25) rfl)) rfl
theorem qw_68bc186834 : (Cond.instantiable R_Model 35) ∈ bs_W0 := bs_in (in_tables_1_5 (List.mem_of_getElem? (i := 141) rfl)) rfl
-- the reference's cells lie in one stretch
theorem ws_in {γ : gE} {a : Nat} {V : Nat → Int32} {A : Nat → Nat → Int32} {nu : Nat → Int64} {i : Nat} {q : Nat × va_E} (h : (wsM γ a (B0 a) V A nu)[i]? = some q) : a ≤ q.1 ∧ q.1 < a + 25 := by
  cases i with
  | zero =>
    cases h
    exact ⟨Nat.le_refl _, by show a < a + 25; omega⟩
  | succ i =>
    have h1 : (mdIx.map (mcell γ (B0 a) A nu))[i]? = some q := h
    rw [List.getElem?_map] at h1
    cases hk : mdIx[i]? with
    | none => rw [hk] at h1; cases h1
    | some k =>
      rw [hk] at h1
      cases h1
      have h2 : mdIx.idxOf k < 24 := List.idxOf_lt_length_of_mem (List.mem_of_getElem? hk)
      show a ≤ B0 a k ∧ B0 a k < a + 25
      unfold B0
      omega
-- what the tables give at the law's entry
theorem law_W {s : State} {args : Array Value} (hts : ∀ w ∈ lw_tbl, w.before args s = true) : ∀ w ∈ bs_W0, w.before args s = true := fun w h => hts w (List.mem_filter.mp h).1
theorem law_arr {s : State} {args : Array Value} {ty : FieldType} (hty : ∀ C, ty ≠ .object C) (h : (Cond.arrayClass ty).before args s = true) : ∃ cA : ClassId, ArrOfT s cA ty ∧ va_RA s cA ty := by
  obtain ⟨cA, kA, comp, h1, h2, h3⟩ := Cond.arrayClass_spec h
  refine ⟨cA, fun n z => ⟨fun k h => (by cases h), kA, h2, comp, h3⟩, ?_⟩
  cases ty with
  | object C => exact absurd rfl (hty C)
  | _ => exact h1
set_option maxHeartbeats 4000000 in
theorem law_cx {s : State} {args : Array Value} (hts : ∀ w ∈ lw_tbl, w.before args s = true) : ∃ γ : gE, CX γ s := by
  have hW := law_W hts
  obtain ⟨c0, i0, k0⟩ := u_known (ws := bs_W0) (C := R_TypeBook) (T := T_TypeBook) (N := 7) (n := 7) hW in_TypeBook (hW _ qw_98df340de2)
  obtain ⟨c1, i1, k1⟩ := u_known (ws := bs_W0) (C := R_Trees) (T := T_Trees) (N := 6) (n := 6) hW in_Trees (hW _ qw_728b969c31)
  obtain ⟨c2, i2, k2⟩ := u_known (ws := bs_W0) (C := R_Names) (T := T_Names) (N := 9) (n := 9) hW in_Names (hW _ qw_0fe9ef37a0)
  obtain ⟨c3, i3, k3⟩ := u_known (ws := bs_W0) (C := R_Types) (T := T_Types) (N := 5) (n := 5) hW in_Types (hW _ qw_3790227522)
  obtain ⟨c4, i4, k4⟩ := u_known (ws := bs_W0) (C := R_Objects) (T := T_Objects) (N := 5) (n := 5) hW in_Objects (hW _ qw_faf701598a)
  obtain ⟨c5, i5, k5⟩ := u_known (ws := bs_W0) (C := R_Rows) (T := T_Rows) (N := 1) (n := 1) hW in_Rows (hW _ qw_65d8f04d58)
  obtain ⟨c6, i6, k6⟩ := u_known (ws := bs_W0) (C := R_Looks) (T := T_Looks) (N := 6) (n := 6) hW in_Looks (hW _ qw_a3e5b3d658)
  obtain ⟨c7, i7, k7⟩ := u_known (ws := bs_W0) (C := R_Looker) (T := T_Looker) (N := 8) (n := 8) hW in_Looker (hW _ qw_8c7395766b)
  obtain ⟨c8, i8, k8⟩ := u_known (ws := bs_W0) (C := R_Operators) (T := T_Operators) (N := 1) (n := 1) hW in_Operators (hW _ qw_cfbc759d95)
  obtain ⟨c9, i9, k9⟩ := u_known (ws := bs_W0) (C := R_Meanings) (T := T_Meanings) (N := 5) (n := 5) hW in_Meanings (hW _ qw_61012f5007)
  obtain ⟨c10, i10, k10⟩ := u_known (ws := bs_W0) (C := R_Model) (T := T_Model) (N := 35) (n := 35) hW in_Model (hW _ qw_68bc186834)
  obtain ⟨a_int, h_int⟩ := law_arr (ty := .int) (fun C h => by cases h) (hW _ qw_8e969fb20a)
  obtain ⟨a_long, h_long⟩ := law_arr (ty := .long) (fun C h => by cases h) (hW _ qw_6933bd775d)
  obtain ⟨a_byte, h_byte⟩ := law_arr (ty := .byte) (fun C h => by cases h) (hW _ qw_542fcd69e5)
  obtain ⟨a_boolean, h_boolean⟩ := law_arr (ty := .boolean) (fun C h => by cases h) (hW _ qw_14bcb724a4)
  refine ⟨(((fun k => match k with | 0 => c0 | 1 => c1 | 2 => c2 | 3 => c3 | 4 => c4 | 5 => c5 | 6 => c6 | 7 => c7 | 8 => c8 | 9 => c9 | _ => c10), (fun k => match k with | 0 => i0 | 1 => i1 | 2 => i2 | 3 => i3 | 4 => i4 | 5 => i5 | 6 => i6 | 7 => i7 | 8 => i8 | 9 => i9 | _ => i10)), a_int, a_long, fun k => if k = 20 then a_byte else a_boolean), ⟨?_, ?_⟩, ?_⟩
  · intro k q hq
    match k, hq with
    | 0, hq => cases hq; exact k0
    | 1, hq => cases hq; exact k1
    | 2, hq => cases hq; exact k2
    | 3, hq => cases hq; exact k3
    | 4, hq => cases hq; exact k4
    | 5, hq => cases hq; exact k5
    | 6, hq => cases hq; exact k6
    | 7, hq => cases hq; exact k7
    | 8, hq => cases hq; exact k8
    | 9, hq => cases hq; exact k9
    | 10, hq => cases hq; exact k10
    | k + 11, hq => cases hq
  · intro k q hq
    match k, hq with
    | 0, hq => cases hq; exact h_int
    | 1, hq => cases hq; exact h_long
    | 2, hq => cases hq; exact h_byte
    | 3, hq => cases hq; exact h_boolean
    | k + 4, hq => cases hq
  · intro w hw hn
    have h := hts w hw
    unfold cx_isN at hn
    split at hn
    · exact va_Nw.of rfl h
    · exact va_Nw.of rfl h
    · cases hn
theorem law_tab {args : Array Value} {s : State} {C nm : String} {f : Nat → Int32} (hl : (Cond.laysStatic C nm "[I").before args s = true) (hini : (Cond.initialized C).before args s = true) (harr : (Cond.arrayOf (.static C nm "[I") .int).before args s = true) (hlen : (Cond.eq (.length (.static C nm "[I")) (.int 12)).before args s = true) (hel : ∀ j : Nat, j < 12 → (Cond.eq (.elem (.static C nm "[I") (.int (Int32.ofNat j))) (.int (f j))).before args s = true) :
    ∃ (t : Nat) (f : Nat → Value), va_Z C nm "[I" (.ref t) (fun q => s.heap.size ≤ q) s s.heap ∧ va_T .int t 12 f (fun q => s.heap.size ≤ q) s s.heap ∧ ∀ j, ∃ x : Int32, f j = .int x := by
  obtain ⟨t, ht, hT⟩ := va_Tof (N := 12) (f := fun j => .int (f j)) (A := fun q => s.heap.size ≤ q) (by omega) harr (va_eqt hlen) (fun j hj => va_eqt (hel j hj)) (fun a h => Nat.not_le.mpr h)
  exact ⟨t, _, va_Zof hl hini ht (fun a h => Nat.not_le.mpr h), hT, fun j => ⟨_, rfl⟩⟩
set_option maxHeartbeats 4000000 in
set_option maxRecDepth 100000 in
theorem law_sw {s : State} {b : Nat} (hts : ∀ w ∈ lw_tbl, w.before #[Value.ref b] s = true) (hgv : (Jvm.Cond.and given_1 narrow_1).before #[Value.ref b] s = true) : SW s ∧ NCs s := by
  have hs := flat_of_before _ hgv
  refine ⟨⟨fun w hw hk => ?_, ?_, ?_, fun own k tx h => ?_, ?_, ?_⟩, ?_⟩
  · have h := hts w hw
    unfold sw_k at hk
    split at hk
    · exact h
    · exact h
    · exact h
    · cases hk
  · exact va_Zqof (hts _ (in_tables_1_2 (List.mem_of_getElem? (i := 122) rfl))) (hts _ (in_tables_1_1 (List.mem_of_getElem? (i := 15) rfl))) (hs (Cond.isRef (.static "java/lang/Throwable" "UNASSIGNED_STACK" "[Ljava/lang/StackTraceElement;")) (by decide +kernel)) (fun a h => Nat.not_le.mpr h)
  · exact va_Zqof (hts _ (in_tables_1_2 (List.mem_of_getElem? (i := 124) rfl))) (hts _ (in_tables_1_1 (List.mem_of_getElem? (i := 15) rfl))) (hs (Cond.isRef (.static "java/lang/Throwable" "SUPPRESSED_SENTINEL" "Ljava/util/List;")) (by decide +kernel)) (fun a h => Nat.not_le.mpr h)
  · have h1 := hts _ h
    cases hc : s.vm.findClass own with
    | none => simp [Cond.before, Cond.holds, Cond.value, hc] at h1
    | some cur =>
      obtain ⟨_, _, _, a, _, _, _, _, _, he⟩ := Cond.stringRef_spec hc h1
      exact ⟨a, vk_R.of h1 he⟩
  · refine law_tab (f := fun j => ([1, 1, 1, 1, 1, 6, 4, 4, 5, 5, 5, 5] : List Int32).getD j 0) (hts _ (in_tables_1_1 (List.mem_of_getElem? (i := 70) rfl))) (hts _ (in_tables_1_1 (List.mem_of_getElem? (i := 3) rfl))) (hs (Cond.arrayOf (.static "TypeBook$Names" "FIRST_SORTS" "[I") .int) (by decide +kernel)) (hs (Cond.eq (.length (.static "TypeBook$Names" "FIRST_SORTS" "[I")) (.int 12)) (by decide +kernel)) (fun j hj => ?_)
    rcases (show j = 0 ∨ j = 1 ∨ j = 2 ∨ j = 3 ∨ j = 4 ∨ j = 5 ∨ j = 6 ∨ j = 7 ∨ j = 8 ∨ j = 9 ∨ j = 10 ∨ j = 11 by omega) with h | h | h | h | h | h | h | h | h | h | h | h <;> subst h
    · exact hs (Cond.eq (.elem (.static "TypeBook$Names" "FIRST_SORTS" "[I") (.int 0)) (.int 1)) (by decide +kernel)
    · exact hs (Cond.eq (.elem (.static "TypeBook$Names" "FIRST_SORTS" "[I") (.int 1)) (.int 1)) (by decide +kernel)
    · exact hs (Cond.eq (.elem (.static "TypeBook$Names" "FIRST_SORTS" "[I") (.int 2)) (.int 1)) (by decide +kernel)
    · exact hs (Cond.eq (.elem (.static "TypeBook$Names" "FIRST_SORTS" "[I") (.int 3)) (.int 1)) (by decide +kernel)
    · exact hs (Cond.eq (.elem (.static "TypeBook$Names" "FIRST_SORTS" "[I") (.int 4)) (.int 1)) (by decide +kernel)
    · exact hs (Cond.eq (.elem (.static "TypeBook$Names" "FIRST_SORTS" "[I") (.int 5)) (.int 6)) (by decide +kernel)
    · exact hs (Cond.eq (.elem (.static "TypeBook$Names" "FIRST_SORTS" "[I") (.int 6)) (.int 4)) (by decide +kernel)
    · exact hs (Cond.eq (.elem (.static "TypeBook$Names" "FIRST_SORTS" "[I") (.int 7)) (.int 4)) (by decide +kernel)
    · exact hs (Cond.eq (.elem (.static "TypeBook$Names" "FIRST_SORTS" "[I") (.int 8)) (.int 5)) (by decide +kernel)
    · exact hs (Cond.eq (.elem (.static "TypeBook$Names" "FIRST_SORTS" "[I") (.int 9)) (.int 5)) (by decide +kernel)
    · exact hs (Cond.eq (.elem (.static "TypeBook$Names" "FIRST_SORTS" "[I") (.int 10)) (.int 5)) (by decide +kernel)
    · exact hs (Cond.eq (.elem (.static "TypeBook$Names" "FIRST_SORTS" "[I") (.int 11)) (.int 5)) (by decide +kernel)
  · refine law_tab (f := fun j => ([2, 3, 4, 1, 0, 0, 1, 0, 8, 9, 10, 11] : List Int32).getD j 0) (hts _ (in_tables_1_1 (List.mem_of_getElem? (i := 72) rfl))) (hts _ (in_tables_1_1 (List.mem_of_getElem? (i := 3) rfl))) (hs (Cond.arrayOf (.static "TypeBook$Names" "FIRST_NUMBERS" "[I") .int) (by decide +kernel)) (hs (Cond.eq (.length (.static "TypeBook$Names" "FIRST_NUMBERS" "[I")) (.int 12)) (by decide +kernel)) (fun j hj => ?_)
    rcases (show j = 0 ∨ j = 1 ∨ j = 2 ∨ j = 3 ∨ j = 4 ∨ j = 5 ∨ j = 6 ∨ j = 7 ∨ j = 8 ∨ j = 9 ∨ j = 10 ∨ j = 11 by omega) with h | h | h | h | h | h | h | h | h | h | h | h <;> subst h
    · exact hs (Cond.eq (.elem (.static "TypeBook$Names" "FIRST_NUMBERS" "[I") (.int 0)) (.int 2)) (by decide +kernel)
    · exact hs (Cond.eq (.elem (.static "TypeBook$Names" "FIRST_NUMBERS" "[I") (.int 1)) (.int 3)) (by decide +kernel)
    · exact hs (Cond.eq (.elem (.static "TypeBook$Names" "FIRST_NUMBERS" "[I") (.int 2)) (.int 4)) (by decide +kernel)
    · exact hs (Cond.eq (.elem (.static "TypeBook$Names" "FIRST_NUMBERS" "[I") (.int 3)) (.int 1)) (by decide +kernel)
    · exact hs (Cond.eq (.elem (.static "TypeBook$Names" "FIRST_NUMBERS" "[I") (.int 4)) (.int 0)) (by decide +kernel)
    · exact hs (Cond.eq (.elem (.static "TypeBook$Names" "FIRST_NUMBERS" "[I") (.int 5)) (.int 0)) (by decide +kernel)
    · exact hs (Cond.eq (.elem (.static "TypeBook$Names" "FIRST_NUMBERS" "[I") (.int 6)) (.int 1)) (by decide +kernel)
    · exact hs (Cond.eq (.elem (.static "TypeBook$Names" "FIRST_NUMBERS" "[I") (.int 7)) (.int 0)) (by decide +kernel)
    · exact hs (Cond.eq (.elem (.static "TypeBook$Names" "FIRST_NUMBERS" "[I") (.int 8)) (.int 8)) (by decide +kernel)
    · exact hs (Cond.eq (.elem (.static "TypeBook$Names" "FIRST_NUMBERS" "[I") (.int 9)) (.int 9)) (by decide +kernel)
    · exact hs (Cond.eq (.elem (.static "TypeBook$Names" "FIRST_NUMBERS" "[I") (.int 10)) (.int 10)) (by decide +kernel)
    · exact hs (Cond.eq (.elem (.static "TypeBook$Names" "FIRST_NUMBERS" "[I") (.int 11)) (.int 11)) (by decide +kernel)
  · exact ⟨va_Nc.of (hs (Cond.not (.castable "java/lang/IllegalStateException" "java/lang/IllegalArgumentException")) (by decide +kernel)), va_Nc.of (hs (Cond.not (.castable "java/lang/IllegalStateException" "java/lang/IndexOutOfBoundsException")) (by decide +kernel)), va_Nc.of (hs (Cond.not (.castable "java/lang/IllegalArgumentException" "java/lang/IndexOutOfBoundsException")) (by decide +kernel))⟩
-- THE LAW's loop: what is counted
def CC (κ : Nat → Nat) (q : Nat) : Nat := 100 + Ph κ + q
def SS (κ : Nat → Nat) (q : Nat) : Nat := 745000 + 2 * Ph κ + 6 * q
theorem ph_le {γ : gE} {A : Nat → Prop} {κ : Nat → Nat} {H : Heap} (hI : INV γ A κ H) : Ph κ ≤ 319488 := by
  obtain ⟨⟨h1, h2, h3, h4, h5, h6, h7, h8, h9, h0⟩, -⟩ := inv_len hI
  unfold Ph
  omega
theorem cc_room {κ : Nat → Nat} {q : Nat} (h : Ph κ ≤ 319488) (hq : q ≤ 2600) : CC κ q + 50000 ≤ room_1.cells ∧ SS κ q + 1000000 ≤ room_1.slots := by
  show 100 + Ph κ + q + 50000 ≤ 601024 ∧ 745000 + 2 * Ph κ + 6 * q + 1000000 ≤ 7293034
  omega
theorem cc_room1 {κ : Nat → Nat} {q : Nat} (h : Ph κ ≤ 319488) (hq : q ≤ 2600) : CC κ q + 1 + 0 ≤ room_1.cells ∧ SS κ q + 6 + 0 ≤ room_1.slots := by
  show 100 + Ph κ + q + 1 + 0 ≤ 601024 ∧ 745000 + 2 * Ph κ + 6 * q + 6 + 0 ≤ 7293034
  omega
theorem cc_step {κ κ1 : Nat → Nat} {q : Nat} (h : Ph κ ≤ Ph κ1) : CC κ q + (Ph κ1 - Ph κ + 1) ≤ CC κ1 q + 1 ∧ SS κ q + (2 * (Ph κ1 - Ph κ) + 6) ≤ SS κ1 q + 6 := by
  show 100 + Ph κ + q + (Ph κ1 - Ph κ + 1) ≤ 100 + Ph κ1 + q + 1 ∧ 745000 + 2 * Ph κ + 6 * q + (2 * (Ph κ1 - Ph κ) + 6) ≤ 745000 + 2 * Ph κ1 + 6 * q + 6
  omega
theorem cc_5 {κ : Nat → Nat} {q : Nat} : CC κ q + 1 ≤ CC κ (q + 5) ∧ SS κ q + 6 ≤ SS κ (q + 5) := by
  show 100 + Ph κ + q + 1 ≤ 100 + Ph κ + (q + 5) ∧ 745000 + 2 * Ph κ + 6 * q + 6 ≤ 745000 + 2 * Ph κ + 6 * (q + 5)
  omega
theorem cc_end {κ : Nat → Nat} {q : Nat} (h : Ph κ ≤ 319488) (hq : q ≤ 2600) : CC κ q ≤ 601024 ∧ SS κ q ≤ 7293034 := by
  show 100 + Ph κ + q ≤ 601024 ∧ 745000 + 2 * Ph κ + 6 * q ≤ 7293034
  omega
theorem lw_len {q L : Nat} {x4 : Int32} (hL : L ≤ 2560) (hq : q ≤ 2600) (ex : x4 = nI q) (h : ¬ Int32.ofNat L - 5 < x4) : q + 5 ≤ L := by
  have h1 : (nI L).toInt = (L : Int) := nI_toInt (by omega)
  have h2 : (nI q).toInt = (q : Int) := nI_toInt (by omega)
  rw [ex, Int32.lt_iff_toInt_lt] at h
  have h3 : (nI L - 5).toInt = (L : Int) - 5 := by
    rw [Int32.toInt_sub, h1, show (5 : Int32).toInt = 5 by decide]
    exact Int.bmod_eq_of_le (by omega) (by omega)
  have h4 : ¬ (nI L - 5).toInt < (nI q).toInt := h
  omega
theorem lw_in {q L : Nat} {x4 : Int32} (hL : L ≤ 2560) (hq : q + 5 ≤ L) (ex : x4 = nI q) (j : Nat) (hj : j < 5) {y : Int32} (hy : y = nI j) : vp_in (x4 + y) L := by
  rw [ex, hy, nI_add]
  exact vp_in_nI (by omega) (by omega)
theorem lw_in0 {q L : Nat} {x4 : Int32} (hL : L ≤ 2560) (hq : q + 5 ≤ L) (ex : x4 = nI q) : vp_in x4 L := by
  rw [ex]
  exact vp_in_nI (by omega) (by omega)
/-- what stays for the whole of the loop -/
def LC (l : Launch) (p : Program) (s : State) (m : MethodId) (c : Code) (b L : Nat) (xs : Nat → Int32) (γ : gE) (A : Nat → Prop) (m0 : Nat) : Prop := (l.stackTraces = false) ∧ (bs_F p s m #[Value.ref b] c code 7 R_law) ∧ (CX γ s) ∧ (SW s) ∧ (NCs s) ∧ (∀ q, A q → s.heap.size ≤ q) ∧ (∀ q, A q → ¬ (m0 ≤ q ∧ q < m0 + 25)) ∧ (¬ A (m0 + 25)) ∧ (∀ q, m0 + 26 ≤ q → A q) ∧ (s.heap.size ≤ m0) ∧ (va_X b L xs s s.heap) ∧ (b < s.heap.size) ∧ (L ≤ 2560)
theorem LC.hst {l : Launch} {p : Program} {s : State} {m : MethodId} {c : Code} {b L : Nat} {xs : Nat → Int32} {γ : gE} {A : Nat → Prop} {m0 : Nat} (h : LC l p s m c b L xs γ A m0) : l.stackTraces = false := h.1
theorem LC.S {l : Launch} {p : Program} {s : State} {m : MethodId} {c : Code} {b L : Nat} {xs : Nat → Int32} {γ : gE} {A : Nat → Prop} {m0 : Nat} (h : LC l p s m c b L xs γ A m0) : bs_F p s m #[Value.ref b] c code 7 R_law := h.2.1
theorem LC.hC {l : Launch} {p : Program} {s : State} {m : MethodId} {c : Code} {b L : Nat} {xs : Nat → Int32} {γ : gE} {A : Nat → Prop} {m0 : Nat} (h : LC l p s m c b L xs γ A m0) : CX γ s := h.2.2.1
theorem LC.hw0 {l : Launch} {p : Program} {s : State} {m : MethodId} {c : Code} {b L : Nat} {xs : Nat → Int32} {γ : gE} {A : Nat → Prop} {m0 : Nat} (h : LC l p s m c b L xs γ A m0) : SW s := h.2.2.2.1
theorem LC.hnc {l : Launch} {p : Program} {s : State} {m : MethodId} {c : Code} {b L : Nat} {xs : Nat → Int32} {γ : gE} {A : Nat → Prop} {m0 : Nat} (h : LC l p s m c b L xs γ A m0) : NCs s := h.2.2.2.2.1
theorem LC.hA0 {l : Launch} {p : Program} {s : State} {m : MethodId} {c : Code} {b L : Nat} {xs : Nat → Int32} {γ : gE} {A : Nat → Prop} {m0 : Nat} (h : LC l p s m c b L xs γ A m0) : ∀ q, A q → s.heap.size ≤ q := h.2.2.2.2.2.1
theorem LC.hAm {l : Launch} {p : Program} {s : State} {m : MethodId} {c : Code} {b L : Nat} {xs : Nat → Int32} {γ : gE} {A : Nat → Prop} {m0 : Nat} (h : LC l p s m c b L xs γ A m0) : ∀ q, A q → ¬ (m0 ≤ q ∧ q < m0 + 25) := h.2.2.2.2.2.2.1
theorem LC.hAo {l : Launch} {p : Program} {s : State} {m : MethodId} {c : Code} {b L : Nat} {xs : Nat → Int32} {γ : gE} {A : Nat → Prop} {m0 : Nat} (h : LC l p s m c b L xs γ A m0) : ¬ A (m0 + 25) := h.2.2.2.2.2.2.2.1
theorem LC.hAn {l : Launch} {p : Program} {s : State} {m : MethodId} {c : Code} {b L : Nat} {xs : Nat → Int32} {γ : gE} {A : Nat → Prop} {m0 : Nat} (h : LC l p s m c b L xs γ A m0) : ∀ q, m0 + 26 ≤ q → A q := h.2.2.2.2.2.2.2.2.1
theorem LC.hm0 {l : Launch} {p : Program} {s : State} {m : MethodId} {c : Code} {b L : Nat} {xs : Nat → Int32} {γ : gE} {A : Nat → Prop} {m0 : Nat} (h : LC l p s m c b L xs γ A m0) : s.heap.size ≤ m0 := h.2.2.2.2.2.2.2.2.2.1
theorem LC.hX {l : Launch} {p : Program} {s : State} {m : MethodId} {c : Code} {b L : Nat} {xs : Nat → Int32} {γ : gE} {A : Nat → Prop} {m0 : Nat} (h : LC l p s m c b L xs γ A m0) : va_X b L xs s s.heap := h.2.2.2.2.2.2.2.2.2.2.1
theorem LC.hbl {l : Launch} {p : Program} {s : State} {m : MethodId} {c : Code} {b L : Nat} {xs : Nat → Int32} {γ : gE} {A : Nat → Prop} {m0 : Nat} (h : LC l p s m c b L xs γ A m0) : b < s.heap.size := h.2.2.2.2.2.2.2.2.2.2.2.1
theorem LC.hL {l : Launch} {p : Program} {s : State} {m : MethodId} {c : Code} {b L : Nat} {xs : Nat → Int32} {γ : gE} {A : Nat → Prop} {m0 : Nat} (h : LC l p s m c b L xs γ A m0) : L ≤ 2560 := h.2.2.2.2.2.2.2.2.2.2.2.2
/-- the reference, told exactly -/
def MJ (γ : gE) (a : Nat) (Z : Nat → Prop) (κ : Nat → Nat) (τ : gf) (σ : gs) (F : gf) (nu : gg) (H : Heap) : Prop := ∃ (b mn : Nat → Nat) (ν : Nat → Int32), ST κ b mn ν τ ∧ SZ F ∧ FD σ ∧ GD F nu ∧ MD γ a (B0 a) Z ν τ σ F nu H
theorem mj_Z {γ : gE} {a : Nat} {Z Z' : Nat → Prop} {κ : Nat → Nat} {τ : gf} {σ : gs} {F : gf} {nu : gg} {H : Heap} (h : MJ γ a Z κ τ σ F nu H) (hZ : ∀ q, a ≤ q → q < a + 25 → Z' q) : MJ γ a Z' κ τ σ F nu H := by
  obtain ⟨b, mn, ν, h1, h2, h3, h4, h6, h7⟩ := h
  exact ⟨b, mn, ν, h1, h2, h3, h4, h6, h7.1, fun k q hq => hZ _ (ws_in hq).1 (ws_in hq).2⟩
theorem mj_kept {γ : gE} {a : Nat} {Z : Nat → Prop} {κ : Nat → Nat} {τ : gf} {σ : gs} {F : gf} {nu : gg} {H H1 : Heap} (h : MJ γ a Z κ τ σ F nu H) (hk : ∀ q, a ≤ q → q < a + 25 → H1[q]? = H[q]?) : MJ γ a Z κ τ σ F nu H1 := by
  obtain ⟨b, mn, ν, h1, h2, h3, h4, h6, h7⟩ := h
  exact ⟨b, mn, ν, h1, h2, h3, h4, va_P.kept h6 (fun i q hq => hk _ (ws_in hq).1 (ws_in hq).2), h7⟩
/-- what stands between two calls -/
def LIF (s : State) (γ : gE) (A : Nat → Prop) (m0 : Nat) (κ : Nat → Nat) (φ : gF) (ψ : gG) (κm : Nat → Nat) (τ : gf) (σ : gs) (F : gf) (nu : gg) (g : Nat → Int64) (H : Heap) (locs : List Loc) : Prop := INVF γ A κ φ ψ H ∧ MJ γ m0 (iv m0 (m0 + 25)) κm τ σ F nu H ∧ OU γ (m0 + 25) g H ∧ m0 + 26 ≤ H.size ∧ va_S (fun q => s.heap.size ≤ q) s.heap H locs
theorem LIF.hI {s : State} {γ : gE} {A : Nat → Prop} {m0 : Nat} {κ : Nat → Nat} {φ : gF} {ψ : gG} {κm : Nat → Nat} {τ : gf} {σ : gs} {F : gf} {nu : gg} {g : Nat → Int64} {H : Heap} {locs : List Loc} (h : LIF s γ A m0 κ φ ψ κm τ σ F nu g H locs) : INVF γ A κ φ ψ H := h.1
theorem LIF.hM {s : State} {γ : gE} {A : Nat → Prop} {m0 : Nat} {κ : Nat → Nat} {φ : gF} {ψ : gG} {κm : Nat → Nat} {τ : gf} {σ : gs} {F : gf} {nu : gg} {g : Nat → Int64} {H : Heap} {locs : List Loc} (h : LIF s γ A m0 κ φ ψ κm τ σ F nu g H locs) : MJ γ m0 (iv m0 (m0 + 25)) κm τ σ F nu H := h.2.1
theorem LIF.hO {s : State} {γ : gE} {A : Nat → Prop} {m0 : Nat} {κ : Nat → Nat} {φ : gF} {ψ : gG} {κm : Nat → Nat} {τ : gf} {σ : gs} {F : gf} {nu : gg} {g : Nat → Int64} {H : Heap} {locs : List Loc} (h : LIF s γ A m0 κ φ ψ κm τ σ F nu g H locs) : OU γ (m0 + 25) g H := h.2.2.1
theorem LIF.hz {s : State} {γ : gE} {A : Nat → Prop} {m0 : Nat} {κ : Nat → Nat} {φ : gF} {ψ : gG} {κm : Nat → Nat} {τ : gf} {σ : gs} {F : gf} {nu : gg} {g : Nat → Int64} {H : Heap} {locs : List Loc} (h : LIF s γ A m0 κ φ ψ κm τ σ F nu g H locs) : m0 + 26 ≤ H.size := h.2.2.2.1
theorem LIF.hS {s : State} {γ : gE} {A : Nat → Prop} {m0 : Nat} {κ : Nat → Nat} {φ : gF} {ψ : gG} {κm : Nat → Nat} {τ : gf} {σ : gs} {F : gf} {nu : gg} {g : Nat → Int64} {H : Heap} {locs : List Loc} (h : LIF s γ A m0 κ φ ψ κm τ σ F nu g H locs) : va_S (fun q => s.heap.size ≤ q) s.heap H locs := h.2.2.2.2
theorem LIF.hP {s : State} {γ : gE} {A : Nat → Prop} {m0 : Nat} {κ : Nat → Nat} {φ : gF} {ψ : gG} {κm : Nat → Nat} {τ : gf} {σ : gs} {F : gf} {nu : gg} {g : Nat → Int64} {H : Heap} {locs : List Loc} (h : LIF s γ A m0 κ φ ψ κm τ σ F nu g H locs) : Ph κ ≤ 319488 := ph_le (inv_of h.1)
section LWF
variable {p : Program} {l : Launch} {e : Env} {s : State} {m : MethodId} {below : List Frame} {meth : Method} {c : Code} {H : Heap} {locs : List Loc} {Q : State → Prop}
variable {y : MethodName} {bytes : ByteArray} {maxL n index fr lo cells slots : Nat} {As st0 : List Value} {pc b L m0 q : Nat} {xs : Nat → Int32} {ls : Array Slot} {γ : gE} {A : Nat → Prop} {hh : List (Nat × Nat × Nat × Nat)} {κ : Nat → Nat} {φ : gF} {ψ : gG} {κm : Nat → Nat} {τ : gf} {σ : gs} {F : gf} {nu : gg} {g : Nat → Int64}
theorem lcf_wrap {o : XR} {cds : List (Int32 × Int32)} (K : LC l p s m c b L xs γ A m0) (I : LIF s γ A m0 κ φ ψ κm τ σ F nu g H locs) (hq : q ≤ 2600)
    (hM : WM l y bytes maxL hh fr lo 50000 1000000 As γ (fun q => A q ∨ q = m0 + 25) (PSwF s H γ A κ φ ψ (m0 + 25) g) (mQi (fun r H1 => PWF γ A κ H (m0 + 25) o cds r H1) (fun q => A q ∨ q = m0 + 25))) (me : bs_Mw y bytes maxL hh n) (lk : Cond.methodLink R_law index y ∈ bs_W0) (hR : fr + 1 ≤ room_1.frames ∧ 8 + (maxL + 11) + lo ≤ room_1.locals) (hn : As.length = n) (hsz : ls.size = 7) (hst : st0 = As.reverse ++ []) (hdg : decode code pc = .ok (.invokestatic index, 3))
    (kk : ∀ (r : Int32) (H1 : Heap) (locs1 : List Loc) (g1 : Nat → Int64), WRF o cds r g1 → LIF s γ A m0 o.2.2.1 o.2.2.2.1 o.2.2.2.2 κm τ σ F nu g1 H1 locs1 → W p l e room_1 s m #[Value.ref b] below meth c H1 locs1 (CC o.2.2.1 q + 1) (SS o.2.2.1 q + 6) Q (F0 m (pc + 3) ls [.int r])) : W p l e room_1 s m #[Value.ref b] below meth c H locs (CC κ q) (SS κ q) Q (F0 m pc ls st0) := by
  refine W.know (fun a1 a2 a3 => ?_)
  have hG0 : GR s.heap H (CC κ q) (SS κ q) := ⟨I.hS.1, a1, a2, a3⟩
  have hAn' : ∀ q, H.size ≤ q → A q := fun q h => K.hAn q (Nat.le_trans I.hz h)
  refine wm_Si (A := fun q => A q ∨ q = m0 + 25) (A0 := fun q => s.heap.size ≤ q) (rest := []) K.S K.hC (fun q h => Or.inl (hAn' q h)) (fun q h => h.elim (K.hA0 q) (fun e => by rw [e]; exact Nat.le_trans K.hm0 (Nat.le_add_right _ _))) I.hS hM pswf_bl me lk hR (fun U hU hWU => ⟨⟨hWU, by rw [hU]; exact I.hS.1, fun a ha => by rw [hU]; exact I.hS.2.1 a ha (Nat.not_le.mpr ha)⟩, hU, by rw [hU]; exact I.hI, by rw [hU]; exact I.hO, by rw [hU]; exact hAn'⟩) hn hsz hst (Nat.zero_le _) hdg (cc_room I.hP hq) (fun r H1 locs1 hP hS1 hz1 hk1 => ?_)
  obtain ⟨g1, hO1, hr, hI1, hp, hG1⟩ := hP
  have hc := cc_step (q := q) hp
  have hG := (hG0.trans hG1).mono hc.1 hc.2
  refine W.tight hG.2.1 hG.2.2.1 ?_
  refine kk r H1 locs1 g1 hr ⟨hI1, mj_kept I.hM (fun q h1 h2 => hk1 q (Nat.lt_of_lt_of_le h2 (Nat.le_trans (Nat.le_succ _) I.hz)) (fun h => h.elim (fun h => K.hAm q h ⟨h1, h2⟩) (fun e => by omega))), hO1, Nat.le_trans I.hz hz1, hS1⟩
theorem lcf_model {o : XQ} {rest : List Value} (K : LC l p s m c b L xs γ A m0) (I : LIF s γ A m0 κ φ ψ κm τ σ F nu g H locs)
    (hM : ∀ (b mn : Nat → Nat) (ν : Nat → Int32), ST κm b mn ν τ → SZ F → FD σ → GD F nu → MU l y bytes maxL (some .int) fr lo 0 0 (.ref m0 :: As) γ (fun q => (m0 ≤ q ∧ q < m0 + 25) ∨ H.size ≤ q) (MD γ m0 (B0 m0) (fun q => (m0 ≤ q ∧ q < m0 + 25) ∨ H.size ≤ q) ν τ σ F nu) (mQi (fun r H1 => MIF γ m0 (B0 m0) (fun q => (m0 ≤ q ∧ q < m0 + 25) ∨ H.size ≤ q) o r H1) (fun q => (m0 ≤ q ∧ q < m0 + 25) ∨ H.size ≤ q))) (me : bs_Mi y bytes maxL (some .int) n) (hy : y.cls = R_Model) (lk : Cond.methodLink R_law index y ∈ bs_W0) (hR : fr + 1 ≤ room_1.frames ∧ 8 + (maxL + 11) + lo ≤ room_1.locals) (hn : As.length = n) (hsz : ls.size = 7) (hst : st0 = As.reverse ++ .ref m0 :: rest) (hrs : (rest.map fun v => v.category).sum ≤ 8) (hdg : decode code pc = .ok (.invokevirtual index, 3)) (hf : cells + 0 ≤ room_1.cells ∧ slots + 0 ≤ room_1.slots)
    (kk : ∀ (H1 : Heap) (locs1 : List Loc), LIF s γ A m0 κ φ ψ o.2.1 o.2.2.1 o.2.2.2.1 o.2.2.2.2.1 o.2.2.2.2.2 g H1 locs1 → W p l e room_1 s m #[Value.ref b] below meth c H1 locs1 cells slots Q (F0 m (pc + 3) ls (.int o.1 :: rest))) : W p l e room_1 s m #[Value.ref b] below meth c H locs cells slots Q (F0 m pc ls st0) := by
  have hM1 := mj_Z (Z' := fun q => (m0 ≤ q ∧ q < m0 + 25) ∨ H.size ≤ q) I.hM (fun q h1 h2 => Or.inl ⟨h1, h2⟩)
  obtain ⟨b', mn, ν, hT, hZ, hF, hG, hMD⟩ := hM1
  refine mu_Vi (A := fun q => (m0 ≤ q ∧ q < m0 + 25) ∨ H.size ≤ q) (A0 := fun q => s.heap.size ≤ q) (rest := rest) K.S K.hC (fun q h => Or.inr h) (fun q h => h.elim (fun h => Nat.le_trans K.hm0 h.1) (fun h => Nat.le_trans I.hS.1 h)) I.hS (hM b' mn ν hT hZ hF hG) me lk hR (by rw [hy]; exact md_rv K.hC hMD) hMD hn hsz hst hrs hdg hf (fun r H1 locs1 hP hS1 hz1 hk1 => ?_)
  obtain ⟨κ2, b2, mn2, ν2, τ2, σ2, F2, nu2, hq, h1, h2, h3, h4, h5⟩ := hP
  have hq : o = (r, κ2, τ2, σ2, F2, nu2) := hq
  subst hq
  exact kk H1 locs1 ⟨invf_off I.hI (fun q h1 h2 => hk1 q h2 (fun h => h.elim (K.hAm q h1) (fun h => by omega))), mj_Z ⟨b2, mn2, ν2, h1, h2, h3, h4, h5⟩ (fun q h1 h2 => ⟨h1, h2⟩), I.hO.kept (hk1 _ I.hO.lt (fun h => h.elim (fun h => by omega) (fun h => absurd I.hO.lt (Nat.not_lt.mpr h)))), Nat.le_trans I.hz hz1, hS1⟩
theorem lcf_thrown {rest : List Value} (K : LC l p s m c b L xs γ A m0) (I : LIF s γ A m0 κ φ ψ κm τ σ F nu g H locs) (hsz : ls.size = 7) (lk : Cond.methodLink R_law index yModel_thrown ∈ bs_W0) (hrs : (rest.map fun v => v.category).sum ≤ 8) (hdg : decode code pc = .ok (.invokevirtual index, 3)) (hf : cells ≤ room_1.cells ∧ slots ≤ room_1.slots)
    (kk : W p l e room_1 s m #[Value.ref b] below meth c H locs cells slots Q (F0 m (pc + 3) ls (.int (σ 0) :: rest))) : W p l e room_1 s m #[Value.ref b] below meth c H locs cells slots Q (F0 m pc ls (.ref m0 :: rest)) := by
  obtain ⟨b', mn, ν, hT, hZ, hF, hG, hMD⟩ := I.hM
  exact pu_Vi (As := []) (rest := rest) K.S K.hC (m_thrown l γ m0 (B0 m0) _ κm b' mn ν τ σ F nu hT) meModel_thrown lk ⟨Nat.le_of_ble_eq_true rfl, Nat.le_of_ble_eq_true rfl⟩ (md_rv K.hC hMD) hMD rfl hsz rfl hrs hdg hf (fun r hr => by rw [hr]; exact kk)
theorem lcf_clear (K : LC l p s m c b L xs γ A m0) (I : LIF s γ A m0 κ φ ψ κm τ σ F nu g H locs) (hsz : ls.size = 7) (lk : Cond.methodLink R_law index yTypeBook_clear ∈ bs_W0) (hdg : decode code pc = .ok (.invokevirtual index, 3)) (hf : cells + 0 ≤ room_1.cells ∧ slots + 0 ≤ room_1.slots)
    (kk : ∀ (H1 : Heap) (locs1 : List Loc), LIF s γ A m0 (ku (ku κ 0 0) 1 0) (P_TypeBook_clear κ φ ψ).2.1 (P_TypeBook_clear κ φ ψ).2.2 κm τ σ F nu g H1 locs1 → W p l e room_1 s m #[Value.ref b] below meth c H1 locs1 cells slots Q (F0 m (pc + 3) ls [.int (P_TypeBook_clear κ φ ψ).1])) : W p l e room_1 s m #[Value.ref b] below meth c H locs cells slots Q (F0 m pc ls [.ref (γ.2.2.2 0)]) := by
  refine mu_Vi (As := []) (A := A) (A0 := fun q => s.heap.size ≤ q) (rest := []) K.S K.hC (fun q h => K.hAn q (Nat.le_trans I.hz h)) K.hA0 I.hS (f_TypeBook_clear l γ A κ φ ψ) meTypeBook_clear lk ⟨Nat.le_of_ble_eq_true rfl, Nat.le_of_ble_eq_true rfl⟩ (rv_0 K.hC (inv_of I.hI)) I.hI rfl hsz rfl (Nat.zero_le _) hdg hf (fun r H1 locs1 hP hS1 hz1 hk1 => ?_)
  rw [hP.1]
  exact kk H1 locs1 ⟨hP.2, mj_kept I.hM (fun q h1 h2 => hk1 q (Nat.lt_of_lt_of_le h2 (Nat.le_trans (Nat.le_succ _) I.hz)) (fun h => K.hAm q h ⟨h1, h2⟩)), I.hO.kept (hk1 _ I.hO.lt K.hAo), Nat.le_trans I.hz hz1, hS1⟩
theorem lcf_place (K : LC l p s m c b L xs γ A m0) (I : LIF s γ A m0 κ φ ψ κm τ σ F nu g H locs) (hsz : ls.size = 7) (lk : Cond.methodLink R_law index yTypeBook_place ∈ bs_W0) (hdg : decode code pc = .ok (.invokevirtual index, 3)) (hf : cells ≤ room_1.cells ∧ slots ≤ room_1.slots)
    (kk : W p l e room_1 s m #[Value.ref b] below meth c H locs cells slots Q (F0 m (pc + 3) ls [.int (P_TypeBook_place κ φ ψ)])) : W p l e room_1 s m #[Value.ref b] below meth c H locs cells slots Q (F0 m pc ls [.ref (γ.2.2.2 0)]) :=
  pu_Vi (As := []) (rest := []) K.S K.hC (f_TypeBook_place l γ A κ φ ψ) meTypeBook_place lk ⟨Nat.le_of_ble_eq_true rfl, Nat.le_of_ble_eq_true rfl⟩ (rv_0 K.hC (inv_of I.hI)) I.hI rfl hsz rfl (Nat.zero_le _) hdg hf (fun r hr => by rw [hr.2]; exact kk)
end LWF
/-- answers that agree, laid side by side -/
theorem wr_an {o : XR} {q : XQ} {cds : List (Int32 × Int32)} {r : Int32} {g : Nat → Int64} (hc : ∀ c, c ∈ cds → c.1 = c.2 ∧ ¬ c.2 = 0) (h : WRF o cds r g) (ha : AN o q) : r = q.2.2.2.1 0 ∧ (r = 0 → g 0 = q.1.toInt64) := by
  rcases h with ⟨h1, h2, h3⟩ | ⟨c, h1, h2, h3⟩
  · refine ⟨by rw [← ha.1, h1, h2], fun _ => by rw [h3, ha.2 h1]⟩
  · obtain ⟨e1, e2⟩ := hc c h1
    exact ⟨by rw [← ha.1, h2, h3, e1], fun h9 => absurd (h3.symm.trans h9) e2⟩
theorem wr_ane {o : XR} {q : XQ} {r : Int32} {g : Nat → Int64} (h : WRF o [(1, 1), (3, 2)] r g) (ha : ANe o q) : r = q.2.2.2.1 0 ∧ (r = 0 → g 0 = q.1.toInt64) := by
  rcases ha with ⟨a1, a2, a3⟩ | ⟨a1, a2⟩ | ⟨a1, a2⟩
  · rcases h with ⟨h1, h2, h3⟩ | ⟨c, h1, h2, h3⟩
    · exact ⟨by rw [h2, a2], fun _ => by rw [h3, a3]⟩
    · exfalso
      rw [a1] at h2
      rcases List.mem_cons.mp h1 with rfl | h1
      · exact absurd h2 (by decide)
      · rcases List.mem_cons.mp h1 with rfl | h1
        · exact absurd h2 (by decide)
        · exact absurd h1 List.not_mem_nil
  · rcases h with ⟨h1, h2, h3⟩ | ⟨c, h1, h2, h3⟩
    · rw [a1] at h1; exact absurd h1 (by decide)
    · rw [a1] at h2
      rcases List.mem_cons.mp h1 with rfl | h1
      · exact ⟨by rw [h3, a2], fun h9 => absurd (h3.symm.trans h9) (by decide)⟩
      · rcases List.mem_cons.mp h1 with rfl | h1
        · exact absurd h2 (by decide)
        · exact absurd h1 List.not_mem_nil
  · rcases h with ⟨h1, h2, h3⟩ | ⟨c, h1, h2, h3⟩
    · rw [a1] at h1; exact absurd h1 (by decide)
    · rw [a1] at h2
      rcases List.mem_cons.mp h1 with rfl | h1
      · exact absurd h2 (by decide)
      · rcases List.mem_cons.mp h1 with rfl | h1
        · exact ⟨by rw [h3, a2], fun h9 => absurd (h3.symm.trans h9) (by decide)⟩
        · exact absurd h1 List.not_mem_nil
theorem qw_70d2ddefbe : (Cond.methodLink R_Law 57 yLaw_add) ∈ bs_W0 := bs_in (in_tables_1_2 (List.mem_of_getElem? (i := 86) rfl)) rfl
theorem qw_b5f338fe66 : (Cond.methodLink R_Law 62 yModel_add) ∈ bs_W0 := bs_in (in_tables_1_6 (List.mem_of_getElem? (i := 24) rfl)) rfl
theorem qw_b20f6a16b6 : (Cond.methodLink R_Law 63 yTypeBook_clear) ∈ bs_W0 := bs_in (in_tables_1_2 (List.mem_of_getElem? (i := 74) rfl)) rfl
theorem qw_722a39bd15 : (Cond.methodLink R_Law 66 yModel_clear) ∈ bs_W0 := bs_in (in_tables_1_6 (List.mem_of_getElem? (i := 31) rfl)) rfl
theorem qw_024e23bb92 : (Cond.methodLink R_Law 67 yLaw_enter) ∈ bs_W0 := bs_in (in_tables_1_2 (List.mem_of_getElem? (i := 230) rfl)) rfl
theorem qw_3972cb422a : (Cond.methodLink R_Law 70 yModel_enter) ∈ bs_W0 := bs_in (in_tables_1_6 (List.mem_of_getElem? (i := 35) rfl)) rfl
theorem qw_0870710788 : (Cond.methodLink R_Law 71 yLaw_leave) ∈ bs_W0 := bs_in (in_tables_1_3 (List.mem_of_getElem? (i := 2) rfl)) rfl
theorem qw_46afa56bf9 : (Cond.methodLink R_Law 73 yModel_leave) ∈ bs_W0 := bs_in (in_tables_1_6 (List.mem_of_getElem? (i := 39) rfl)) rfl
theorem qw_0c4280106c : (Cond.methodLink R_Law 74 yLaw_type) ∈ bs_W0 := bs_in (in_tables_1_3 (List.mem_of_getElem? (i := 14) rfl)) rfl
theorem qw_4ebb7ed85d : (Cond.methodLink R_Law 77 yModel_type) ∈ bs_W0 := bs_in (in_tables_1_6 (List.mem_of_getElem? (i := 43) rfl)) rfl
theorem qw_ddc0cd02d5 : (Cond.methodLink R_Law 78 yLaw_enumeration) ∈ bs_W0 := bs_in (in_tables_1_5 (List.mem_of_getElem? (i := 10) rfl)) rfl
theorem qw_71b525f37d : (Cond.methodLink R_Law 80 yModel_enumeration) ∈ bs_W0 := bs_in (in_tables_1_6 (List.mem_of_getElem? (i := 211) rfl)) rfl
theorem qw_dfdad7d990 : (Cond.methodLink R_Law 81 yLaw_subtype) ∈ bs_W0 := bs_in (in_tables_1_5 (List.mem_of_getElem? (i := 44) rfl)) rfl
theorem qw_7f175f9fcc : (Cond.methodLink R_Law 84 yModel_subtype) ∈ bs_W0 := bs_in (in_tables_1_6 (List.mem_of_getElem? (i := 223) rfl)) rfl
theorem qw_92a1c8ddd1 : (Cond.methodLink R_Law 85 yLaw_declare) ∈ bs_W0 := bs_in (in_tables_1_5 (List.mem_of_getElem? (i := 54) rfl)) rfl
theorem qw_cce4fe4997 : (Cond.methodLink R_Law 88 yModel_declare) ∈ bs_W0 := bs_in (in_tables_1_6 (List.mem_of_getElem? (i := 231) rfl)) rfl
theorem qw_4146e1e6a3 : (Cond.methodLink R_Law 89 yLaw_check) ∈ bs_W0 := bs_in (in_tables_1_5 (List.mem_of_getElem? (i := 96) rfl)) rfl
theorem qw_791b948204 : (Cond.methodLink R_Law 91 yModel_check) ∈ bs_W0 := bs_in (in_tables_1_6 (List.mem_of_getElem? (i := 239) rfl)) rfl
theorem qw_a0b9b8900a : (Cond.methodLink R_Law 92 yTypeBook_place) ∈ bs_W0 := bs_in (in_tables_1_2 (List.mem_of_getElem? (i := 82) rfl)) rfl
theorem qw_deca89feaf : (Cond.methodLink R_Law 95 yModel_place) ∈ bs_W0 := bs_in (in_tables_1_7 (List.mem_of_getElem? (i := 3) rfl)) rfl
theorem qw_02fa55126c : (Cond.methodLink R_Law 96 yLaw_typeOf) ∈ bs_W0 := bs_in (in_tables_1_5 (List.mem_of_getElem? (i := 104) rfl)) rfl
theorem qw_80badc1e51 : (Cond.methodLink R_Law 98 yModel_typeOf) ∈ bs_W0 := bs_in (in_tables_1_7 (List.mem_of_getElem? (i := 7) rfl)) rfl
theorem qw_9858333207 : (Cond.methodLink R_Law 99 yLaw_about) ∈ bs_W0 := bs_in (in_tables_1_5 (List.mem_of_getElem? (i := 117) rfl)) rfl
theorem qw_d20dbc44b2 : (Cond.methodLink R_Law 101 yModel_about) ∈ bs_W0 := bs_in (in_tables_1_7 (List.mem_of_getElem? (i := 11) rfl)) rfl
theorem qw_66943ffc61 : (Cond.methodLink R_Law 102 yModel_thrown) ∈ bs_W0 := bs_in (in_tables_1_6 (List.mem_of_getElem? (i := 20) rfl)) rfl
theorem qw_d0b1c4e36c : (Cond.methodLink R_Law 105 yLaw_value) ∈ bs_W0 := bs_in (in_tables_1_5 (List.mem_of_getElem? (i := 129) rfl)) rfl
theorem qw_6253d5c13d : (Cond.methodLink R_Law 107 yModel_value) ∈ bs_W0 := bs_in (in_tables_1_7 (List.mem_of_getElem? (i := 15) rfl)) rfl
set_option maxHeartbeats 4000000 in
set_option maxRecDepth 100000 in
theorem lc_0 {p : Program} {l : Launch} {e : Env} {s : State} {m : MethodId} {below : List Frame} {meth : Method} {c : Code} {b L : Nat} {xs : Nat → Int32} {γ : gE} {A : Nat → Prop} {m0 : Nat} {q : Nat} {x4 : Int32} {Q : State → Prop} (K : LC l p s m c b L xs γ A m0) (hq : q + 5 ≤ L) (ex4 : x4 = nI q) (J : ∀ (H : Heap) (locs : List Loc) (κ : Nat → Nat) (φ : gF) (ψ : gG) (κm : Nat → Nat) (τ : gf) (σ : gs) (F : gf) (nu : gg) (g : Nat → Int64) (ls : Array Slot), LIF s γ A m0 κ φ ψ κm τ σ F nu g H locs → RXK κ φ ψ κm τ F nu → lv_has ls 7 [(0, .ref b), (1, .ref (γ.2.2.2 0)), (2, .ref m0), (3, .ref (m0 + 25)), (4, .int x4)] → W p l e room_1 s m #[Value.ref b] below meth c H locs (CC κ (q + 5)) (SS κ (q + 5)) Q (F0 m 562 ls [])) {H : Heap} {locs : List Loc} {κ : Nat → Nat} {φ : gF} {ψ : gG} {κm : Nat → Nat} {τ : gf} {σ : gs} {F : gf} {nu : gg} {g : Nat → Int64} {ls : Array Slot} (I : LIF s γ A m0 κ φ ψ κm τ σ F nu g H locs) (h3 : RXK κ φ ψ κm τ F nu) (hl : lv_has ls 7 [(0, .ref b), (1, .ref (γ.2.2.2 0)), (2, .ref m0), (3, .ref (m0 + 25)), (4, .int x4)]) : W p l e room_1 s m #[Value.ref b] below meth c H locs (CC κ q) (SS κ q) Q (F0 m 104 ls []) := by
  obtain ⟨hx, hb, hml, hown, hW⟩ := id K.S
  have hbA : ¬ (fun q : Nat => s.heap.size ≤ q) b := Nat.not_le.mpr K.hbl
  refine lv_aload_n hx hb dLaw_law_104 rfl (lv_at hl 1 rfl) ?_
  refine lv_aload_n hx hb dLaw_law_105 rfl (lv_at hl 0 rfl) ?_
  refine lv_iload hx hb dLaw_law_106 (lv_at hl 4 rfl) ?_
  refine lv_iconst (v := 1) hx hb dLaw_law_108 (by decide) ?_
  refine lv_iadd hx hb dLaw_law_109 ?_
  refine va_sld hx hb K.hX K.hbl hbA I.hS (lw_in K.hL hq ex4 1 (by decide) rfl) dLaw_law_110 ?_
  refine lv_aload_n hx hb dLaw_law_111 rfl (lv_at hl 0 rfl) ?_
  refine lv_iload hx hb dLaw_law_112 (lv_at hl 4 rfl) ?_
  refine lv_iconst (v := 2) hx hb dLaw_law_114 (by decide) ?_
  refine lv_iadd hx hb dLaw_law_115 ?_
  refine va_sld hx hb K.hX K.hbl hbA I.hS (lw_in K.hL hq ex4 2 (by decide) rfl) dLaw_law_116 ?_
  refine lv_aload_n hx hb dLaw_law_117 rfl (lv_at hl 0 rfl) ?_
  refine lv_iload hx hb dLaw_law_118 (lv_at hl 4 rfl) ?_
  refine lv_iconst (v := 3) hx hb dLaw_law_120 (by decide) ?_
  refine lv_iadd hx hb dLaw_law_121 ?_
  refine va_sld hx hb K.hX K.hbl hbA I.hS (lw_in K.hL hq ex4 3 (by decide) rfl) dLaw_law_122 ?_
  refine lv_aload_n hx hb dLaw_law_123 rfl (lv_at hl 3 rfl) ?_
  refine lcf_wrap (o := (P_TypeBook_add κ φ ψ (xs (x4 + 1).toNatClampNeg) (xs (x4 + 2).toNatClampNeg) (xs (x4 + 3).toNatClampNeg))) K I (by have := K.hL; omega) (wf_add l K.hst γ A κ φ ψ s K.hw0 K.hnc K.hA0 H (m0 + 25) K.hAo g (xs (x4 + 1).toNatClampNeg) (xs (x4 + 2).toNatClampNeg) (xs (x4 + 3).toNatClampNeg)) meLaw_add qw_70d2ddefbe ⟨Nat.le_of_ble_eq_true rfl, Nat.le_of_ble_eq_true rfl⟩ rfl hl.1 rfl dLaw_law_124 (fun r H1 locs1 g1 hr I1 => ?_)
  refine lv_istore (lv' := [(5, .int r), (0, .ref b), (1, .ref (γ.2.2.2 0)), (2, .ref m0), (3, .ref (m0 + 25)), (4, .int x4)]) hx hb dLaw_law_127 hl (by decide) rfl (fun ls hl => ?_)
  refine lv_aload_n hx hb dLaw_law_129 rfl (lv_at hl 3 rfl) ?_
  refine lv_aload_n hx hb dLaw_law_130 rfl (lv_at hl 1 rfl) ?_
  refine lv_iload hx hb dLaw_law_131 (lv_at hl 5 rfl) ?_
  refine lv_iconst (v := 1) hx hb dLaw_law_133 (by decide) ?_
  refine lv_iadd hx hb dLaw_law_134 ?_
  refine va_sld hx hb K.hX K.hbl hbA I1.hS (lw_in K.hL hq ex4 1 (by decide) rfl) dLaw_law_135 ?_
  refine lv_aload_n hx hb dLaw_law_136 rfl (lv_at hl 1 rfl) ?_
  refine lv_iload hx hb dLaw_law_137 (lv_at hl 5 rfl) ?_
  refine lv_iconst (v := 2) hx hb dLaw_law_139 (by decide) ?_
  refine lv_iadd hx hb dLaw_law_140 ?_
  refine va_sld hx hb K.hX K.hbl hbA I1.hS (lw_in K.hL hq ex4 2 (by decide) rfl) dLaw_law_141 ?_
  refine lv_aload_n hx hb dLaw_law_142 rfl (lv_at hl 1 rfl) ?_
  refine lv_iload hx hb dLaw_law_143 (lv_at hl 5 rfl) ?_
  refine lv_iconst (v := 3) hx hb dLaw_law_145 (by decide) ?_
  refine lv_iadd hx hb dLaw_law_146 ?_
  refine va_sld hx hb K.hX K.hbl hbA I1.hS (lw_in K.hL hq ex4 3 (by decide) rfl) dLaw_law_147 ?_
  refine lcf_model (o := (Q_add κm τ σ F nu (xs (x4 + 1).toNatClampNeg) (xs (x4 + 2).toNatClampNeg) (xs (x4 + 3).toNatClampNeg))) (rest := []) (As := [.int (xs (x4 + 1).toNatClampNeg), .int (xs (x4 + 2).toNatClampNeg), .int (xs (x4 + 3).toNatClampNeg)]) K I1 (fun b0 mn ν hT hZ hF hG => n_add l γ m0 (B0 m0) _ κm b0 mn ν τ σ F nu hT (xs (x4 + 1).toNatClampNeg) (xs (x4 + 2).toNatClampNeg) (xs (x4 + 3).toNatClampNeg) hZ hF hG) meModel_add rfl qw_b5f338fe66 ⟨Nat.le_of_ble_eq_true rfl, Nat.le_of_ble_eq_true rfl⟩ rfl hl.1 rfl (Nat.le_of_ble_eq_true rfl) dLaw_law_148 (cc_room1 I1.hP (by have := K.hL; omega)) (fun H2 locs2 I2 => ?_)
  obtain ⟨b0, mn0, ν0, hT0, _⟩ := id I.hM
  have hst1 := sk_add (σ := σ) (x1 := (xs (x4 + 1).toNatClampNeg)) (x2 := (xs (x4 + 2).toNatClampNeg)) (x3 := (xs (x4 + 3).toNatClampNeg)) (il_of I.hI) hT0 h3
  refine lv_istore (lv' := [(6, .int (Q_add κm τ σ F nu (xs (x4 + 1).toNatClampNeg) (xs (x4 + 2).toNatClampNeg) (xs (x4 + 3).toNatClampNeg)).1), (5, .int r), (0, .ref b), (1, .ref (γ.2.2.2 0)), (2, .ref m0), (3, .ref (m0 + 25)), (4, .int x4)]) hx hb dLaw_law_151 hl (by decide) rfl (fun ls hl => ?_)
  refine lv_goto (tgt := 562) hx hb dLaw_law_153 (by decide) ?_
  refine W.up cc_5.1 cc_5.2 ?_
  exact J _ _ _ _ _ _ _ _ _ _ _ _ I2 hst1 (lv_sub hl [2, 3, 4, 5, 6] rfl)
set_option maxHeartbeats 4000000 in
set_option maxRecDepth 100000 in
theorem lc_1 {p : Program} {l : Launch} {e : Env} {s : State} {m : MethodId} {below : List Frame} {meth : Method} {c : Code} {b L : Nat} {xs : Nat → Int32} {γ : gE} {A : Nat → Prop} {m0 : Nat} {q : Nat} {x4 : Int32} {Q : State → Prop} (K : LC l p s m c b L xs γ A m0) (hq : q + 5 ≤ L) (ex4 : x4 = nI q) (J : ∀ (H : Heap) (locs : List Loc) (κ : Nat → Nat) (φ : gF) (ψ : gG) (κm : Nat → Nat) (τ : gf) (σ : gs) (F : gf) (nu : gg) (g : Nat → Int64) (ls : Array Slot), LIF s γ A m0 κ φ ψ κm τ σ F nu g H locs → RXK κ φ ψ κm τ F nu → lv_has ls 7 [(0, .ref b), (1, .ref (γ.2.2.2 0)), (2, .ref m0), (3, .ref (m0 + 25)), (4, .int x4)] → W p l e room_1 s m #[Value.ref b] below meth c H locs (CC κ (q + 5)) (SS κ (q + 5)) Q (F0 m 562 ls [])) {H : Heap} {locs : List Loc} {κ : Nat → Nat} {φ : gF} {ψ : gG} {κm : Nat → Nat} {τ : gf} {σ : gs} {F : gf} {nu : gg} {g : Nat → Int64} {ls : Array Slot} (I : LIF s γ A m0 κ φ ψ κm τ σ F nu g H locs) (h3 : RXK κ φ ψ κm τ F nu) (hl : lv_has ls 7 [(0, .ref b), (1, .ref (γ.2.2.2 0)), (2, .ref m0), (3, .ref (m0 + 25)), (4, .int x4)]) : W p l e room_1 s m #[Value.ref b] below meth c H locs (CC κ q) (SS κ q) Q (F0 m 156 ls []) := by
  obtain ⟨hx, hb, hml, hown, hW⟩ := id K.S
  have hbA : ¬ (fun q : Nat => s.heap.size ≤ q) b := Nat.not_le.mpr K.hbl
  refine lv_aload_n hx hb dLaw_law_156 rfl (lv_at hl 1 rfl) ?_
  refine lcf_clear K I hl.1 qw_b20f6a16b6 dLaw_law_157 (by have h9 := cc_room (q := q) I.hP (by have := K.hL; omega); exact ⟨Nat.le_trans (Nat.le_add_right _ _) h9.1, Nat.le_trans (Nat.le_add_right _ _) h9.2⟩) (fun H1 locs1 I1 => ?_)
  refine lv_pop hx hb dLaw_law_160 rfl ?_
  refine lv_aload_n hx hb dLaw_law_161 rfl (lv_at hl 2 rfl) ?_
  refine lcf_model (o := (Q_clear κm τ σ F nu )) (rest := []) (As := []) K I1 (fun b0 mn ν hT hZ hF hG => n_clear l γ m0 (B0 m0) _ κm b0 mn ν τ σ F nu hT  hZ hF hG) meModel_clear rfl qw_722a39bd15 ⟨Nat.le_of_ble_eq_true rfl, Nat.le_of_ble_eq_true rfl⟩ rfl hl.1 rfl (Nat.le_of_ble_eq_true rfl) dLaw_law_162 (by have h9 := cc_room (q := q) I1.hP (by have := K.hL; omega); exact ⟨Nat.le_trans (Nat.le_add_right _ _) h9.1, Nat.le_trans (Nat.le_add_right _ _) h9.2⟩) (fun H2 locs2 I2 => ?_)
  obtain ⟨b0, mn0, ν0, hT0, _⟩ := id I.hM
  have hst1 := sk_clear (σ := σ) h3
  refine lv_pop hx hb dLaw_law_165 rfl ?_
  refine lv_goto (tgt := 562) hx hb dLaw_law_166 (by decide) ?_
  refine W.up (Nat.le_trans (Nat.le_succ _) cc_5.1) (Nat.le_trans (Nat.le_add_right _ 6) cc_5.2) ?_
  exact J _ _ (ku (ku κ 0 0) 1 0) _ _ _ _ _ _ _ _ _ I2 hst1 (lv_sub hl [0, 1, 2, 3, 4] rfl)
set_option maxHeartbeats 4000000 in
set_option maxRecDepth 100000 in
theorem lc_2 {p : Program} {l : Launch} {e : Env} {s : State} {m : MethodId} {below : List Frame} {meth : Method} {c : Code} {b L : Nat} {xs : Nat → Int32} {γ : gE} {A : Nat → Prop} {m0 : Nat} {q : Nat} {x4 : Int32} {Q : State → Prop} (K : LC l p s m c b L xs γ A m0) (hq : q + 5 ≤ L) (ex4 : x4 = nI q) (J : ∀ (H : Heap) (locs : List Loc) (κ : Nat → Nat) (φ : gF) (ψ : gG) (κm : Nat → Nat) (τ : gf) (σ : gs) (F : gf) (nu : gg) (g : Nat → Int64) (ls : Array Slot), LIF s γ A m0 κ φ ψ κm τ σ F nu g H locs → RXK κ φ ψ κm τ F nu → lv_has ls 7 [(0, .ref b), (1, .ref (γ.2.2.2 0)), (2, .ref m0), (3, .ref (m0 + 25)), (4, .int x4)] → W p l e room_1 s m #[Value.ref b] below meth c H locs (CC κ (q + 5)) (SS κ (q + 5)) Q (F0 m 562 ls [])) {H : Heap} {locs : List Loc} {κ : Nat → Nat} {φ : gF} {ψ : gG} {κm : Nat → Nat} {τ : gf} {σ : gs} {F : gf} {nu : gg} {g : Nat → Int64} {ls : Array Slot} (I : LIF s γ A m0 κ φ ψ κm τ σ F nu g H locs) (h3 : RXK κ φ ψ κm τ F nu) (hl : lv_has ls 7 [(0, .ref b), (1, .ref (γ.2.2.2 0)), (2, .ref m0), (3, .ref (m0 + 25)), (4, .int x4)]) : W p l e room_1 s m #[Value.ref b] below meth c H locs (CC κ q) (SS κ q) Q (F0 m 169 ls []) := by
  obtain ⟨hx, hb, hml, hown, hW⟩ := id K.S
  have hbA : ¬ (fun q : Nat => s.heap.size ≤ q) b := Nat.not_le.mpr K.hbl
  refine lv_aload_n hx hb dLaw_law_169 rfl (lv_at hl 1 rfl) ?_
  refine lv_aload_n hx hb dLaw_law_170 rfl (lv_at hl 3 rfl) ?_
  refine lcf_wrap (o := (P_TypeBook_enter κ φ ψ )) K I (by have := K.hL; omega) (wf_enter l K.hst γ A κ φ ψ s K.hw0 K.hnc K.hA0 H (m0 + 25) K.hAo g ) meLaw_enter qw_024e23bb92 ⟨Nat.le_of_ble_eq_true rfl, Nat.le_of_ble_eq_true rfl⟩ rfl hl.1 rfl dLaw_law_171 (fun r H1 locs1 g1 hr I1 => ?_)
  refine lv_istore (lv' := [(5, .int r), (0, .ref b), (1, .ref (γ.2.2.2 0)), (2, .ref m0), (3, .ref (m0 + 25)), (4, .int x4)]) hx hb dLaw_law_174 hl (by decide) rfl (fun ls hl => ?_)
  refine lv_aload_n hx hb dLaw_law_176 rfl (lv_at hl 3 rfl) ?_
  refine lcf_model (o := (Q_enter κm τ σ F nu )) (rest := []) (As := []) K I1 (fun b0 mn ν hT hZ hF hG => n_enter l γ m0 (B0 m0) _ κm b0 mn ν τ σ F nu hT  hZ hF hG) meModel_enter rfl qw_3972cb422a ⟨Nat.le_of_ble_eq_true rfl, Nat.le_of_ble_eq_true rfl⟩ rfl hl.1 rfl (Nat.le_of_ble_eq_true rfl) dLaw_law_177 (cc_room1 I1.hP (by have := K.hL; omega)) (fun H2 locs2 I2 => ?_)
  obtain ⟨b0, mn0, ν0, hT0, _⟩ := id I.hM
  have hst1 := sk_enter (σ := σ)  (il_of I.hI) hT0 h3
  refine lv_istore (lv' := [(6, .int (Q_enter κm τ σ F nu ).1), (5, .int r), (0, .ref b), (1, .ref (γ.2.2.2 0)), (2, .ref m0), (3, .ref (m0 + 25)), (4, .int x4)]) hx hb dLaw_law_180 hl (by decide) rfl (fun ls hl => ?_)
  refine lv_goto (tgt := 562) hx hb dLaw_law_182 (by decide) ?_
  refine W.up cc_5.1 cc_5.2 ?_
  exact J _ _ _ _ _ _ _ _ _ _ _ _ I2 hst1 (lv_sub hl [2, 3, 4, 5, 6] rfl)
set_option maxHeartbeats 4000000 in
set_option maxRecDepth 100000 in
theorem lc_3 {p : Program} {l : Launch} {e : Env} {s : State} {m : MethodId} {below : List Frame} {meth : Method} {c : Code} {b L : Nat} {xs : Nat → Int32} {γ : gE} {A : Nat → Prop} {m0 : Nat} {q : Nat} {x4 : Int32} {Q : State → Prop} (K : LC l p s m c b L xs γ A m0) (hq : q + 5 ≤ L) (ex4 : x4 = nI q) (J : ∀ (H : Heap) (locs : List Loc) (κ : Nat → Nat) (φ : gF) (ψ : gG) (κm : Nat → Nat) (τ : gf) (σ : gs) (F : gf) (nu : gg) (g : Nat → Int64) (ls : Array Slot), LIF s γ A m0 κ φ ψ κm τ σ F nu g H locs → RXK κ φ ψ κm τ F nu → lv_has ls 7 [(0, .ref b), (1, .ref (γ.2.2.2 0)), (2, .ref m0), (3, .ref (m0 + 25)), (4, .int x4)] → W p l e room_1 s m #[Value.ref b] below meth c H locs (CC κ (q + 5)) (SS κ (q + 5)) Q (F0 m 562 ls [])) {H : Heap} {locs : List Loc} {κ : Nat → Nat} {φ : gF} {ψ : gG} {κm : Nat → Nat} {τ : gf} {σ : gs} {F : gf} {nu : gg} {g : Nat → Int64} {ls : Array Slot} (I : LIF s γ A m0 κ φ ψ κm τ σ F nu g H locs) (h3 : RXK κ φ ψ κm τ F nu) (hl : lv_has ls 7 [(0, .ref b), (1, .ref (γ.2.2.2 0)), (2, .ref m0), (3, .ref (m0 + 25)), (4, .int x4)]) : W p l e room_1 s m #[Value.ref b] below meth c H locs (CC κ q) (SS κ q) Q (F0 m 185 ls []) := by
  obtain ⟨hx, hb, hml, hown, hW⟩ := id K.S
  have hbA : ¬ (fun q : Nat => s.heap.size ≤ q) b := Nat.not_le.mpr K.hbl
  refine lv_aload_n hx hb dLaw_law_185 rfl (lv_at hl 1 rfl) ?_
  refine lv_aload_n hx hb dLaw_law_186 rfl (lv_at hl 3 rfl) ?_
  refine lcf_wrap (o := (P_TypeBook_leave κ φ ψ )) K I (by have := K.hL; omega) (wf_leave l K.hst γ A κ φ ψ s K.hw0 K.hnc K.hA0 H (m0 + 25) K.hAo g ) meLaw_leave qw_0870710788 ⟨Nat.le_of_ble_eq_true rfl, Nat.le_of_ble_eq_true rfl⟩ rfl hl.1 rfl dLaw_law_187 (fun r H1 locs1 g1 hr I1 => ?_)
  refine lv_istore (lv' := [(5, .int r), (0, .ref b), (1, .ref (γ.2.2.2 0)), (2, .ref m0), (3, .ref (m0 + 25)), (4, .int x4)]) hx hb dLaw_law_190 hl (by decide) rfl (fun ls hl => ?_)
  refine lv_aload_n hx hb dLaw_law_192 rfl (lv_at hl 3 rfl) ?_
  refine lcf_model (o := (Q_leave κm τ σ F nu )) (rest := []) (As := []) K I1 (fun b0 mn ν hT hZ hF hG => n_leave l γ m0 (B0 m0) _ κm b0 mn ν τ σ F nu hT  hZ hF hG) meModel_leave rfl qw_46afa56bf9 ⟨Nat.le_of_ble_eq_true rfl, Nat.le_of_ble_eq_true rfl⟩ rfl hl.1 rfl (Nat.le_of_ble_eq_true rfl) dLaw_law_193 (cc_room1 I1.hP (by have := K.hL; omega)) (fun H2 locs2 I2 => ?_)
  obtain ⟨b0, mn0, ν0, hT0, _⟩ := id I.hM
  have hst1 := sk_leave (σ := σ)  (il_of I.hI) hT0 h3
  refine lv_istore (lv' := [(6, .int (Q_leave κm τ σ F nu ).1), (5, .int r), (0, .ref b), (1, .ref (γ.2.2.2 0)), (2, .ref m0), (3, .ref (m0 + 25)), (4, .int x4)]) hx hb dLaw_law_196 hl (by decide) rfl (fun ls hl => ?_)
  refine lv_goto (tgt := 562) hx hb dLaw_law_198 (by decide) ?_
  refine W.up cc_5.1 cc_5.2 ?_
  exact J _ _ _ _ _ _ _ _ _ _ _ _ I2 hst1 (lv_sub hl [2, 3, 4, 5, 6] rfl)
set_option maxHeartbeats 4000000 in
set_option maxRecDepth 100000 in
theorem lc_4 {p : Program} {l : Launch} {e : Env} {s : State} {m : MethodId} {below : List Frame} {meth : Method} {c : Code} {b L : Nat} {xs : Nat → Int32} {γ : gE} {A : Nat → Prop} {m0 : Nat} {q : Nat} {x4 : Int32} {Q : State → Prop} (K : LC l p s m c b L xs γ A m0) (hq : q + 5 ≤ L) (ex4 : x4 = nI q) (J : ∀ (H : Heap) (locs : List Loc) (κ : Nat → Nat) (φ : gF) (ψ : gG) (κm : Nat → Nat) (τ : gf) (σ : gs) (F : gf) (nu : gg) (g : Nat → Int64) (ls : Array Slot), LIF s γ A m0 κ φ ψ κm τ σ F nu g H locs → RXK κ φ ψ κm τ F nu → lv_has ls 7 [(0, .ref b), (1, .ref (γ.2.2.2 0)), (2, .ref m0), (3, .ref (m0 + 25)), (4, .int x4)] → W p l e room_1 s m #[Value.ref b] below meth c H locs (CC κ (q + 5)) (SS κ (q + 5)) Q (F0 m 562 ls [])) {H : Heap} {locs : List Loc} {κ : Nat → Nat} {φ : gF} {ψ : gG} {κm : Nat → Nat} {τ : gf} {σ : gs} {F : gf} {nu : gg} {g : Nat → Int64} {ls : Array Slot} (I : LIF s γ A m0 κ φ ψ κm τ σ F nu g H locs) (h3 : RXK κ φ ψ κm τ F nu) (hl : lv_has ls 7 [(0, .ref b), (1, .ref (γ.2.2.2 0)), (2, .ref m0), (3, .ref (m0 + 25)), (4, .int x4)]) : W p l e room_1 s m #[Value.ref b] below meth c H locs (CC κ q) (SS κ q) Q (F0 m 201 ls []) := by
  obtain ⟨hx, hb, hml, hown, hW⟩ := id K.S
  have hbA : ¬ (fun q : Nat => s.heap.size ≤ q) b := Nat.not_le.mpr K.hbl
  refine lv_aload_n hx hb dLaw_law_201 rfl (lv_at hl 1 rfl) ?_
  refine lv_aload_n hx hb dLaw_law_202 rfl (lv_at hl 0 rfl) ?_
  refine lv_iload hx hb dLaw_law_203 (lv_at hl 4 rfl) ?_
  refine lv_iconst (v := 1) hx hb dLaw_law_205 (by decide) ?_
  refine lv_iadd hx hb dLaw_law_206 ?_
  refine va_sld hx hb K.hX K.hbl hbA I.hS (lw_in K.hL hq ex4 1 (by decide) rfl) dLaw_law_207 ?_
  refine lv_aload_n hx hb dLaw_law_208 rfl (lv_at hl 3 rfl) ?_
  refine lcf_wrap (o := (P_TypeBook_type κ φ ψ (xs (x4 + 1).toNatClampNeg))) K I (by have := K.hL; omega) (wf_type l K.hst γ A κ φ ψ s K.hw0 K.hnc K.hA0 H (m0 + 25) K.hAo g (xs (x4 + 1).toNatClampNeg)) meLaw_type qw_0c4280106c ⟨Nat.le_of_ble_eq_true rfl, Nat.le_of_ble_eq_true rfl⟩ rfl hl.1 rfl dLaw_law_209 (fun r H1 locs1 g1 hr I1 => ?_)
  refine lv_istore (lv' := [(5, .int r), (0, .ref b), (1, .ref (γ.2.2.2 0)), (2, .ref m0), (3, .ref (m0 + 25)), (4, .int x4)]) hx hb dLaw_law_212 hl (by decide) rfl (fun ls hl => ?_)
  refine lv_aload_n hx hb dLaw_law_214 rfl (lv_at hl 3 rfl) ?_
  refine lv_aload_n hx hb dLaw_law_215 rfl (lv_at hl 1 rfl) ?_
  refine lv_iload hx hb dLaw_law_216 (lv_at hl 5 rfl) ?_
  refine lv_iconst (v := 1) hx hb dLaw_law_218 (by decide) ?_
  refine lv_iadd hx hb dLaw_law_219 ?_
  refine va_sld hx hb K.hX K.hbl hbA I1.hS (lw_in K.hL hq ex4 1 (by decide) rfl) dLaw_law_220 ?_
  refine lcf_model (o := (Q_type κm τ σ F nu (xs (x4 + 1).toNatClampNeg))) (rest := []) (As := [.int (xs (x4 + 1).toNatClampNeg)]) K I1 (fun b0 mn ν hT hZ hF hG => n_type l γ m0 (B0 m0) _ κm b0 mn ν τ σ F nu hT (xs (x4 + 1).toNatClampNeg) hZ hF hG) meModel_type rfl qw_4ebb7ed85d ⟨Nat.le_of_ble_eq_true rfl, Nat.le_of_ble_eq_true rfl⟩ rfl hl.1 rfl (Nat.le_of_ble_eq_true rfl) dLaw_law_221 (cc_room1 I1.hP (by have := K.hL; omega)) (fun H2 locs2 I2 => ?_)
  obtain ⟨b0, mn0, ν0, hT0, _⟩ := id I.hM
  have hst1 := sk_type (σ := σ) (x1 := (xs (x4 + 1).toNatClampNeg)) (il_of I.hI) hT0 h3
  refine lv_istore (lv' := [(6, .int (Q_type κm τ σ F nu (xs (x4 + 1).toNatClampNeg)).1), (5, .int r), (0, .ref b), (1, .ref (γ.2.2.2 0)), (2, .ref m0), (3, .ref (m0 + 25)), (4, .int x4)]) hx hb dLaw_law_224 hl (by decide) rfl (fun ls hl => ?_)
  refine lv_goto (tgt := 562) hx hb dLaw_law_226 (by decide) ?_
  refine W.up cc_5.1 cc_5.2 ?_
  exact J _ _ _ _ _ _ _ _ _ _ _ _ I2 hst1 (lv_sub hl [2, 3, 4, 5, 6] rfl)
set_option maxHeartbeats 4000000 in
set_option maxRecDepth 100000 in
theorem lc_5 {p : Program} {l : Launch} {e : Env} {s : State} {m : MethodId} {below : List Frame} {meth : Method} {c : Code} {b L : Nat} {xs : Nat → Int32} {γ : gE} {A : Nat → Prop} {m0 : Nat} {q : Nat} {x4 : Int32} {Q : State → Prop} (K : LC l p s m c b L xs γ A m0) (hq : q + 5 ≤ L) (ex4 : x4 = nI q) (J : ∀ (H : Heap) (locs : List Loc) (κ : Nat → Nat) (φ : gF) (ψ : gG) (κm : Nat → Nat) (τ : gf) (σ : gs) (F : gf) (nu : gg) (g : Nat → Int64) (ls : Array Slot), LIF s γ A m0 κ φ ψ κm τ σ F nu g H locs → RXK κ φ ψ κm τ F nu → lv_has ls 7 [(0, .ref b), (1, .ref (γ.2.2.2 0)), (2, .ref m0), (3, .ref (m0 + 25)), (4, .int x4)] → W p l e room_1 s m #[Value.ref b] below meth c H locs (CC κ (q + 5)) (SS κ (q + 5)) Q (F0 m 562 ls [])) {H : Heap} {locs : List Loc} {κ : Nat → Nat} {φ : gF} {ψ : gG} {κm : Nat → Nat} {τ : gf} {σ : gs} {F : gf} {nu : gg} {g : Nat → Int64} {ls : Array Slot} (I : LIF s γ A m0 κ φ ψ κm τ σ F nu g H locs) (h3 : RXK κ φ ψ κm τ F nu) (hl : lv_has ls 7 [(0, .ref b), (1, .ref (γ.2.2.2 0)), (2, .ref m0), (3, .ref (m0 + 25)), (4, .int x4)]) : W p l e room_1 s m #[Value.ref b] below meth c H locs (CC κ q) (SS κ q) Q (F0 m 229 ls []) := by
  obtain ⟨hx, hb, hml, hown, hW⟩ := id K.S
  have hbA : ¬ (fun q : Nat => s.heap.size ≤ q) b := Nat.not_le.mpr K.hbl
  refine lv_aload_n hx hb dLaw_law_229 rfl (lv_at hl 1 rfl) ?_
  refine lv_aload_n hx hb dLaw_law_230 rfl (lv_at hl 0 rfl) ?_
  refine lv_iload hx hb dLaw_law_231 (lv_at hl 4 rfl) ?_
  refine lv_iconst (v := 1) hx hb dLaw_law_233 (by decide) ?_
  refine lv_iadd hx hb dLaw_law_234 ?_
  refine va_sld hx hb K.hX K.hbl hbA I.hS (lw_in K.hL hq ex4 1 (by decide) rfl) dLaw_law_235 ?_
  refine lv_aload_n hx hb dLaw_law_236 rfl (lv_at hl 3 rfl) ?_
  refine lcf_wrap (o := (P_TypeBook_enumeration κ φ ψ (xs (x4 + 1).toNatClampNeg))) K I (by have := K.hL; omega) (wf_enumeration l K.hst γ A κ φ ψ s K.hw0 K.hnc K.hA0 H (m0 + 25) K.hAo g (xs (x4 + 1).toNatClampNeg)) meLaw_enumeration qw_ddc0cd02d5 ⟨Nat.le_of_ble_eq_true rfl, Nat.le_of_ble_eq_true rfl⟩ rfl hl.1 rfl dLaw_law_237 (fun r H1 locs1 g1 hr I1 => ?_)
  refine lv_istore (lv' := [(5, .int r), (0, .ref b), (1, .ref (γ.2.2.2 0)), (2, .ref m0), (3, .ref (m0 + 25)), (4, .int x4)]) hx hb dLaw_law_240 hl (by decide) rfl (fun ls hl => ?_)
  refine lv_aload_n hx hb dLaw_law_242 rfl (lv_at hl 3 rfl) ?_
  refine lv_aload_n hx hb dLaw_law_243 rfl (lv_at hl 1 rfl) ?_
  refine lv_iload hx hb dLaw_law_244 (lv_at hl 5 rfl) ?_
  refine lv_iconst (v := 1) hx hb dLaw_law_246 (by decide) ?_
  refine lv_iadd hx hb dLaw_law_247 ?_
  refine va_sld hx hb K.hX K.hbl hbA I1.hS (lw_in K.hL hq ex4 1 (by decide) rfl) dLaw_law_248 ?_
  refine lcf_model (o := (Q_enumeration κm τ σ F nu (xs (x4 + 1).toNatClampNeg))) (rest := []) (As := [.int (xs (x4 + 1).toNatClampNeg)]) K I1 (fun b0 mn ν hT hZ hF hG => n_enumeration l γ m0 (B0 m0) _ κm b0 mn ν τ σ F nu hT (xs (x4 + 1).toNatClampNeg) hZ hF hG) meModel_enumeration rfl qw_71b525f37d ⟨Nat.le_of_ble_eq_true rfl, Nat.le_of_ble_eq_true rfl⟩ rfl hl.1 rfl (Nat.le_of_ble_eq_true rfl) dLaw_law_249 (cc_room1 I1.hP (by have := K.hL; omega)) (fun H2 locs2 I2 => ?_)
  obtain ⟨b0, mn0, ν0, hT0, _⟩ := id I.hM
  have hst1 := sk_enumeration (σ := σ) (x1 := (xs (x4 + 1).toNatClampNeg)) (il_of I.hI) hT0 h3
  obtain ⟨hst1, han⟩ := hst1
  obtain ⟨hcd, hgr⟩ := wr_ane hr han
  refine lv_istore (lv' := [(6, .int (Q_enumeration κm τ σ F nu (xs (x4 + 1).toNatClampNeg)).1), (5, .int r), (0, .ref b), (1, .ref (γ.2.2.2 0)), (2, .ref m0), (3, .ref (m0 + 25)), (4, .int x4)]) hx hb dLaw_law_252 hl (by decide) rfl (fun ls hl => ?_)
  refine lv_goto (tgt := 562) hx hb dLaw_law_254 (by decide) ?_
  refine W.up cc_5.1 cc_5.2 ?_
  exact J _ _ _ _ _ _ _ _ _ _ _ _ I2 hst1 (lv_sub hl [2, 3, 4, 5, 6] rfl)
set_option maxHeartbeats 4000000 in
set_option maxRecDepth 100000 in
theorem lc_6 {p : Program} {l : Launch} {e : Env} {s : State} {m : MethodId} {below : List Frame} {meth : Method} {c : Code} {b L : Nat} {xs : Nat → Int32} {γ : gE} {A : Nat → Prop} {m0 : Nat} {q : Nat} {x4 : Int32} {Q : State → Prop} (K : LC l p s m c b L xs γ A m0) (hq : q + 5 ≤ L) (ex4 : x4 = nI q) (J : ∀ (H : Heap) (locs : List Loc) (κ : Nat → Nat) (φ : gF) (ψ : gG) (κm : Nat → Nat) (τ : gf) (σ : gs) (F : gf) (nu : gg) (g : Nat → Int64) (ls : Array Slot), LIF s γ A m0 κ φ ψ κm τ σ F nu g H locs → RXK κ φ ψ κm τ F nu → lv_has ls 7 [(0, .ref b), (1, .ref (γ.2.2.2 0)), (2, .ref m0), (3, .ref (m0 + 25)), (4, .int x4)] → W p l e room_1 s m #[Value.ref b] below meth c H locs (CC κ (q + 5)) (SS κ (q + 5)) Q (F0 m 562 ls [])) {H : Heap} {locs : List Loc} {κ : Nat → Nat} {φ : gF} {ψ : gG} {κm : Nat → Nat} {τ : gf} {σ : gs} {F : gf} {nu : gg} {g : Nat → Int64} {ls : Array Slot} (I : LIF s γ A m0 κ φ ψ κm τ σ F nu g H locs) (h3 : RXK κ φ ψ κm τ F nu) (hl : lv_has ls 7 [(0, .ref b), (1, .ref (γ.2.2.2 0)), (2, .ref m0), (3, .ref (m0 + 25)), (4, .int x4)]) : W p l e room_1 s m #[Value.ref b] below meth c H locs (CC κ q) (SS κ q) Q (F0 m 257 ls []) := by
  obtain ⟨hx, hb, hml, hown, hW⟩ := id K.S
  have hbA : ¬ (fun q : Nat => s.heap.size ≤ q) b := Nat.not_le.mpr K.hbl
  refine lv_aload_n hx hb dLaw_law_257 rfl (lv_at hl 1 rfl) ?_
  refine lv_aload_n hx hb dLaw_law_258 rfl (lv_at hl 0 rfl) ?_
  refine lv_iload hx hb dLaw_law_259 (lv_at hl 4 rfl) ?_
  refine lv_iconst (v := 1) hx hb dLaw_law_261 (by decide) ?_
  refine lv_iadd hx hb dLaw_law_262 ?_
  refine va_sld hx hb K.hX K.hbl hbA I.hS (lw_in K.hL hq ex4 1 (by decide) rfl) dLaw_law_263 ?_
  refine lv_aload_n hx hb dLaw_law_264 rfl (lv_at hl 0 rfl) ?_
  refine lv_iload hx hb dLaw_law_265 (lv_at hl 4 rfl) ?_
  refine lv_iconst (v := 2) hx hb dLaw_law_267 (by decide) ?_
  refine lv_iadd hx hb dLaw_law_268 ?_
  refine va_sld hx hb K.hX K.hbl hbA I.hS (lw_in K.hL hq ex4 2 (by decide) rfl) dLaw_law_269 ?_
  refine lv_aload_n hx hb dLaw_law_270 rfl (lv_at hl 3 rfl) ?_
  refine lcf_wrap (o := (P_TypeBook_subtype κ φ ψ (xs (x4 + 1).toNatClampNeg) (xs (x4 + 2).toNatClampNeg))) K I (by have := K.hL; omega) (wf_subtype l K.hst γ A κ φ ψ s K.hw0 K.hnc K.hA0 H (m0 + 25) K.hAo g (xs (x4 + 1).toNatClampNeg) (xs (x4 + 2).toNatClampNeg)) meLaw_subtype qw_dfdad7d990 ⟨Nat.le_of_ble_eq_true rfl, Nat.le_of_ble_eq_true rfl⟩ rfl hl.1 rfl dLaw_law_271 (fun r H1 locs1 g1 hr I1 => ?_)
  refine lv_istore (lv' := [(5, .int r), (0, .ref b), (1, .ref (γ.2.2.2 0)), (2, .ref m0), (3, .ref (m0 + 25)), (4, .int x4)]) hx hb dLaw_law_274 hl (by decide) rfl (fun ls hl => ?_)
  refine lv_aload_n hx hb dLaw_law_276 rfl (lv_at hl 3 rfl) ?_
  refine lv_aload_n hx hb dLaw_law_277 rfl (lv_at hl 1 rfl) ?_
  refine lv_iload hx hb dLaw_law_278 (lv_at hl 5 rfl) ?_
  refine lv_iconst (v := 1) hx hb dLaw_law_280 (by decide) ?_
  refine lv_iadd hx hb dLaw_law_281 ?_
  refine va_sld hx hb K.hX K.hbl hbA I1.hS (lw_in K.hL hq ex4 1 (by decide) rfl) dLaw_law_282 ?_
  refine lv_aload_n hx hb dLaw_law_283 rfl (lv_at hl 1 rfl) ?_
  refine lv_iload hx hb dLaw_law_284 (lv_at hl 5 rfl) ?_
  refine lv_iconst (v := 2) hx hb dLaw_law_286 (by decide) ?_
  refine lv_iadd hx hb dLaw_law_287 ?_
  refine va_sld hx hb K.hX K.hbl hbA I1.hS (lw_in K.hL hq ex4 2 (by decide) rfl) dLaw_law_288 ?_
  refine lcf_model (o := (Q_subtype κm τ σ F nu (xs (x4 + 1).toNatClampNeg) (xs (x4 + 2).toNatClampNeg))) (rest := []) (As := [.int (xs (x4 + 1).toNatClampNeg), .int (xs (x4 + 2).toNatClampNeg)]) K I1 (fun b0 mn ν hT hZ hF hG => n_subtype l γ m0 (B0 m0) _ κm b0 mn ν τ σ F nu hT (xs (x4 + 1).toNatClampNeg) (xs (x4 + 2).toNatClampNeg) hZ hF hG) meModel_subtype rfl qw_7f175f9fcc ⟨Nat.le_of_ble_eq_true rfl, Nat.le_of_ble_eq_true rfl⟩ rfl hl.1 rfl (Nat.le_of_ble_eq_true rfl) dLaw_law_289 (cc_room1 I1.hP (by have := K.hL; omega)) (fun H2 locs2 I2 => ?_)
  obtain ⟨b0, mn0, ν0, hT0, _⟩ := id I.hM
  have hst1 := sk_subtype (σ := σ) (x1 := (xs (x4 + 1).toNatClampNeg)) (x2 := (xs (x4 + 2).toNatClampNeg)) (il_of I.hI) hT0 h3
  obtain ⟨hst1, han⟩ := hst1
  obtain ⟨hcd, hgr⟩ := wr_an (by decide) hr han
  refine lv_istore (lv' := [(6, .int (Q_subtype κm τ σ F nu (xs (x4 + 1).toNatClampNeg) (xs (x4 + 2).toNatClampNeg)).1), (5, .int r), (0, .ref b), (1, .ref (γ.2.2.2 0)), (2, .ref m0), (3, .ref (m0 + 25)), (4, .int x4)]) hx hb dLaw_law_292 hl (by decide) rfl (fun ls hl => ?_)
  refine lv_goto (tgt := 562) hx hb dLaw_law_294 (by decide) ?_
  refine W.up cc_5.1 cc_5.2 ?_
  exact J _ _ _ _ _ _ _ _ _ _ _ _ I2 hst1 (lv_sub hl [2, 3, 4, 5, 6] rfl)
set_option maxHeartbeats 4000000 in
set_option maxRecDepth 100000 in
theorem lc_7 {p : Program} {l : Launch} {e : Env} {s : State} {m : MethodId} {below : List Frame} {meth : Method} {c : Code} {b L : Nat} {xs : Nat → Int32} {γ : gE} {A : Nat → Prop} {m0 : Nat} {q : Nat} {x4 : Int32} {Q : State → Prop} (K : LC l p s m c b L xs γ A m0) (hq : q + 5 ≤ L) (ex4 : x4 = nI q) (J : ∀ (H : Heap) (locs : List Loc) (κ : Nat → Nat) (φ : gF) (ψ : gG) (κm : Nat → Nat) (τ : gf) (σ : gs) (F : gf) (nu : gg) (g : Nat → Int64) (ls : Array Slot), LIF s γ A m0 κ φ ψ κm τ σ F nu g H locs → RXK κ φ ψ κm τ F nu → lv_has ls 7 [(0, .ref b), (1, .ref (γ.2.2.2 0)), (2, .ref m0), (3, .ref (m0 + 25)), (4, .int x4)] → W p l e room_1 s m #[Value.ref b] below meth c H locs (CC κ (q + 5)) (SS κ (q + 5)) Q (F0 m 562 ls [])) {H : Heap} {locs : List Loc} {κ : Nat → Nat} {φ : gF} {ψ : gG} {κm : Nat → Nat} {τ : gf} {σ : gs} {F : gf} {nu : gg} {g : Nat → Int64} {ls : Array Slot} (I : LIF s γ A m0 κ φ ψ κm τ σ F nu g H locs) (h3 : RXK κ φ ψ κm τ F nu) (hl : lv_has ls 7 [(0, .ref b), (1, .ref (γ.2.2.2 0)), (2, .ref m0), (3, .ref (m0 + 25)), (4, .int x4)]) : W p l e room_1 s m #[Value.ref b] below meth c H locs (CC κ q) (SS κ q) Q (F0 m 297 ls []) := by
  obtain ⟨hx, hb, hml, hown, hW⟩ := id K.S
  have hbA : ¬ (fun q : Nat => s.heap.size ≤ q) b := Nat.not_le.mpr K.hbl
  refine lv_aload_n hx hb dLaw_law_297 rfl (lv_at hl 1 rfl) ?_
  refine lv_aload_n hx hb dLaw_law_298 rfl (lv_at hl 0 rfl) ?_
  refine lv_iload hx hb dLaw_law_299 (lv_at hl 4 rfl) ?_
  refine lv_iconst (v := 1) hx hb dLaw_law_301 (by decide) ?_
  refine lv_iadd hx hb dLaw_law_302 ?_
  refine va_sld hx hb K.hX K.hbl hbA I.hS (lw_in K.hL hq ex4 1 (by decide) rfl) dLaw_law_303 ?_
  refine lv_aload_n hx hb dLaw_law_304 rfl (lv_at hl 0 rfl) ?_
  refine lv_iload hx hb dLaw_law_305 (lv_at hl 4 rfl) ?_
  refine lv_iconst (v := 2) hx hb dLaw_law_307 (by decide) ?_
  refine lv_iadd hx hb dLaw_law_308 ?_
  refine va_sld hx hb K.hX K.hbl hbA I.hS (lw_in K.hL hq ex4 2 (by decide) rfl) dLaw_law_309 ?_
  refine lv_aload_n hx hb dLaw_law_310 rfl (lv_at hl 0 rfl) ?_
  refine lv_iload hx hb dLaw_law_311 (lv_at hl 4 rfl) ?_
  refine lv_iconst (v := 3) hx hb dLaw_law_313 (by decide) ?_
  refine lv_iadd hx hb dLaw_law_314 ?_
  refine va_sld hx hb K.hX K.hbl hbA I.hS (lw_in K.hL hq ex4 3 (by decide) rfl) dLaw_law_315 ?_
  refine lv_aload_n hx hb dLaw_law_316 rfl (lv_at hl 0 rfl) ?_
  refine lv_iload hx hb dLaw_law_317 (lv_at hl 4 rfl) ?_
  refine lv_iconst (v := 4) hx hb dLaw_law_319 (by decide) ?_
  refine lv_iadd hx hb dLaw_law_320 ?_
  refine va_sld hx hb K.hX K.hbl hbA I.hS (lw_in K.hL hq ex4 4 (by decide) rfl) dLaw_law_321 ?_
  refine lv_aload_n hx hb dLaw_law_322 rfl (lv_at hl 3 rfl) ?_
  refine lcf_wrap (o := (P_TypeBook_declare κ φ ψ (xs (x4 + 1).toNatClampNeg) (xs (x4 + 2).toNatClampNeg) (xs (x4 + 3).toNatClampNeg) (xs (x4 + 4).toNatClampNeg))) K I (by have := K.hL; omega) (wf_declare l K.hst γ A κ φ ψ s K.hw0 K.hnc K.hA0 H (m0 + 25) K.hAo g (xs (x4 + 1).toNatClampNeg) (xs (x4 + 2).toNatClampNeg) (xs (x4 + 3).toNatClampNeg) (xs (x4 + 4).toNatClampNeg)) meLaw_declare qw_92a1c8ddd1 ⟨Nat.le_of_ble_eq_true rfl, Nat.le_of_ble_eq_true rfl⟩ rfl hl.1 rfl dLaw_law_323 (fun r H1 locs1 g1 hr I1 => ?_)
  refine lv_istore (lv' := [(5, .int r), (0, .ref b), (1, .ref (γ.2.2.2 0)), (2, .ref m0), (3, .ref (m0 + 25)), (4, .int x4)]) hx hb dLaw_law_326 hl (by decide) rfl (fun ls hl => ?_)
  refine lv_aload_n hx hb dLaw_law_328 rfl (lv_at hl 3 rfl) ?_
  refine lv_aload_n hx hb dLaw_law_329 rfl (lv_at hl 1 rfl) ?_
  refine lv_iload hx hb dLaw_law_330 (lv_at hl 5 rfl) ?_
  refine lv_iconst (v := 1) hx hb dLaw_law_332 (by decide) ?_
  refine lv_iadd hx hb dLaw_law_333 ?_
  refine va_sld hx hb K.hX K.hbl hbA I1.hS (lw_in K.hL hq ex4 1 (by decide) rfl) dLaw_law_334 ?_
  refine lv_aload_n hx hb dLaw_law_335 rfl (lv_at hl 1 rfl) ?_
  refine lv_iload hx hb dLaw_law_336 (lv_at hl 5 rfl) ?_
  refine lv_iconst (v := 2) hx hb dLaw_law_338 (by decide) ?_
  refine lv_iadd hx hb dLaw_law_339 ?_
  refine va_sld hx hb K.hX K.hbl hbA I1.hS (lw_in K.hL hq ex4 2 (by decide) rfl) dLaw_law_340 ?_
  refine lv_aload_n hx hb dLaw_law_341 rfl (lv_at hl 1 rfl) ?_
  refine lv_iload hx hb dLaw_law_342 (lv_at hl 5 rfl) ?_
  refine lv_iconst (v := 3) hx hb dLaw_law_344 (by decide) ?_
  refine lv_iadd hx hb dLaw_law_345 ?_
  refine va_sld hx hb K.hX K.hbl hbA I1.hS (lw_in K.hL hq ex4 3 (by decide) rfl) dLaw_law_346 ?_
  refine lv_aload_n hx hb dLaw_law_347 rfl (lv_at hl 1 rfl) ?_
  refine lv_iload hx hb dLaw_law_348 (lv_at hl 5 rfl) ?_
  refine lv_iconst (v := 4) hx hb dLaw_law_350 (by decide) ?_
  refine lv_iadd hx hb dLaw_law_351 ?_
  refine va_sld hx hb K.hX K.hbl hbA I1.hS (lw_in K.hL hq ex4 4 (by decide) rfl) dLaw_law_352 ?_
  refine lcf_model (o := (Q_declare κm τ σ F nu (xs (x4 + 1).toNatClampNeg) (xs (x4 + 2).toNatClampNeg) (xs (x4 + 3).toNatClampNeg) (xs (x4 + 4).toNatClampNeg))) (rest := []) (As := [.int (xs (x4 + 1).toNatClampNeg), .int (xs (x4 + 2).toNatClampNeg), .int (xs (x4 + 3).toNatClampNeg), .int (xs (x4 + 4).toNatClampNeg)]) K I1 (fun b0 mn ν hT hZ hF hG => n_declare l γ m0 (B0 m0) _ κm b0 mn ν τ σ F nu hT (xs (x4 + 1).toNatClampNeg) (xs (x4 + 2).toNatClampNeg) (xs (x4 + 3).toNatClampNeg) (xs (x4 + 4).toNatClampNeg) hZ hF hG) meModel_declare rfl qw_cce4fe4997 ⟨Nat.le_of_ble_eq_true rfl, Nat.le_of_ble_eq_true rfl⟩ rfl hl.1 rfl (Nat.le_of_ble_eq_true rfl) dLaw_law_353 (cc_room1 I1.hP (by have := K.hL; omega)) (fun H2 locs2 I2 => ?_)
  obtain ⟨b0, mn0, ν0, hT0, _⟩ := id I.hM
  have hst1 := sk_declare (σ := σ) (x1 := (xs (x4 + 1).toNatClampNeg)) (x2 := (xs (x4 + 2).toNatClampNeg)) (x3 := (xs (x4 + 3).toNatClampNeg)) (x4 := (xs (x4 + 4).toNatClampNeg)) (il_of I.hI) hT0 h3
  refine lv_istore (lv' := [(6, .int (Q_declare κm τ σ F nu (xs (x4 + 1).toNatClampNeg) (xs (x4 + 2).toNatClampNeg) (xs (x4 + 3).toNatClampNeg) (xs (x4 + 4).toNatClampNeg)).1), (5, .int r), (0, .ref b), (1, .ref (γ.2.2.2 0)), (2, .ref m0), (3, .ref (m0 + 25)), (4, .int x4)]) hx hb dLaw_law_356 hl (by decide) rfl (fun ls hl => ?_)
  refine lv_goto (tgt := 562) hx hb dLaw_law_358 (by decide) ?_
  refine W.up cc_5.1 cc_5.2 ?_
  exact J _ _ _ _ _ _ _ _ _ _ _ _ I2 hst1 (lv_sub hl [2, 3, 4, 5, 6] rfl)
set_option maxHeartbeats 4000000 in
set_option maxRecDepth 100000 in
theorem lc_8 {p : Program} {l : Launch} {e : Env} {s : State} {m : MethodId} {below : List Frame} {meth : Method} {c : Code} {b L : Nat} {xs : Nat → Int32} {γ : gE} {A : Nat → Prop} {m0 : Nat} {q : Nat} {x4 : Int32} {Q : State → Prop} (K : LC l p s m c b L xs γ A m0) (hq : q + 5 ≤ L) (ex4 : x4 = nI q) (J : ∀ (H : Heap) (locs : List Loc) (κ : Nat → Nat) (φ : gF) (ψ : gG) (κm : Nat → Nat) (τ : gf) (σ : gs) (F : gf) (nu : gg) (g : Nat → Int64) (ls : Array Slot), LIF s γ A m0 κ φ ψ κm τ σ F nu g H locs → RXK κ φ ψ κm τ F nu → lv_has ls 7 [(0, .ref b), (1, .ref (γ.2.2.2 0)), (2, .ref m0), (3, .ref (m0 + 25)), (4, .int x4)] → W p l e room_1 s m #[Value.ref b] below meth c H locs (CC κ (q + 5)) (SS κ (q + 5)) Q (F0 m 562 ls [])) {H : Heap} {locs : List Loc} {κ : Nat → Nat} {φ : gF} {ψ : gG} {κm : Nat → Nat} {τ : gf} {σ : gs} {F : gf} {nu : gg} {g : Nat → Int64} {ls : Array Slot} (I : LIF s γ A m0 κ φ ψ κm τ σ F nu g H locs) (h3 : RXK κ φ ψ κm τ F nu) (hl : lv_has ls 7 [(0, .ref b), (1, .ref (γ.2.2.2 0)), (2, .ref m0), (3, .ref (m0 + 25)), (4, .int x4)]) : W p l e room_1 s m #[Value.ref b] below meth c H locs (CC κ q) (SS κ q) Q (F0 m 361 ls []) := by
  obtain ⟨hx, hb, hml, hown, hW⟩ := id K.S
  have hbA : ¬ (fun q : Nat => s.heap.size ≤ q) b := Nat.not_le.mpr K.hbl
  refine lv_aload_n hx hb dLaw_law_361 rfl (lv_at hl 1 rfl) ?_
  refine lv_aload_n hx hb dLaw_law_362 rfl (lv_at hl 0 rfl) ?_
  refine lv_iload hx hb dLaw_law_363 (lv_at hl 4 rfl) ?_
  refine lv_iconst (v := 1) hx hb dLaw_law_365 (by decide) ?_
  refine lv_iadd hx hb dLaw_law_366 ?_
  refine va_sld hx hb K.hX K.hbl hbA I.hS (lw_in K.hL hq ex4 1 (by decide) rfl) dLaw_law_367 ?_
  refine lv_aload_n hx hb dLaw_law_368 rfl (lv_at hl 0 rfl) ?_
  refine lv_iload hx hb dLaw_law_369 (lv_at hl 4 rfl) ?_
  refine lv_iconst (v := 2) hx hb dLaw_law_371 (by decide) ?_
  refine lv_iadd hx hb dLaw_law_372 ?_
  refine va_sld hx hb K.hX K.hbl hbA I.hS (lw_in K.hL hq ex4 2 (by decide) rfl) dLaw_law_373 ?_
  refine lv_aload_n hx hb dLaw_law_374 rfl (lv_at hl 3 rfl) ?_
  refine lcf_wrap (o := (P_TypeBook_check κ φ ψ (xs (x4 + 1).toNatClampNeg) (xs (x4 + 2).toNatClampNeg))) K I (by have := K.hL; omega) (wf_check l K.hst γ A κ φ ψ s K.hw0 K.hnc K.hA0 H (m0 + 25) K.hAo g (xs (x4 + 1).toNatClampNeg) (xs (x4 + 2).toNatClampNeg)) meLaw_check qw_4146e1e6a3 ⟨Nat.le_of_ble_eq_true rfl, Nat.le_of_ble_eq_true rfl⟩ rfl hl.1 rfl dLaw_law_375 (fun r H1 locs1 g1 hr I1 => ?_)
  refine lv_istore (lv' := [(5, .int r), (0, .ref b), (1, .ref (γ.2.2.2 0)), (2, .ref m0), (3, .ref (m0 + 25)), (4, .int x4)]) hx hb dLaw_law_378 hl (by decide) rfl (fun ls hl => ?_)
  refine lv_aload_n hx hb dLaw_law_380 rfl (lv_at hl 3 rfl) ?_
  refine lv_aload_n hx hb dLaw_law_381 rfl (lv_at hl 1 rfl) ?_
  refine lv_iload hx hb dLaw_law_382 (lv_at hl 5 rfl) ?_
  refine lv_iconst (v := 1) hx hb dLaw_law_384 (by decide) ?_
  refine lv_iadd hx hb dLaw_law_385 ?_
  refine va_sld hx hb K.hX K.hbl hbA I1.hS (lw_in K.hL hq ex4 1 (by decide) rfl) dLaw_law_386 ?_
  refine lv_aload_n hx hb dLaw_law_387 rfl (lv_at hl 1 rfl) ?_
  refine lv_iload hx hb dLaw_law_388 (lv_at hl 5 rfl) ?_
  refine lv_iconst (v := 2) hx hb dLaw_law_390 (by decide) ?_
  refine lv_iadd hx hb dLaw_law_391 ?_
  refine va_sld hx hb K.hX K.hbl hbA I1.hS (lw_in K.hL hq ex4 2 (by decide) rfl) dLaw_law_392 ?_
  refine lcf_model (o := (Q_check κm τ σ F nu (xs (x4 + 1).toNatClampNeg) (xs (x4 + 2).toNatClampNeg))) (rest := []) (As := [.int (xs (x4 + 1).toNatClampNeg), .int (xs (x4 + 2).toNatClampNeg)]) K I1 (fun b0 mn ν hT hZ hF hG => n_check l γ m0 (B0 m0) _ κm b0 mn ν τ σ F nu hT (xs (x4 + 1).toNatClampNeg) (xs (x4 + 2).toNatClampNeg) hZ hF hG) meModel_check rfl qw_791b948204 ⟨Nat.le_of_ble_eq_true rfl, Nat.le_of_ble_eq_true rfl⟩ rfl hl.1 rfl (Nat.le_of_ble_eq_true rfl) dLaw_law_393 (cc_room1 I1.hP (by have := K.hL; omega)) (fun H2 locs2 I2 => ?_)
  obtain ⟨b0, mn0, ν0, hT0, _⟩ := id I.hM
  have hst1 := sk_check (σ := σ) (x1 := (xs (x4 + 1).toNatClampNeg)) (x2 := (xs (x4 + 2).toNatClampNeg)) (il_of I.hI) hT0 h3
  refine lv_istore (lv' := [(6, .int (Q_check κm τ σ F nu (xs (x4 + 1).toNatClampNeg) (xs (x4 + 2).toNatClampNeg)).1), (5, .int r), (0, .ref b), (1, .ref (γ.2.2.2 0)), (2, .ref m0), (3, .ref (m0 + 25)), (4, .int x4)]) hx hb dLaw_law_396 hl (by decide) rfl (fun ls hl => ?_)
  refine lv_goto (tgt := 562) hx hb dLaw_law_398 (by decide) ?_
  refine W.up cc_5.1 cc_5.2 ?_
  exact J _ _ _ _ _ _ _ _ _ _ _ _ I2 hst1 (lv_sub hl [2, 3, 4, 5, 6] rfl)
set_option maxHeartbeats 4000000 in
set_option maxRecDepth 100000 in
theorem lc_9 {p : Program} {l : Launch} {e : Env} {s : State} {m : MethodId} {below : List Frame} {meth : Method} {c : Code} {b L : Nat} {xs : Nat → Int32} {γ : gE} {A : Nat → Prop} {m0 : Nat} {q : Nat} {x4 : Int32} {Q : State → Prop} (K : LC l p s m c b L xs γ A m0) (hq : q + 5 ≤ L) (ex4 : x4 = nI q) (J : ∀ (H : Heap) (locs : List Loc) (κ : Nat → Nat) (φ : gF) (ψ : gG) (κm : Nat → Nat) (τ : gf) (σ : gs) (F : gf) (nu : gg) (g : Nat → Int64) (ls : Array Slot), LIF s γ A m0 κ φ ψ κm τ σ F nu g H locs → RXK κ φ ψ κm τ F nu → lv_has ls 7 [(0, .ref b), (1, .ref (γ.2.2.2 0)), (2, .ref m0), (3, .ref (m0 + 25)), (4, .int x4)] → W p l e room_1 s m #[Value.ref b] below meth c H locs (CC κ (q + 5)) (SS κ (q + 5)) Q (F0 m 562 ls [])) {H : Heap} {locs : List Loc} {κ : Nat → Nat} {φ : gF} {ψ : gG} {κm : Nat → Nat} {τ : gf} {σ : gs} {F : gf} {nu : gg} {g : Nat → Int64} {ls : Array Slot} (I : LIF s γ A m0 κ φ ψ κm τ σ F nu g H locs) (h3 : RXK κ φ ψ κm τ F nu) (hl : lv_has ls 7 [(0, .ref b), (1, .ref (γ.2.2.2 0)), (2, .ref m0), (3, .ref (m0 + 25)), (4, .int x4)]) : W p l e room_1 s m #[Value.ref b] below meth c H locs (CC κ q) (SS κ q) Q (F0 m 401 ls []) := by
  obtain ⟨hx, hb, hml, hown, hW⟩ := id K.S
  have hbA : ¬ (fun q : Nat => s.heap.size ≤ q) b := Nat.not_le.mpr K.hbl
  refine lv_aload_n hx hb dLaw_law_401 rfl (lv_at hl 1 rfl) ?_
  refine lcf_place K I hl.1 qw_a0b9b8900a dLaw_law_402 (by have h9 := cc_room (q := q) I.hP (by have := K.hL; omega); exact ⟨Nat.le_trans (Nat.le_add_right _ _) h9.1, Nat.le_trans (Nat.le_add_right _ _) h9.2⟩) ?_
  refine lv_pop hx hb dLaw_law_405 rfl ?_
  refine lv_aload_n hx hb dLaw_law_406 rfl (lv_at hl 2 rfl) ?_
  refine lcf_model (o := (Q_place κm τ σ F nu )) (rest := []) (As := []) K I (fun b0 mn ν hT hZ hF hG => n_place l γ m0 (B0 m0) _ κm b0 mn ν τ σ F nu hT  hZ hF hG) meModel_place rfl qw_deca89feaf ⟨Nat.le_of_ble_eq_true rfl, Nat.le_of_ble_eq_true rfl⟩ rfl hl.1 rfl (Nat.le_of_ble_eq_true rfl) dLaw_law_407 (by have h9 := cc_room (q := q) I.hP (by have := K.hL; omega); exact ⟨Nat.le_trans (Nat.le_add_right _ _) h9.1, Nat.le_trans (Nat.le_add_right _ _) h9.2⟩) (fun H2 locs2 I2 => ?_)
  obtain ⟨b0, mn0, ν0, hT0, _⟩ := id I.hM
  have hst1 := sk_place (σ := σ) h3
  refine lv_pop hx hb dLaw_law_410 rfl ?_
  refine lv_goto (tgt := 562) hx hb dLaw_law_411 (by decide) ?_
  refine W.up (Nat.le_trans (Nat.le_succ _) cc_5.1) (Nat.le_trans (Nat.le_add_right _ 6) cc_5.2) ?_
  exact J _ _ _ _ _ _ _ _ _ _ _ _ I2 hst1 (lv_sub hl [0, 1, 2, 3, 4] rfl)
set_option maxHeartbeats 4000000 in
set_option maxRecDepth 100000 in
theorem lc_10 {p : Program} {l : Launch} {e : Env} {s : State} {m : MethodId} {below : List Frame} {meth : Method} {c : Code} {b L : Nat} {xs : Nat → Int32} {γ : gE} {A : Nat → Prop} {m0 : Nat} {q : Nat} {x4 : Int32} {Q : State → Prop} (K : LC l p s m c b L xs γ A m0) (hq : q + 5 ≤ L) (ex4 : x4 = nI q) (J : ∀ (H : Heap) (locs : List Loc) (κ : Nat → Nat) (φ : gF) (ψ : gG) (κm : Nat → Nat) (τ : gf) (σ : gs) (F : gf) (nu : gg) (g : Nat → Int64) (ls : Array Slot), LIF s γ A m0 κ φ ψ κm τ σ F nu g H locs → RXK κ φ ψ κm τ F nu → lv_has ls 7 [(0, .ref b), (1, .ref (γ.2.2.2 0)), (2, .ref m0), (3, .ref (m0 + 25)), (4, .int x4)] → W p l e room_1 s m #[Value.ref b] below meth c H locs (CC κ (q + 5)) (SS κ (q + 5)) Q (F0 m 562 ls [])) {H : Heap} {locs : List Loc} {κ : Nat → Nat} {φ : gF} {ψ : gG} {κm : Nat → Nat} {τ : gf} {σ : gs} {F : gf} {nu : gg} {g : Nat → Int64} {ls : Array Slot} (I : LIF s γ A m0 κ φ ψ κm τ σ F nu g H locs) (h3 : RXK κ φ ψ κm τ F nu) (hl : lv_has ls 7 [(0, .ref b), (1, .ref (γ.2.2.2 0)), (2, .ref m0), (3, .ref (m0 + 25)), (4, .int x4)]) : W p l e room_1 s m #[Value.ref b] below meth c H locs (CC κ q) (SS κ q) Q (F0 m 414 ls []) := by
  obtain ⟨hx, hb, hml, hown, hW⟩ := id K.S
  have hbA : ¬ (fun q : Nat => s.heap.size ≤ q) b := Nat.not_le.mpr K.hbl
  refine lv_aload_n hx hb dLaw_law_414 rfl (lv_at hl 1 rfl) ?_
  refine lv_aload_n hx hb dLaw_law_415 rfl (lv_at hl 0 rfl) ?_
  refine lv_iload hx hb dLaw_law_416 (lv_at hl 4 rfl) ?_
  refine lv_iconst (v := 1) hx hb dLaw_law_418 (by decide) ?_
  refine lv_iadd hx hb dLaw_law_419 ?_
  refine va_sld hx hb K.hX K.hbl hbA I.hS (lw_in K.hL hq ex4 1 (by decide) rfl) dLaw_law_420 ?_
  refine lv_aload_n hx hb dLaw_law_421 rfl (lv_at hl 0 rfl) ?_
  refine lv_iload hx hb dLaw_law_422 (lv_at hl 4 rfl) ?_
  refine lv_iconst (v := 2) hx hb dLaw_law_424 (by decide) ?_
  refine lv_iadd hx hb dLaw_law_425 ?_
  refine va_sld hx hb K.hX K.hbl hbA I.hS (lw_in K.hL hq ex4 2 (by decide) rfl) dLaw_law_426 ?_
  refine lv_aload_n hx hb dLaw_law_427 rfl (lv_at hl 3 rfl) ?_
  refine lcf_wrap (o := (P_TypeBook_typeOf κ φ ψ (xs (x4 + 1).toNatClampNeg) (xs (x4 + 2).toNatClampNeg))) K I (by have := K.hL; omega) (wf_typeOf l K.hst γ A κ φ ψ s K.hw0 K.hnc K.hA0 H (m0 + 25) K.hAo g (xs (x4 + 1).toNatClampNeg) (xs (x4 + 2).toNatClampNeg)) meLaw_typeOf qw_02fa55126c ⟨Nat.le_of_ble_eq_true rfl, Nat.le_of_ble_eq_true rfl⟩ rfl hl.1 rfl dLaw_law_428 (fun r H1 locs1 g1 hr I1 => ?_)
  refine lv_istore (lv' := [(5, .int r), (0, .ref b), (1, .ref (γ.2.2.2 0)), (2, .ref m0), (3, .ref (m0 + 25)), (4, .int x4)]) hx hb dLaw_law_431 hl (by decide) rfl (fun ls hl => ?_)
  refine lv_aload_n hx hb dLaw_law_433 rfl (lv_at hl 3 rfl) ?_
  refine lv_aload_n hx hb dLaw_law_434 rfl (lv_at hl 1 rfl) ?_
  refine lv_iload hx hb dLaw_law_435 (lv_at hl 5 rfl) ?_
  refine lv_iconst (v := 1) hx hb dLaw_law_437 (by decide) ?_
  refine lv_iadd hx hb dLaw_law_438 ?_
  refine va_sld hx hb K.hX K.hbl hbA I1.hS (lw_in K.hL hq ex4 1 (by decide) rfl) dLaw_law_439 ?_
  refine lv_aload_n hx hb dLaw_law_440 rfl (lv_at hl 1 rfl) ?_
  refine lv_iload hx hb dLaw_law_441 (lv_at hl 5 rfl) ?_
  refine lv_iconst (v := 2) hx hb dLaw_law_443 (by decide) ?_
  refine lv_iadd hx hb dLaw_law_444 ?_
  refine va_sld hx hb K.hX K.hbl hbA I1.hS (lw_in K.hL hq ex4 2 (by decide) rfl) dLaw_law_445 ?_
  refine lcf_model (o := (Q_typeOf κm τ σ F nu (xs (x4 + 1).toNatClampNeg) (xs (x4 + 2).toNatClampNeg))) (rest := []) (As := [.int (xs (x4 + 1).toNatClampNeg), .int (xs (x4 + 2).toNatClampNeg)]) K I1 (fun b0 mn ν hT hZ hF hG => n_typeOf l γ m0 (B0 m0) _ κm b0 mn ν τ σ F nu hT (xs (x4 + 1).toNatClampNeg) (xs (x4 + 2).toNatClampNeg) hZ hF hG) meModel_typeOf rfl qw_80badc1e51 ⟨Nat.le_of_ble_eq_true rfl, Nat.le_of_ble_eq_true rfl⟩ rfl hl.1 rfl (Nat.le_of_ble_eq_true rfl) dLaw_law_446 (cc_room1 I1.hP (by have := K.hL; omega)) (fun H2 locs2 I2 => ?_)
  obtain ⟨b0, mn0, ν0, hT0, _⟩ := id I.hM
  have hst1 := sk_typeOf (σ := σ) (x1 := (xs (x4 + 1).toNatClampNeg)) (x2 := (xs (x4 + 2).toNatClampNeg)) (il_of I.hI) hT0 h3
  obtain ⟨hst1, han⟩ := hst1
  obtain ⟨hcd, hgr⟩ := wr_an (by decide) hr han
  refine lv_istore (lv' := [(6, .int (Q_typeOf κm τ σ F nu (xs (x4 + 1).toNatClampNeg) (xs (x4 + 2).toNatClampNeg)).1), (5, .int r), (0, .ref b), (1, .ref (γ.2.2.2 0)), (2, .ref m0), (3, .ref (m0 + 25)), (4, .int x4)]) hx hb dLaw_law_449 hl (by decide) rfl (fun ls hl => ?_)
  refine lv_goto (tgt := 562) hx hb dLaw_law_451 (by decide) ?_
  refine W.up cc_5.1 cc_5.2 ?_
  exact J _ _ _ _ _ _ _ _ _ _ _ _ I2 hst1 (lv_sub hl [2, 3, 4, 5, 6] rfl)
set_option maxHeartbeats 4000000 in
set_option maxRecDepth 100000 in
theorem lc_11 {p : Program} {l : Launch} {e : Env} {s : State} {m : MethodId} {below : List Frame} {meth : Method} {c : Code} {b L : Nat} {xs : Nat → Int32} {γ : gE} {A : Nat → Prop} {m0 : Nat} {q : Nat} {x4 : Int32} {Q : State → Prop} (K : LC l p s m c b L xs γ A m0) (hq : q + 5 ≤ L) (ex4 : x4 = nI q) (J : ∀ (H : Heap) (locs : List Loc) (κ : Nat → Nat) (φ : gF) (ψ : gG) (κm : Nat → Nat) (τ : gf) (σ : gs) (F : gf) (nu : gg) (g : Nat → Int64) (ls : Array Slot), LIF s γ A m0 κ φ ψ κm τ σ F nu g H locs → RXK κ φ ψ κm τ F nu → lv_has ls 7 [(0, .ref b), (1, .ref (γ.2.2.2 0)), (2, .ref m0), (3, .ref (m0 + 25)), (4, .int x4)] → W p l e room_1 s m #[Value.ref b] below meth c H locs (CC κ (q + 5)) (SS κ (q + 5)) Q (F0 m 562 ls [])) {H : Heap} {locs : List Loc} {κ : Nat → Nat} {φ : gF} {ψ : gG} {κm : Nat → Nat} {τ : gf} {σ : gs} {F : gf} {nu : gg} {g : Nat → Int64} {ls : Array Slot} (I : LIF s γ A m0 κ φ ψ κm τ σ F nu g H locs) (h3 : RXK κ φ ψ κm τ F nu) (hl : lv_has ls 7 [(0, .ref b), (1, .ref (γ.2.2.2 0)), (2, .ref m0), (3, .ref (m0 + 25)), (4, .int x4)]) : W p l e room_1 s m #[Value.ref b] below meth c H locs (CC κ q) (SS κ q) Q (F0 m 454 ls []) := by
  obtain ⟨hx, hb, hml, hown, hW⟩ := id K.S
  have hbA : ¬ (fun q : Nat => s.heap.size ≤ q) b := Nat.not_le.mpr K.hbl
  refine lv_aload_n hx hb dLaw_law_454 rfl (lv_at hl 1 rfl) ?_
  refine lv_aload_n hx hb dLaw_law_455 rfl (lv_at hl 0 rfl) ?_
  refine lv_iload hx hb dLaw_law_456 (lv_at hl 4 rfl) ?_
  refine lv_iconst (v := 1) hx hb dLaw_law_458 (by decide) ?_
  refine lv_iadd hx hb dLaw_law_459 ?_
  refine va_sld hx hb K.hX K.hbl hbA I.hS (lw_in K.hL hq ex4 1 (by decide) rfl) dLaw_law_460 ?_
  refine lv_aload_n hx hb dLaw_law_461 rfl (lv_at hl 0 rfl) ?_
  refine lv_iload hx hb dLaw_law_462 (lv_at hl 4 rfl) ?_
  refine lv_iconst (v := 2) hx hb dLaw_law_464 (by decide) ?_
  refine lv_iadd hx hb dLaw_law_465 ?_
  refine va_sld hx hb K.hX K.hbl hbA I.hS (lw_in K.hL hq ex4 2 (by decide) rfl) dLaw_law_466 ?_
  refine lv_aload_n hx hb dLaw_law_467 rfl (lv_at hl 3 rfl) ?_
  refine lcf_wrap (o := (P_TypeBook_about κ φ ψ (xs (x4 + 1).toNatClampNeg) (xs (x4 + 2).toNatClampNeg))) K I (by have := K.hL; omega) (wf_about l K.hst γ A κ φ ψ s K.hw0 K.hnc K.hA0 H (m0 + 25) K.hAo g (xs (x4 + 1).toNatClampNeg) (xs (x4 + 2).toNatClampNeg)) meLaw_about qw_9858333207 ⟨Nat.le_of_ble_eq_true rfl, Nat.le_of_ble_eq_true rfl⟩ rfl hl.1 rfl dLaw_law_468 (fun r H1 locs1 g1 hr I1 => ?_)
  refine lv_istore (lv' := [(5, .int r), (0, .ref b), (1, .ref (γ.2.2.2 0)), (2, .ref m0), (3, .ref (m0 + 25)), (4, .int x4)]) hx hb dLaw_law_471 hl (by decide) rfl (fun ls hl => ?_)
  refine lv_aload_n hx hb dLaw_law_473 rfl (lv_at hl 3 rfl) ?_
  refine lv_aload_n hx hb dLaw_law_474 rfl (lv_at hl 1 rfl) ?_
  refine lv_iload hx hb dLaw_law_475 (lv_at hl 5 rfl) ?_
  refine lv_iconst (v := 1) hx hb dLaw_law_477 (by decide) ?_
  refine lv_iadd hx hb dLaw_law_478 ?_
  refine va_sld hx hb K.hX K.hbl hbA I1.hS (lw_in K.hL hq ex4 1 (by decide) rfl) dLaw_law_479 ?_
  refine lv_aload_n hx hb dLaw_law_480 rfl (lv_at hl 1 rfl) ?_
  refine lv_iload hx hb dLaw_law_481 (lv_at hl 5 rfl) ?_
  refine lv_iconst (v := 2) hx hb dLaw_law_483 (by decide) ?_
  refine lv_iadd hx hb dLaw_law_484 ?_
  refine va_sld hx hb K.hX K.hbl hbA I1.hS (lw_in K.hL hq ex4 2 (by decide) rfl) dLaw_law_485 ?_
  refine lcf_model (o := (Q_about κm τ σ F nu (xs (x4 + 1).toNatClampNeg) (xs (x4 + 2).toNatClampNeg))) (rest := []) (As := [.int (xs (x4 + 1).toNatClampNeg), .int (xs (x4 + 2).toNatClampNeg)]) K I1 (fun b0 mn ν hT hZ hF hG => n_about l γ m0 (B0 m0) _ κm b0 mn ν τ σ F nu hT (xs (x4 + 1).toNatClampNeg) (xs (x4 + 2).toNatClampNeg) hZ hF hG) meModel_about rfl qw_d20dbc44b2 ⟨Nat.le_of_ble_eq_true rfl, Nat.le_of_ble_eq_true rfl⟩ rfl hl.1 rfl (Nat.le_of_ble_eq_true rfl) dLaw_law_486 (cc_room1 I1.hP (by have := K.hL; omega)) (fun H2 locs2 I2 => ?_)
  obtain ⟨b0, mn0, ν0, hT0, _⟩ := id I.hM
  have hst1 := sk_about (σ := σ) (x1 := (xs (x4 + 1).toNatClampNeg)) (x2 := (xs (x4 + 2).toNatClampNeg)) h3
  have han := an_about (σ := σ) (x1 := (xs (x4 + 1).toNatClampNeg)) (x2 := (xs (x4 + 2).toNatClampNeg)) (il_of I.hI) hT0 h3
  obtain ⟨hcd, hgr⟩ := wr_an (by decide) hr han
  refine lv_istore (lv' := [(6, .int (Q_about κm τ σ F nu (xs (x4 + 1).toNatClampNeg) (xs (x4 + 2).toNatClampNeg)).1), (5, .int r), (0, .ref b), (1, .ref (γ.2.2.2 0)), (2, .ref m0), (3, .ref (m0 + 25)), (4, .int x4)]) hx hb dLaw_law_489 hl (by decide) rfl (fun ls hl => ?_)
  refine lv_aload_n hx hb dLaw_law_491 rfl (lv_at hl 4 rfl) ?_
  refine lcf_thrown (rest := []) K I2 hl.1 qw_66943ffc61 (Nat.le_of_ble_eq_true rfl) dLaw_law_492 (cc_room1 I2.hP (by have := K.hL; omega)) ?_
  refine lv_iload hx hb dLaw_law_495 (lv_at hl 1 rfl) ?_
  refine lv_icmp_eq (tgt := 502) hx hb dLaw_law_497 (by decide) (fun c1 => ?_) (fun c1 => absurd hcd.symm c1)
  refine lv_iload hx hb dLaw_law_502 (lv_at hl 1 rfl) ?_
  have JY : W p l e room_1 s m #[Value.ref b] below meth c H2 locs2 (CC (P_TypeBook_about κ φ ψ (xs (x4 + 1).toNatClampNeg) (xs (x4 + 2).toNatClampNeg)).2.2.1 q + 1) (SS (P_TypeBook_about κ φ ψ (xs (x4 + 1).toNatClampNeg) (xs (x4 + 2).toNatClampNeg)).2.2.1 q + 6) Q (F0 m 519 ls []) := by
    refine lv_goto (tgt := 562) hx hb dLaw_law_519 (by decide) ?_
    refine W.up cc_5.1 cc_5.2 ?_
    exact J _ _ _ _ _ _ _ _ _ _ _ _ I2 hst1 (lv_sub hl [2, 3, 4, 5, 6] rfl)
  refine lv_if_ne (tgt := 519) hx hb dLaw_law_504 (by decide) (fun c2 => JY) (fun c2 => ?_)
  refine lv_aload_n hx hb dLaw_law_507 rfl (lv_at hl 5 rfl) ?_
  refine lv_iconst (v := 0) hx hb dLaw_law_508 (by decide) ?_
  refine ou_ld K.S K.hC I2.hO dLaw_law_509 ?_
  refine lv_iload hx hb dLaw_law_510 (lv_at hl 0 rfl) ?_
  refine lv_i2l hx hb dLaw_law_512 rfl ?_
  refine W.lcmp hx hb dLaw_law_513 ?_
  refine lv_topi (fun v9 ev9 => ?_)
  have hv9 : v9 = 0 := by
    have hg9 : g1 0 = (Q_about κm τ σ F nu (xs (x4 + 1).toNatClampNeg) (xs (x4 + 2).toNatClampNeg)).1.toInt64 := hgr c2
    rw [ev9, hg9]
    unfold lg_cmp; simp
  exact lv_if_eq (tgt := 519) hx hb dLaw_law_514 (by decide) (fun _ => JY) (fun c3 => absurd hv9 c3)
set_option maxHeartbeats 4000000 in
set_option maxRecDepth 100000 in
theorem lc_12 {p : Program} {l : Launch} {e : Env} {s : State} {m : MethodId} {below : List Frame} {meth : Method} {c : Code} {b L : Nat} {xs : Nat → Int32} {γ : gE} {A : Nat → Prop} {m0 : Nat} {q : Nat} {x4 : Int32} {Q : State → Prop} (K : LC l p s m c b L xs γ A m0) (hq : q + 5 ≤ L) (ex4 : x4 = nI q) (J : ∀ (H : Heap) (locs : List Loc) (κ : Nat → Nat) (φ : gF) (ψ : gG) (κm : Nat → Nat) (τ : gf) (σ : gs) (F : gf) (nu : gg) (g : Nat → Int64) (ls : Array Slot), LIF s γ A m0 κ φ ψ κm τ σ F nu g H locs → RXK κ φ ψ κm τ F nu → lv_has ls 7 [(0, .ref b), (1, .ref (γ.2.2.2 0)), (2, .ref m0), (3, .ref (m0 + 25)), (4, .int x4)] → W p l e room_1 s m #[Value.ref b] below meth c H locs (CC κ (q + 5)) (SS κ (q + 5)) Q (F0 m 562 ls [])) {H : Heap} {locs : List Loc} {κ : Nat → Nat} {φ : gF} {ψ : gG} {κm : Nat → Nat} {τ : gf} {σ : gs} {F : gf} {nu : gg} {g : Nat → Int64} {ls : Array Slot} (I : LIF s γ A m0 κ φ ψ κm τ σ F nu g H locs) (h3 : RXK κ φ ψ κm τ F nu) (hl : lv_has ls 7 [(0, .ref b), (1, .ref (γ.2.2.2 0)), (2, .ref m0), (3, .ref (m0 + 25)), (4, .int x4)]) : W p l e room_1 s m #[Value.ref b] below meth c H locs (CC κ q) (SS κ q) Q (F0 m 522 ls []) := by
  obtain ⟨hx, hb, hml, hown, hW⟩ := id K.S
  have hbA : ¬ (fun q : Nat => s.heap.size ≤ q) b := Nat.not_le.mpr K.hbl
  refine lv_aload_n hx hb dLaw_law_522 rfl (lv_at hl 1 rfl) ?_
  refine lv_aload_n hx hb dLaw_law_523 rfl (lv_at hl 0 rfl) ?_
  refine lv_iload hx hb dLaw_law_524 (lv_at hl 4 rfl) ?_
  refine lv_iconst (v := 1) hx hb dLaw_law_526 (by decide) ?_
  refine lv_iadd hx hb dLaw_law_527 ?_
  refine va_sld hx hb K.hX K.hbl hbA I.hS (lw_in K.hL hq ex4 1 (by decide) rfl) dLaw_law_528 ?_
  refine lv_aload_n hx hb dLaw_law_529 rfl (lv_at hl 0 rfl) ?_
  refine lv_iload hx hb dLaw_law_530 (lv_at hl 4 rfl) ?_
  refine lv_iconst (v := 2) hx hb dLaw_law_532 (by decide) ?_
  refine lv_iadd hx hb dLaw_law_533 ?_
  refine va_sld hx hb K.hX K.hbl hbA I.hS (lw_in K.hL hq ex4 2 (by decide) rfl) dLaw_law_534 ?_
  refine lv_aload_n hx hb dLaw_law_535 rfl (lv_at hl 3 rfl) ?_
  refine lcf_wrap (o := (P_TypeBook_value κ φ ψ (xs (x4 + 1).toNatClampNeg) (xs (x4 + 2).toNatClampNeg))) K I (by have := K.hL; omega) (wf_value l K.hst γ A κ φ ψ s K.hw0 K.hnc K.hA0 H (m0 + 25) K.hAo g (xs (x4 + 1).toNatClampNeg) (xs (x4 + 2).toNatClampNeg)) meLaw_value qw_d0b1c4e36c ⟨Nat.le_of_ble_eq_true rfl, Nat.le_of_ble_eq_true rfl⟩ rfl hl.1 rfl dLaw_law_536 (fun r H1 locs1 g1 hr I1 => ?_)
  refine lv_istore (lv' := [(5, .int r), (0, .ref b), (1, .ref (γ.2.2.2 0)), (2, .ref m0), (3, .ref (m0 + 25)), (4, .int x4)]) hx hb dLaw_law_539 hl (by decide) rfl (fun ls hl => ?_)
  refine lv_aload_n hx hb dLaw_law_541 rfl (lv_at hl 3 rfl) ?_
  refine lv_aload_n hx hb dLaw_law_542 rfl (lv_at hl 1 rfl) ?_
  refine lv_iload hx hb dLaw_law_543 (lv_at hl 5 rfl) ?_
  refine lv_iconst (v := 1) hx hb dLaw_law_545 (by decide) ?_
  refine lv_iadd hx hb dLaw_law_546 ?_
  refine va_sld hx hb K.hX K.hbl hbA I1.hS (lw_in K.hL hq ex4 1 (by decide) rfl) dLaw_law_547 ?_
  refine lv_aload_n hx hb dLaw_law_548 rfl (lv_at hl 1 rfl) ?_
  refine lv_iload hx hb dLaw_law_549 (lv_at hl 5 rfl) ?_
  refine lv_iconst (v := 2) hx hb dLaw_law_551 (by decide) ?_
  refine lv_iadd hx hb dLaw_law_552 ?_
  refine va_sld hx hb K.hX K.hbl hbA I1.hS (lw_in K.hL hq ex4 2 (by decide) rfl) dLaw_law_553 ?_
  refine lcf_model (o := (Q_value κm τ σ F nu (xs (x4 + 1).toNatClampNeg) (xs (x4 + 2).toNatClampNeg))) (rest := []) (As := [.int (xs (x4 + 1).toNatClampNeg), .int (xs (x4 + 2).toNatClampNeg)]) K I1 (fun b0 mn ν hT hZ hF hG => n_value l γ m0 (B0 m0) _ κm b0 mn ν τ σ F nu hT (xs (x4 + 1).toNatClampNeg) (xs (x4 + 2).toNatClampNeg) hZ hF hG) meModel_value rfl qw_6253d5c13d ⟨Nat.le_of_ble_eq_true rfl, Nat.le_of_ble_eq_true rfl⟩ rfl hl.1 rfl (Nat.le_of_ble_eq_true rfl) dLaw_law_554 (cc_room1 I1.hP (by have := K.hL; omega)) (fun H2 locs2 I2 => ?_)
  obtain ⟨b0, mn0, ν0, hT0, _⟩ := id I.hM
  have hst1 := sk_value (σ := σ) (x1 := (xs (x4 + 1).toNatClampNeg)) (x2 := (xs (x4 + 2).toNatClampNeg)) h3
  refine lv_istore (lv' := [(6, .int (Q_value κm τ σ F nu (xs (x4 + 1).toNatClampNeg) (xs (x4 + 2).toNatClampNeg)).1), (5, .int r), (0, .ref b), (1, .ref (γ.2.2.2 0)), (2, .ref m0), (3, .ref (m0 + 25)), (4, .int x4)]) hx hb dLaw_law_557 hl (by decide) rfl (fun ls hl => ?_)
  refine lv_goto (tgt := 562) hx hb dLaw_law_559 (by decide) ?_
  refine W.up cc_5.1 cc_5.2 ?_
  exact J _ _ _ _ _ _ _ _ _ _ _ _ I2 hst1 (lv_sub hl [2, 3, 4, 5, 6] rfl)
