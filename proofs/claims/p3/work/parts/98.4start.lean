theorem qw_98df340de2 : (Cond.instantiable R_TypeBook 7) ∈ bs_W0 := bs_in (in_tables_1_1 (List.mem_of_getElem? (i := 25) rfl)) rfl
theorem qw_68bc186834 : (Cond.instantiable R_Model 35) ∈ bs_W0 := bs_in (in_tables_1_5 (List.mem_of_getElem? (i := 141) rfl)) rfl
-- the reference's cells lie in one stretch
theorem ws_in {γ : gE} {a : Nat} {V : Nat → Int32} {A : Nat → Nat → Int32} {nu : Nat → Int64} {i : Nat} {q : Nat × va_E} (h : (wsM γ a (B0 a) V A nu)[i]? = some q) : a ≤ q.1 ∧ q.1 < a + 25 := by
  cases i with
  | zero =>
    cases h
    exact ⟨Nat.le_refl _, by show a < a + 25; omega⟩
  | succ i =>
    have h1 : (mdIx.map (mcell γ (B0 a) A nu))[i]? = some q := h
    rw [List.getElem?_map] at h1
    cases hk : mdIx[i]? with
    | none => rw [hk] at h1; cases h1
    | some k =>
      rw [hk] at h1
      cases h1
      have h2 : mdIx.idxOf k < 24 := List.idxOf_lt_length_of_mem (List.mem_of_getElem? hk)
      show a ≤ B0 a k ∧ B0 a k < a + 25
      unfold B0
      omega
theorem mi_Z {γ : gE} {a : Nat} {Z Z' : Nat → Prop} {κ : Nat → Nat} {cd : Int32} {H : Heap} (h : MI γ a (B0 a) Z κ cd H) (hZ : ∀ q, a ≤ q → q < a + 25 → Z' q) : MI γ a (B0 a) Z' κ cd H := by
  obtain ⟨b, mn, ν, τ, σ, F, nu, h1, h2, h3, h4, h5, h6, h7⟩ := h
  exact ⟨b, mn, ν, τ, σ, F, nu, h1, h2, h3, h4, h5, h6, h7.1, fun k q hq => hZ _ (ws_in hq).1 (ws_in hq).2⟩
theorem mi_kept {γ : gE} {a : Nat} {Z : Nat → Prop} {κ : Nat → Nat} {cd : Int32} {H H1 : Heap} (h : MI γ a (B0 a) Z κ cd H) (hk : ∀ q, a ≤ q → q < a + 25 → H1[q]? = H[q]?) : MI γ a (B0 a) Z κ cd H1 := by
  obtain ⟨b, mn, ν, τ, σ, F, nu, h1, h2, h3, h4, h5, h6, h7⟩ := h
  exact ⟨b, mn, ν, τ, σ, F, nu, h1, h2, h3, h4, h5, va_P.kept h6 (fun i q hq => hk _ (ws_in hq).1 (ws_in hq).2), h7⟩
-- what the tables give at the law's entry
theorem law_W {s : State} {args : Array Value} (hts : ∀ w ∈ lw_tbl, w.before args s = true) : ∀ w ∈ bs_W0, w.before args s = true := fun w h => hts w (List.mem_filter.mp h).1
theorem law_arr {s : State} {args : Array Value} {ty : FieldType} (hty : ∀ C, ty ≠ .object C) (h : (Cond.arrayClass ty).before args s = true) : ∃ cA : ClassId, ArrOfT s cA ty ∧ va_RA s cA ty := by
  obtain ⟨cA, kA, comp, h1, h2, h3⟩ := Cond.arrayClass_spec h
  refine ⟨cA, fun n z => ⟨fun k h => (by cases h), kA, h2, comp, h3⟩, ?_⟩
  cases ty with
  | object C => exact absurd rfl (hty C)
  | _ => exact h1
set_option maxHeartbeats 4000000 in
theorem law_cx {s : State} {args : Array Value} (hts : ∀ w ∈ lw_tbl, w.before args s = true) : ∃ γ : gE, CX γ s := by
  have hW := law_W hts
  obtain ⟨c0, i0, k0⟩ := u_known (ws := bs_W0) (C := R_TypeBook) (T := T_TypeBook) (N := 7) (n := 7) hW in_TypeBook (hW _ qw_98df340de2)
  obtain ⟨c1, i1, k1⟩ := u_known (ws := bs_W0) (C := R_Trees) (T := T_Trees) (N := 6) (n := 6) hW in_Trees (hW _ qw_728b969c31)
  obtain ⟨c2, i2, k2⟩ := u_known (ws := bs_W0) (C := R_Names) (T := T_Names) (N := 9) (n := 9) hW in_Names (hW _ qw_0fe9ef37a0)
  obtain ⟨c3, i3, k3⟩ := u_known (ws := bs_W0) (C := R_Types) (T := T_Types) (N := 5) (n := 5) hW in_Types (hW _ qw_3790227522)
  obtain ⟨c4, i4, k4⟩ := u_known (ws := bs_W0) (C := R_Objects) (T := T_Objects) (N := 5) (n := 5) hW in_Objects (hW _ qw_faf701598a)
  obtain ⟨c5, i5, k5⟩ := u_known (ws := bs_W0) (C := R_Rows) (T := T_Rows) (N := 1) (n := 1) hW in_Rows (hW _ qw_65d8f04d58)
  obtain ⟨c6, i6, k6⟩ := u_known (ws := bs_W0) (C := R_Looks) (T := T_Looks) (N := 6) (n := 6) hW in_Looks (hW _ qw_a3e5b3d658)
  obtain ⟨c7, i7, k7⟩ := u_known (ws := bs_W0) (C := R_Looker) (T := T_Looker) (N := 8) (n := 8) hW in_Looker (hW _ qw_8c7395766b)
  obtain ⟨c8, i8, k8⟩ := u_known (ws := bs_W0) (C := R_Operators) (T := T_Operators) (N := 1) (n := 1) hW in_Operators (hW _ qw_cfbc759d95)
  obtain ⟨c9, i9, k9⟩ := u_known (ws := bs_W0) (C := R_Meanings) (T := T_Meanings) (N := 5) (n := 5) hW in_Meanings (hW _ qw_61012f5007)
  obtain ⟨c10, i10, k10⟩ := u_known (ws := bs_W0) (C := R_Model) (T := T_Model) (N := 35) (n := 35) hW in_Model (hW _ qw_68bc186834)
  obtain ⟨a_int, h_int⟩ := law_arr (ty := .int) (fun C h => by cases h) (hW _ qw_8e969fb20a)
  obtain ⟨a_long, h_long⟩ := law_arr (ty := .long) (fun C h => by cases h) (hW _ qw_6933bd775d)
  obtain ⟨a_byte, h_byte⟩ := law_arr (ty := .byte) (fun C h => by cases h) (hW _ qw_542fcd69e5)
  obtain ⟨a_boolean, h_boolean⟩ := law_arr (ty := .boolean) (fun C h => by cases h) (hW _ qw_14bcb724a4)
  refine ⟨(((fun k => match k with | 0 => c0 | 1 => c1 | 2 => c2 | 3 => c3 | 4 => c4 | 5 => c5 | 6 => c6 | 7 => c7 | 8 => c8 | 9 => c9 | _ => c10), (fun k => match k with | 0 => i0 | 1 => i1 | 2 => i2 | 3 => i3 | 4 => i4 | 5 => i5 | 6 => i6 | 7 => i7 | 8 => i8 | 9 => i9 | _ => i10)), a_int, a_long, fun k => if k = 20 then a_byte else a_boolean), ⟨?_, ?_⟩, ?_⟩
  · intro k q hq
    match k, hq with
    | 0, hq => cases hq; exact k0
    | 1, hq => cases hq; exact k1
    | 2, hq => cases hq; exact k2
    | 3, hq => cases hq; exact k3
    | 4, hq => cases hq; exact k4
    | 5, hq => cases hq; exact k5
    | 6, hq => cases hq; exact k6
    | 7, hq => cases hq; exact k7
    | 8, hq => cases hq; exact k8
    | 9, hq => cases hq; exact k9
    | 10, hq => cases hq; exact k10
    | k + 11, hq => cases hq
  · intro k q hq
    match k, hq with
    | 0, hq => cases hq; exact h_int
    | 1, hq => cases hq; exact h_long
    | 2, hq => cases hq; exact h_byte
    | 3, hq => cases hq; exact h_boolean
    | k + 4, hq => cases hq
  · intro w hw hn
    have h := hts w hw
    unfold cx_isN at hn
    split at hn
    · exact va_Nw.of rfl h
    · exact va_Nw.of rfl h
    · cases hn
theorem law_tab {args : Array Value} {s : State} {C nm : String} {f : Nat → Int32} (hl : (Cond.laysStatic C nm "[I").before args s = true) (hini : (Cond.initialized C).before args s = true) (harr : (Cond.arrayOf (.static C nm "[I") .int).before args s = true) (hlen : (Cond.eq (.length (.static C nm "[I")) (.int 12)).before args s = true) (hel : ∀ j : Nat, j < 12 → (Cond.eq (.elem (.static C nm "[I") (.int (Int32.ofNat j))) (.int (f j))).before args s = true) :
    ∃ (t : Nat) (f : Nat → Value), va_Z C nm "[I" (.ref t) (fun q => s.heap.size ≤ q) s s.heap ∧ va_T .int t 12 f (fun q => s.heap.size ≤ q) s s.heap ∧ ∀ j, ∃ x : Int32, f j = .int x := by
  obtain ⟨t, ht, hT⟩ := va_Tof (N := 12) (f := fun j => .int (f j)) (A := fun q => s.heap.size ≤ q) (by omega) harr (va_eqt hlen) (fun j hj => va_eqt (hel j hj)) (fun a h => Nat.not_le.mpr h)
  exact ⟨t, _, va_Zof hl hini ht (fun a h => Nat.not_le.mpr h), hT, fun j => ⟨_, rfl⟩⟩
set_option maxHeartbeats 4000000 in
set_option maxRecDepth 100000 in
theorem law_sw {s : State} {b : Nat} (hts : ∀ w ∈ lw_tbl, w.before #[Value.ref b] s = true) (hgv : (Jvm.Cond.and given_1 narrow_1).before #[Value.ref b] s = true) : SW s ∧ NCs s := by
  have hs := flat_of_before _ hgv
  refine ⟨⟨fun w hw hk => ?_, ?_, ?_, fun own k tx h => ?_, ?_, ?_⟩, ?_⟩
  · have h := hts w hw
    unfold sw_k at hk
    split at hk
    · exact h
    · exact h
    · exact h
    · cases hk
  · exact va_Zqof (hts _ (in_tables_1_2 (List.mem_of_getElem? (i := 122) rfl))) (hts _ (in_tables_1_1 (List.mem_of_getElem? (i := 15) rfl))) (hs (Cond.isRef (.static "java/lang/Throwable" "UNASSIGNED_STACK" "[Ljava/lang/StackTraceElement;")) (by decide +kernel)) (fun a h => Nat.not_le.mpr h)
  · exact va_Zqof (hts _ (in_tables_1_2 (List.mem_of_getElem? (i := 124) rfl))) (hts _ (in_tables_1_1 (List.mem_of_getElem? (i := 15) rfl))) (hs (Cond.isRef (.static "java/lang/Throwable" "SUPPRESSED_SENTINEL" "Ljava/util/List;")) (by decide +kernel)) (fun a h => Nat.not_le.mpr h)
  · have h1 := hts _ h
    cases hc : s.vm.findClass own with
    | none => simp [Cond.before, Cond.holds, Cond.value, hc] at h1
    | some cur =>
      obtain ⟨_, _, _, a, _, _, _, _, _, he⟩ := Cond.stringRef_spec hc h1
      exact ⟨a, vk_R.of h1 he⟩
  · refine law_tab (f := fun j => ([1, 1, 1, 1, 1, 6, 4, 4, 5, 5, 5, 5] : List Int32).getD j 0) (hts _ (in_tables_1_1 (List.mem_of_getElem? (i := 70) rfl))) (hts _ (in_tables_1_1 (List.mem_of_getElem? (i := 3) rfl))) (hs (Cond.arrayOf (.static "TypeBook$Names" "FIRST_SORTS" "[I") .int) (by decide +kernel)) (hs (Cond.eq (.length (.static "TypeBook$Names" "FIRST_SORTS" "[I")) (.int 12)) (by decide +kernel)) (fun j hj => ?_)
    rcases (show j = 0 ∨ j = 1 ∨ j = 2 ∨ j = 3 ∨ j = 4 ∨ j = 5 ∨ j = 6 ∨ j = 7 ∨ j = 8 ∨ j = 9 ∨ j = 10 ∨ j = 11 by omega) with h | h | h | h | h | h | h | h | h | h | h | h <;> subst h
    · exact hs (Cond.eq (.elem (.static "TypeBook$Names" "FIRST_SORTS" "[I") (.int 0)) (.int 1)) (by decide +kernel)
    · exact hs (Cond.eq (.elem (.static "TypeBook$Names" "FIRST_SORTS" "[I") (.int 1)) (.int 1)) (by decide +kernel)
    · exact hs (Cond.eq (.elem (.static "TypeBook$Names" "FIRST_SORTS" "[I") (.int 2)) (.int 1)) (by decide +kernel)
    · exact hs (Cond.eq (.elem (.static "TypeBook$Names" "FIRST_SORTS" "[I") (.int 3)) (.int 1)) (by decide +kernel)
    · exact hs (Cond.eq (.elem (.static "TypeBook$Names" "FIRST_SORTS" "[I") (.int 4)) (.int 1)) (by decide +kernel)
    · exact hs (Cond.eq (.elem (.static "TypeBook$Names" "FIRST_SORTS" "[I") (.int 5)) (.int 6)) (by decide +kernel)
    · exact hs (Cond.eq (.elem (.static "TypeBook$Names" "FIRST_SORTS" "[I") (.int 6)) (.int 4)) (by decide +kernel)
    · exact hs (Cond.eq (.elem (.static "TypeBook$Names" "FIRST_SORTS" "[I") (.int 7)) (.int 4)) (by decide +kernel)
    · exact hs (Cond.eq (.elem (.static "TypeBook$Names" "FIRST_SORTS" "[I") (.int 8)) (.int 5)) (by decide +kernel)
    · exact hs (Cond.eq (.elem (.static "TypeBook$Names" "FIRST_SORTS" "[I") (.int 9)) (.int 5)) (by decide +kernel)
    · exact hs (Cond.eq (.elem (.static "TypeBook$Names" "FIRST_SORTS" "[I") (.int 10)) (.int 5)) (by decide +kernel)
    · exact hs (Cond.eq (.elem (.static "TypeBook$Names" "FIRST_SORTS" "[I") (.int 11)) (.int 5)) (by decide +kernel)
  · refine law_tab (f := fun j => ([2, 3, 4, 1, 0, 0, 1, 0, 8, 9, 10, 11] : List Int32).getD j 0) (hts _ (in_tables_1_1 (List.mem_of_getElem? (i := 72) rfl))) (hts _ (in_tables_1_1 (List.mem_of_getElem? (i := 3) rfl))) (hs (Cond.arrayOf (.static "TypeBook$Names" "FIRST_NUMBERS" "[I") .int) (by decide +kernel)) (hs (Cond.eq (.length (.static "TypeBook$Names" "FIRST_NUMBERS" "[I")) (.int 12)) (by decide +kernel)) (fun j hj => ?_)
    rcases (show j = 0 ∨ j = 1 ∨ j = 2 ∨ j = 3 ∨ j = 4 ∨ j = 5 ∨ j = 6 ∨ j = 7 ∨ j = 8 ∨ j = 9 ∨ j = 10 ∨ j = 11 by omega) with h | h | h | h | h | h | h | h | h | h | h | h <;> subst h
    · exact hs (Cond.eq (.elem (.static "TypeBook$Names" "FIRST_NUMBERS" "[I") (.int 0)) (.int 2)) (by decide +kernel)
    · exact hs (Cond.eq (.elem (.static "TypeBook$Names" "FIRST_NUMBERS" "[I") (.int 1)) (.int 3)) (by decide +kernel)
    · exact hs (Cond.eq (.elem (.static "TypeBook$Names" "FIRST_NUMBERS" "[I") (.int 2)) (.int 4)) (by decide +kernel)
    · exact hs (Cond.eq (.elem (.static "TypeBook$Names" "FIRST_NUMBERS" "[I") (.int 3)) (.int 1)) (by decide +kernel)
    · exact hs (Cond.eq (.elem (.static "TypeBook$Names" "FIRST_NUMBERS" "[I") (.int 4)) (.int 0)) (by decide +kernel)
    · exact hs (Cond.eq (.elem (.static "TypeBook$Names" "FIRST_NUMBERS" "[I") (.int 5)) (.int 0)) (by decide +kernel)
    · exact hs (Cond.eq (.elem (.static "TypeBook$Names" "FIRST_NUMBERS" "[I") (.int 6)) (.int 1)) (by decide +kernel)
    · exact hs (Cond.eq (.elem (.static "TypeBook$Names" "FIRST_NUMBERS" "[I") (.int 7)) (.int 0)) (by decide +kernel)
    · exact hs (Cond.eq (.elem (.static "TypeBook$Names" "FIRST_NUMBERS" "[I") (.int 8)) (.int 8)) (by decide +kernel)
    · exact hs (Cond.eq (.elem (.static "TypeBook$Names" "FIRST_NUMBERS" "[I") (.int 9)) (.int 9)) (by decide +kernel)
    · exact hs (Cond.eq (.elem (.static "TypeBook$Names" "FIRST_NUMBERS" "[I") (.int 10)) (.int 10)) (by decide +kernel)
    · exact hs (Cond.eq (.elem (.static "TypeBook$Names" "FIRST_NUMBERS" "[I") (.int 11)) (.int 11)) (by decide +kernel)
  · exact ⟨va_Nc.of (hs (Cond.not (.castable "java/lang/IllegalStateException" "java/lang/IllegalArgumentException")) (by decide +kernel)), va_Nc.of (hs (Cond.not (.castable "java/lang/IllegalStateException" "java/lang/IndexOutOfBoundsException")) (by decide +kernel)), va_Nc.of (hs (Cond.not (.castable "java/lang/IllegalArgumentException" "java/lang/IndexOutOfBoundsException")) (by decide +kernel))⟩
