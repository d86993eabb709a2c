theorem qw_03c310d303 : (Cond.classLink R_Law 8 R_TypeBook) ∈ bs_W0 := bs_in (in_tables_1_1 (List.mem_of_getElem? (i := 24) rfl)) rfl
theorem qw_8238f16ca3 : (Cond.initialized R_TypeBook) ∈ bs_W0 := bs_in (in_tables_1_1 (List.mem_of_getElem? (i := 1) rfl)) rfl
theorem qw_9019471cde : (Cond.methodLink R_Law 53 yTypeBook_init) ∈ bs_W0 := bs_in (in_tables_1_1 (List.mem_of_getElem? (i := 26) rfl)) rfl
theorem qw_e36c7827c8 : (Cond.classLink R_Law 54 R_Model) ∈ bs_W0 := bs_in (in_tables_1_5 (List.mem_of_getElem? (i := 140) rfl)) rfl
theorem qw_150f5c1485 : (Cond.initialized R_Model) ∈ bs_W0 := bs_in (in_tables_1_1 (List.mem_of_getElem? (i := 14) rfl)) rfl
theorem qw_3603f81ea1 : (Cond.methodLink R_Law 56 yModel_init) ∈ bs_W0 := bs_in (in_tables_1_5 (List.mem_of_getElem? (i := 142) rfl)) rfl
/-- where the book's cells may lie -/
def LA (a m0 : Nat) (q : Nat) : Prop := a ≤ q ∧ ¬ (m0 ≤ q ∧ q < m0 + 25) ∧ q ≠ m0 + 25
theorem invf_shrink {γ : gE} {a m0 : Nat} {κ : Nat → Nat} {φ : gF} {ψ : gG} {H : Heap} (hI : INVF γ (fun q => a ≤ q) κ φ ψ H) (hz : H.size = m0) : INVF γ (LA a m0) κ φ ψ H := by
  obtain ⟨ρ, hρ, hc⟩ := hI
  refine ⟨fun q => if q < m0 then ρ q else 0, fun q hq => ?_, fun i h1 h2 => cmp_kept (hc i h1 h2) (fun q _ _ => rfl) (fun q h h9 => ?_)⟩
  · by_cases h : q < m0
    · have hq : (if q < m0 then ρ q else 0) ≠ 0 := hq
      rw [if_pos h] at hq
      exact ⟨hρ q hq, by omega, by omega⟩
    · have hq : (if q < m0 then ρ q else 0) ≠ 0 := hq
      rw [if_neg h] at hq
      exact absurd rfl hq
  · show (if q < m0 then ρ q else 0) = i
    rw [if_pos (by omega)]
    exact h
theorem law_tabx {args : Array Value} {s : State} {C nm : String} {f : Nat → Int32} (hl : (Cond.laysStatic C nm "[I").before args s = true) (hini : (Cond.initialized C).before args s = true) (harr : (Cond.arrayOf (.static C nm "[I") .int).before args s = true) (hlen : (Cond.eq (.length (.static C nm "[I")) (.int 12)).before args s = true) (hel : ∀ j : Nat, j < 12 → (Cond.eq (.elem (.static C nm "[I") (.int (Int32.ofNat j))) (.int (f j))).before args s = true) :
    ∃ t : Nat, va_Z C nm "[I" (.ref t) (fun q => s.heap.size ≤ q) s s.heap ∧ va_T .int t 12 (fun j => .int (f j)) (fun q => s.heap.size ≤ q) s s.heap := by
  obtain ⟨t, ht, hT⟩ := va_Tof (N := 12) (f := fun j => .int (f j)) (A := fun q => s.heap.size ≤ q) (by omega) harr (va_eqt hlen) (fun j hj => va_eqt (hel j hj)) (fun a h => Nat.not_le.mpr h)
  exact ⟨t, va_Zof hl hini ht (fun a h => Nat.not_le.mpr h), hT⟩
set_option maxHeartbeats 4000000 in
set_option maxRecDepth 100000 in
theorem law_swx {s : State} {b : Nat} (hts : ∀ w ∈ lw_tbl, w.before #[Value.ref b] s = true) (hgv : (Jvm.Cond.and given_1 narrow_1).before #[Value.ref b] s = true) : SWX s := by
  have hs := flat_of_before _ hgv
  refine ⟨?_, ?_⟩
  · refine law_tabx (f := FS) (hts _ (in_tables_1_1 (List.mem_of_getElem? (i := 70) rfl))) (hts _ (in_tables_1_1 (List.mem_of_getElem? (i := 3) rfl))) (hs (Cond.arrayOf (.static "TypeBook$Names" "FIRST_SORTS" "[I") .int) (by decide +kernel)) (hs (Cond.eq (.length (.static "TypeBook$Names" "FIRST_SORTS" "[I")) (.int 12)) (by decide +kernel)) (fun j hj => ?_)
    rcases (show j = 0 ∨ j = 1 ∨ j = 2 ∨ j = 3 ∨ j = 4 ∨ j = 5 ∨ j = 6 ∨ j = 7 ∨ j = 8 ∨ j = 9 ∨ j = 10 ∨ j = 11 by omega) with h | h | h | h | h | h | h | h | h | h | h | h <;> subst h
    · exact hs (Cond.eq (.elem (.static "TypeBook$Names" "FIRST_SORTS" "[I") (.int 0)) (.int 1)) (by decide +kernel)
    · exact hs (Cond.eq (.elem (.static "TypeBook$Names" "FIRST_SORTS" "[I") (.int 1)) (.int 1)) (by decide +kernel)
    · exact hs (Cond.eq (.elem (.static "TypeBook$Names" "FIRST_SORTS" "[I") (.int 2)) (.int 1)) (by decide +kernel)
    · exact hs (Cond.eq (.elem (.static "TypeBook$Names" "FIRST_SORTS" "[I") (.int 3)) (.int 1)) (by decide +kernel)
    · exact hs (Cond.eq (.elem (.static "TypeBook$Names" "FIRST_SORTS" "[I") (.int 4)) (.int 1)) (by decide +kernel)
    · exact hs (Cond.eq (.elem (.static "TypeBook$Names" "FIRST_SORTS" "[I") (.int 5)) (.int 6)) (by decide +kernel)
    · exact hs (Cond.eq (.elem (.static "TypeBook$Names" "FIRST_SORTS" "[I") (.int 6)) (.int 4)) (by decide +kernel)
    · exact hs (Cond.eq (.elem (.static "TypeBook$Names" "FIRST_SORTS" "[I") (.int 7)) (.int 4)) (by decide +kernel)
    · exact hs (Cond.eq (.elem (.static "TypeBook$Names" "FIRST_SORTS" "[I") (.int 8)) (.int 5)) (by decide +kernel)
    · exact hs (Cond.eq (.elem (.static "TypeBook$Names" "FIRST_SORTS" "[I") (.int 9)) (.int 5)) (by decide +kernel)
    · exact hs (Cond.eq (.elem (.static "TypeBook$Names" "FIRST_SORTS" "[I") (.int 10)) (.int 5)) (by decide +kernel)
    · exact hs (Cond.eq (.elem (.static "TypeBook$Names" "FIRST_SORTS" "[I") (.int 11)) (.int 5)) (by decide +kernel)
  · refine law_tabx (f := FN) (hts _ (in_tables_1_1 (List.mem_of_getElem? (i := 72) rfl))) (hts _ (in_tables_1_1 (List.mem_of_getElem? (i := 3) rfl))) (hs (Cond.arrayOf (.static "TypeBook$Names" "FIRST_NUMBERS" "[I") .int) (by decide +kernel)) (hs (Cond.eq (.length (.static "TypeBook$Names" "FIRST_NUMBERS" "[I")) (.int 12)) (by decide +kernel)) (fun j hj => ?_)
    rcases (show j = 0 ∨ j = 1 ∨ j = 2 ∨ j = 3 ∨ j = 4 ∨ j = 5 ∨ j = 6 ∨ j = 7 ∨ j = 8 ∨ j = 9 ∨ j = 10 ∨ j = 11 by omega) with h | h | h | h | h | h | h | h | h | h | h | h <;> subst h
    · exact hs (Cond.eq (.elem (.static "TypeBook$Names" "FIRST_NUMBERS" "[I") (.int 0)) (.int 2)) (by decide +kernel)
    · exact hs (Cond.eq (.elem (.static "TypeBook$Names" "FIRST_NUMBERS" "[I") (.int 1)) (.int 3)) (by decide +kernel)
    · exact hs (Cond.eq (.elem (.static "TypeBook$Names" "FIRST_NUMBERS" "[I") (.int 2)) (.int 4)) (by decide +kernel)
    · exact hs (Cond.eq (.elem (.static "TypeBook$Names" "FIRST_NUMBERS" "[I") (.int 3)) (.int 1)) (by decide +kernel)
    · exact hs (Cond.eq (.elem (.static "TypeBook$Names" "FIRST_NUMBERS" "[I") (.int 4)) (.int 0)) (by decide +kernel)
    · exact hs (Cond.eq (.elem (.static "TypeBook$Names" "FIRST_NUMBERS" "[I") (.int 5)) (.int 0)) (by decide +kernel)
    · exact hs (Cond.eq (.elem (.static "TypeBook$Names" "FIRST_NUMBERS" "[I") (.int 6)) (.int 1)) (by decide +kernel)
    · exact hs (Cond.eq (.elem (.static "TypeBook$Names" "FIRST_NUMBERS" "[I") (.int 7)) (.int 0)) (by decide +kernel)
    · exact hs (Cond.eq (.elem (.static "TypeBook$Names" "FIRST_NUMBERS" "[I") (.int 8)) (.int 8)) (by decide +kernel)
    · exact hs (Cond.eq (.elem (.static "TypeBook$Names" "FIRST_NUMBERS" "[I") (.int 9)) (.int 9)) (by decide +kernel)
    · exact hs (Cond.eq (.elem (.static "TypeBook$Names" "FIRST_NUMBERS" "[I") (.int 10)) (.int 10)) (by decide +kernel)
    · exact hs (Cond.eq (.elem (.static "TypeBook$Names" "FIRST_NUMBERS" "[I") (.int 11)) (.int 11)) (by decide +kernel)
theorem fsI_dflt {a : Nat} : ∀ j, j < 35 → defaultValue (t_Model j) = vp_V (fsI a (fun _ => 0) 0) j := fun j hj => by
  rcases (show j = 0 ∨ j = 1 ∨ j = 2 ∨ j = 3 ∨ j = 4 ∨ j = 5 ∨ j = 6 ∨ j = 7 ∨ j = 8 ∨ j = 9 ∨ j = 10 ∨ j = 11 ∨ j = 12 ∨ j = 13 ∨ j = 14 ∨ j = 15 ∨ j = 16 ∨ j = 17 ∨ j = 18 ∨ j = 19 ∨ j = 20 ∨ j = 21 ∨ j = 22 ∨ j = 23 ∨ j = 24 ∨ j = 25 ∨ j = 26 ∨ j = 27 ∨ j = 28 ∨ j = 29 ∨ j = 30 ∨ j = 31 ∨ j = 32 ∨ j = 33 ∨ j = 34 by omega) with h | h | h | h | h | h | h | h | h | h | h | h | h | h | h | h | h | h | h | h | h | h | h | h | h | h | h | h | h | h | h | h | h | h | h <;> subst h <;> rfl
set_option maxHeartbeats 4000000 in
set_option maxRecDepth 100000 in
/-- THE LAW, from its entry -/
theorem whole_start {p : Program} {e : Env} {s : State} {m : MethodId} {below : List Frame} {meth : Method} {c : Code} (l : Launch) (hst : l.stackTraces = false) {b L : Nat} {xs : Nat → Int32} (hL : L ≤ 2560) (C0 : lw_At p s m meth c b L xs) : W p l e room_1 s m #[Value.ref b] below meth c s.heap [] 0 0 (lw_Z below #[Value.ref b] s) (entryFrame m ([Value.ref b] : List Value).toArray 7) := by
  obtain ⟨hx, hb, hr, hml, hown, hts, hX, hbl, hlocks, hgv⟩ := id C0
  have hW := law_W hts
  have S : bs_F p s m #[Value.ref b] c code 7 R_law := ⟨hx, hb, hml, hown, hW⟩
  obtain ⟨γ, hC⟩ := law_cx hts
  obtain ⟨hw0, hnc⟩ := law_sw hts hgv
  have hwx := law_swx hts hgv
  have hS : va_S (fun q : Nat => s.heap.size ≤ q) s.heap s.heap [] := va_S.rf
  have hA : ∀ q, s.heap.size ≤ q → (fun q : Nat => s.heap.size ≤ q) q := fun _ h => h
  have hl := lv_entry ([.ref b]) (n := 7) (Nat.le_of_ble_eq_true rfl)
  rw [lg_entry_eq]
  generalize (lg_sl ([.ref b]) ++ List.replicate (7 - (lg_sl ([.ref b])).length) Slot.unset).toArray = ls at hl ⊢
  have hl : lv_has ls 7 [(0, .ref b)] := hl
  obtain ⟨a, ha⟩ : ∃ z, z = s.heap.size := ⟨_, rfl⟩
  refine cw_new (ws := []) (fs := [.null, .null, .null, .null, .null, .null, .int 0]) (C := R_TypeBook) (T := T_TypeBook) (N := 7) (ci := 0) S hC in_TypeBook t_TypeBook t_TypeBook_ok qw_03c310d303 qw_98df340de2 qw_8238f16ca3 rfl (fun j hj => by rcases (show j = 0 ∨ j = 1 ∨ j = 2 ∨ j = 3 ∨ j = 4 ∨ j = 5 ∨ j = 6 by omega) with h | h | h | h | h | h | h <;> subst h <;> rfl) (fun k q h => by simp at h) hS hA ha.symm (Nat.le_of_ble_eq_true rfl) (Nat.le_of_ble_eq_true rfl) dLaw_law_0 (fun H hP _ hS hz hk9 => ?_)
  refine lv_dup hx hb dLaw_law_3 rfl ?_
  have hfb : ∀ U : State, U.heap = H → s.WarmedH U.vm → FB s U U.heap := fun U hU hWU => ⟨hWU, by rw [hU]; exact hS.1, fun q hq => by rw [hU]; exact hS.2.1 q hq (Nat.not_le.mpr hq)⟩
  refine ms_I (A := fun q => a ≤ q) (A0 := fun q => s.heap.size ≤ q) (As := []) (rest := [.ref a]) S hC (fun q h => by show a ≤ q; omega) (fun q h => by have h : a ≤ q := h; show s.heap.size ≤ q; omega) hS (fi_TypeBook l γ s hw0 hwx a H) ct_blind meTypeBook_init qw_9019471cde ⟨(Nat.le_of_ble_eq_true rfl), (Nat.le_of_ble_eq_true rfl)⟩ (fun U hU hWU => ⟨⟨hfb U hU hWU, by omega⟩, hU, hz, hP⟩) rfl hl.1 rfl (Nat.le_of_ble_eq_true rfl) dLaw_law_4 ⟨(Nat.le_of_ble_eq_true rfl), (Nat.le_of_ble_eq_true rfl)⟩ (fun H1 locs1 hPO hS1 hz1 hk1 => ?_)
  clear hfb
  obtain ⟨⟨f9, hf9, φ, ψ, hI, hp3, hp4⟩, hz2⟩ := hPO
  refine lv_astore_n (lv' := [(1, .ref a), (0, .ref b)]) hx hb dLaw_law_7 rfl hl (by decide) rfl (fun ls hl => ?_)
  obtain ⟨m0, hm0⟩ : ∃ z, z = a + 45 := ⟨_, rfl⟩
  rw [← hm0] at hz2
  have hI2 := invf_shrink hI hz2
  have hCT : CX (γT γ a) s := ⟨hC.1, hC.2⟩
  refine cw_new (ws := []) (fs := fsI m0 (fun _ => 0) 0) (C := R_Model) (T := T_Model) (N := 35) (ci := 10) S hCT in_Model t_Model t_Model_ok qw_e36c7827c8 qw_68bc186834 qw_150f5c1485 rfl fsI_dflt (fun k q h => by simp at h) hS1 hA hz2 (Nat.le_of_ble_eq_true rfl) (Nat.le_of_ble_eq_true rfl) dLaw_law_8 (fun H2 hP2 _ hS2 hz3 hk2 => ?_)
  have hI3 := invf_off hI2 (fun q _ h => hk2 q (by omega))
  refine lv_dup hx hb dLaw_law_11 rfl ?_
  have hfb : ∀ U : State, U.heap = H2 → s.WarmedH U.vm → FB s U U.heap := fun U hU hWU => ⟨hWU, by rw [hU]; exact hS2.1, fun q hq => by rw [hU]; exact hS2.2.1 q hq (Nat.not_le.mpr hq)⟩
  refine ms_I (A := fun q => m0 ≤ q) (A0 := fun q => s.heap.size ≤ q) (As := []) (rest := [.ref m0]) S hCT (fun q h => by show m0 ≤ q; omega) (fun q h => by have h : m0 ≤ q := h; show s.heap.size ≤ q; omega) hS2 (fi_Model l (γT γ a) s hw0 m0 H2) ct_blind meModel_init qw_3603f81ea1 ⟨(Nat.le_of_ble_eq_true rfl), (Nat.le_of_ble_eq_true rfl)⟩ (fun U hU hWU => ⟨⟨hfb U hU hWU, by omega⟩, hU, hz3, hP2⟩) rfl hl.1 rfl (Nat.le_of_ble_eq_true rfl) dLaw_law_12 ⟨(Nat.le_of_ble_eq_true rfl), (Nat.le_of_ble_eq_true rfl)⟩ (fun H3 locs3 hPO hS3 hz4 hk3 => ?_)
  clear hfb
  obtain ⟨⟨κm, τ, σ, hk2, hκ, hτ, hM⟩, hz5⟩ := hPO
  have hI4 := invf_off hI3 (fun q h1 h2 => hk3 q h2 (fun h => by have h9 : m0 ≤ q := h; exact h1.2.1 ⟨h9, by omega⟩))
  refine lv_astore_n (lv' := [(2, .ref m0), (1, .ref a), (0, .ref b)]) hx hb dLaw_law_15 rfl hl (by decide) rfl (fun ls hl => ?_)
  refine lv_iconst (v := 1) hx hb dLaw_law_16 (by decide) ?_
  refine cw_new_long (ws := []) (γ := γT γ a) S hCT qw_6933bd775d (fun k q h => by simp at h) ⟨fun i j p q h => by simp at h, fun k q h => by simp at h⟩ hS3 hA hz5 1 rfl (by decide) (Nat.le_of_ble_eq_true rfl) (Nat.le_of_ble_eq_true rfl) dLaw_law_17 (fun H4 hP4 _ hS4 hz6 hk4 => ?_)
  have hI5 := invf_off hI4 (fun q _ h => hk4 q (by omega))
  have hM5 := mj_kept (mj_Z (Z' := iv m0 (m0 + 25)) hM (fun q h1 h2 => ⟨h1, h2⟩)) (fun q _ h => hk4 q h)
  refine lv_astore_n (lv' := [(3, .ref (m0 + 25)), (2, .ref m0), (1, .ref a), (0, .ref b)]) hx hb dLaw_law_19 rfl hl (by decide) rfl (fun ls hl => ?_)
  refine lv_iconst (v := 0) hx hb dLaw_law_20 (by decide) ?_
  refine lv_istore (lv' := [(4, .int 0), (3, .ref (m0 + 25)), (2, .ref m0), (1, .ref a), (0, .ref b)]) hx hb dLaw_law_21 hl (by decide) rfl (fun ls hl => ?_)
  refine W.up (k := CC κT 0) (n := SS κT 0) (Nat.le_of_ble_eq_true rfl) (Nat.le_of_ble_eq_true rfl) ?_
  exact law_loop (γ := γT γ a) (A := LA a m0) (m0 := m0) ⟨hst, S, hCT, hw0, hnc, fun q h => by have h9 := h.1; omega, fun q h => h.2.1, fun h => h.2.2 rfl, fun q h => ⟨by omega, by omega, by omega⟩, by omega, hX, hbl, hL⟩ hr hlocks (L + 5) 0 0 H4 _ κT φ ψ κm τ σ _ _ _ ls (by omega) (by omega) nI_0.symm ⟨hI5, hM5, hP4, by omega, hS4⟩ ⟨rx_start hf9 hp3 hp4 hk2 hκ hτ, fun k hk => absurd hk (Nat.not_lt_zero k)⟩ (lv_sub hl [4, 3, 2, 1, 0] rfl)
