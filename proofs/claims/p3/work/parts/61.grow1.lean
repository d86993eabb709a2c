theorem qw_7c2f99d6ce : (Cond.methodLink R_jArrays 304 Lib.Math.min.name) ∈ bs_W0 := bs_in (in_tables_1_1 (List.mem_of_getElem? (i := 93) rfl)) rfl
theorem qw_917c68b328 : (Cond.methodLink R_jArrays 150 ⟨"java/lang/System", "arraycopy", "(Ljava/lang/Object;ILjava/lang/Object;II)V"⟩) ∈ bs_W0 := bs_in (in_tables_1_1 (List.mem_of_getElem? (i := 96) rfl)) rfl
theorem qw_8e969fb20a : (Cond.arrayClass .int) ∈ bs_W0 := bs_in (in_tables_1_1 (List.mem_of_getElem? (i := 59) rfl)) rfl
theorem qw_6933bd775d : (Cond.arrayClass .long) ∈ bs_W0 := bs_in (in_tables_1_1 (List.mem_of_getElem? (i := 175) rfl)) rfl
theorem qw_0d2310d85d : (Cond.methodLink R_TypeBook 251 Lib.Math.max.name) ∈ bs_W0 := bs_in (in_tables_1_1 (List.mem_of_getElem? (i := 80) rfl)) rfl
theorem qw_13b4208a4c : (Cond.methodLink R_TypeBook 256 yjArrays_copyOf) ∈ bs_W0 := bs_in (in_tables_1_1 (List.mem_of_getElem? (i := 83) rfl)) rfl
set_option maxHeartbeats 4000000 in
set_option maxRecDepth 100000 in
theorem c_copyOf (l : Launch) (γ : gE) (A : Nat → Prop) (a n k : Nat) (f : Nat → Int32) (H0 : Heap) (hk : n < k) (hk2 : k ≤ 65536) : MU l yjArrays_copyOf bjArrays_copyOf 3 (some (.array .int)) 1 60 1 k [.ref a, .int (nI k)] γ A (fun H => H = H0 ∧ A a ∧ H[a]? = some (vp_cell γ.2.1 (n, .inl f))) (mQr (fun r H1 => r = H0.size ∧ H1.size = H0.size + 1 ∧ (∀ q : Nat, q < H0.size → H1[q]? = H0[q]?) ∧ ∃ f' : Nat → Int32, H1[r]? = some (vp_cell γ.2.1 (k, .inl f')) ∧ ∀ j, j < n → f' j = f j) A) := by
  refine mu_openFR (Or.inr ⟨_, rfl⟩) (by decide +kernel) (Nat.le_of_ble_eq_true rfl) ?_
  intro p e s m args below meth c ls Q S hC hA hI hE hl
  obtain ⟨hx, hb, hml, hown, hW⟩ := id S
  obtain ⟨rfl, hAa, hcell⟩ := hI
  have hS : va_S A s.heap s.heap [] := va_S.rf
  have hl : lv_has ls 3 [(0, .ref a), (1, .int (nI k))] := hl
  have hP : va_P γ.1 vwCl [(a, .inl (γ.2.1, (n, .inl f)))] s.heap := one_P hcell
  have hD : va_D A [(a, .inl (γ.2.1, (n, .inl f)))] := one_D hAa
  have hlt : a < s.heap.size := (Array.getElem?_eq_some_iff.mp hcell).1
  refine lv_iload_n hx hb djArrays_copyOf_0 rfl (lv_at hl 1 rfl) ?_
  refine lv_aload_n hx hb djArrays_copyOf_1 rfl (lv_at hl 0 rfl) ?_
  refine va_alen hx hb hC.1 hP 0 0 rfl rfl (v := nI n) rfl djArrays_copyOf_2 ?_
  refine lv_icmp_ne (tgt := 14) hx hb djArrays_copyOf_3 (by decide) (fun _ => ?_) (fun c1 => absurd ((nI_eq (by omega) (by omega)).mp c1) (by omega))
  refine lv_iload_n hx hb djArrays_copyOf_14 rfl (lv_at hl 1 rfl) ?_
  refine va_newaK (atype := .int) (N := k) hx hb (hW _ qw_8e969fb20a) rfl djArrays_copyOf_15 rfl (nI_pos (by omega)) (nI_clamp (by omega)) (by show k * 4 ≤ _; omega) (Nat.le_refl _) (Nat.le_of_eq (Nat.zero_add k)) rfl (fun H cA e1 z1 o1 hAr hNm => ?_)
  have hcA : cA = γ.2.1 := Option.some.inj (hNm.symm.trans (va_nm_int (hC.1.2 0 _ rfl).2))
  subst hcA
  have hl := hl
  refine W.eq (g2 := F0 m 17 ls [.ref s.heap.size]) rfl ?_
  have hPn : va_P γ.1 vwCl [(s.heap.size, .inl (γ.2.1, (k, .inl (fun _ => 0))))] H := one_P e1
  have hDn : va_D (fun q => s.heap.size ≤ q) [(s.heap.size, .inl (γ.2.1, (k, .inl (fun _ => 0))))] := one_D (Nat.le_refl _)
  have hco : H[a]? = some (vp_cell γ.2.1 (n, .inl f)) := (o1 a hlt).trans hcell
  have hPo : va_P γ.1 vwCl [(a, .inl (γ.2.1, (n, .inl f)))] H := one_P hco
  have hS : va_S A s.heap H [] := ⟨by omega, fun q h1 _ => o1 q h1, fun _ h => by cases h⟩
  refine lv_astore_n (lv' := [(2, .ref s.heap.size), (0, .ref a), (1, .int (nI k))]) hx hb djArrays_copyOf_17 rfl hl (by decide) rfl (fun ls hl => ?_)
  refine lv_aload_n hx hb djArrays_copyOf_18 rfl (lv_at hl 1 rfl) ?_
  refine lv_iconst (v := 0) hx hb djArrays_copyOf_19 (by decide) ?_
  refine lv_aload_n hx hb djArrays_copyOf_20 rfl (lv_at hl 0 rfl) ?_
  refine lv_iconst (v := 0) hx hb djArrays_copyOf_21 (by decide) ?_
  refine lv_aload_n hx hb djArrays_copyOf_22 rfl (lv_at hl 1 rfl) ?_
  refine va_alen hx hb hC.1 hPo 0 0 rfl rfl (v := nI n) rfl djArrays_copyOf_23 ?_
  refine lv_iload_n hx hb djArrays_copyOf_24 rfl (lv_at hl 2 rfl) ?_
  refine va_mmin (rest := [.int 0, .ref s.heap.size, .int 0, .ref a]) hx hb (hml.trans hl.1.symm) hown (hW _ qw_7c2f99d6ce) (hW _ qw_1a05fe5770) (hW _ qw_0001fcaade) (hW _ qw_5e99ca5e66) (Nat.le_of_ble_eq_true rfl) (Nat.le_of_ble_eq_true rfl) (Nat.le_refl _) (Nat.le_of_eq (Nat.zero_add k)) djArrays_copyOf_25 ?_
  rw [if_neg (nI_nlt (a := k) (b := n) (by omega) (by omega))]
  refine st_copyi hx hb (hml.trans hl.1.symm) hown (hW _ qw_917c68b328) (hW _ qw_d8fd3cc6ff) (hW _ qw_fe691cbd75) (hW _ qw_3f8a6f3ebd) hC.1 hPn hDn (fun q h => hA q h) hS 0 0 0 hco rfl rfl rfl (by decide) (by decide) (nI_pos (by omega)) (by rw [sb_cl0, nI_clamp (by omega)]; omega) (by rw [sb_cl0, nI_clamp (by omega)]; omega) (Nat.le_of_ble_eq_true rfl) (Nat.le_of_ble_eq_true rfl) djArrays_copyOf_28 (fun H1 locs hP1 hD1 hS hz ho => ?_)
  refine lv_aload_n hx hb djArrays_copyOf_31 rfl (lv_at hl 0 rfl) ?_
  refine W.cs (Nat.zero_add 1) (Nat.zero_add k) ?_
  refine hE _ _ _ _ _ hS ⟨rfl, by rw [hz]; exact z1, fun q hq => (ho q (by omega)).trans (o1 q hq), _, hP1 0 _ rfl, fun j hj => ?_⟩ djArrays_copyOf_32
  rw [sb_cl0, nI_clamp (by omega)]
  exact sb_cpy0' hj

set_option maxHeartbeats 4000000 in
set_option maxRecDepth 100000 in
theorem c_copyOfL (l : Launch) (γ : gE) (A : Nat → Prop) (a n k : Nat) (f : Nat → Int64) (H0 : Heap) (hk : n < k) (hk2 : k ≤ 65536) : MU l yjArrays_copyOfL bjArrays_copyOfL 3 (some (.array .long)) 1 60 1 k [.ref a, .int (nI k)] γ A (fun H => H = H0 ∧ A a ∧ H[a]? = some (vp_cell γ.2.2.1 (n, .inr (.inl f)))) (mQr (fun r H1 => r = H0.size ∧ H1.size = H0.size + 1 ∧ (∀ q : Nat, q < H0.size → H1[q]? = H0[q]?) ∧ ∃ f' : Nat → Int64, H1[r]? = some (vp_cell γ.2.2.1 (k, .inr (.inl f'))) ∧ ∀ j, j < n → f' j = f j) A) := by
  refine mu_openFR (Or.inr ⟨_, rfl⟩) (by decide +kernel) (Nat.le_of_ble_eq_true rfl) ?_
  intro p e s m args below meth c ls Q S hC hA hI hE hl
  obtain ⟨hx, hb, hml, hown, hW⟩ := id S
  obtain ⟨rfl, hAa, hcell⟩ := hI
  have hS : va_S A s.heap s.heap [] := va_S.rf
  have hl : lv_has ls 3 [(0, .ref a), (1, .int (nI k))] := hl
  have hP : va_P γ.1 vwCl [(a, .inl (γ.2.2.1, (n, .inr (.inl f))))] s.heap := one_P hcell
  have hD : va_D A [(a, .inl (γ.2.2.1, (n, .inr (.inl f))))] := one_D hAa
  have hlt : a < s.heap.size := (Array.getElem?_eq_some_iff.mp hcell).1
  refine lv_iload_n hx hb djArrays_copyOfL_0 rfl (lv_at hl 1 rfl) ?_
  refine lv_aload_n hx hb djArrays_copyOfL_1 rfl (lv_at hl 0 rfl) ?_
  refine va_alen hx hb hC.1 hP 0 1 rfl rfl (v := nI n) rfl djArrays_copyOfL_2 ?_
  refine lv_icmp_ne (tgt := 14) hx hb djArrays_copyOfL_3 (by decide) (fun _ => ?_) (fun c1 => absurd ((nI_eq (by omega) (by omega)).mp c1) (by omega))
  refine lv_iload_n hx hb djArrays_copyOfL_14 rfl (lv_at hl 1 rfl) ?_
  refine va_newaK (atype := .long) (N := k) hx hb (hW _ qw_6933bd775d) rfl djArrays_copyOfL_15 rfl (nI_pos (by omega)) (nI_clamp (by omega)) (by show k * 8 ≤ _; omega) (Nat.le_refl _) (Nat.le_of_eq (Nat.zero_add k)) rfl (fun H cA e1 z1 o1 hAr hNm => ?_)
  have hcA : cA = γ.2.2.1 := Option.some.inj (hNm.symm.trans (va_nm_long (hC.1.2 1 _ rfl).2))
  subst hcA
  have hl := hl
  refine W.eq (g2 := F0 m 17 ls [.ref s.heap.size]) rfl ?_
  have hPn : va_P γ.1 vwCl [(s.heap.size, .inl (γ.2.2.1, (k, .inr (.inl (fun _ => 0)))))] H := one_P e1
  have hDn : va_D (fun q => s.heap.size ≤ q) [(s.heap.size, .inl (γ.2.2.1, (k, .inr (.inl (fun _ => 0)))))] := one_D (Nat.le_refl _)
  have hco : H[a]? = some (vp_cell γ.2.2.1 (n, .inr (.inl f))) := (o1 a hlt).trans hcell
  have hPo : va_P γ.1 vwCl [(a, .inl (γ.2.2.1, (n, .inr (.inl f))))] H := one_P hco
  have hS : va_S A s.heap H [] := ⟨by omega, fun q h1 _ => o1 q h1, fun _ h => by cases h⟩
  refine lv_astore_n (lv' := [(2, .ref s.heap.size), (0, .ref a), (1, .int (nI k))]) hx hb djArrays_copyOfL_17 rfl hl (by decide) rfl (fun ls hl => ?_)
  refine lv_aload_n hx hb djArrays_copyOfL_18 rfl (lv_at hl 1 rfl) ?_
  refine lv_iconst (v := 0) hx hb djArrays_copyOfL_19 (by decide) ?_
  refine lv_aload_n hx hb djArrays_copyOfL_20 rfl (lv_at hl 0 rfl) ?_
  refine lv_iconst (v := 0) hx hb djArrays_copyOfL_21 (by decide) ?_
  refine lv_aload_n hx hb djArrays_copyOfL_22 rfl (lv_at hl 1 rfl) ?_
  refine va_alen hx hb hC.1 hPo 0 1 rfl rfl (v := nI n) rfl djArrays_copyOfL_23 ?_
  refine lv_iload_n hx hb djArrays_copyOfL_24 rfl (lv_at hl 2 rfl) ?_
  refine va_mmin (rest := [.int 0, .ref s.heap.size, .int 0, .ref a]) hx hb (hml.trans hl.1.symm) hown (hW _ qw_7c2f99d6ce) (hW _ qw_1a05fe5770) (hW _ qw_0001fcaade) (hW _ qw_5e99ca5e66) (Nat.le_of_ble_eq_true rfl) (Nat.le_of_ble_eq_true rfl) (Nat.le_refl _) (Nat.le_of_eq (Nat.zero_add k)) djArrays_copyOfL_25 ?_
  rw [if_neg (nI_nlt (a := k) (b := n) (by omega) (by omega))]
  refine st_copyl hx hb (hml.trans hl.1.symm) hown (hW _ qw_917c68b328) (hW _ qw_d8fd3cc6ff) (hW _ qw_fe691cbd75) (hW _ qw_3f8a6f3ebd) hC.1 hPn hDn (fun q h => hA q h) hS 0 1 1 hco rfl rfl rfl (by decide) (by decide) (nI_pos (by omega)) (by rw [sb_cl0, nI_clamp (by omega)]; omega) (by rw [sb_cl0, nI_clamp (by omega)]; omega) (Nat.le_of_ble_eq_true rfl) (Nat.le_of_ble_eq_true rfl) djArrays_copyOfL_28 (fun H1 locs hP1 hD1 hS hz ho => ?_)
  refine lv_aload_n hx hb djArrays_copyOfL_31 rfl (lv_at hl 0 rfl) ?_
  refine W.cs (Nat.zero_add 1) (Nat.zero_add k) ?_
  refine hE _ _ _ _ _ hS ⟨rfl, by rw [hz]; exact z1, fun q hq => (ho q (by omega)).trans (o1 q hq), _, hP1 0 _ rfl, fun j hj => ?_⟩ djArrays_copyOfL_32
  rw [sb_cl0, nI_clamp (by omega)]
  exact sb_cpy0' hj

set_option maxHeartbeats 4000000 in
set_option maxRecDepth 100000 in
theorem c_withRoom (l : Launch) (γ : gE) (A : Nat → Prop) (a n N : Nat) (f : Nat → Int32) (H0 : Heap) (hN : N ≤ 4096) (hn : n ≤ 8192) : MU l yTypeBook_withRoom bTypeBook_withRoom 2 (some (.array .int)) 2 82 (wc n N) (wm n N) [.ref a, .int (nI N)] γ A (fun H => H = H0 ∧ A a ∧ H[a]? = some (vp_cell γ.2.1 (n, .inl f))) (mQr (fun r H1 => (r = a ∨ H0.size ≤ r) ∧ A r ∧ H0.size ≤ H1.size ∧ (∀ q : Nat, q < H0.size → H1[q]? = H0[q]?) ∧ ∃ f' : Nat → Int32, H1[r]? = some (vp_cell γ.2.1 (wl n N, .inl f')) ∧ ∀ j, j < n → f' j = f j) A) := by
  refine mu_openR (Or.inr ⟨_, rfl⟩) (by decide) (Nat.le_of_ble_eq_true rfl) ?_
  intro p e s m args below meth c ls Q S hC hA hI hE hl
  obtain ⟨hx, hb, hml, hown, hW⟩ := id S
  obtain ⟨rfl, hAa, hcell⟩ := hI
  have hS : va_S A s.heap s.heap [] := va_S.rf
  have hl : lv_has ls 2 [(0, .ref a), (1, .int (nI N))] := hl
  have hP : va_P γ.1 vwCl [(a, .inl (γ.2.1, (n, .inl f)))] s.heap := one_P hcell
  have hlt : a < s.heap.size := (Array.getElem?_eq_some_iff.mp hcell).1
  refine lv_iload_n hx hb dTypeBook_withRoom_0 rfl (lv_at hl 1 rfl) ?_
  refine lv_aload_n hx hb dTypeBook_withRoom_1 rfl (lv_at hl 0 rfl) ?_
  refine va_alen hx hb hC.1 hP 0 0 rfl rfl (v := nI n) rfl dTypeBook_withRoom_2 ?_
  refine lv_icmp_gt (tgt := 10) hx hb dTypeBook_withRoom_3 (by decide) (fun c1 => ?_) (fun c1 => ?_)
  · have hgt : n < N := (nI_ltI (by omega) (by omega)).mp c1
    have e1 : wc n N = 1 := if_neg (by omega)
    have e2 : wm n N = max N (2 * n) := if_neg (by omega)
    have e3 : wl n N = max N (2 * n) := if_neg (by omega)
    rw [e1, e2] at hE ⊢
    rw [e3] at hE
    have hm : max N (2 * n) ≤ 65536 := by omega
    have hm2 : n < max N (2 * n) := by omega
    refine lv_aload_n hx hb dTypeBook_withRoom_10 rfl (lv_at hl 0 rfl) ?_
    refine lv_iload_n hx hb dTypeBook_withRoom_11 rfl (lv_at hl 1 rfl) ?_
    refine lv_iconst (v := 2) hx hb dTypeBook_withRoom_12 (by decide) ?_
    refine lv_aload_n hx hb dTypeBook_withRoom_13 rfl (lv_at hl 0 rfl) ?_
    refine va_alen hx hb hC.1 hP 0 0 rfl rfl (v := nI n) rfl dTypeBook_withRoom_14 ?_
    refine lv_imul hx hb dTypeBook_withRoom_15 ?_
    refine va_mmax (rest := [.ref a]) hx hb (hml.trans hl.1.symm) hown (hW _ qw_0d2310d85d) (hW _ qw_7cc87a9f9b) (hW _ qw_0001fcaade) (hW _ qw_6b973c1ba4) (Nat.le_of_ble_eq_true rfl) (Nat.le_of_ble_eq_true rfl) (Nat.zero_le _) (Nat.zero_le _) dTypeBook_withRoom_16 ?_
    have em : (if nI N < 2 * nI n then 2 * nI n else nI N) = nI (max N (2 * n)) := by
      have h2 : (2 : Int32) * nI n = nI (2 * n) := pk_mul 2 n
      rw [h2]
      by_cases h : N < 2 * n
      · rw [if_pos (nI_lt h (by omega))]
        congr 1
        omega
      · rw [if_neg (nI_nlt (by omega) (by omega))]
        congr 1
        omega
    rw [em]
    refine mu_Sr (rest := []) S hC (fun q h => hA q h) (fun q h => h) hS (c_copyOf l γ A a n (max N (2 * n)) f s.heap hm2 hm) mejArrays_copyOf qw_13b4208a4c ⟨Nat.le_of_ble_eq_true rfl, Nat.le_of_ble_eq_true rfl⟩ ⟨rfl, hAa, hcell⟩ rfl hl.1 rfl (Nat.le_of_ble_eq_true rfl) dTypeBook_withRoom_19 ⟨Nat.le_refl _, Nat.le_of_eq (Nat.zero_add _)⟩ (fun r H locs hPO hS hz hk => ?_)
    obtain ⟨e4, e5, e6, f', e7, e8⟩ := hPO
    refine W.cs (Nat.zero_add 1) (Nat.zero_add _) ?_
    exact hE _ _ _ _ _ hS ⟨Or.inr (Nat.le_of_eq e4.symm), hA _ (Nat.le_of_eq e4.symm), by omega, e6, f', e7, e8⟩ dTypeBook_withRoom_22
  · have hle : N ≤ n := by
      rcases Nat.lt_or_ge n N with h | h
      · exact absurd ((nI_ltI (by omega) (by omega)).mpr h) c1
      · exact h
    have e1 : wc n N = 0 := if_pos hle
    have e2 : wm n N = 0 := if_pos hle
    have e3 : wl n N = n := if_pos hle
    rw [e1, e2] at hE ⊢
    rw [e3] at hE
    refine lv_aload_n hx hb dTypeBook_withRoom_6 rfl (lv_at hl 0 rfl) ?_
    refine lv_goto (tgt := 22) hx hb dTypeBook_withRoom_7 (by decide) ?_
    exact hE _ _ _ _ _ hS ⟨Or.inl rfl, hAa, Nat.le_refl _, fun _ _ => rfl, f, hcell, fun _ _ => rfl⟩ dTypeBook_withRoom_22
