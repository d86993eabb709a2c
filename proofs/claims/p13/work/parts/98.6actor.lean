-- CONSTRUCTORS, with what the arrays hold
def FS (j : Nat) : Int32 := ([1, 1, 1, 1, 1, 6, 4, 4, 5, 5, 5, 5] : List Int32).getD j 0
def FN (j : Nat) : Int32 := ([2, 3, 4, 1, 0, 0, 1, 0, 8, 9, 10, 11] : List Int32).getD j 0
def SWX (s0 : State) : Prop := (∃ t : Nat, va_Z "TypeBook$Names" "FIRST_SORTS" "[I" (.ref t) (fun q => s0.heap.size ≤ q) s0 s0.heap ∧ va_T .int t 12 (fun j => .int (FS j)) (fun q => s0.heap.size ≤ q) s0 s0.heap) ∧ ∃ t : Nat, va_Z "TypeBook$Names" "FIRST_NUMBERS" "[I" (.ref t) (fun q => s0.heap.size ≤ q) s0 s0.heap ∧ va_T .int t 12 (fun j => .int (FN j)) (fun q => s0.heap.size ≤ q) s0 s0.heap
def TI0 : gf := fun _ _ => 0
def TI1 : gf := (P_Types_put 0 16 TI0 0 0 0 0).2
def TI2 : gf := (P_Types_put 1 16 TI1 1 0 0 0).2
def TI3 : gf := (P_Types_put 2 16 TI2 2 (-2147483647) 2147483647 0).2
def TI4 : gf := (P_Types_put 3 16 TI3 2 0 2147483647 0).2
def TI5 : gf := (P_Types_put 4 16 TI4 2 1 2147483647 0).2
def NI (f9 : Nat → Int32) : Nat → gf
  | 0 => fun q => if q = 5 then f9 else fun _ => 0
  | j + 1 => P_Names_put j 1 64 (NI f9 j) (nI j) (FS j) (FN j) 0
theorem ni_s {f9 : Nat → Int32} {j : Nat} : NI f9 (j + 1) = P_Names_put j 1 64 (NI f9 j) (nI j) (FS j) (FN j) 0 := rfl
def NX (f9 : Nat → Int32) : gf := Au (NI f9 12) 6 (0 : Int32).toNatClampNeg (nI 12)
def fArj (γ : gE) (a n : Nat) (x : Int32) (j : Nat) (ws : va_W) : Prop := ∃ f : Nat → Int32, ws = [(a, .inl (γ.2.1, n, .inl f))] ∧ ∀ i, i < j → f i = x
theorem fill_st {f : Nat → Int32} {x : Int32} {j : Nat} (hj : j < 2 ^ 31) (h : ∀ i, i < j → f i = x) : ∀ i, i < j + 1 → upd f (nI j).toNatClampNeg x i = x := fun i hi => by
  rw [nI_clamp hj]
  unfold upd
  by_cases h9 : i = j
  · rw [if_pos h9]
  · rw [if_neg h9]; exact h i (by omega)
set_option maxHeartbeats 4000000 in
set_option maxRecDepth 100000 in
theorem fx_fill (l : Launch) (γ : gE) (A : Nat → Prop) (a n : Nat) (x : Int32) (hn : n ≤ 65536) : MU l yjArrays_fill bjArrays_fill 4 none 0 0 0 0 [.ref a, .int x] γ A (cmp γ (fArr γ a n) A) (mQv (fun H1 => cmp γ (fArj γ a n x n) A H1) A) := by
  refine mu_openFV (by decide +kernel) (Nat.le_of_ble_eq_true rfl) ?_
  intro p e s m args below meth c ls Q S hC hA hI hE hl
  obtain ⟨hx, hb, hml, hown, hW⟩ := id S
  have hS : va_S A s.heap s.heap [] := va_S.rf
  have hl : lv_has ls 4 [(0, .ref a), (1, .int x)] := hl
  have J5 : ∀ (N5 : Nat) (ls : Array Slot) (H : Heap) (locs : List Loc) (j : Nat), cmp γ (fArj γ a n x j) A H → va_S A s.heap H locs → j ≤ n → n - j = N5 → lv_has ls 4 [(0, .ref a), (1, .int x), (2, .int (nI j)), (3, .int (nI n))] → W p l e (bs_rm 0 0 0 0) s m args below meth c H locs 0 0 Q (F0 m 5 ls []) := by
    intro N5
    induction N5 using Nat.strongRecOn with
    | ind N5 ih =>
      intro ls H locs j hI hS hj hm hl
      refine lv_iload_n hx hb djArrays_fill_5 rfl (lv_at hl 2 rfl) ?_
      refine lv_iload_n hx hb djArrays_fill_6 rfl (lv_at hl 3 rfl) ?_
      refine lv_icmp_ge (tgt := 20) hx hb djArrays_fill_7 (by decide) (fun c1 => ?_) (fun c1 => ?_)
      · have hjn : j = n := nI_ge_of hj (by omega) c1
        subst hjn
        exact hE _ _ _ _ hS hI djArrays_fill_20
      · have hjn : j < n := by
          by_cases h : j < n
          · exact h
          · exact absurd (show nI n ≤ nI j by rw [show j = n by omega]; exact Int32.le_refl _) c1
        obtain ⟨ws, ⟨f, rfl, hf⟩, hP, hD⟩ := hI
        refine lv_aload_n hx hb djArrays_fill_10 rfl (lv_at hl 0 rfl) ?_
        refine lv_iload_n hx hb djArrays_fill_11 rfl (lv_at hl 2 rfl) ?_
        refine lv_iload_n hx hb djArrays_fill_12 rfl (lv_at hl 1 rfl) ?_
        refine st_iast hx hb hC.1 hP hD (fun q h => h) hS 0 0 rfl rfl (vp_in_nI hjn (by omega)) djArrays_fill_13 (fun H locs hP hD hS hz ho => ?_)
        refine lv_iinc (v := nI (j + 1)) (lv' := [(2, .int (nI (j + 1))), (0, .ref a), (1, .int x), (3, .int (nI n))]) hx hb djArrays_fill_14 hl (k := 2) rfl (by rw [← nI_add]; rfl) (by decide) rfl (fun ls hl => ?_)
        refine lv_goto (tgt := 5) hx hb djArrays_fill_17 (by decide) ?_
        exact ih _ (by omega) ls _ _ (j + 1) ⟨_, ⟨_, rfl, fill_st (by omega) hf⟩, hP, hD⟩ hS hjn rfl (lv_sub hl [1, 2, 0, 3] rfl)
  refine lv_iconst (v := 0) hx hb djArrays_fill_0 (by decide) ?_
  refine lv_istore_n (lv' := [(2, .int 0), (0, .ref a), (1, .int x)]) hx hb djArrays_fill_1 rfl hl (by decide) rfl (fun ls hl => ?_)
  refine lv_aload_n hx hb djArrays_fill_2 rfl (lv_at hl 1 rfl) ?_
  obtain ⟨ws, ⟨f, rfl⟩, hP, hD⟩ := id hI
  refine va_alen hx hb hC.1 hP 0 0 rfl rfl (v := nI n) rfl djArrays_fill_3 ?_
  refine lv_istore_n (lv' := [(3, .int (nI n)), (2, .int 0), (0, .ref a), (1, .int x)]) hx hb djArrays_fill_4 rfl hl (by decide) rfl (fun ls hl => ?_)
  exact J5 _ ls _ _ 0 ⟨_, ⟨_, rfl, fun i h => absurd h (Nat.not_lt_zero i)⟩, hP, hD⟩ hS (Nat.zero_le _) rfl (lv_sub hl [2, 3, 1, 0] rfl)
set_option maxHeartbeats 4000000 in
set_option maxRecDepth 100000 in
theorem fi_Types (l : Launch) (γ : gE) (s0 : State) (hw0 : SW s0) (a : Nat) (H0 : Heap)   : MS l yTypes_init bTypes_init 1 none 4 127 4 64 [.ref a] γ (fun q => a ≤ q) (ct_P s0 a H0 γ [(a, .inr (3, [.null, .null, .null, .null, .int 0]))]) (mQv (fun H => cmp γ (gTypes γ a 5 16 TI5) (iv a (a + 5)) H ∧ H.size = a + 5) (fun q => a ≤ q)) := by
  refine ms_openV (by decide) (Nat.le_of_ble_eq_true rfl) ?_
  intro p e s m args below meth c ls Q S hnm hC hA hPS hE hl
  obtain ⟨⟨hF0, hA1⟩, hH0, hz, hP⟩ := hPS
  subst hH0
  have hA0 : ∀ q, a ≤ q → s0.heap.size ≤ q := fun q h => Nat.le_trans hA1 h
  have hA : ∀ q, s.heap.size ≤ q → a ≤ q := hA
  obtain ⟨hx, hb, hml, hown, hW⟩ := id S
  have hS : va_S (fun q => a ≤ q) s.heap s.heap [] := va_S.rf
  have hD : va_D (fun q => a ≤ q) [(a, .inr (3, [.null, .null, .null, .null, .int 0]))] := one_D (Nat.le_refl a)
  have hl : lv_has ls 1 [(0, .ref a)] := hl
  refine lv_aload_n hx hb dTypes_init_0 rfl (lv_at hl 0 rfl) ?_
  refine W.objInit hx hb hown (hW _ qw_f0d7e04424) (hW _ qw_aaa073e22d) (hW _ qc_obj) rfl (hl.1.trans hml.symm) rfl dTypes_init_1 (Nat.le_of_ble_eq_true rfl) (Nat.le_of_ble_eq_true rfl) ?_
  refine lv_aload_n hx hb dTypes_init_4 rfl (lv_at hl 0 rfl) ?_
  refine lv_bipush (v := 16) hx hb dTypes_init_5 (by decide) ?_
  refine cw_newa S hC qw_8e969fb20a hP hD hS hA hz 16 rfl (by omega) (Nat.le_of_ble_eq_true rfl) (Nat.le_of_ble_eq_true rfl) dTypes_init_7 (fun H hP hD hS hz hk9 => ?_)
  have hz : H.size = a + 2 := hz
  have hP : va_P γ.1 vwCl [(a, .inr (3, [.null, .null, .null, .null, .int 0])), (a + 1, .inl (γ.2.1, 16, .inl (fun _ => 0)))] _ := hP
  have hD : va_D _ [(a, .inr (3, [.null, .null, .null, .null, .int 0])), (a + 1, .inl (γ.2.1, 16, .inl (fun _ => 0)))] := hD
  refine st_put (D := γ.1) (ci := 3) (v := .ref (a + 1)) (ty := .array .int) (C := R_Types) (T := T_Types) (N := 5) (Ts := bs_W0) hx hb hW in_Types t_Types t_Types_ok n_Types hown hC.1 hP hD (fun q h => h) hS 0 rfl rfl 0 (by decide) (hW _ qw_9652573c2f) (fun _ h9 => h9) rfl (by decide +kernel) rfl rfl (Nat.le_of_ble_eq_true rfl) dTypes_init_9 (fun H locs hP hD hS hz9 ho9 => ?_)
  have hz : H.size = a + 2 := hz9.trans hz
  have hP : va_P γ.1 vwCl [(a, .inr (3, [.ref (a + 1), .null, .null, .null, .int 0])), (a + 1, .inl (γ.2.1, 16, .inl (fun _ => 0)))] _ := hP
  have hD : va_D _ [(a, .inr (3, [.ref (a + 1), .null, .null, .null, .int 0])), (a + 1, .inl (γ.2.1, 16, .inl (fun _ => 0)))] := hD
  refine lv_aload_n hx hb dTypes_init_12 rfl (lv_at hl 0 rfl) ?_
  refine lv_bipush (v := 16) hx hb dTypes_init_13 (by decide) ?_
  refine cw_newa S hC qw_8e969fb20a hP hD hS hA hz 16 rfl (by omega) (Nat.le_of_ble_eq_true rfl) (Nat.le_of_ble_eq_true rfl) dTypes_init_15 (fun H hP hD hS hz hk9 => ?_)
  have hz : H.size = a + 3 := hz
  have hP : va_P γ.1 vwCl [(a, .inr (3, [.ref (a + 1), .null, .null, .null, .int 0])), (a + 1, .inl (γ.2.1, 16, .inl (fun _ => 0))), (a + 2, .inl (γ.2.1, 16, .inl (fun _ => 0)))] _ := hP
  have hD : va_D _ [(a, .inr (3, [.ref (a + 1), .null, .null, .null, .int 0])), (a + 1, .inl (γ.2.1, 16, .inl (fun _ => 0))), (a + 2, .inl (γ.2.1, 16, .inl (fun _ => 0)))] := hD
  refine st_put (D := γ.1) (ci := 3) (v := .ref (a + 2)) (ty := .array .int) (C := R_Types) (T := T_Types) (N := 5) (Ts := bs_W0) hx hb hW in_Types t_Types t_Types_ok n_Types hown hC.1 hP hD (fun q h => h) hS 0 rfl rfl 1 (by decide) (hW _ qw_3e3b315a67) (fun _ h9 => h9) rfl (by decide +kernel) rfl rfl (Nat.le_of_ble_eq_true rfl) dTypes_init_17 (fun H locs hP hD hS hz9 ho9 => ?_)
  have hz : H.size = a + 3 := hz9.trans hz
  have hP : va_P γ.1 vwCl [(a, .inr (3, [.ref (a + 1), .ref (a + 2), .null, .null, .int 0])), (a + 1, .inl (γ.2.1, 16, .inl (fun _ => 0))), (a + 2, .inl (γ.2.1, 16, .inl (fun _ => 0)))] _ := hP
  have hD : va_D _ [(a, .inr (3, [.ref (a + 1), .ref (a + 2), .null, .null, .int 0])), (a + 1, .inl (γ.2.1, 16, .inl (fun _ => 0))), (a + 2, .inl (γ.2.1, 16, .inl (fun _ => 0)))] := hD
  refine lv_aload_n hx hb dTypes_init_20 rfl (lv_at hl 0 rfl) ?_
  refine lv_bipush (v := 16) hx hb dTypes_init_21 (by decide) ?_
  refine cw_newa S hC qw_8e969fb20a hP hD hS hA hz 16 rfl (by omega) (Nat.le_of_ble_eq_true rfl) (Nat.le_of_ble_eq_true rfl) dTypes_init_23 (fun H hP hD hS hz hk9 => ?_)
  have hz : H.size = a + 4 := hz
  have hP : va_P γ.1 vwCl [(a, .inr (3, [.ref (a + 1), .ref (a + 2), .null, .null, .int 0])), (a + 1, .inl (γ.2.1, 16, .inl (fun _ => 0))), (a + 2, .inl (γ.2.1, 16, .inl (fun _ => 0))), (a + 3, .inl (γ.2.1, 16, .inl (fun _ => 0)))] _ := hP
  have hD : va_D _ [(a, .inr (3, [.ref (a + 1), .ref (a + 2), .null, .null, .int 0])), (a + 1, .inl (γ.2.1, 16, .inl (fun _ => 0))), (a + 2, .inl (γ.2.1, 16, .inl (fun _ => 0))), (a + 3, .inl (γ.2.1, 16, .inl (fun _ => 0)))] := hD
  refine st_put (D := γ.1) (ci := 3) (v := .ref (a + 3)) (ty := .array .int) (C := R_Types) (T := T_Types) (N := 5) (Ts := bs_W0) hx hb hW in_Types t_Types t_Types_ok n_Types hown hC.1 hP hD (fun q h => h) hS 0 rfl rfl 2 (by decide) (hW _ qw_dd571233a8) (fun _ h9 => h9) rfl (by decide +kernel) rfl rfl (Nat.le_of_ble_eq_true rfl) dTypes_init_25 (fun H locs hP hD hS hz9 ho9 => ?_)
  have hz : H.size = a + 4 := hz9.trans hz
  have hP : va_P γ.1 vwCl [(a, .inr (3, [.ref (a + 1), .ref (a + 2), .ref (a + 3), .null, .int 0])), (a + 1, .inl (γ.2.1, 16, .inl (fun _ => 0))), (a + 2, .inl (γ.2.1, 16, .inl (fun _ => 0))), (a + 3, .inl (γ.2.1, 16, .inl (fun _ => 0)))] _ := hP
  have hD : va_D _ [(a, .inr (3, [.ref (a + 1), .ref (a + 2), .ref (a + 3), .null, .int 0])), (a + 1, .inl (γ.2.1, 16, .inl (fun _ => 0))), (a + 2, .inl (γ.2.1, 16, .inl (fun _ => 0))), (a + 3, .inl (γ.2.1, 16, .inl (fun _ => 0)))] := hD
  refine lv_aload_n hx hb dTypes_init_28 rfl (lv_at hl 0 rfl) ?_
  refine lv_bipush (v := 16) hx hb dTypes_init_29 (by decide) ?_
  refine cw_newa S hC qw_8e969fb20a hP hD hS hA hz 16 rfl (by omega) (Nat.le_of_ble_eq_true rfl) (Nat.le_of_ble_eq_true rfl) dTypes_init_31 (fun H hP hD hS hz hk9 => ?_)
  have hz : H.size = a + 5 := hz
  have hP : va_P γ.1 vwCl [(a, .inr (3, [.ref (a + 1), .ref (a + 2), .ref (a + 3), .null, .int 0])), (a + 1, .inl (γ.2.1, 16, .inl (fun _ => 0))), (a + 2, .inl (γ.2.1, 16, .inl (fun _ => 0))), (a + 3, .inl (γ.2.1, 16, .inl (fun _ => 0))), (a + 4, .inl (γ.2.1, 16, .inl (fun _ => 0)))] _ := hP
  have hD : va_D _ [(a, .inr (3, [.ref (a + 1), .ref (a + 2), .ref (a + 3), .null, .int 0])), (a + 1, .inl (γ.2.1, 16, .inl (fun _ => 0))), (a + 2, .inl (γ.2.1, 16, .inl (fun _ => 0))), (a + 3, .inl (γ.2.1, 16, .inl (fun _ => 0))), (a + 4, .inl (γ.2.1, 16, .inl (fun _ => 0)))] := hD
  refine st_put (D := γ.1) (ci := 3) (v := .ref (a + 4)) (ty := .array .int) (C := R_Types) (T := T_Types) (N := 5) (Ts := bs_W0) hx hb hW in_Types t_Types t_Types_ok n_Types hown hC.1 hP hD (fun q h => h) hS 0 rfl rfl 3 (by decide) (hW _ qw_dded4610c2) (fun _ h9 => h9) rfl (by decide +kernel) rfl rfl (Nat.le_of_ble_eq_true rfl) dTypes_init_33 (fun H locs hP hD hS hz9 ho9 => ?_)
  have hz : H.size = a + 5 := hz9.trans hz
  have hP : va_P γ.1 vwCl [(a, .inr (3, [.ref (a + 1), .ref (a + 2), .ref (a + 3), .ref (a + 4), .int 0])), (a + 1, .inl (γ.2.1, 16, .inl (fun _ => 0))), (a + 2, .inl (γ.2.1, 16, .inl (fun _ => 0))), (a + 3, .inl (γ.2.1, 16, .inl (fun _ => 0))), (a + 4, .inl (γ.2.1, 16, .inl (fun _ => 0)))] _ := hP
  have hD : va_D _ [(a, .inr (3, [.ref (a + 1), .ref (a + 2), .ref (a + 3), .ref (a + 4), .int 0])), (a + 1, .inl (γ.2.1, 16, .inl (fun _ => 0))), (a + 2, .inl (γ.2.1, 16, .inl (fun _ => 0))), (a + 3, .inl (γ.2.1, 16, .inl (fun _ => 0))), (a + 4, .inl (γ.2.1, 16, .inl (fun _ => 0)))] := hD
  refine lv_aload_n hx hb dTypes_init_36 rfl (lv_at hl 0 rfl) ?_
  refine lv_iconst (v := 0) hx hb dTypes_init_37 (by decide) ?_
  refine st_put (D := γ.1) (ci := 3) (v := .int 0) (ty := .int) (C := R_Types) (T := T_Types) (N := 5) (Ts := bs_W0) hx hb hW in_Types t_Types t_Types_ok n_Types hown hC.1 hP hD (fun q h => h) hS 0 rfl rfl 4 (by decide) (hW _ qw_f9da65449d) (fun _ h9 => h9) rfl (by decide +kernel) rfl rfl (Nat.le_of_ble_eq_true rfl) dTypes_init_38 (fun H locs hP hD hS hz9 ho9 => ?_)
  have hz : H.size = a + 5 := hz9.trans hz
  have hP : va_P γ.1 vwCl [(a, .inr (3, [.ref (a + 1), .ref (a + 2), .ref (a + 3), .ref (a + 4), .int 0])), (a + 1, .inl (γ.2.1, 16, .inl (fun _ => 0))), (a + 2, .inl (γ.2.1, 16, .inl (fun _ => 0))), (a + 3, .inl (γ.2.1, 16, .inl (fun _ => 0))), (a + 4, .inl (γ.2.1, 16, .inl (fun _ => 0)))] _ := hP
  have hD : va_D _ [(a, .inr (3, [.ref (a + 1), .ref (a + 2), .ref (a + 3), .ref (a + 4), .int 0])), (a + 1, .inl (γ.2.1, 16, .inl (fun _ => 0))), (a + 2, .inl (γ.2.1, 16, .inl (fun _ => 0))), (a + 3, .inl (γ.2.1, 16, .inl (fun _ => 0))), (a + 4, .inl (γ.2.1, 16, .inl (fun _ => 0)))] := hD
  refine lv_aload_n hx hb dTypes_init_41 rfl (lv_at hl 0 rfl) ?_
  refine lv_iconst (v := 0) hx hb dTypes_init_42 (by decide) ?_
  refine lv_iconst (v := 0) hx hb dTypes_init_43 (by decide) ?_
  refine lv_iconst (v := 0) hx hb dTypes_init_44 (by decide) ?_
  refine lv_iconst (v := 0) hx hb dTypes_init_45 (by decide) ?_
  have hI : cmp γ (gTypes γ a 0 16 TI0) (fun q => a ≤ q) _ := ⟨_, ⟨(a + 1), (a + 2), (a + 3), (a + 4), rfl, (Nat.le_of_ble_eq_true rfl), (Nat.le_of_ble_eq_true rfl), (Nat.le_of_ble_eq_true rfl)⟩, hP, hD⟩
  refine mu_Vi (rest := []) S hC (fun q h => hA q (Nat.le_trans hS.1 h)) (fun q h => h) hS (fc_Types_put l γ (fun q => a ≤ q) a 0 16 TI0 0 0 0 0 (by omega)) meTypes_put qw_3143413b72 ⟨(Nat.le_of_ble_eq_true rfl), (Nat.le_of_ble_eq_true rfl)⟩ (va_recv hC.1 hP (ci := 3) (q0 := 0) rfl rfl) hI rfl hl.1 rfl (Nat.le_of_ble_eq_true rfl) dTypes_init_46 ⟨(Nat.le_of_ble_eq_true rfl), (Nat.le_of_ble_eq_true rfl)⟩ (fun r6 H1 locs ⟨hr6, hI⟩ hS hz9 _ => ?_)
  have hI : cmp γ (gTypes γ a 1 16 TI1) (fun q => a ≤ q) _ := hI
  have hz9 : a + 5 ≤ H1.size := by omega
  refine W.cs (cells' := 0 + 1 + 1 + 1 + 1) (slots' := 0 + 16 + 16 + 16 + 16) rfl rfl ?_
  refine lv_pop hx hb dTypes_init_49 rfl ?_
  refine lv_aload_n hx hb dTypes_init_50 rfl (lv_at hl 0 rfl) ?_
  refine lv_iconst (v := 1) hx hb dTypes_init_51 (by decide) ?_
  refine lv_iconst (v := 0) hx hb dTypes_init_52 (by decide) ?_
  refine lv_iconst (v := 0) hx hb dTypes_init_53 (by decide) ?_
  refine lv_iconst (v := 0) hx hb dTypes_init_54 (by decide) ?_
  obtain ⟨ws_1, ⟨b0_1, b1_1, b2_1, b3_1, rfl, -, -, -⟩, hP, hD⟩ := id hI
  refine mu_Vi (rest := []) S hC (fun q h => hA q (Nat.le_trans hS.1 h)) (fun q h => h) hS (fc_Types_put l γ (fun q => a ≤ q) a 1 16 TI1 1 0 0 0 (by omega)) meTypes_put qw_3143413b72 ⟨(Nat.le_of_ble_eq_true rfl), (Nat.le_of_ble_eq_true rfl)⟩ (va_recv hC.1 hP (ci := 3) (q0 := 0) rfl rfl) hI rfl hl.1 rfl (Nat.le_of_ble_eq_true rfl) dTypes_init_55 ⟨(Nat.le_of_ble_eq_true rfl), (Nat.le_of_ble_eq_true rfl)⟩ (fun r7 H1 locs ⟨hr7, hI⟩ hS hz9 _ => ?_)
  have hI : cmp γ (gTypes γ a 2 16 TI2) (fun q => a ≤ q) _ := hI
  have hz9 : a + 5 ≤ H1.size := by omega
  refine W.cs (cells' := 0 + 1 + 1 + 1 + 1) (slots' := 0 + 16 + 16 + 16 + 16) rfl rfl ?_
  refine lv_pop hx hb dTypes_init_58 rfl ?_
  refine lv_aload_n hx hb dTypes_init_59 rfl (lv_at hl 0 rfl) ?_
  refine lv_iconst (v := 2) hx hb dTypes_init_60 (by decide) ?_
  refine lv_ldc (v := (-2147483647)) hx hb hown (hW _ qw_079460d786) dTypes_init_61 ?_
  refine lv_ldc (v := 2147483647) hx hb hown (hW _ qw_3e6fd5ff1a) dTypes_init_63 ?_
  refine lv_iconst (v := 0) hx hb dTypes_init_65 (by decide) ?_
  obtain ⟨ws_2, ⟨b0_2, b1_2, b2_2, b3_2, rfl, -, -, -⟩, hP, hD⟩ := id hI
  refine mu_Vi (rest := []) S hC (fun q h => hA q (Nat.le_trans hS.1 h)) (fun q h => h) hS (fc_Types_put l γ (fun q => a ≤ q) a 2 16 TI2 2 (-2147483647) 2147483647 0 (by omega)) meTypes_put qw_3143413b72 ⟨(Nat.le_of_ble_eq_true rfl), (Nat.le_of_ble_eq_true rfl)⟩ (va_recv hC.1 hP (ci := 3) (q0 := 0) rfl rfl) hI rfl hl.1 rfl (Nat.le_of_ble_eq_true rfl) dTypes_init_66 ⟨(Nat.le_of_ble_eq_true rfl), (Nat.le_of_ble_eq_true rfl)⟩ (fun r8 H1 locs ⟨hr8, hI⟩ hS hz9 _ => ?_)
  have hI : cmp γ (gTypes γ a 3 16 TI3) (fun q => a ≤ q) _ := hI
  have hz9 : a + 5 ≤ H1.size := by omega
  refine W.cs (cells' := 0 + 1 + 1 + 1 + 1) (slots' := 0 + 16 + 16 + 16 + 16) rfl rfl ?_
  refine lv_pop hx hb dTypes_init_69 rfl ?_
  refine lv_aload_n hx hb dTypes_init_70 rfl (lv_at hl 0 rfl) ?_
  refine lv_iconst (v := 2) hx hb dTypes_init_71 (by decide) ?_
  refine lv_iconst (v := 0) hx hb dTypes_init_72 (by decide) ?_
  refine lv_ldc (v := 2147483647) hx hb hown (hW _ qw_3e6fd5ff1a) dTypes_init_73 ?_
  refine lv_iconst (v := 0) hx hb dTypes_init_75 (by decide) ?_
  obtain ⟨ws_3, ⟨b0_3, b1_3, b2_3, b3_3, rfl, -, -, -⟩, hP, hD⟩ := id hI
  refine mu_Vi (rest := []) S hC (fun q h => hA q (Nat.le_trans hS.1 h)) (fun q h => h) hS (fc_Types_put l γ (fun q => a ≤ q) a 3 16 TI3 2 0 2147483647 0 (by omega)) meTypes_put qw_3143413b72 ⟨(Nat.le_of_ble_eq_true rfl), (Nat.le_of_ble_eq_true rfl)⟩ (va_recv hC.1 hP (ci := 3) (q0 := 0) rfl rfl) hI rfl hl.1 rfl (Nat.le_of_ble_eq_true rfl) dTypes_init_76 ⟨(Nat.le_of_ble_eq_true rfl), (Nat.le_of_ble_eq_true rfl)⟩ (fun r9 H1 locs ⟨hr9, hI⟩ hS hz9 _ => ?_)
  have hI : cmp γ (gTypes γ a 4 16 TI4) (fun q => a ≤ q) _ := hI
  have hz9 : a + 5 ≤ H1.size := by omega
  refine W.cs (cells' := 0 + 1 + 1 + 1 + 1) (slots' := 0 + 16 + 16 + 16 + 16) rfl rfl ?_
  refine lv_pop hx hb dTypes_init_79 rfl ?_
  refine lv_aload_n hx hb dTypes_init_80 rfl (lv_at hl 0 rfl) ?_
  refine lv_iconst (v := 2) hx hb dTypes_init_81 (by decide) ?_
  refine lv_iconst (v := 1) hx hb dTypes_init_82 (by decide) ?_
  refine lv_ldc (v := 2147483647) hx hb hown (hW _ qw_3e6fd5ff1a) dTypes_init_83 ?_
  refine lv_iconst (v := 0) hx hb dTypes_init_85 (by decide) ?_
  obtain ⟨ws_4, ⟨b0_4, b1_4, b2_4, b3_4, rfl, -, -, -⟩, hP, hD⟩ := id hI
  refine mu_Vi (rest := []) S hC (fun q h => hA q (Nat.le_trans hS.1 h)) (fun q h => h) hS (fc_Types_put l γ (fun q => a ≤ q) a 4 16 TI4 2 1 2147483647 0 (by omega)) meTypes_put qw_3143413b72 ⟨(Nat.le_of_ble_eq_true rfl), (Nat.le_of_ble_eq_true rfl)⟩ (va_recv hC.1 hP (ci := 3) (q0 := 0) rfl rfl) hI rfl hl.1 rfl (Nat.le_of_ble_eq_true rfl) dTypes_init_86 ⟨(Nat.le_of_ble_eq_true rfl), (Nat.le_of_ble_eq_true rfl)⟩ (fun r10 H1 locs ⟨hr10, hI⟩ hS hz9 _ => ?_)
  have hI : cmp γ (gTypes γ a 5 16 TI5) (fun q => a ≤ q) _ := hI
  have hz9 : a + 5 ≤ H1.size := by omega
  refine W.cs (cells' := 0 + 1 + 1 + 1 + 1) (slots' := 0 + 16 + 16 + 16 + 16) rfl rfl ?_
  refine lv_pop hx hb dTypes_init_89 rfl ?_
  refine hE _ _ _ _ _ _ hS (Nat.le_of_ble_eq_true rfl) (Nat.le_of_ble_eq_true rfl) (fun hG => ?_) dTypes_init_90
  have hz1 : H1.size ≤ s.heap.size + 4 := hG.2.1
  have hz2 : H1.size = a + 5 := by omega
  exact ⟨iv_of hI hz2, hz2⟩
set_option maxHeartbeats 4000000 in
set_option maxRecDepth 100000 in
theorem fi_Names (l : Launch) (γ : gE) (s0 : State) (hwx : SWX s0) (a : Nat) (H0 : Heap)   : MS l yNames_init bNames_init 2 none 4 128 7 608 [.ref a] γ (fun q => a ≤ q) (ct_P s0 a H0 γ [(a, .inr (2, [.null, .null, .null, .null, .null, .null, .null, .int 0, .int 0]))]) (mQv (fun H => (∃ f9 : Nat → Int32, (∀ c, c < 256 → f9 c = -1) ∧ cmp γ (gNames γ a 12 1 64 (NX f9)) (iv a (a + 8)) H) ∧ H.size = a + 8) (fun q => a ≤ q)) := by
  refine ms_openV (by decide) (Nat.le_of_ble_eq_true rfl) ?_
  intro p e s m args below meth c ls Q S hnm hC hA hPS hE hl
  obtain ⟨⟨hF0, hA1⟩, hH0, hz, hP⟩ := hPS
  subst hH0
  have hA0 : ∀ q, a ≤ q → s0.heap.size ≤ q := fun q h => Nat.le_trans hA1 h
  have hA : ∀ q, s.heap.size ≤ q → a ≤ q := hA
  obtain ⟨hx, hb, hml, hown, hW⟩ := id S
  have hS : va_S (fun q => a ≤ q) s.heap s.heap [] := va_S.rf
  have hD : va_D (fun q => a ≤ q) [(a, .inr (2, [.null, .null, .null, .null, .null, .null, .null, .int 0, .int 0]))] := one_D (Nat.le_refl a)
  have hl : lv_has ls 2 [(0, .ref a)] := hl
  obtain ⟨ts, hZs, hTs⟩ := hwx.1
  obtain ⟨tn, hZn, hTn⟩ := hwx.2
  have J81 : ∀ (f9 : Nat → Int32), (∀ c, c < 256 → f9 c = -1) → ∀ (N81 : Nat) (ls : Array Slot) (H : Heap) (locs : List Loc) (j : Nat) (i1 : Int32), cmp γ (gNames γ a j 1 64 (NI f9 j)) (fun q => a ≤ q) H → va_S (fun q => a ≤ q) s.heap H locs → a + 8 ≤ H.size → (j ≤ 12 ∧ i1 = nI j) → (2147483647 - i1.toInt).toNat = N81 → lv_has ls 2 [(0, .ref a), (1, .int i1)] → W p l e (bs_rm 4 7 608 128) s m args below meth c H locs (0 + 1 + 1 + 1 + 1 + 1 + 1 + 1) (0 + 64 + 64 + 64 + 64 + 64 + 256 + 32) Q (F0 m 81 ls []) := by
    intro f9 hf9 N81
    induction N81 using Nat.strongRecOn with
    | ind N81 ih81 =>
      intro ls H locs j i1 hI hS hz9 ⟨hj1, hj2⟩ hm81 hl
      refine lv_iload_n hx hb dNames_init_81 rfl (lv_at hl 1 rfl) ?_
      refine va_gets hx hb (fb_Z hF0 hA0 hZs) hS hown (hW _ qw_cff65ee3fd) (fun _ h => h) dNames_init_82 ?_
      refine va_tlen hx hb (fb_T hF0 hA0 hTs) hS (v := nI 12) rfl dNames_init_85 ?_
      refine lv_icmp_ge (tgt := 111) hx hb dNames_init_86 (by decide) (fun c5 => ?_) (fun c5 => ?_)
      · have hj3 : j = 12 := nI_ge_of hj1 (by decide) (by rw [← hj2]; assumption)
        subst hj3
        obtain ⟨N12, eN12⟩ : ∃ z, z = NI f9 12 := ⟨_, rfl⟩
        rw [← eN12] at hI
        refine lv_aload_n hx hb dNames_init_111 rfl (lv_at hl 0 rfl) ?_
        obtain ⟨ws_9, ⟨b0_9, b1_9, b2_9, b3_9, b4_9, b5_9, b6_9, rfl, h1_9, h2_9, h3_9, h4_9, h5_9, g9, h6_9, h7_9, h8_9⟩, hP, hD⟩ := hI
        refine va_get (D := γ.1) (ci := 2) (v := .ref b6_9) (C := R_Names) (T := T_Names) (N := 9) (Ts := bs_W0) hx hb hW in_Names hown hC.1 hP 0 rfl rfl 6 (by decide) (hW _ qw_c2f4fc63da) (fun _ h9 => h9) rfl dNames_init_112 ?_
        refine lv_iconst (v := 0) hx hb dNames_init_115 (by decide) ?_
        refine lv_aload_n hx hb dNames_init_116 rfl (lv_at hl 0 rfl) ?_
        refine va_get (D := γ.1) (ci := 2) (v := .int (nI 12)) (C := R_Names) (T := T_Names) (N := 9) (Ts := bs_W0) hx hb hW in_Names hown hC.1 hP 0 rfl rfl 7 (by decide) (hW _ qw_171adcdf9f) (fun _ h9 => h9) rfl dNames_init_117 ?_
        refine st_iast hx hb hC.1 hP hD (fun q h => h) hS 7 0 rfl rfl (show vp_in (nI 0) 32 from vp_in_nI (by decide) (by decide)) dNames_init_120 (fun H locs hP hD hS hz ho => ?_)
        have hz9 : a + 8 ≤ H.size := by omega
        refine hE _ _ _ _ _ _ hS (Nat.le_of_ble_eq_true rfl) (Nat.le_of_ble_eq_true rfl) (fun hG => ?_) dNames_init_121
        have hz1 : H.size ≤ s.heap.size + 7 := hG.2.1
        have hz2 : H.size = a + 8 := by omega
        have eX : Au N12 6 (0 : Int32).toNatClampNeg (nI 12) = NX f9 := by rw [eN12]; unfold NX; rfl
        refine ⟨⟨f9, hf9, ?_⟩, hz2⟩
        rw [← eX]
        exact iv_of ⟨_, ⟨_, _, _, _, _, _, _, rfl, h1_9, h2_9, h3_9, h4_9, h5_9, fun _ => 12, fun k hk => by obtain rfl : k = 0 := (by omega); rfl, fun _ _ _ _ => Nat.le_refl _, fun _ _ => Nat.le_refl _⟩, hP, hD⟩ hz2
      · have hj3 : j < 12 := nI_lt_of hj1 (by decide) (by rw [← hj2]; assumption)
        refine lv_aload_n hx hb dNames_init_89 rfl (lv_at hl 0 rfl) ?_
        refine lv_iload_n hx hb dNames_init_90 rfl (lv_at hl 1 rfl) ?_
        refine va_gets hx hb (fb_Z hF0 hA0 hZs) hS hown (hW _ qw_cff65ee3fd) (fun _ h => h) dNames_init_91 ?_
        refine lv_iload_n hx hb dNames_init_94 rfl (lv_at hl 1 rfl) ?_
        obtain ⟨v6, ev6, hv6⟩ : ∃ v, v = FS j ∧ (fun j => Value.int (FS j)) i1.toNatClampNeg = Value.int v := ⟨_, rfl, by show Value.int (FS i1.toNatClampNeg) = _; rw [hj2, nI_clamp (by omega)]⟩
        refine va_ti hx hb (fb_T hF0 hA0 hTs) hS (by rw [hj2]; exact vp_in_nI hj3 (by omega)) hv6 dNames_init_95 ?_
        refine va_gets hx hb (fb_Z hF0 hA0 hZn) hS hown (hW _ qw_03253ebdf0) (fun _ h => h) dNames_init_96 ?_
        refine lv_iload_n hx hb dNames_init_99 rfl (lv_at hl 1 rfl) ?_
        obtain ⟨v7, ev7, hv7⟩ : ∃ v, v = FN j ∧ (fun j => Value.int (FN j)) i1.toNatClampNeg = Value.int v := ⟨_, rfl, by show Value.int (FN i1.toNatClampNeg) = _; rw [hj2, nI_clamp (by omega)]⟩
        refine va_ti hx hb (fb_T hF0 hA0 hTn) hS (by rw [hj2]; exact vp_in_nI hj3 (by omega)) hv7 dNames_init_100 ?_
        refine lv_iconst (v := 0) hx hb dNames_init_101 (by decide) ?_
        obtain ⟨ws_9, ⟨b0_9, b1_9, b2_9, b3_9, b4_9, b5_9, b6_9, rfl, -⟩, hP, hD⟩ := id hI
        refine mu_Vv (rest := []) S hC (fun q h => hA q (Nat.le_trans hS.1 h)) (fun q h => h) hS (fc_Names_put l γ (fun q => a ≤ q) a j 1 64 (NI f9 j) i1 v6 v7 0 (by omega)) meNames_put qw_0692c45ea4 ⟨(Nat.le_of_ble_eq_true rfl), (Nat.le_of_ble_eq_true rfl)⟩ (va_recv hC.1 hP (ci := 2) (q0 := 0) rfl rfl) hI rfl hl.1 rfl (Nat.le_of_ble_eq_true rfl) dNames_init_102 ⟨by rw [wc_0 (show j + 1 ≤ 64 by omega)]; exact (Nat.le_of_ble_eq_true rfl), by rw [wm_0 (show j + 1 ≤ 64 by omega)]; exact (Nat.le_of_ble_eq_true rfl)⟩ (fun H locs hI hS hz9 _ => ?_)
        rw [wl_0 (show j + 1 ≤ 64 by omega), hj2, ev6, ev7, ← ni_s] at hI
        refine W.cs (cells' := 0 + 1 + 1 + 1 + 1 + 1 + 1 + 1) (slots' := 0 + 64 + 64 + 64 + 64 + 64 + 256 + 32) (by rw [wc_0 (show j + 1 ≤ 64 by omega)]) (by rw [wm_0 (show j + 1 ≤ 64 by omega)]) ?_
        obtain ⟨v8, ev8⟩ : ∃ y : Int32, y = i1 + 1 := ⟨_, rfl⟩
        refine lv_iinc (v := v8) (lv' := [(1, .int v8), (0, .ref a)]) hx hb dNames_init_105 hl (k := 1) rfl (by rw [ev8]; rfl) (by decide) rfl (fun ls hl => ?_)
        refine lv_goto (tgt := 81) hx hb dNames_init_108 (by decide) ?_
        exact ih81 _ (by have q1 : i1.toInt < 2147483647 := (by first | exact (mu_up (k := i1) (by assumption)).2 | assumption); have q2 := mu_lt q1; rw [← ev8] at q2; omega) ls _ _ (j + 1) v8 hI hS (by omega) ⟨hj3, by rw [ev8, hj2]; exact nI_add j 1⟩ rfl (lv_sub hl [1, 0] rfl)
  refine lv_aload_n hx hb dNames_init_0 rfl (lv_at hl 0 rfl) ?_
  refine W.objInit hx hb hown (hW _ qw_60df5b0a2e) (hW _ qw_aaa073e22d) (hW _ qc_obj) rfl (hl.1.trans hml.symm) rfl dNames_init_1 (Nat.le_of_ble_eq_true rfl) (Nat.le_of_ble_eq_true rfl) ?_
  refine lv_aload_n hx hb dNames_init_4 rfl (lv_at hl 0 rfl) ?_
  refine lv_bipush (v := 64) hx hb dNames_init_5 (by decide) ?_
  refine cw_newa S hC qw_8e969fb20a hP hD hS hA hz 64 rfl (by omega) (Nat.le_of_ble_eq_true rfl) (Nat.le_of_ble_eq_true rfl) dNames_init_7 (fun H hP hD hS hz hk9 => ?_)
  have hz : H.size = a + 2 := hz
  have hP : va_P γ.1 vwCl [(a, .inr (2, [.null, .null, .null, .null, .null, .null, .null, .int 0, .int 0])), (a + 1, .inl (γ.2.1, 64, .inl (fun _ => 0)))] _ := hP
  have hD : va_D _ [(a, .inr (2, [.null, .null, .null, .null, .null, .null, .null, .int 0, .int 0])), (a + 1, .inl (γ.2.1, 64, .inl (fun _ => 0)))] := hD
  refine st_put (D := γ.1) (ci := 2) (v := .ref (a + 1)) (ty := .array .int) (C := R_Names) (T := T_Names) (N := 9) (Ts := bs_W0) hx hb hW in_Names t_Names t_Names_ok n_Names hown hC.1 hP hD (fun q h => h) hS 0 rfl rfl 0 (by decide) (hW _ qw_a8d4a716ae) (fun _ h9 => h9) rfl (by decide +kernel) rfl rfl (Nat.le_of_ble_eq_true rfl) dNames_init_9 (fun H locs hP hD hS hz9 ho9 => ?_)
  have hz : H.size = a + 2 := hz9.trans hz
  have hP : va_P γ.1 vwCl [(a, .inr (2, [.ref (a + 1), .null, .null, .null, .null, .null, .null, .int 0, .int 0])), (a + 1, .inl (γ.2.1, 64, .inl (fun _ => 0)))] _ := hP
  have hD : va_D _ [(a, .inr (2, [.ref (a + 1), .null, .null, .null, .null, .null, .null, .int 0, .int 0])), (a + 1, .inl (γ.2.1, 64, .inl (fun _ => 0)))] := hD
  refine lv_aload_n hx hb dNames_init_12 rfl (lv_at hl 0 rfl) ?_
  refine lv_bipush (v := 64) hx hb dNames_init_13 (by decide) ?_
  refine cw_newa S hC qw_8e969fb20a hP hD hS hA hz 64 rfl (by omega) (Nat.le_of_ble_eq_true rfl) (Nat.le_of_ble_eq_true rfl) dNames_init_15 (fun H hP hD hS hz hk9 => ?_)
  have hz : H.size = a + 3 := hz
  have hP : va_P γ.1 vwCl [(a, .inr (2, [.ref (a + 1), .null, .null, .null, .null, .null, .null, .int 0, .int 0])), (a + 1, .inl (γ.2.1, 64, .inl (fun _ => 0))), (a + 2, .inl (γ.2.1, 64, .inl (fun _ => 0)))] _ := hP
  have hD : va_D _ [(a, .inr (2, [.ref (a + 1), .null, .null, .null, .null, .null, .null, .int 0, .int 0])), (a + 1, .inl (γ.2.1, 64, .inl (fun _ => 0))), (a + 2, .inl (γ.2.1, 64, .inl (fun _ => 0)))] := hD
  refine st_put (D := γ.1) (ci := 2) (v := .ref (a + 2)) (ty := .array .int) (C := R_Names) (T := T_Names) (N := 9) (Ts := bs_W0) hx hb hW in_Names t_Names t_Names_ok n_Names hown hC.1 hP hD (fun q h => h) hS 0 rfl rfl 1 (by decide) (hW _ qw_5903ecb25d) (fun _ h9 => h9) rfl (by decide +kernel) rfl rfl (Nat.le_of_ble_eq_true rfl) dNames_init_17 (fun H locs hP hD hS hz9 ho9 => ?_)
  have hz : H.size = a + 3 := hz9.trans hz
  have hP : va_P γ.1 vwCl [(a, .inr (2, [.ref (a + 1), .ref (a + 2), .null, .null, .null, .null, .null, .int 0, .int 0])), (a + 1, .inl (γ.2.1, 64, .inl (fun _ => 0))), (a + 2, .inl (γ.2.1, 64, .inl (fun _ => 0)))] _ := hP
  have hD : va_D _ [(a, .inr (2, [.ref (a + 1), .ref (a + 2), .null, .null, .null, .null, .null, .int 0, .int 0])), (a + 1, .inl (γ.2.1, 64, .inl (fun _ => 0))), (a + 2, .inl (γ.2.1, 64, .inl (fun _ => 0)))] := hD
  refine lv_aload_n hx hb dNames_init_20 rfl (lv_at hl 0 rfl) ?_
  refine lv_bipush (v := 64) hx hb dNames_init_21 (by decide) ?_
  refine cw_newa S hC qw_8e969fb20a hP hD hS hA hz 64 rfl (by omega) (Nat.le_of_ble_eq_true rfl) (Nat.le_of_ble_eq_true rfl) dNames_init_23 (fun H hP hD hS hz hk9 => ?_)
  have hz : H.size = a + 4 := hz
  have hP : va_P γ.1 vwCl [(a, .inr (2, [.ref (a + 1), .ref (a + 2), .null, .null, .null, .null, .null, .int 0, .int 0])), (a + 1, .inl (γ.2.1, 64, .inl (fun _ => 0))), (a + 2, .inl (γ.2.1, 64, .inl (fun _ => 0))), (a + 3, .inl (γ.2.1, 64, .inl (fun _ => 0)))] _ := hP
  have hD : va_D _ [(a, .inr (2, [.ref (a + 1), .ref (a + 2), .null, .null, .null, .null, .null, .int 0, .int 0])), (a + 1, .inl (γ.2.1, 64, .inl (fun _ => 0))), (a + 2, .inl (γ.2.1, 64, .inl (fun _ => 0))), (a + 3, .inl (γ.2.1, 64, .inl (fun _ => 0)))] := hD
  refine st_put (D := γ.1) (ci := 2) (v := .ref (a + 3)) (ty := .array .int) (C := R_Names) (T := T_Names) (N := 9) (Ts := bs_W0) hx hb hW in_Names t_Names t_Names_ok n_Names hown hC.1 hP hD (fun q h => h) hS 0 rfl rfl 2 (by decide) (hW _ qw_ee1ba38ad0) (fun _ h9 => h9) rfl (by decide +kernel) rfl rfl (Nat.le_of_ble_eq_true rfl) dNames_init_25 (fun H locs hP hD hS hz9 ho9 => ?_)
  have hz : H.size = a + 4 := hz9.trans hz
  have hP : va_P γ.1 vwCl [(a, .inr (2, [.ref (a + 1), .ref (a + 2), .ref (a + 3), .null, .null, .null, .null, .int 0, .int 0])), (a + 1, .inl (γ.2.1, 64, .inl (fun _ => 0))), (a + 2, .inl (γ.2.1, 64, .inl (fun _ => 0))), (a + 3, .inl (γ.2.1, 64, .inl (fun _ => 0)))] _ := hP
  have hD : va_D _ [(a, .inr (2, [.ref (a + 1), .ref (a + 2), .ref (a + 3), .null, .null, .null, .null, .int 0, .int 0])), (a + 1, .inl (γ.2.1, 64, .inl (fun _ => 0))), (a + 2, .inl (γ.2.1, 64, .inl (fun _ => 0))), (a + 3, .inl (γ.2.1, 64, .inl (fun _ => 0)))] := hD
  refine lv_aload_n hx hb dNames_init_28 rfl (lv_at hl 0 rfl) ?_
  refine lv_bipush (v := 64) hx hb dNames_init_29 (by decide) ?_
  refine cw_newa S hC qw_8e969fb20a hP hD hS hA hz 64 rfl (by omega) (Nat.le_of_ble_eq_true rfl) (Nat.le_of_ble_eq_true rfl) dNames_init_31 (fun H hP hD hS hz hk9 => ?_)
  have hz : H.size = a + 5 := hz
  have hP : va_P γ.1 vwCl [(a, .inr (2, [.ref (a + 1), .ref (a + 2), .ref (a + 3), .null, .null, .null, .null, .int 0, .int 0])), (a + 1, .inl (γ.2.1, 64, .inl (fun _ => 0))), (a + 2, .inl (γ.2.1, 64, .inl (fun _ => 0))), (a + 3, .inl (γ.2.1, 64, .inl (fun _ => 0))), (a + 4, .inl (γ.2.1, 64, .inl (fun _ => 0)))] _ := hP
  have hD : va_D _ [(a, .inr (2, [.ref (a + 1), .ref (a + 2), .ref (a + 3), .null, .null, .null, .null, .int 0, .int 0])), (a + 1, .inl (γ.2.1, 64, .inl (fun _ => 0))), (a + 2, .inl (γ.2.1, 64, .inl (fun _ => 0))), (a + 3, .inl (γ.2.1, 64, .inl (fun _ => 0))), (a + 4, .inl (γ.2.1, 64, .inl (fun _ => 0)))] := hD
  refine st_put (D := γ.1) (ci := 2) (v := .ref (a + 4)) (ty := .array .int) (C := R_Names) (T := T_Names) (N := 9) (Ts := bs_W0) hx hb hW in_Names t_Names t_Names_ok n_Names hown hC.1 hP hD (fun q h => h) hS 0 rfl rfl 3 (by decide) (hW _ qw_1a22e5f505) (fun _ h9 => h9) rfl (by decide +kernel) rfl rfl (Nat.le_of_ble_eq_true rfl) dNames_init_33 (fun H locs hP hD hS hz9 ho9 => ?_)
  have hz : H.size = a + 5 := hz9.trans hz
  have hP : va_P γ.1 vwCl [(a, .inr (2, [.ref (a + 1), .ref (a + 2), .ref (a + 3), .ref (a + 4), .null, .null, .null, .int 0, .int 0])), (a + 1, .inl (γ.2.1, 64, .inl (fun _ => 0))), (a + 2, .inl (γ.2.1, 64, .inl (fun _ => 0))), (a + 3, .inl (γ.2.1, 64, .inl (fun _ => 0))), (a + 4, .inl (γ.2.1, 64, .inl (fun _ => 0)))] _ := hP
  have hD : va_D _ [(a, .inr (2, [.ref (a + 1), .ref (a + 2), .ref (a + 3), .ref (a + 4), .null, .null, .null, .int 0, .int 0])), (a + 1, .inl (γ.2.1, 64, .inl (fun _ => 0))), (a + 2, .inl (γ.2.1, 64, .inl (fun _ => 0))), (a + 3, .inl (γ.2.1, 64, .inl (fun _ => 0))), (a + 4, .inl (γ.2.1, 64, .inl (fun _ => 0)))] := hD
  refine lv_aload_n hx hb dNames_init_36 rfl (lv_at hl 0 rfl) ?_
  refine lv_bipush (v := 64) hx hb dNames_init_37 (by decide) ?_
  refine cw_newa S hC qw_8e969fb20a hP hD hS hA hz 64 rfl (by omega) (Nat.le_of_ble_eq_true rfl) (Nat.le_of_ble_eq_true rfl) dNames_init_39 (fun H hP hD hS hz hk9 => ?_)
  have hz : H.size = a + 6 := hz
  have hP : va_P γ.1 vwCl [(a, .inr (2, [.ref (a + 1), .ref (a + 2), .ref (a + 3), .ref (a + 4), .null, .null, .null, .int 0, .int 0])), (a + 1, .inl (γ.2.1, 64, .inl (fun _ => 0))), (a + 2, .inl (γ.2.1, 64, .inl (fun _ => 0))), (a + 3, .inl (γ.2.1, 64, .inl (fun _ => 0))), (a + 4, .inl (γ.2.1, 64, .inl (fun _ => 0))), (a + 5, .inl (γ.2.1, 64, .inl (fun _ => 0)))] _ := hP
  have hD : va_D _ [(a, .inr (2, [.ref (a + 1), .ref (a + 2), .ref (a + 3), .ref (a + 4), .null, .null, .null, .int 0, .int 0])), (a + 1, .inl (γ.2.1, 64, .inl (fun _ => 0))), (a + 2, .inl (γ.2.1, 64, .inl (fun _ => 0))), (a + 3, .inl (γ.2.1, 64, .inl (fun _ => 0))), (a + 4, .inl (γ.2.1, 64, .inl (fun _ => 0))), (a + 5, .inl (γ.2.1, 64, .inl (fun _ => 0)))] := hD
  refine st_put (D := γ.1) (ci := 2) (v := .ref (a + 5)) (ty := .array .int) (C := R_Names) (T := T_Names) (N := 9) (Ts := bs_W0) hx hb hW in_Names t_Names t_Names_ok n_Names hown hC.1 hP hD (fun q h => h) hS 0 rfl rfl 4 (by decide) (hW _ qw_ddfb92ec41) (fun _ h9 => h9) rfl (by decide +kernel) rfl rfl (Nat.le_of_ble_eq_true rfl) dNames_init_41 (fun H locs hP hD hS hz9 ho9 => ?_)
  have hz : H.size = a + 6 := hz9.trans hz
  have hP : va_P γ.1 vwCl [(a, .inr (2, [.ref (a + 1), .ref (a + 2), .ref (a + 3), .ref (a + 4), .ref (a + 5), .null, .null, .int 0, .int 0])), (a + 1, .inl (γ.2.1, 64, .inl (fun _ => 0))), (a + 2, .inl (γ.2.1, 64, .inl (fun _ => 0))), (a + 3, .inl (γ.2.1, 64, .inl (fun _ => 0))), (a + 4, .inl (γ.2.1, 64, .inl (fun _ => 0))), (a + 5, .inl (γ.2.1, 64, .inl (fun _ => 0)))] _ := hP
  have hD : va_D _ [(a, .inr (2, [.ref (a + 1), .ref (a + 2), .ref (a + 3), .ref (a + 4), .ref (a + 5), .null, .null, .int 0, .int 0])), (a + 1, .inl (γ.2.1, 64, .inl (fun _ => 0))), (a + 2, .inl (γ.2.1, 64, .inl (fun _ => 0))), (a + 3, .inl (γ.2.1, 64, .inl (fun _ => 0))), (a + 4, .inl (γ.2.1, 64, .inl (fun _ => 0))), (a + 5, .inl (γ.2.1, 64, .inl (fun _ => 0)))] := hD
  refine lv_aload_n hx hb dNames_init_44 rfl (lv_at hl 0 rfl) ?_
  refine lv_sipush (v := 256) hx hb dNames_init_45 (by decide) ?_
  refine cw_newa S hC qw_8e969fb20a hP hD hS hA hz 256 rfl (by omega) (Nat.le_of_ble_eq_true rfl) (Nat.le_of_ble_eq_true rfl) dNames_init_48 (fun H hP hD hS hz hk9 => ?_)
  have hz : H.size = a + 7 := hz
  have hP : va_P γ.1 vwCl [(a, .inr (2, [.ref (a + 1), .ref (a + 2), .ref (a + 3), .ref (a + 4), .ref (a + 5), .null, .null, .int 0, .int 0])), (a + 1, .inl (γ.2.1, 64, .inl (fun _ => 0))), (a + 2, .inl (γ.2.1, 64, .inl (fun _ => 0))), (a + 3, .inl (γ.2.1, 64, .inl (fun _ => 0))), (a + 4, .inl (γ.2.1, 64, .inl (fun _ => 0))), (a + 5, .inl (γ.2.1, 64, .inl (fun _ => 0))), (a + 6, .inl (γ.2.1, 256, .inl (fun _ => 0)))] _ := hP
  have hD : va_D _ [(a, .inr (2, [.ref (a + 1), .ref (a + 2), .ref (a + 3), .ref (a + 4), .ref (a + 5), .null, .null, .int 0, .int 0])), (a + 1, .inl (γ.2.1, 64, .inl (fun _ => 0))), (a + 2, .inl (γ.2.1, 64, .inl (fun _ => 0))), (a + 3, .inl (γ.2.1, 64, .inl (fun _ => 0))), (a + 4, .inl (γ.2.1, 64, .inl (fun _ => 0))), (a + 5, .inl (γ.2.1, 64, .inl (fun _ => 0))), (a + 6, .inl (γ.2.1, 256, .inl (fun _ => 0)))] := hD
  refine st_putF (D := γ.1) (ci := 2) (v := .ref (a + 6)) (ty := .array .int) (C := R_Names) (T := T_Names) (N := 9) (Ts := bs_W0) hx hb hW in_Names t_Names t_Names_ok n_Names hown hC.1 hP hD (fun q h => h) hS 0 rfl rfl 5 (by decide) (hW _ qw_ae9666db7d) (fun _ h9 => h9) rfl hnm rfl (by decide +kernel) rfl rfl (Nat.le_of_ble_eq_true rfl) dNames_init_50 (fun H locs hP hD hS hz9 ho9 => ?_)
  have hz : H.size = a + 7 := hz9.trans hz
  have hP : va_P γ.1 vwCl [(a, .inr (2, [.ref (a + 1), .ref (a + 2), .ref (a + 3), .ref (a + 4), .ref (a + 5), .ref (a + 6), .null, .int 0, .int 0])), (a + 1, .inl (γ.2.1, 64, .inl (fun _ => 0))), (a + 2, .inl (γ.2.1, 64, .inl (fun _ => 0))), (a + 3, .inl (γ.2.1, 64, .inl (fun _ => 0))), (a + 4, .inl (γ.2.1, 64, .inl (fun _ => 0))), (a + 5, .inl (γ.2.1, 64, .inl (fun _ => 0))), (a + 6, .inl (γ.2.1, 256, .inl (fun _ => 0)))] _ := hP
  have hD : va_D _ [(a, .inr (2, [.ref (a + 1), .ref (a + 2), .ref (a + 3), .ref (a + 4), .ref (a + 5), .ref (a + 6), .null, .int 0, .int 0])), (a + 1, .inl (γ.2.1, 64, .inl (fun _ => 0))), (a + 2, .inl (γ.2.1, 64, .inl (fun _ => 0))), (a + 3, .inl (γ.2.1, 64, .inl (fun _ => 0))), (a + 4, .inl (γ.2.1, 64, .inl (fun _ => 0))), (a + 5, .inl (γ.2.1, 64, .inl (fun _ => 0))), (a + 6, .inl (γ.2.1, 256, .inl (fun _ => 0)))] := hD
  refine lv_aload_n hx hb dNames_init_53 rfl (lv_at hl 0 rfl) ?_
  refine lv_bipush (v := 32) hx hb dNames_init_54 (by decide) ?_
  refine cw_newa S hC qw_8e969fb20a hP hD hS hA hz 32 rfl (by omega) (Nat.le_of_ble_eq_true rfl) (Nat.le_of_ble_eq_true rfl) dNames_init_56 (fun H hP hD hS hz hk9 => ?_)
  have hz : H.size = a + 8 := hz
  have hP : va_P γ.1 vwCl [(a, .inr (2, [.ref (a + 1), .ref (a + 2), .ref (a + 3), .ref (a + 4), .ref (a + 5), .ref (a + 6), .null, .int 0, .int 0])), (a + 1, .inl (γ.2.1, 64, .inl (fun _ => 0))), (a + 2, .inl (γ.2.1, 64, .inl (fun _ => 0))), (a + 3, .inl (γ.2.1, 64, .inl (fun _ => 0))), (a + 4, .inl (γ.2.1, 64, .inl (fun _ => 0))), (a + 5, .inl (γ.2.1, 64, .inl (fun _ => 0))), (a + 6, .inl (γ.2.1, 256, .inl (fun _ => 0))), (a + 7, .inl (γ.2.1, 32, .inl (fun _ => 0)))] _ := hP
  have hD : va_D _ [(a, .inr (2, [.ref (a + 1), .ref (a + 2), .ref (a + 3), .ref (a + 4), .ref (a + 5), .ref (a + 6), .null, .int 0, .int 0])), (a + 1, .inl (γ.2.1, 64, .inl (fun _ => 0))), (a + 2, .inl (γ.2.1, 64, .inl (fun _ => 0))), (a + 3, .inl (γ.2.1, 64, .inl (fun _ => 0))), (a + 4, .inl (γ.2.1, 64, .inl (fun _ => 0))), (a + 5, .inl (γ.2.1, 64, .inl (fun _ => 0))), (a + 6, .inl (γ.2.1, 256, .inl (fun _ => 0))), (a + 7, .inl (γ.2.1, 32, .inl (fun _ => 0)))] := hD
  refine st_putF (D := γ.1) (ci := 2) (v := .ref (a + 7)) (ty := .array .int) (C := R_Names) (T := T_Names) (N := 9) (Ts := bs_W0) hx hb hW in_Names t_Names t_Names_ok n_Names hown hC.1 hP hD (fun q h => h) hS 0 rfl rfl 6 (by decide) (hW _ qw_c2f4fc63da) (fun _ h9 => h9) rfl hnm rfl (by decide +kernel) rfl rfl (Nat.le_of_ble_eq_true rfl) dNames_init_58 (fun H locs hP hD hS hz9 ho9 => ?_)
  have hz : H.size = a + 8 := hz9.trans hz
  have hP : va_P γ.1 vwCl [(a, .inr (2, [.ref (a + 1), .ref (a + 2), .ref (a + 3), .ref (a + 4), .ref (a + 5), .ref (a + 6), .ref (a + 7), .int 0, .int 0])), (a + 1, .inl (γ.2.1, 64, .inl (fun _ => 0))), (a + 2, .inl (γ.2.1, 64, .inl (fun _ => 0))), (a + 3, .inl (γ.2.1, 64, .inl (fun _ => 0))), (a + 4, .inl (γ.2.1, 64, .inl (fun _ => 0))), (a + 5, .inl (γ.2.1, 64, .inl (fun _ => 0))), (a + 6, .inl (γ.2.1, 256, .inl (fun _ => 0))), (a + 7, .inl (γ.2.1, 32, .inl (fun _ => 0)))] _ := hP
  have hD : va_D _ [(a, .inr (2, [.ref (a + 1), .ref (a + 2), .ref (a + 3), .ref (a + 4), .ref (a + 5), .ref (a + 6), .ref (a + 7), .int 0, .int 0])), (a + 1, .inl (γ.2.1, 64, .inl (fun _ => 0))), (a + 2, .inl (γ.2.1, 64, .inl (fun _ => 0))), (a + 3, .inl (γ.2.1, 64, .inl (fun _ => 0))), (a + 4, .inl (γ.2.1, 64, .inl (fun _ => 0))), (a + 5, .inl (γ.2.1, 64, .inl (fun _ => 0))), (a + 6, .inl (γ.2.1, 256, .inl (fun _ => 0))), (a + 7, .inl (γ.2.1, 32, .inl (fun _ => 0)))] := hD
  refine lv_aload_n hx hb dNames_init_61 rfl (lv_at hl 0 rfl) ?_
  refine lv_iconst (v := 0) hx hb dNames_init_62 (by decide) ?_
  refine st_put (D := γ.1) (ci := 2) (v := .int 0) (ty := .int) (C := R_Names) (T := T_Names) (N := 9) (Ts := bs_W0) hx hb hW in_Names t_Names t_Names_ok n_Names hown hC.1 hP hD (fun q h => h) hS 0 rfl rfl 7 (by decide) (hW _ qw_171adcdf9f) (fun _ h9 => h9) rfl (by decide +kernel) rfl rfl (Nat.le_of_ble_eq_true rfl) dNames_init_63 (fun H locs hP hD hS hz9 ho9 => ?_)
  have hz : H.size = a + 8 := hz9.trans hz
  have hP : va_P γ.1 vwCl [(a, .inr (2, [.ref (a + 1), .ref (a + 2), .ref (a + 3), .ref (a + 4), .ref (a + 5), .ref (a + 6), .ref (a + 7), .int 0, .int 0])), (a + 1, .inl (γ.2.1, 64, .inl (fun _ => 0))), (a + 2, .inl (γ.2.1, 64, .inl (fun _ => 0))), (a + 3, .inl (γ.2.1, 64, .inl (fun _ => 0))), (a + 4, .inl (γ.2.1, 64, .inl (fun _ => 0))), (a + 5, .inl (γ.2.1, 64, .inl (fun _ => 0))), (a + 6, .inl (γ.2.1, 256, .inl (fun _ => 0))), (a + 7, .inl (γ.2.1, 32, .inl (fun _ => 0)))] _ := hP
  have hD : va_D _ [(a, .inr (2, [.ref (a + 1), .ref (a + 2), .ref (a + 3), .ref (a + 4), .ref (a + 5), .ref (a + 6), .ref (a + 7), .int 0, .int 0])), (a + 1, .inl (γ.2.1, 64, .inl (fun _ => 0))), (a + 2, .inl (γ.2.1, 64, .inl (fun _ => 0))), (a + 3, .inl (γ.2.1, 64, .inl (fun _ => 0))), (a + 4, .inl (γ.2.1, 64, .inl (fun _ => 0))), (a + 5, .inl (γ.2.1, 64, .inl (fun _ => 0))), (a + 6, .inl (γ.2.1, 256, .inl (fun _ => 0))), (a + 7, .inl (γ.2.1, 32, .inl (fun _ => 0)))] := hD
  refine lv_aload_n hx hb dNames_init_66 rfl (lv_at hl 0 rfl) ?_
  refine lv_iconst (v := 1) hx hb dNames_init_67 (by decide) ?_
  refine st_put (D := γ.1) (ci := 2) (v := .int 1) (ty := .int) (C := R_Names) (T := T_Names) (N := 9) (Ts := bs_W0) hx hb hW in_Names t_Names t_Names_ok n_Names hown hC.1 hP hD (fun q h => h) hS 0 rfl rfl 8 (by decide) (hW _ qw_40882965f2) (fun _ h9 => h9) rfl (by decide +kernel) rfl rfl (Nat.le_of_ble_eq_true rfl) dNames_init_68 (fun H locs hP hD hS hz9 ho9 => ?_)
  have hz : H.size = a + 8 := hz9.trans hz
  have hP : va_P γ.1 vwCl [(a, .inr (2, [.ref (a + 1), .ref (a + 2), .ref (a + 3), .ref (a + 4), .ref (a + 5), .ref (a + 6), .ref (a + 7), .int 0, .int 1])), (a + 1, .inl (γ.2.1, 64, .inl (fun _ => 0))), (a + 2, .inl (γ.2.1, 64, .inl (fun _ => 0))), (a + 3, .inl (γ.2.1, 64, .inl (fun _ => 0))), (a + 4, .inl (γ.2.1, 64, .inl (fun _ => 0))), (a + 5, .inl (γ.2.1, 64, .inl (fun _ => 0))), (a + 6, .inl (γ.2.1, 256, .inl (fun _ => 0))), (a + 7, .inl (γ.2.1, 32, .inl (fun _ => 0)))] _ := hP
  have hD : va_D _ [(a, .inr (2, [.ref (a + 1), .ref (a + 2), .ref (a + 3), .ref (a + 4), .ref (a + 5), .ref (a + 6), .ref (a + 7), .int 0, .int 1])), (a + 1, .inl (γ.2.1, 64, .inl (fun _ => 0))), (a + 2, .inl (γ.2.1, 64, .inl (fun _ => 0))), (a + 3, .inl (γ.2.1, 64, .inl (fun _ => 0))), (a + 4, .inl (γ.2.1, 64, .inl (fun _ => 0))), (a + 5, .inl (γ.2.1, 64, .inl (fun _ => 0))), (a + 6, .inl (γ.2.1, 256, .inl (fun _ => 0))), (a + 7, .inl (γ.2.1, 32, .inl (fun _ => 0)))] := hD
  refine lv_aload_n hx hb dNames_init_71 rfl (lv_at hl 0 rfl) ?_
  refine va_get (D := γ.1) (ci := 2) (v := .ref (a + 6)) (C := R_Names) (T := T_Names) (N := 9) (Ts := bs_W0) hx hb hW in_Names hown hC.1 hP 0 rfl rfl 5 (by decide) (hW _ qw_ae9666db7d) (fun _ h9 => h9) rfl dNames_init_72 ?_
  refine lv_iconst (v := (-1)) hx hb dNames_init_75 (by decide) ?_
  refine mu_Sv (rest := []) S hC (A := fun q => q = a + 6 ∨ a + 8 ≤ q) (fun q h => Or.inr (by omega)) (fun q h => by omega) hS (fx_fill l γ _ (a + 6) 256 (-1) (Nat.le_of_ble_eq_true rfl)) mejArrays_fill qw_afaed44251 ⟨(Nat.le_of_ble_eq_true rfl), (Nat.le_of_ble_eq_true rfl)⟩ ⟨_, ⟨_, rfl⟩, one_P (hP 6 _ rfl), one_D (Or.inl rfl)⟩ rfl hl.1 rfl (Nat.le_of_ble_eq_true rfl) dNames_init_76 ⟨(Nat.le_of_ble_eq_true rfl), (Nat.le_of_ble_eq_true rfl)⟩ (fun H1 locs hF9 hS hz9 hk9 => ?_)
  obtain ⟨_, ⟨f9, rfl, hf9⟩, hF9, -⟩ := hF9
  have hP := wr_set hP hD (i := 6) rfl (fun q h1 h2 => hk9 q h1 (by omega)) (hF9 0 _ rfl)
  have hD := wr_D (e1 := .inl (γ.2.1, 256, .inl f9)) hD (i := 6) rfl
  have hz9 : a + 8 ≤ H1.size := by omega
  refine W.cs (cells' := 0 + 1 + 1 + 1 + 1 + 1 + 1 + 1) (slots' := 0 + 64 + 64 + 64 + 64 + 64 + 256 + 32) rfl rfl ?_
  have hP : va_P γ.1 vwCl [(a, .inr (2, [.ref (a + 1), .ref (a + 2), .ref (a + 3), .ref (a + 4), .ref (a + 5), .ref (a + 6), .ref (a + 7), .int 0, .int 1])), (a + 1, .inl (γ.2.1, 64, .inl (fun _ => 0))), (a + 2, .inl (γ.2.1, 64, .inl (fun _ => 0))), (a + 3, .inl (γ.2.1, 64, .inl (fun _ => 0))), (a + 4, .inl (γ.2.1, 64, .inl (fun _ => 0))), (a + 5, .inl (γ.2.1, 64, .inl (fun _ => 0))), (a + 6, .inl (γ.2.1, 256, .inl f9)), (a + 7, .inl (γ.2.1, 32, .inl (fun _ => 0)))] _ := hP
  have hD : va_D _ [(a, .inr (2, [.ref (a + 1), .ref (a + 2), .ref (a + 3), .ref (a + 4), .ref (a + 5), .ref (a + 6), .ref (a + 7), .int 0, .int 1])), (a + 1, .inl (γ.2.1, 64, .inl (fun _ => 0))), (a + 2, .inl (γ.2.1, 64, .inl (fun _ => 0))), (a + 3, .inl (γ.2.1, 64, .inl (fun _ => 0))), (a + 4, .inl (γ.2.1, 64, .inl (fun _ => 0))), (a + 5, .inl (γ.2.1, 64, .inl (fun _ => 0))), (a + 6, .inl (γ.2.1, 256, .inl f9)), (a + 7, .inl (γ.2.1, 32, .inl (fun _ => 0)))] := hD
  have hI : cmp γ (gNames γ a 0 1 64 (NI f9 0)) (fun q => a ≤ q) H1 := ⟨_, ⟨a + 1, a + 2, a + 3, a + 4, a + 5, a + 6, a + 7, rfl, (Nat.le_of_ble_eq_true rfl), (Nat.le_of_ble_eq_true rfl), (Nat.le_of_ble_eq_true rfl), (Nat.le_of_ble_eq_true rfl), (Nat.le_of_ble_eq_true rfl), fun _ => 0, fun _ _ => rfl, fun _ _ _ _ => Nat.le_refl _, fun _ _ => Nat.le_refl _⟩, hP, hD⟩
  refine lv_iconst (v := 0) hx hb dNames_init_79 (by decide) ?_
  refine lv_istore_n (lv' := [(1, .int 0), (0, .ref a)]) hx hb dNames_init_80 rfl hl (by decide) rfl (fun ls hl => ?_)
  exact J81 f9 hf9 _ ls _ _ 0 0 hI hS hz9 ⟨(Nat.le_of_ble_eq_true rfl), rfl⟩ rfl (lv_sub hl [1, 0] rfl)
theorem g_Trees {γ : gE} {a N r L : Nat} {Z : Nat → Prop} {H : Heap} (h : cmp γ (fTrees γ a N r L) Z H) : ∃ f : gf, cmp γ (gTrees γ a N r L f) Z H := by
  obtain ⟨ws, ⟨b0, b1, b2, b3, f0, f1, f2, f3, e, h⟩, hP, hD⟩ := h
  exact ⟨fun q => match q with | 0 => f0 | 1 => f1 | 2 => f2 | _ => f3, ws, ⟨b0, b1, b2, b3, e, h⟩, hP, hD⟩
theorem g_Objects {γ : gE} {a r N L : Nat} {Z : Nat → Prop} {H : Heap} (h : cmp γ (fObjects γ a r N L) Z H) : ∃ f : gf, cmp γ (gObjects γ a r N L f) Z H := by
  obtain ⟨ws, ⟨b0, b1, b2, f0, f1, f2, e, h⟩, hP, hD⟩ := h
  exact ⟨fun q => match q with | 0 => f0 | 1 => f1 | _ => f2, ws, ⟨b0, b1, b2, e, h⟩, hP, hD⟩
theorem g_Looks {γ : gE} {a r L : Nat} {Z : Nat → Prop} {H : Heap} (h : cmp γ (fLooks γ a r L) Z H) : ∃ f : gf, cmp γ (gLooks γ a r L f) Z H := by
  obtain ⟨ws, ⟨b0, b1, b2, b3, b4, f0, f1, f2, f3, f4, e, h⟩, hP, hD⟩ := h
  exact ⟨fun q => match q with | 0 => f0 | 1 => f1 | 2 => f2 | 3 => f3 | _ => f4, ws, ⟨b0, b1, b2, b3, b4, e, h⟩, hP, hD⟩
theorem g_Rows {γ : gE} {a M : Nat} {Z : Nat → Prop} {H : Heap} (h : cmp γ (fRows γ a M) Z H) : ∃ g : gg, cmp γ (gRows γ a M g) Z H := by
  obtain ⟨ws, ⟨b0, g, e, h⟩, hP, hD⟩ := h
  exact ⟨g, ws, ⟨b0, e, h⟩, hP, hD⟩
theorem g_Skel {γ : gE} {o : Nat → Nat} {L : Nat} {Z : Nat → Prop} {H : Heap} (h : cmp γ (fSkel γ o L) Z H) : ∃ f : gf, cmp γ (gSkel γ o L f) Z H := by
  obtain ⟨ws, ⟨b0, f0, x, y, e, h⟩, hP, hD⟩ := h
  exact ⟨fun q => match q with | 0 => f0 | 1 => fun _ => x | _ => fun _ => y, ws, ⟨b0, e, h⟩, hP, hD⟩
/-- the book as it is made -/
def BKg (γ : gE) (a : Nat) (fN fT : gf) (H : Heap) : Prop := ∃ (φ : gF) (ψ : gG), INVF (γT γ a) (fun q => a ≤ q) κT φ ψ H ∧ φ 3 = fN ∧ φ 4 = fT
def BK0 (γ : gE) (a : Nat) (H : Heap) : Prop := ∃ f9 : Nat → Int32, (∀ c, c < 256 → f9 c = -1) ∧ BKg γ a (NX f9) TI5 H
set_option maxHeartbeats 1000000 in
theorem ftb_inv {fN fT : gf} {γ : gE} {a : Nat} {H : Heap} (hP : va_P γ.1 vwCl [(a, .inr (0, [.ref (a + 1), .ref (a + 6), .ref (a + 14), .ref (a + 19), .ref (a + 25), .ref (a + 33), .int (-1)]))] H) (h1 : cmp γ (fTrees γ (a + 1) 0 0 64) (iv (a + 1) (a + 6)) H) (h2 : cmp γ (gNames γ (a + 6) 12 1 64 fN) (iv (a + 6) (a + 14)) H) (h3 : cmp γ (gTypes γ (a + 14) 5 16 fT) (iv (a + 14) (a + 19)) H) (h4 : cmp γ (fObjects γ (a + 19) (a + 23) 0 16) (iv (a + 19) (a + 23)) H) (h5 : cmp γ (fRows γ (a + 23) 16) (iv (a + 23) (a + 25)) H) (h6 : cmp γ (fLooks γ (a + 25) (a + 31) 64) (iv (a + 25) (a + 31)) H) (h7 : cmp γ (fRows γ (a + 31) 64) (iv (a + 31) (a + 33)) H) (kho : cmp γ (fun ws => ws = [(a + 33, .inr (7, [.ref (a + 1), .ref (a + 6), .ref (a + 14), .ref (a + 34), .ref (a + 42), .ref (a + 44), .ref (a + 43), .int (-1)]))]) (iv (a + 33) (a + 34)) H) (khc : cmp γ (fLooks γ (a + 34) (a + 40) 64) (iv (a + 34) (a + 40)) H) (khr : cmp γ (fRows γ (a + 40) 64) (iv (a + 40) (a + 42)) H) (khp : cmp γ (fun ws => ws = [(a + 42, .inr (8, [.ref (a + 34)]))]) (iv (a + 42) (a + 43)) H) (khh : cmp γ (fun ws => ws = [(a + 43, .inl (γ.2.1, 64, .inl (fun _ => 0)))]) (iv (a + 43) (a + 44)) H) (khm : cmp γ (fun ws => ws = [(a + 44, .inr (9, [.ref (a + 1), .ref (a + 6), .ref (a + 14), .ref (a + 19), .ref (a + 34)]))]) (iv (a + 44) (a + 45)) H) : BKg γ a fN fT H := by
  obtain ⟨_, rfl, hPo, -⟩ := kho
  obtain ⟨_, rfl, hPp, -⟩ := khp
  obtain ⟨_, rfl, hPh, -⟩ := khh
  obtain ⟨_, rfl, hPm, -⟩ := khm
  obtain ⟨fs, hs⟩ := g_Skel (tb_skel hP hPo hPm hPp hPh)
  obtain ⟨ft, h1⟩ := g_Trees h1
  obtain ⟨fo, h4⟩ := g_Objects h4
  obtain ⟨g6, h5⟩ := g_Rows h5
  obtain ⟨f7, h6⟩ := g_Looks h6
  obtain ⟨g8, h7⟩ := g_Rows h7
  obtain ⟨f9', khc⟩ := g_Looks khc
  obtain ⟨g10, khr⟩ := g_Rows khr
  refine ⟨fun i => match i with | 1 => fs | 2 => ft | 3 => fN | 4 => fT | 5 => fo | 7 => f7 | 9 => f9' | _ => TI0, fun i => match i with | 6 => g6 | 8 => g8 | 10 => g10 | _ => fun _ => 0, ⟨rhoT a, fun q h => rho_A h, fun i g1 g2 => ?_⟩, rfl, rfl⟩
  rcases (show i = 1 ∨ i = 2 ∨ i = 3 ∨ i = 4 ∨ i = 5 ∨ i = 6 ∨ i = 7 ∨ i = 8 ∨ i = 9 ∨ i = 10 by omega) with h | h | h | h | h | h | h | h | h | h <;> subst h
  · exact hs
  · exact (cmp_kept (Z1 := fun q => rhoT a q = 2) h1 (fun _ _ _ => rfl) (fun q h _ => rho_1 h))
  · exact (cmp_kept (Z1 := fun q => rhoT a q = 3) h2 (fun _ _ _ => rfl) (fun q h _ => rho_6 h))
  · exact (cmp_kept (Z1 := fun q => rhoT a q = 4) h3 (fun _ _ _ => rfl) (fun q h _ => rho_14 h))
  · exact (cmp_kept (Z1 := fun q => rhoT a q = 5) h4 (fun _ _ _ => rfl) (fun q h _ => rho_19 h))
  · exact (cmp_kept (Z1 := fun q => rhoT a q = 6) h5 (fun _ _ _ => rfl) (fun q h _ => rho_23 h))
  · exact (cmp_kept (Z1 := fun q => rhoT a q = 7) h6 (fun _ _ _ => rfl) (fun q h _ => rho_25 h))
  · exact (cmp_kept (Z1 := fun q => rhoT a q = 8) h7 (fun _ _ _ => rfl) (fun q h _ => rho_31 h))
  · exact (cmp_kept (Z1 := fun q => rhoT a q = 9) khc (fun _ _ _ => rfl) (fun q h _ => rho_34 h))
  · exact (cmp_kept (Z1 := fun q => rhoT a q = 10) khr (fun _ _ _ => rfl) (fun q h _ => rho_40 h))
set_option maxHeartbeats 4000000 in
set_option maxRecDepth 100000 in
theorem fi_TypeBook2 {fN fT : gf} (l : Launch) (γ : gE) (s0 : State) (hw0 : SW s0) (hwx : SWX s0) (a : Nat) {p : Program} {e : Env} {s : State} {m : MethodId} {args : Array Value} {below : List Frame} {meth : Method} {c : Code} {ls : Array Slot} {Q : State → Prop} {H : Heap} {locs : List Loc} (S : bs_F p s m args c bTypeBook_init 1 R_TypeBook) (hnm : meth.name = yTypeBook_init.name) (hC : CX γ s) (hF0 : FB s0 s s.heap) (hA1 : s0.heap.size ≤ a) (hA : ∀ q, s.heap.size ≤ q → a ≤ q) (hE : ∀ (H : Heap) (locs : List Loc) (cells slots pc : Nat) (ls : Array Slot), va_S (fun q => a ≤ q) s.heap H locs → cells ≤ 44 → slots ≤ 2310 → (GR s.heap H cells slots → BKg γ a fN fT H ∧ H.size = a + 45) → decode bTypeBook_init pc = .ok (.return_, 1) → W p l e (bs_rm 5 44 2310 149) s m args below meth c H locs cells slots Q (F0 m pc ls [])) (hl : lv_has ls 1 [(0, .ref a)]) (hS : va_S (fun q => a ≤ q) s.heap H locs) (hz : H.size = a + 33) (hP : va_P γ.1 vwCl [(a, .inr (0, [.ref (a + 1), .ref (a + 6), .ref (a + 14), .ref (a + 19), .ref (a + 25), .null, .int 0]))] H) (hD : va_D (fun q => a ≤ q) [(a, .inr (0, [.ref (a + 1), .ref (a + 6), .ref (a + 14), .ref (a + 19), .ref (a + 25), .null, .int 0]))]) (hc1 : cmp γ (fTrees γ (a + 1) 0 0 64) (iv (a + 1) (a + 6)) H) (hc6 : cmp γ (gNames γ (a + 6) 12 1 64 fN) (iv (a + 6) (a + 14)) H) (hc14 : cmp γ (gTypes γ (a + 14) 5 16 fT) (iv (a + 14) (a + 19)) H) (hc19 : cmp γ (fObjects γ (a + 19) (a + 23) 0 16) (iv (a + 19) (a + 23)) H) (hr19 : cmp γ (fRows γ (a + 23) 16) (iv (a + 23) (a + 25)) H) (hc25 : cmp γ (fLooks γ (a + 25) (a + 31) 64) (iv (a + 25) (a + 31)) H) (hr25 : cmp γ (fRows γ (a + 31) 64) (iv (a + 31) (a + 33)) H) : W p l e (bs_rm 5 44 2310 149) s m args below meth c H locs 32 1649 Q (F0 m 59 ls []) := by
  have hA0 : ∀ q, a ≤ q → s0.heap.size ≤ q := fun q h => Nat.le_trans hA1 h
  obtain ⟨hx, hb, hml, hown, hW⟩ := id S
  refine lv_aload_n hx hb dTypeBook_init_59 rfl (lv_at hl 0 rfl) ?_
  have hlw33 : ∀ (i : Nat) (x9 : Nat × va_E), ([(a, .inr (0, [.ref (a + 1), .ref (a + 6), .ref (a + 14), .ref (a + 19), .ref (a + 25), .null, .int 0]))] : va_W)[i]? = some x9 → x9.1 < a + 33 := fun i x9 hx9 => by rw [← hz]; exact (hP i x9 hx9).lt
  refine cw_new (fs := [.null, .null, .null, .null, .null, .null, .null, .int 0]) (C := R_Looker) (T := T_Looker) (N := 8) (ci := 7) S hC in_Looker t_Looker t_Looker_ok qw_923158a9c5 qw_8c7395766b qw_72ac24d81b rfl (fun j hj => by rcases (show j = 0 ∨ j = 1 ∨ j = 2 ∨ j = 3 ∨ j = 4 ∨ j = 5 ∨ j = 6 ∨ j = 7 by omega) with h | h | h | h | h | h | h | h <;> subst h <;> rfl) hP hS hA hz (Nat.le_of_ble_eq_true rfl) (Nat.le_of_ble_eq_true rfl) dTypeBook_init_60 (fun H hPn hP hS hz hk9 => ?_)
  have hz : H.size = a + 34 := hz
  have hc1 : cmp γ (fTrees γ (a + 1) 0 0 64) (iv (a + 1) (a + 6)) _ := iv_kept hc1 (fun q k1 k2 k3 => hk9 q (by omega))
  have hc6 : cmp γ (gNames γ (a + 6) 12 1 64 fN) (iv (a + 6) (a + 14)) _ := iv_kept hc6 (fun q k1 k2 k3 => hk9 q (by omega))
  have hc14 : cmp γ (gTypes γ (a + 14) 5 16 fT) (iv (a + 14) (a + 19)) _ := iv_kept hc14 (fun q k1 k2 k3 => hk9 q (by omega))
  have hc19 : cmp γ (fObjects γ (a + 19) (a + 23) 0 16) (iv (a + 19) (a + 23)) _ := iv_kept hc19 (fun q k1 k2 k3 => hk9 q (by omega))
  have hr19 : cmp γ (fRows γ (a + 23) 16) (iv (a + 23) (a + 25)) _ := iv_kept hr19 (fun q k1 k2 k3 => hk9 q (by omega))
  have hc25 : cmp γ (fLooks γ (a + 25) (a + 31) 64) (iv (a + 25) (a + 31)) _ := iv_kept hc25 (fun q k1 k2 k3 => hk9 q (by omega))
  have hr25 : cmp γ (fRows γ (a + 31) 64) (iv (a + 31) (a + 33)) _ := iv_kept hr25 (fun q k1 k2 k3 => hk9 q (by omega))
  refine lv_dup hx hb dTypeBook_init_63 rfl ?_
  refine lv_aload_n hx hb dTypeBook_init_64 rfl (lv_at hl 0 rfl) ?_
  refine va_get (D := γ.1) (ci := 0) (v := .ref (a + 1)) (C := R_TypeBook) (T := T_TypeBook) (N := 7) (Ts := bs_W0) hx hb hW in_TypeBook hown hC.1 hP 0 rfl rfl 0 (by decide) (hW _ qw_6151ee7924) (fun _ h9 => h9) rfl dTypeBook_init_65 ?_
  refine lv_aload_n hx hb dTypeBook_init_68 rfl (lv_at hl 0 rfl) ?_
  refine va_get (D := γ.1) (ci := 0) (v := .ref (a + 6)) (C := R_TypeBook) (T := T_TypeBook) (N := 7) (Ts := bs_W0) hx hb hW in_TypeBook hown hC.1 hP 0 rfl rfl 1 (by decide) (hW _ qw_a088f6ef48) (fun _ h9 => h9) rfl dTypeBook_init_69 ?_
  refine lv_aload_n hx hb dTypeBook_init_72 rfl (lv_at hl 0 rfl) ?_
  refine va_get (D := γ.1) (ci := 0) (v := .ref (a + 14)) (C := R_TypeBook) (T := T_TypeBook) (N := 7) (Ts := bs_W0) hx hb hW in_TypeBook hown hC.1 hP 0 rfl rfl 2 (by decide) (hW _ qw_393f431be6) (fun _ h9 => h9) rfl dTypeBook_init_73 ?_
  refine lv_aload_n hx hb dTypeBook_init_76 rfl (lv_at hl 0 rfl) ?_
  refine va_get (D := γ.1) (ci := 0) (v := .ref (a + 19)) (C := R_TypeBook) (T := T_TypeBook) (N := 7) (Ts := bs_W0) hx hb hW in_TypeBook hown hC.1 hP 0 rfl rfl 3 (by decide) (hW _ qw_ba22bdaa87) (fun _ h9 => h9) rfl dTypeBook_init_77 ?_
  refine ms_I (rest := [.ref (a + 33), .ref a]) S hC (fun q h => Nat.le_trans (by omega) h) (fun q h => Nat.le_trans (by omega) h) hS (i_Looker l γ s0 hw0 (a + 33) _ (a + 1) (a + 6) (a + 14) (a + 19)) ct_blind meLooker_init qw_95d519e819 ⟨(Nat.le_of_ble_eq_true rfl), (Nat.le_of_ble_eq_true rfl)⟩ (fun U hU hW9 => ⟨⟨by rw [hU]; exact (hF0.step hA0 hS.1 hS.2.1).warm hW9, by omega⟩, hU, hz, hPn⟩) rfl hl.1 rfl (Nat.le_of_ble_eq_true rfl) dTypeBook_init_80 ⟨(Nat.le_of_ble_eq_true rfl), (Nat.le_of_ble_eq_true rfl)⟩ (fun H1 locs hPO hS hz9 hk9 => ?_)
  obtain ⟨⟨ho33, hc33, hr33, hp33, hh33, hm33⟩, hzn⟩ := hPO
  have ho33 : cmp γ (fun ws => ws = [(a + 33, .inr (7, [.ref (a + 1), .ref (a + 6), .ref (a + 14), .ref (a + 34), .ref (a + 42), .ref (a + 44), .ref (a + 43), .int (-1)]))]) (iv (a + 33) (a + 34)) H1 := ho33
  have hc33 : cmp γ (fLooks γ (a + 34) (a + 40) 64) (iv (a + 34) (a + 40)) H1 := hc33
  have hr33 : cmp γ (fRows γ (a + 40) 64) (iv (a + 40) (a + 42)) H1 := hr33
  have hp33 : cmp γ (fun ws => ws = [(a + 42, .inr (8, [.ref (a + 34)]))]) (iv (a + 42) (a + 43)) H1 := hp33
  have hh33 : cmp γ (fun ws => ws = [(a + 43, .inl (γ.2.1, 64, .inl (fun _ => 0)))]) (iv (a + 43) (a + 44)) H1 := hh33
  have hm33 : cmp γ (fun ws => ws = [(a + 44, .inr (9, [.ref (a + 1), .ref (a + 6), .ref (a + 14), .ref (a + 19), .ref (a + 34)]))]) (iv (a + 44) (a + 45)) H1 := hm33
  have hz : H1.size = a + 45 := hzn
  have hP : va_P γ.1 vwCl [(a, .inr (0, [.ref (a + 1), .ref (a + 6), .ref (a + 14), .ref (a + 19), .ref (a + 25), .null, .int 0]))] H1 := hP.kept (fun i x9 hx9 => hk9 x9.1 (hP i x9 hx9).lt (fun h9 => absurd (hlw33 i x9 hx9) (Nat.not_lt.mpr h9)))
  have hc1 : cmp γ (fTrees γ (a + 1) 0 0 64) (iv (a + 1) (a + 6)) _ := iv_kept hc1 (fun q k1 k2 k3 => hk9 q k3 (by omega))
  have hc6 : cmp γ (gNames γ (a + 6) 12 1 64 fN) (iv (a + 6) (a + 14)) _ := iv_kept hc6 (fun q k1 k2 k3 => hk9 q k3 (by omega))
  have hc14 : cmp γ (gTypes γ (a + 14) 5 16 fT) (iv (a + 14) (a + 19)) _ := iv_kept hc14 (fun q k1 k2 k3 => hk9 q k3 (by omega))
  have hc19 : cmp γ (fObjects γ (a + 19) (a + 23) 0 16) (iv (a + 19) (a + 23)) _ := iv_kept hc19 (fun q k1 k2 k3 => hk9 q k3 (by omega))
  have hr19 : cmp γ (fRows γ (a + 23) 16) (iv (a + 23) (a + 25)) _ := iv_kept hr19 (fun q k1 k2 k3 => hk9 q k3 (by omega))
  have hc25 : cmp γ (fLooks γ (a + 25) (a + 31) 64) (iv (a + 25) (a + 31)) _ := iv_kept hc25 (fun q k1 k2 k3 => hk9 q k3 (by omega))
  have hr25 : cmp γ (fRows γ (a + 31) 64) (iv (a + 31) (a + 33)) _ := iv_kept hr25 (fun q k1 k2 k3 => hk9 q k3 (by omega))
  refine st_putF (D := γ.1) (ci := 0) (v := .ref (a + 33)) (ty := .object "TypeBook$Looker") (C := R_TypeBook) (T := T_TypeBook) (N := 7) (Ts := bs_W0) hx hb hW in_TypeBook t_TypeBook t_TypeBook_ok n_TypeBook hown hC.1 hP hD (fun q h => h) hS 0 rfl rfl 5 (by decide) (hW _ qw_130a6323a2) (fun _ h9 => h9) rfl hnm rfl (by decide +kernel) rfl rfl (Nat.le_of_ble_eq_true rfl) dTypeBook_init_83 (fun H locs hP hD hS hz9 ho9 => ?_)
  have hz : H.size = a + 45 := hz9.trans hz
  have hP : va_P γ.1 vwCl [(a, .inr (0, [.ref (a + 1), .ref (a + 6), .ref (a + 14), .ref (a + 19), .ref (a + 25), .ref (a + 33), .int 0]))] _ := hP
  have hD : va_D _ [(a, .inr (0, [.ref (a + 1), .ref (a + 6), .ref (a + 14), .ref (a + 19), .ref (a + 25), .ref (a + 33), .int 0]))] := hD
  have hc1 : cmp γ (fTrees γ (a + 1) 0 0 64) (iv (a + 1) (a + 6)) _ := iv_kept hc1 (fun q k1 k2 k3 => ho9 q (by omega))
  have hc6 : cmp γ (gNames γ (a + 6) 12 1 64 fN) (iv (a + 6) (a + 14)) _ := iv_kept hc6 (fun q k1 k2 k3 => ho9 q (by omega))
  have hc14 : cmp γ (gTypes γ (a + 14) 5 16 fT) (iv (a + 14) (a + 19)) _ := iv_kept hc14 (fun q k1 k2 k3 => ho9 q (by omega))
  have hc19 : cmp γ (fObjects γ (a + 19) (a + 23) 0 16) (iv (a + 19) (a + 23)) _ := iv_kept hc19 (fun q k1 k2 k3 => ho9 q (by omega))
  have hr19 : cmp γ (fRows γ (a + 23) 16) (iv (a + 23) (a + 25)) _ := iv_kept hr19 (fun q k1 k2 k3 => ho9 q (by omega))
  have hc25 : cmp γ (fLooks γ (a + 25) (a + 31) 64) (iv (a + 25) (a + 31)) _ := iv_kept hc25 (fun q k1 k2 k3 => ho9 q (by omega))
  have hr25 : cmp γ (fRows γ (a + 31) 64) (iv (a + 31) (a + 33)) _ := iv_kept hr25 (fun q k1 k2 k3 => ho9 q (by omega))
  have ho33 : cmp γ (fun ws => ws = [(a + 33, .inr (7, [.ref (a + 1), .ref (a + 6), .ref (a + 14), .ref (a + 34), .ref (a + 42), .ref (a + 44), .ref (a + 43), .int (-1)]))]) (iv (a + 33) (a + 34)) _ := iv_kept ho33 (fun q k1 k2 k3 => ho9 q (by omega))
  have hc33 : cmp γ (fLooks γ (a + 34) (a + 40) 64) (iv (a + 34) (a + 40)) _ := iv_kept hc33 (fun q k1 k2 k3 => ho9 q (by omega))
  have hr33 : cmp γ (fRows γ (a + 40) 64) (iv (a + 40) (a + 42)) _ := iv_kept hr33 (fun q k1 k2 k3 => ho9 q (by omega))
  have hp33 : cmp γ (fun ws => ws = [(a + 42, .inr (8, [.ref (a + 34)]))]) (iv (a + 42) (a + 43)) _ := iv_kept hp33 (fun q k1 k2 k3 => ho9 q (by omega))
  have hh33 : cmp γ (fun ws => ws = [(a + 43, .inl (γ.2.1, 64, .inl (fun _ => 0)))]) (iv (a + 43) (a + 44)) _ := iv_kept hh33 (fun q k1 k2 k3 => ho9 q (by omega))
  have hm33 : cmp γ (fun ws => ws = [(a + 44, .inr (9, [.ref (a + 1), .ref (a + 6), .ref (a + 14), .ref (a + 19), .ref (a + 34)]))]) (iv (a + 44) (a + 45)) _ := iv_kept hm33 (fun q k1 k2 k3 => ho9 q (by omega))
  refine lv_aload_n hx hb dTypeBook_init_86 rfl (lv_at hl 0 rfl) ?_
  refine lv_iconst (v := (-1)) hx hb dTypeBook_init_87 (by decide) ?_
  refine st_put (D := γ.1) (ci := 0) (v := .int (-1)) (ty := .int) (C := R_TypeBook) (T := T_TypeBook) (N := 7) (Ts := bs_W0) hx hb hW in_TypeBook t_TypeBook t_TypeBook_ok n_TypeBook hown hC.1 hP hD (fun q h => h) hS 0 rfl rfl 6 (by decide) (hW _ qw_464f80981e) (fun _ h9 => h9) rfl (by decide +kernel) rfl rfl (Nat.le_of_ble_eq_true rfl) dTypeBook_init_88 (fun H locs hP hD hS hz9 ho9 => ?_)
  have hz : H.size = a + 45 := hz9.trans hz
  have hP : va_P γ.1 vwCl [(a, .inr (0, [.ref (a + 1), .ref (a + 6), .ref (a + 14), .ref (a + 19), .ref (a + 25), .ref (a + 33), .int (-1)]))] _ := hP
  have hD : va_D _ [(a, .inr (0, [.ref (a + 1), .ref (a + 6), .ref (a + 14), .ref (a + 19), .ref (a + 25), .ref (a + 33), .int (-1)]))] := hD
  have hc1 : cmp γ (fTrees γ (a + 1) 0 0 64) (iv (a + 1) (a + 6)) _ := iv_kept hc1 (fun q k1 k2 k3 => ho9 q (by omega))
  have hc6 : cmp γ (gNames γ (a + 6) 12 1 64 fN) (iv (a + 6) (a + 14)) _ := iv_kept hc6 (fun q k1 k2 k3 => ho9 q (by omega))
  have hc14 : cmp γ (gTypes γ (a + 14) 5 16 fT) (iv (a + 14) (a + 19)) _ := iv_kept hc14 (fun q k1 k2 k3 => ho9 q (by omega))
  have hc19 : cmp γ (fObjects γ (a + 19) (a + 23) 0 16) (iv (a + 19) (a + 23)) _ := iv_kept hc19 (fun q k1 k2 k3 => ho9 q (by omega))
  have hr19 : cmp γ (fRows γ (a + 23) 16) (iv (a + 23) (a + 25)) _ := iv_kept hr19 (fun q k1 k2 k3 => ho9 q (by omega))
  have hc25 : cmp γ (fLooks γ (a + 25) (a + 31) 64) (iv (a + 25) (a + 31)) _ := iv_kept hc25 (fun q k1 k2 k3 => ho9 q (by omega))
  have hr25 : cmp γ (fRows γ (a + 31) 64) (iv (a + 31) (a + 33)) _ := iv_kept hr25 (fun q k1 k2 k3 => ho9 q (by omega))
  have ho33 : cmp γ (fun ws => ws = [(a + 33, .inr (7, [.ref (a + 1), .ref (a + 6), .ref (a + 14), .ref (a + 34), .ref (a + 42), .ref (a + 44), .ref (a + 43), .int (-1)]))]) (iv (a + 33) (a + 34)) _ := iv_kept ho33 (fun q k1 k2 k3 => ho9 q (by omega))
  have hc33 : cmp γ (fLooks γ (a + 34) (a + 40) 64) (iv (a + 34) (a + 40)) _ := iv_kept hc33 (fun q k1 k2 k3 => ho9 q (by omega))
  have hr33 : cmp γ (fRows γ (a + 40) 64) (iv (a + 40) (a + 42)) _ := iv_kept hr33 (fun q k1 k2 k3 => ho9 q (by omega))
  have hp33 : cmp γ (fun ws => ws = [(a + 42, .inr (8, [.ref (a + 34)]))]) (iv (a + 42) (a + 43)) _ := iv_kept hp33 (fun q k1 k2 k3 => ho9 q (by omega))
  have hh33 : cmp γ (fun ws => ws = [(a + 43, .inl (γ.2.1, 64, .inl (fun _ => 0)))]) (iv (a + 43) (a + 44)) _ := iv_kept hh33 (fun q k1 k2 k3 => ho9 q (by omega))
  have hm33 : cmp γ (fun ws => ws = [(a + 44, .inr (9, [.ref (a + 1), .ref (a + 6), .ref (a + 14), .ref (a + 19), .ref (a + 34)]))]) (iv (a + 44) (a + 45)) _ := iv_kept hm33 (fun q k1 k2 k3 => ho9 q (by omega))
  refine hE _ _ _ _ _ _ hS (Nat.le_of_ble_eq_true rfl) (Nat.le_of_ble_eq_true rfl) (fun hG => ?_) dTypeBook_init_91
  exact ⟨ftb_inv hP hc1 hc6 hc14 hc19 hr19 hc25 hr25 ho33 hc33 hr33 hp33 hh33 hm33, hz⟩
set_option maxHeartbeats 4000000 in
set_option maxRecDepth 100000 in
theorem fi_TypeBook (l : Launch) (γ : gE) (s0 : State) (hw0 : SW s0) (hwx : SWX s0) (a : Nat) (H0 : Heap)   : MS l yTypeBook_init bTypeBook_init 1 none 5 149 44 2310 [.ref a] γ (fun q => a ≤ q) (ct_P s0 a H0 γ [(a, .inr (0, [.null, .null, .null, .null, .null, .null, .int 0]))]) (mQv (fun H => BK0 γ a H ∧ H.size = a + 45) (fun q => a ≤ q)) := by
  refine ms_openV (by decide) (Nat.le_of_ble_eq_true rfl) ?_
  intro p e s m args below meth c ls Q S hnm hC hA hPS hE hl
  obtain ⟨⟨hF0, hA1⟩, hH0, hz, hP⟩ := hPS
  subst hH0
  have hA0 : ∀ q, a ≤ q → s0.heap.size ≤ q := fun q h => Nat.le_trans hA1 h
  have hA : ∀ q, s.heap.size ≤ q → a ≤ q := hA
  obtain ⟨hx, hb, hml, hown, hW⟩ := id S
  have hS : va_S (fun q => a ≤ q) s.heap s.heap [] := va_S.rf
  have hD : va_D (fun q => a ≤ q) [(a, .inr (0, [.null, .null, .null, .null, .null, .null, .int 0]))] := one_D (Nat.le_refl a)
  have hl : lv_has ls 1 [(0, .ref a)] := hl
  refine lv_aload_n hx hb dTypeBook_init_0 rfl (lv_at hl 0 rfl) ?_
  refine W.objInit hx hb hown (hW _ qw_77ca0da9d6) (hW _ qw_aaa073e22d) (hW _ qc_obj) rfl (hl.1.trans hml.symm) rfl dTypeBook_init_1 (Nat.le_of_ble_eq_true rfl) (Nat.le_of_ble_eq_true rfl) ?_
  refine lv_aload_n hx hb dTypeBook_init_4 rfl (lv_at hl 0 rfl) ?_
  have hlw1 : ∀ (i : Nat) (x9 : Nat × va_E), ([(a, .inr (0, [.null, .null, .null, .null, .null, .null, .int 0]))] : va_W)[i]? = some x9 → x9.1 < a + 1 := fun i x9 hx9 => by rw [← hz]; exact (hP i x9 hx9).lt
  refine cw_new (fs := [.null, .null, .null, .null, .int 0, .int 0]) (C := R_Trees) (T := T_Trees) (N := 6) (ci := 1) S hC in_Trees t_Trees t_Trees_ok qw_f6e6c98d3f qw_728b969c31 qw_03679b470b rfl (fun j hj => by rcases (show j = 0 ∨ j = 1 ∨ j = 2 ∨ j = 3 ∨ j = 4 ∨ j = 5 by omega) with h | h | h | h | h | h <;> subst h <;> rfl) hP hS hA hz (Nat.le_of_ble_eq_true rfl) (Nat.le_of_ble_eq_true rfl) dTypeBook_init_5 (fun H hPn hP hS hz hk9 => ?_)
  have hz : H.size = a + 2 := hz
  refine lv_dup hx hb dTypeBook_init_8 rfl ?_
  refine ms_IN (rest := [.ref (a + 1), .ref a]) S hC (fun q h => Nat.le_trans (by omega) h) (fun q h => Nat.le_trans (by omega) h) hS (i_Trees l γ s0 hw0 (a + 1) _) ct_blind meTrees_init (hC.2 _ qn_3f7204588e rfl) ⟨(Nat.le_of_ble_eq_true rfl), (Nat.le_of_ble_eq_true rfl)⟩ (fun U hU hW9 => ⟨⟨by rw [hU]; exact (hF0.step hA0 hS.1 hS.2.1).warm hW9, by omega⟩, hU, hz, hPn⟩) rfl hl.1 rfl (Nat.le_of_ble_eq_true rfl) dTypeBook_init_9 ⟨(Nat.le_of_ble_eq_true rfl), (Nat.le_of_ble_eq_true rfl)⟩ (fun H1 locs hPO hS hz9 hk9 => ?_)
  obtain ⟨hc1, hzn⟩ := hPO
  have hc1 : cmp γ (fTrees γ (a + 1) 0 0 64) (iv (a + 1) (a + 6)) H1 := hc1
  have hz : H1.size = a + 6 := hzn
  have hP : va_P γ.1 vwCl [(a, .inr (0, [.null, .null, .null, .null, .null, .null, .int 0]))] H1 := hP.kept (fun i x9 hx9 => hk9 x9.1 (hP i x9 hx9).lt (fun h9 => absurd (hlw1 i x9 hx9) (Nat.not_lt.mpr h9)))
  refine st_putF (D := γ.1) (ci := 0) (v := .ref (a + 1)) (ty := .object "TypeBook$Trees") (C := R_TypeBook) (T := T_TypeBook) (N := 7) (Ts := bs_W0) hx hb hW in_TypeBook t_TypeBook t_TypeBook_ok n_TypeBook hown hC.1 hP hD (fun q h => h) hS 0 rfl rfl 0 (by decide) (hW _ qw_6151ee7924) (fun _ h9 => h9) rfl hnm rfl (by decide +kernel) rfl rfl (Nat.le_of_ble_eq_true rfl) dTypeBook_init_12 (fun H locs hP hD hS hz9 ho9 => ?_)
  have hz : H.size = a + 6 := hz9.trans hz
  have hP : va_P γ.1 vwCl [(a, .inr (0, [.ref (a + 1), .null, .null, .null, .null, .null, .int 0]))] _ := hP
  have hD : va_D _ [(a, .inr (0, [.ref (a + 1), .null, .null, .null, .null, .null, .int 0]))] := hD
  have hc1 : cmp γ (fTrees γ (a + 1) 0 0 64) (iv (a + 1) (a + 6)) _ := iv_kept hc1 (fun q k1 k2 k3 => ho9 q (by omega))
  refine lv_aload_n hx hb dTypeBook_init_15 rfl (lv_at hl 0 rfl) ?_
  have hlw6 : ∀ (i : Nat) (x9 : Nat × va_E), ([(a, .inr (0, [.ref (a + 1), .null, .null, .null, .null, .null, .int 0]))] : va_W)[i]? = some x9 → x9.1 < a + 6 := fun i x9 hx9 => by rw [← hz]; exact (hP i x9 hx9).lt
  refine cw_new (fs := [.null, .null, .null, .null, .null, .null, .null, .int 0, .int 0]) (C := R_Names) (T := T_Names) (N := 9) (ci := 2) S hC in_Names t_Names t_Names_ok qw_5869ee7718 qw_0fe9ef37a0 qw_59cecfe9cd rfl (fun j hj => by rcases (show j = 0 ∨ j = 1 ∨ j = 2 ∨ j = 3 ∨ j = 4 ∨ j = 5 ∨ j = 6 ∨ j = 7 ∨ j = 8 by omega) with h | h | h | h | h | h | h | h | h <;> subst h <;> rfl) hP hS hA hz (Nat.le_of_ble_eq_true rfl) (Nat.le_of_ble_eq_true rfl) dTypeBook_init_16 (fun H hPn hP hS hz hk9 => ?_)
  have hz : H.size = a + 7 := hz
  have hc1 : cmp γ (fTrees γ (a + 1) 0 0 64) (iv (a + 1) (a + 6)) _ := iv_kept hc1 (fun q k1 k2 k3 => hk9 q (by omega))
  refine lv_dup hx hb dTypeBook_init_19 rfl ?_
  refine ms_I (rest := [.ref (a + 6), .ref a]) S hC (fun q h => Nat.le_trans (by omega) h) (fun q h => Nat.le_trans (by omega) h) hS (fi_Names l γ s0 hwx (a + 6) _) ct_blind meNames_init qw_e3502542dd ⟨(Nat.le_of_ble_eq_true rfl), (Nat.le_of_ble_eq_true rfl)⟩ (fun U hU hW9 => ⟨⟨by rw [hU]; exact (hF0.step hA0 hS.1 hS.2.1).warm hW9, by omega⟩, hU, hz, hPn⟩) rfl hl.1 rfl (Nat.le_of_ble_eq_true rfl) dTypeBook_init_20 ⟨(Nat.le_of_ble_eq_true rfl), (Nat.le_of_ble_eq_true rfl)⟩ (fun H1 locs hPO hS hz9 hk9 => ?_)
  obtain ⟨⟨f9, hf9, hc6⟩, hzn⟩ := hPO
  have hc6 : cmp γ (gNames γ (a + 6) 12 1 64 (NX f9)) (iv (a + 6) (a + 14)) H1 := hc6
  have hz : H1.size = a + 14 := hzn
  have hP : va_P γ.1 vwCl [(a, .inr (0, [.ref (a + 1), .null, .null, .null, .null, .null, .int 0]))] H1 := hP.kept (fun i x9 hx9 => hk9 x9.1 (hP i x9 hx9).lt (fun h9 => absurd (hlw6 i x9 hx9) (Nat.not_lt.mpr h9)))
  have hc1 : cmp γ (fTrees γ (a + 1) 0 0 64) (iv (a + 1) (a + 6)) _ := iv_kept hc1 (fun q k1 k2 k3 => hk9 q k3 (by omega))
  refine st_putF (D := γ.1) (ci := 0) (v := .ref (a + 6)) (ty := .object "TypeBook$Names") (C := R_TypeBook) (T := T_TypeBook) (N := 7) (Ts := bs_W0) hx hb hW in_TypeBook t_TypeBook t_TypeBook_ok n_TypeBook hown hC.1 hP hD (fun q h => h) hS 0 rfl rfl 1 (by decide) (hW _ qw_a088f6ef48) (fun _ h9 => h9) rfl hnm rfl (by decide +kernel) rfl rfl (Nat.le_of_ble_eq_true rfl) dTypeBook_init_23 (fun H locs hP hD hS hz9 ho9 => ?_)
  have hz : H.size = a + 14 := hz9.trans hz
  have hP : va_P γ.1 vwCl [(a, .inr (0, [.ref (a + 1), .ref (a + 6), .null, .null, .null, .null, .int 0]))] _ := hP
  have hD : va_D _ [(a, .inr (0, [.ref (a + 1), .ref (a + 6), .null, .null, .null, .null, .int 0]))] := hD
  have hc1 : cmp γ (fTrees γ (a + 1) 0 0 64) (iv (a + 1) (a + 6)) _ := iv_kept hc1 (fun q k1 k2 k3 => ho9 q (by omega))
  have hc6 : cmp γ (gNames γ (a + 6) 12 1 64 (NX f9)) (iv (a + 6) (a + 14)) _ := iv_kept hc6 (fun q k1 k2 k3 => ho9 q (by omega))
  refine lv_aload_n hx hb dTypeBook_init_26 rfl (lv_at hl 0 rfl) ?_
  have hlw14 : ∀ (i : Nat) (x9 : Nat × va_E), ([(a, .inr (0, [.ref (a + 1), .ref (a + 6), .null, .null, .null, .null, .int 0]))] : va_W)[i]? = some x9 → x9.1 < a + 14 := fun i x9 hx9 => by rw [← hz]; exact (hP i x9 hx9).lt
  refine cw_new (fs := [.null, .null, .null, .null, .int 0]) (C := R_Types) (T := T_Types) (N := 5) (ci := 3) S hC in_Types t_Types t_Types_ok qw_b43be4bd43 qw_3790227522 qw_bdae26afb0 rfl (fun j hj => by rcases (show j = 0 ∨ j = 1 ∨ j = 2 ∨ j = 3 ∨ j = 4 by omega) with h | h | h | h | h <;> subst h <;> rfl) hP hS hA hz (Nat.le_of_ble_eq_true rfl) (Nat.le_of_ble_eq_true rfl) dTypeBook_init_27 (fun H hPn hP hS hz hk9 => ?_)
  have hz : H.size = a + 15 := hz
  have hc1 : cmp γ (fTrees γ (a + 1) 0 0 64) (iv (a + 1) (a + 6)) _ := iv_kept hc1 (fun q k1 k2 k3 => hk9 q (by omega))
  have hc6 : cmp γ (gNames γ (a + 6) 12 1 64 (NX f9)) (iv (a + 6) (a + 14)) _ := iv_kept hc6 (fun q k1 k2 k3 => hk9 q (by omega))
  refine lv_dup hx hb dTypeBook_init_30 rfl ?_
  refine ms_I (rest := [.ref (a + 14), .ref a]) S hC (fun q h => Nat.le_trans (by omega) h) (fun q h => Nat.le_trans (by omega) h) hS (fi_Types l γ s0 hw0 (a + 14) _) ct_blind meTypes_init qw_bbc4b7e74b ⟨(Nat.le_of_ble_eq_true rfl), (Nat.le_of_ble_eq_true rfl)⟩ (fun U hU hW9 => ⟨⟨by rw [hU]; exact (hF0.step hA0 hS.1 hS.2.1).warm hW9, by omega⟩, hU, hz, hPn⟩) rfl hl.1 rfl (Nat.le_of_ble_eq_true rfl) dTypeBook_init_31 ⟨(Nat.le_of_ble_eq_true rfl), (Nat.le_of_ble_eq_true rfl)⟩ (fun H1 locs hPO hS hz9 hk9 => ?_)
  obtain ⟨hc14, hzn⟩ := hPO
  have hc14 : cmp γ (gTypes γ (a + 14) 5 16 TI5) (iv (a + 14) (a + 19)) H1 := hc14
  have hz : H1.size = a + 19 := hzn
  have hP : va_P γ.1 vwCl [(a, .inr (0, [.ref (a + 1), .ref (a + 6), .null, .null, .null, .null, .int 0]))] H1 := hP.kept (fun i x9 hx9 => hk9 x9.1 (hP i x9 hx9).lt (fun h9 => absurd (hlw14 i x9 hx9) (Nat.not_lt.mpr h9)))
  have hc1 : cmp γ (fTrees γ (a + 1) 0 0 64) (iv (a + 1) (a + 6)) _ := iv_kept hc1 (fun q k1 k2 k3 => hk9 q k3 (by omega))
  have hc6 : cmp γ (gNames γ (a + 6) 12 1 64 (NX f9)) (iv (a + 6) (a + 14)) _ := iv_kept hc6 (fun q k1 k2 k3 => hk9 q k3 (by omega))
  refine st_putF (D := γ.1) (ci := 0) (v := .ref (a + 14)) (ty := .object "TypeBook$Types") (C := R_TypeBook) (T := T_TypeBook) (N := 7) (Ts := bs_W0) hx hb hW in_TypeBook t_TypeBook t_TypeBook_ok n_TypeBook hown hC.1 hP hD (fun q h => h) hS 0 rfl rfl 2 (by decide) (hW _ qw_393f431be6) (fun _ h9 => h9) rfl hnm rfl (by decide +kernel) rfl rfl (Nat.le_of_ble_eq_true rfl) dTypeBook_init_34 (fun H locs hP hD hS hz9 ho9 => ?_)
  have hz : H.size = a + 19 := hz9.trans hz
  have hP : va_P γ.1 vwCl [(a, .inr (0, [.ref (a + 1), .ref (a + 6), .ref (a + 14), .null, .null, .null, .int 0]))] _ := hP
  have hD : va_D _ [(a, .inr (0, [.ref (a + 1), .ref (a + 6), .ref (a + 14), .null, .null, .null, .int 0]))] := hD
  have hc1 : cmp γ (fTrees γ (a + 1) 0 0 64) (iv (a + 1) (a + 6)) _ := iv_kept hc1 (fun q k1 k2 k3 => ho9 q (by omega))
  have hc6 : cmp γ (gNames γ (a + 6) 12 1 64 (NX f9)) (iv (a + 6) (a + 14)) _ := iv_kept hc6 (fun q k1 k2 k3 => ho9 q (by omega))
  have hc14 : cmp γ (gTypes γ (a + 14) 5 16 TI5) (iv (a + 14) (a + 19)) _ := iv_kept hc14 (fun q k1 k2 k3 => ho9 q (by omega))
  refine lv_aload_n hx hb dTypeBook_init_37 rfl (lv_at hl 0 rfl) ?_
  have hlw19 : ∀ (i : Nat) (x9 : Nat × va_E), ([(a, .inr (0, [.ref (a + 1), .ref (a + 6), .ref (a + 14), .null, .null, .null, .int 0]))] : va_W)[i]? = some x9 → x9.1 < a + 19 := fun i x9 hx9 => by rw [← hz]; exact (hP i x9 hx9).lt
  refine cw_new (fs := [.null, .null, .null, .null, .int 0]) (C := R_Objects) (T := T_Objects) (N := 5) (ci := 4) S hC in_Objects t_Objects t_Objects_ok qw_cecb0f06f4 qw_faf701598a qw_278e47cc10 rfl (fun j hj => by rcases (show j = 0 ∨ j = 1 ∨ j = 2 ∨ j = 3 ∨ j = 4 by omega) with h | h | h | h | h <;> subst h <;> rfl) hP hS hA hz (Nat.le_of_ble_eq_true rfl) (Nat.le_of_ble_eq_true rfl) dTypeBook_init_38 (fun H hPn hP hS hz hk9 => ?_)
  have hz : H.size = a + 20 := hz
  have hc1 : cmp γ (fTrees γ (a + 1) 0 0 64) (iv (a + 1) (a + 6)) _ := iv_kept hc1 (fun q k1 k2 k3 => hk9 q (by omega))
  have hc6 : cmp γ (gNames γ (a + 6) 12 1 64 (NX f9)) (iv (a + 6) (a + 14)) _ := iv_kept hc6 (fun q k1 k2 k3 => hk9 q (by omega))
  have hc14 : cmp γ (gTypes γ (a + 14) 5 16 TI5) (iv (a + 14) (a + 19)) _ := iv_kept hc14 (fun q k1 k2 k3 => hk9 q (by omega))
  refine lv_dup hx hb dTypeBook_init_41 rfl ?_
  refine ms_IN (rest := [.ref (a + 19), .ref a]) S hC (fun q h => Nat.le_trans (by omega) h) (fun q h => Nat.le_trans (by omega) h) hS (i_Objects l γ s0 hw0 (a + 19) _) ct_blind meObjects_init (hC.2 _ qn_8cbb55c35c rfl) ⟨(Nat.le_of_ble_eq_true rfl), (Nat.le_of_ble_eq_true rfl)⟩ (fun U hU hW9 => ⟨⟨by rw [hU]; exact (hF0.step hA0 hS.1 hS.2.1).warm hW9, by omega⟩, hU, hz, hPn⟩) rfl hl.1 rfl (Nat.le_of_ble_eq_true rfl) dTypeBook_init_42 ⟨(Nat.le_of_ble_eq_true rfl), (Nat.le_of_ble_eq_true rfl)⟩ (fun H1 locs hPO hS hz9 hk9 => ?_)
  obtain ⟨⟨hc19, hr19⟩, hzn⟩ := hPO
  have hc19 : cmp γ (fObjects γ (a + 19) (a + 23) 0 16) (iv (a + 19) (a + 23)) H1 := hc19
  have hr19 : cmp γ (fRows γ (a + 23) 16) (iv (a + 23) (a + 25)) H1 := hr19
  have hz : H1.size = a + 25 := hzn
  have hP : va_P γ.1 vwCl [(a, .inr (0, [.ref (a + 1), .ref (a + 6), .ref (a + 14), .null, .null, .null, .int 0]))] H1 := hP.kept (fun i x9 hx9 => hk9 x9.1 (hP i x9 hx9).lt (fun h9 => absurd (hlw19 i x9 hx9) (Nat.not_lt.mpr h9)))
  have hc1 : cmp γ (fTrees γ (a + 1) 0 0 64) (iv (a + 1) (a + 6)) _ := iv_kept hc1 (fun q k1 k2 k3 => hk9 q k3 (by omega))
  have hc6 : cmp γ (gNames γ (a + 6) 12 1 64 (NX f9)) (iv (a + 6) (a + 14)) _ := iv_kept hc6 (fun q k1 k2 k3 => hk9 q k3 (by omega))
  have hc14 : cmp γ (gTypes γ (a + 14) 5 16 TI5) (iv (a + 14) (a + 19)) _ := iv_kept hc14 (fun q k1 k2 k3 => hk9 q k3 (by omega))
  refine st_putF (D := γ.1) (ci := 0) (v := .ref (a + 19)) (ty := .object "TypeBook$Objects") (C := R_TypeBook) (T := T_TypeBook) (N := 7) (Ts := bs_W0) hx hb hW in_TypeBook t_TypeBook t_TypeBook_ok n_TypeBook hown hC.1 hP hD (fun q h => h) hS 0 rfl rfl 3 (by decide) (hW _ qw_ba22bdaa87) (fun _ h9 => h9) rfl hnm rfl (by decide +kernel) rfl rfl (Nat.le_of_ble_eq_true rfl) dTypeBook_init_45 (fun H locs hP hD hS hz9 ho9 => ?_)
  have hz : H.size = a + 25 := hz9.trans hz
  have hP : va_P γ.1 vwCl [(a, .inr (0, [.ref (a + 1), .ref (a + 6), .ref (a + 14), .ref (a + 19), .null, .null, .int 0]))] _ := hP
  have hD : va_D _ [(a, .inr (0, [.ref (a + 1), .ref (a + 6), .ref (a + 14), .ref (a + 19), .null, .null, .int 0]))] := hD
  have hc1 : cmp γ (fTrees γ (a + 1) 0 0 64) (iv (a + 1) (a + 6)) _ := iv_kept hc1 (fun q k1 k2 k3 => ho9 q (by omega))
  have hc6 : cmp γ (gNames γ (a + 6) 12 1 64 (NX f9)) (iv (a + 6) (a + 14)) _ := iv_kept hc6 (fun q k1 k2 k3 => ho9 q (by omega))
  have hc14 : cmp γ (gTypes γ (a + 14) 5 16 TI5) (iv (a + 14) (a + 19)) _ := iv_kept hc14 (fun q k1 k2 k3 => ho9 q (by omega))
  have hc19 : cmp γ (fObjects γ (a + 19) (a + 23) 0 16) (iv (a + 19) (a + 23)) _ := iv_kept hc19 (fun q k1 k2 k3 => ho9 q (by omega))
  have hr19 : cmp γ (fRows γ (a + 23) 16) (iv (a + 23) (a + 25)) _ := iv_kept hr19 (fun q k1 k2 k3 => ho9 q (by omega))
  refine lv_aload_n hx hb dTypeBook_init_48 rfl (lv_at hl 0 rfl) ?_
  have hlw25 : ∀ (i : Nat) (x9 : Nat × va_E), ([(a, .inr (0, [.ref (a + 1), .ref (a + 6), .ref (a + 14), .ref (a + 19), .null, .null, .int 0]))] : va_W)[i]? = some x9 → x9.1 < a + 25 := fun i x9 hx9 => by rw [← hz]; exact (hP i x9 hx9).lt
  refine cw_new (fs := [.null, .null, .null, .null, .null, .null]) (C := R_Looks) (T := T_Looks) (N := 6) (ci := 6) S hC in_Looks t_Looks t_Looks_ok qw_b3c5038eb4 qw_a3e5b3d658 qw_358a8c4edc rfl (fun j hj => by rcases (show j = 0 ∨ j = 1 ∨ j = 2 ∨ j = 3 ∨ j = 4 ∨ j = 5 by omega) with h | h | h | h | h | h <;> subst h <;> rfl) hP hS hA hz (Nat.le_of_ble_eq_true rfl) (Nat.le_of_ble_eq_true rfl) dTypeBook_init_49 (fun H hPn hP hS hz hk9 => ?_)
  have hz : H.size = a + 26 := hz
  have hc1 : cmp γ (fTrees γ (a + 1) 0 0 64) (iv (a + 1) (a + 6)) _ := iv_kept hc1 (fun q k1 k2 k3 => hk9 q (by omega))
  have hc6 : cmp γ (gNames γ (a + 6) 12 1 64 (NX f9)) (iv (a + 6) (a + 14)) _ := iv_kept hc6 (fun q k1 k2 k3 => hk9 q (by omega))
  have hc14 : cmp γ (gTypes γ (a + 14) 5 16 TI5) (iv (a + 14) (a + 19)) _ := iv_kept hc14 (fun q k1 k2 k3 => hk9 q (by omega))
  have hc19 : cmp γ (fObjects γ (a + 19) (a + 23) 0 16) (iv (a + 19) (a + 23)) _ := iv_kept hc19 (fun q k1 k2 k3 => hk9 q (by omega))
  have hr19 : cmp γ (fRows γ (a + 23) 16) (iv (a + 23) (a + 25)) _ := iv_kept hr19 (fun q k1 k2 k3 => hk9 q (by omega))
  refine lv_dup hx hb dTypeBook_init_52 rfl ?_
  refine ms_IN (rest := [.ref (a + 25), .ref a]) S hC (fun q h => Nat.le_trans (by omega) h) (fun q h => Nat.le_trans (by omega) h) hS (i_Looks l γ s0 hw0 (a + 25) _) ct_blind meLooks_init (hC.2 _ qn_bac56fcd2e rfl) ⟨(Nat.le_of_ble_eq_true rfl), (Nat.le_of_ble_eq_true rfl)⟩ (fun U hU hW9 => ⟨⟨by rw [hU]; exact (hF0.step hA0 hS.1 hS.2.1).warm hW9, by omega⟩, hU, hz, hPn⟩) rfl hl.1 rfl (Nat.le_of_ble_eq_true rfl) dTypeBook_init_53 ⟨(Nat.le_of_ble_eq_true rfl), (Nat.le_of_ble_eq_true rfl)⟩ (fun H1 locs hPO hS hz9 hk9 => ?_)
  obtain ⟨⟨hc25, hr25⟩, hzn⟩ := hPO
  have hc25 : cmp γ (fLooks γ (a + 25) (a + 31) 64) (iv (a + 25) (a + 31)) H1 := hc25
  have hr25 : cmp γ (fRows γ (a + 31) 64) (iv (a + 31) (a + 33)) H1 := hr25
  have hz : H1.size = a + 33 := hzn
  have hP : va_P γ.1 vwCl [(a, .inr (0, [.ref (a + 1), .ref (a + 6), .ref (a + 14), .ref (a + 19), .null, .null, .int 0]))] H1 := hP.kept (fun i x9 hx9 => hk9 x9.1 (hP i x9 hx9).lt (fun h9 => absurd (hlw25 i x9 hx9) (Nat.not_lt.mpr h9)))
  have hc1 : cmp γ (fTrees γ (a + 1) 0 0 64) (iv (a + 1) (a + 6)) _ := iv_kept hc1 (fun q k1 k2 k3 => hk9 q k3 (by omega))
  have hc6 : cmp γ (gNames γ (a + 6) 12 1 64 (NX f9)) (iv (a + 6) (a + 14)) _ := iv_kept hc6 (fun q k1 k2 k3 => hk9 q k3 (by omega))
  have hc14 : cmp γ (gTypes γ (a + 14) 5 16 TI5) (iv (a + 14) (a + 19)) _ := iv_kept hc14 (fun q k1 k2 k3 => hk9 q k3 (by omega))
  have hc19 : cmp γ (fObjects γ (a + 19) (a + 23) 0 16) (iv (a + 19) (a + 23)) _ := iv_kept hc19 (fun q k1 k2 k3 => hk9 q k3 (by omega))
  have hr19 : cmp γ (fRows γ (a + 23) 16) (iv (a + 23) (a + 25)) _ := iv_kept hr19 (fun q k1 k2 k3 => hk9 q k3 (by omega))
  refine st_putF (D := γ.1) (ci := 0) (v := .ref (a + 25)) (ty := .object "TypeBook$Looks") (C := R_TypeBook) (T := T_TypeBook) (N := 7) (Ts := bs_W0) hx hb hW in_TypeBook t_TypeBook t_TypeBook_ok n_TypeBook hown hC.1 hP hD (fun q h => h) hS 0 rfl rfl 4 (by decide) (hW _ qw_ce6a8385d0) (fun _ h9 => h9) rfl hnm rfl (by decide +kernel) rfl rfl (Nat.le_of_ble_eq_true rfl) dTypeBook_init_56 (fun H locs hP hD hS hz9 ho9 => ?_)
  have hz : H.size = a + 33 := hz9.trans hz
  have hP : va_P γ.1 vwCl [(a, .inr (0, [.ref (a + 1), .ref (a + 6), .ref (a + 14), .ref (a + 19), .ref (a + 25), .null, .int 0]))] _ := hP
  have hD : va_D _ [(a, .inr (0, [.ref (a + 1), .ref (a + 6), .ref (a + 14), .ref (a + 19), .ref (a + 25), .null, .int 0]))] := hD
  have hc1 : cmp γ (fTrees γ (a + 1) 0 0 64) (iv (a + 1) (a + 6)) _ := iv_kept hc1 (fun q k1 k2 k3 => ho9 q (by omega))
  have hc6 : cmp γ (gNames γ (a + 6) 12 1 64 (NX f9)) (iv (a + 6) (a + 14)) _ := iv_kept hc6 (fun q k1 k2 k3 => ho9 q (by omega))
  have hc14 : cmp γ (gTypes γ (a + 14) 5 16 TI5) (iv (a + 14) (a + 19)) _ := iv_kept hc14 (fun q k1 k2 k3 => ho9 q (by omega))
  have hc19 : cmp γ (fObjects γ (a + 19) (a + 23) 0 16) (iv (a + 19) (a + 23)) _ := iv_kept hc19 (fun q k1 k2 k3 => ho9 q (by omega))
  have hr19 : cmp γ (fRows γ (a + 23) 16) (iv (a + 23) (a + 25)) _ := iv_kept hr19 (fun q k1 k2 k3 => ho9 q (by omega))
  have hc25 : cmp γ (fLooks γ (a + 25) (a + 31) 64) (iv (a + 25) (a + 31)) _ := iv_kept hc25 (fun q k1 k2 k3 => ho9 q (by omega))
  have hr25 : cmp γ (fRows γ (a + 31) 64) (iv (a + 31) (a + 33)) _ := iv_kept hr25 (fun q k1 k2 k3 => ho9 q (by omega))
  exact W.up (k := 32) (n := 1649) (Nat.le_of_ble_eq_true rfl) (Nat.le_of_ble_eq_true rfl) (fi_TypeBook2 l γ s0 hw0 hwx a S hnm hC hF0 hA1 hA (fun H locs cells slots pc ls h1 h2 h3 h4 h5 => hE H locs cells slots pc ls h1 h2 h3 (fun hG => ⟨⟨f9, hf9, (h4 hG).1⟩, (h4 hG).2⟩) h5) hl hS hz hP hD hc1 hc6 hc14 hc19 hr19 hc25 hr25)
-- the reference as it is made
def NTy (k : Nat) (τ : gf) (x1 x2 x3 x4 x5 : Int32) : gf := Au (Au (Au (Au (Au τ 16 k x1) 17 k x2) 18 k x3) 19 k x4) 20 k (vp_nar .boolean x5)
def TM : gf := NTy 4 (NTy 3 (NTy 2 (NTy 1 (NTy 0 (fun _ _ => 0) 0 0 0 0 0) 1 0 0 0 0) 2 (-2147483647) 2147483647 0 0) 2 0 2147483647 0 0) 2 1 2147483647 0 0
theorem nt_ty {κ κ' : Nat → Nat} {τ τ' : gf} {σ σ' : gs} {F F' : gf} {nu nu' : gg} {r x1 x2 x3 x4 x5 : Int32} {k : Nat} (h9 : k < 2 ^ 31) (hk : κ 2 = k) (h : Oq (Q_newType κ τ σ F nu x1 x2 x3 x4 x5) (r, κ', τ', σ', F', nu')) : τ' = NTy k τ x1 x2 x3 x4 x5 := by
  have h1 : (Q_newType κ τ σ F nu x1 x2 x3 x4 x5).2.2.1 = τ' := by rw [h.eq]
  rw [← h1]
  have e2 : (nI (κ 2)).toNatClampNeg = k := by rw [hk]; exact nI_clamp h9
  unfold Q_newType NTy
  simp only [e2]
def MJ0 (γ : gE) (a : Nat) (Z : Nat → Prop) (H : Heap) : Prop := ∃ (κ : Nat → Nat) (τ : gf) (σ : gs), κ 2 = 5 ∧ (κ 5 = 1 ∧ κ 0 = 0 ∧ κ 1 = 0 ∧ κ 3 = 0 ∧ κ 4 = 0) ∧ τ = TM ∧ MJ γ a Z κ τ σ (fun _ _ => 0) (fun _ => 0) H
set_option maxHeartbeats 4000000 in
set_option maxRecDepth 100000 in
theorem fi_Model (l : Launch) (γ : gE) (s0 : State) (hw0 : SW s0) (a : Nat) (H0 : Heap) : MS l yModel_init bModel_init 1 none 1 25 24 738000 [.ref a] γ (fun q => a ≤ q) (ct_P s0 a H0 γ (wsI γ a (fun _ => 0) 0)) (mQv (fun H => MJ0 γ a (fun q => a ≤ q) H ∧ H.size = a + 25) (fun q => a ≤ q)) := by
  refine ms_openV (by decide) (Nat.le_of_ble_eq_true rfl) ?_
  intro p e s m args below meth c ls Q S hnm hC hA hPS hE hl
  obtain ⟨⟨hF0, hA1⟩, hH0, hz, hP⟩ := hPS
  subst hH0
  have hz00 : s.heap.size = a + 1 := hz
  have hA : ∀ q, s.heap.size ≤ q → a ≤ q := hA
  obtain ⟨hx, hb, hml, hown, hW⟩ := id S
  have hS : va_S (fun q => a ≤ q) s.heap s.heap [] := va_S.rf
  have hD : va_D (fun q => a ≤ q) (wsI γ a (fun _ => 0) 0) := one_D (Nat.le_refl a)
  have hP : va_P γ.1 vwCl (wsI γ a (fun _ => 0) 0) s.heap := hP
  have hl : lv_has ls 1 [(0, .ref a)] := hl
  have hz : s.heap.size = a + 1 + 0 := hz
  refine lv_aload_n hx hb dModel_init_0 rfl (lv_at hl 0 rfl) ?_
  refine W.objInit hx hb hown (hW _ qw_311ac4ac85) (hW _ qw_aaa073e22d) (hW _ qc_obj) rfl (hl.1.trans hml.symm) rfl dModel_init_1 (Nat.le_of_ble_eq_true rfl) (Nat.le_of_ble_eq_true rfl) ?_
  refine lv_aload_n hx hb dModel_init_4 rfl (lv_at hl 0 rfl) ?_
  refine lv_iconst (v := (-1)) hx hb dModel_init_5 (by decide) ?_
  refine st_put (D := γ.1) (ci := 10) (v := .int (-1)) (ty := .int) (C := R_Model) (T := T_Model) (N := 35) (Ts := bs_W0) hx hb hW in_Model t_Model t_Model_ok n_Model hown hC.1 hP hD (fun q h => h) hS 0 rfl rfl 1 (by decide) (hW _ qw_d4a57461ea) (fun _ h9 => h9) rfl (by decide +kernel) rfl rfl (by rw [fsI_len]; decide) dModel_init_6 (fun H locs hP hD hS hz9 ho9 => ?_)
  have hP : va_P γ.1 vwCl (wsI γ a (upd (fun _ => 0) 1 (-1)) 0) H := by have h9 : (wsI γ a (fun _ => 0) 0).set 0 (a, .inr (10, (fsI a (fun _ => 0) 0).set 1 (.int (-1)))) = wsI γ a (upd (fun _ => 0) 1 (-1)) 0 := (by rw [fsI_put (by decide) rfl]; rfl); rw [← h9]; exact hP
  have hD : va_D (fun q => a ≤ q) (wsI γ a (upd (fun _ => 0) 1 (-1)) 0) := by have h9 : (wsI γ a (fun _ => 0) 0).set 0 (a, .inr (10, (fsI a (fun _ => 0) 0).set 1 (.int (-1)))) = wsI γ a (upd (fun _ => 0) 1 (-1)) 0 := (by rw [fsI_put (by decide) rfl]; rfl); rw [← h9]; exact hD
  have hz : H.size = a + 1 + 0 := hz9.trans hz
  refine lv_aload_n hx hb dModel_init_9 rfl (lv_at hl 0 rfl) ?_
  refine lv_sipush (v := 4000) hx hb dModel_init_10 (by decide) ?_
  refine mi_int (V := (upd (fun _ => 0) 1 (-1))) (j := 0) (k := 2) S hnm hC hP hD hS hA hz rfl (by decide) (by decide) rfl (by decide) rfl rfl (by decide) (Nat.le_of_ble_eq_true rfl) (Nat.le_of_ble_eq_true rfl) qw_8e969fb20a qw_3471296067 rfl rfl (by decide +kernel) dModel_init_13 dModel_init_15 (fun H locs hP hD hS hz => ?_)
  refine lv_aload_n hx hb dModel_init_18 rfl (lv_at hl 0 rfl) ?_
  refine lv_sipush (v := 4000) hx hb dModel_init_19 (by decide) ?_
  refine mi_int (V := (upd (fun _ => 0) 1 (-1))) (j := 1) (k := 3) S hnm hC hP hD hS hA hz rfl (by decide) (by decide) rfl (by decide) rfl rfl (by decide) (Nat.le_of_ble_eq_true rfl) (Nat.le_of_ble_eq_true rfl) qw_8e969fb20a qw_9fb851a5fa rfl rfl (by decide +kernel) dModel_init_22 dModel_init_24 (fun H locs hP hD hS hz => ?_)
  refine lv_aload_n hx hb dModel_init_27 rfl (lv_at hl 0 rfl) ?_
  refine lv_sipush (v := 4000) hx hb dModel_init_28 (by decide) ?_
  refine mi_int (V := (upd (fun _ => 0) 1 (-1))) (j := 2) (k := 4) S hnm hC hP hD hS hA hz rfl (by decide) (by decide) rfl (by decide) rfl rfl (by decide) (Nat.le_of_ble_eq_true rfl) (Nat.le_of_ble_eq_true rfl) qw_8e969fb20a qw_a8caa30de3 rfl rfl (by decide +kernel) dModel_init_31 dModel_init_33 (fun H locs hP hD hS hz => ?_)
  refine lv_aload_n hx hb dModel_init_36 rfl (lv_at hl 0 rfl) ?_
  refine lv_sipush (v := 4000) hx hb dModel_init_37 (by decide) ?_
  refine mi_int (V := (upd (fun _ => 0) 1 (-1))) (j := 3) (k := 5) S hnm hC hP hD hS hA hz rfl (by decide) (by decide) rfl (by decide) rfl rfl (by decide) (Nat.le_of_ble_eq_true rfl) (Nat.le_of_ble_eq_true rfl) qw_8e969fb20a qw_7e4081a75e rfl rfl (by decide +kernel) dModel_init_40 dModel_init_42 (fun H locs hP hD hS hz => ?_)
  refine lv_aload_n hx hb dModel_init_45 rfl (lv_at hl 0 rfl) ?_
  refine lv_sipush (v := 4000) hx hb dModel_init_46 (by decide) ?_
  refine mi_int (V := (upd (fun _ => 0) 1 (-1))) (j := 4) (k := 7) S hnm hC hP hD hS hA hz rfl (by decide) (by decide) rfl (by decide) rfl rfl (by decide) (Nat.le_of_ble_eq_true rfl) (Nat.le_of_ble_eq_true rfl) qw_8e969fb20a qw_398ffa5efc rfl rfl (by decide +kernel) dModel_init_49 dModel_init_51 (fun H locs hP hD hS hz => ?_)
  refine lv_aload_n hx hb dModel_init_54 rfl (lv_at hl 0 rfl) ?_
  refine lv_sipush (v := 10000) hx hb dModel_init_55 (by decide) ?_
  refine mi_int (V := (upd (fun _ => 0) 1 (-1))) (j := 5) (k := 9) S hnm hC hP hD hS hA hz rfl (by decide) (by decide) rfl (by decide) rfl rfl (by decide) (Nat.le_of_ble_eq_true rfl) (Nat.le_of_ble_eq_true rfl) qw_8e969fb20a qw_a119aeeca0 rfl rfl (by decide +kernel) dModel_init_58 dModel_init_60 (fun H locs hP hD hS hz => ?_)
  refine lv_aload_n hx hb dModel_init_63 rfl (lv_at hl 0 rfl) ?_
  refine lv_sipush (v := 10000) hx hb dModel_init_64 (by decide) ?_
  refine mi_int (V := (upd (fun _ => 0) 1 (-1))) (j := 6) (k := 10) S hnm hC hP hD hS hA hz rfl (by decide) (by decide) rfl (by decide) rfl rfl (by decide) (Nat.le_of_ble_eq_true rfl) (Nat.le_of_ble_eq_true rfl) qw_8e969fb20a qw_bd0251c605 rfl rfl (by decide +kernel) dModel_init_67 dModel_init_69 (fun H locs hP hD hS hz => ?_)
  refine lv_aload_n hx hb dModel_init_72 rfl (lv_at hl 0 rfl) ?_
  refine lv_sipush (v := 10000) hx hb dModel_init_73 (by decide) ?_
  refine mi_boolean (V := (upd (fun _ => 0) 1 (-1))) (j := 7) (k := 11) S hnm hC hP hD hS hA hz rfl (by decide) (by decide) rfl (by decide) rfl rfl (by decide) (Nat.le_of_ble_eq_true rfl) (Nat.le_of_ble_eq_true rfl) qw_14bcb724a4 qw_88b9028ba7 rfl rfl (by decide +kernel) dModel_init_76 dModel_init_78 (fun H locs hP hD hS hz => ?_)
  refine lv_aload_n hx hb dModel_init_81 rfl (lv_at hl 0 rfl) ?_
  refine lv_sipush (v := 10000) hx hb dModel_init_82 (by decide) ?_
  refine mi_int (V := (upd (fun _ => 0) 1 (-1))) (j := 8) (k := 12) S hnm hC hP hD hS hA hz rfl (by decide) (by decide) rfl (by decide) rfl rfl (by decide) (Nat.le_of_ble_eq_true rfl) (Nat.le_of_ble_eq_true rfl) qw_8e969fb20a qw_19df235c4a rfl rfl (by decide +kernel) dModel_init_85 dModel_init_87 (fun H locs hP hD hS hz => ?_)
  refine lv_aload_n hx hb dModel_init_90 rfl (lv_at hl 0 rfl) ?_
  refine lv_sipush (v := 10000) hx hb dModel_init_91 (by decide) ?_
  refine mi_long (V := (upd (fun _ => 0) 1 (-1))) (j := 9) (k := 13) S hnm hC hP hD hS hA hz rfl (by decide) (by decide) rfl (by decide) rfl rfl (by decide) (Nat.le_of_ble_eq_true rfl) (Nat.le_of_ble_eq_true rfl) qw_6933bd775d qw_7b809afc8c rfl rfl (by decide +kernel) dModel_init_94 dModel_init_96 (fun H locs hP hD hS hz => ?_)
  refine lv_aload_n hx hb dModel_init_99 rfl (lv_at hl 0 rfl) ?_
  refine lv_ldc (v := 640000) hx hb hown (hW _ qw_ac0cfedea6) dModel_init_100 ?_
  refine mi_byte (V := (upd (fun _ => 0) 1 (-1))) (j := 10) (k := 14) S hnm hC hP hD hS hA hz rfl (by decide) (by decide) rfl (by decide) rfl rfl (by decide) (Nat.le_of_ble_eq_true rfl) (Nat.le_of_ble_eq_true rfl) qw_542fcd69e5 qw_e487507e04 rfl rfl (by decide +kernel) dModel_init_102 dModel_init_104 (fun H locs hP hD hS hz => ?_)
  refine lv_aload_n hx hb dModel_init_107 rfl (lv_at hl 0 rfl) ?_
  refine lv_sipush (v := 4000) hx hb dModel_init_108 (by decide) ?_
  refine mi_boolean (V := (upd (fun _ => 0) 1 (-1))) (j := 11) (k := 15) S hnm hC hP hD hS hA hz rfl (by decide) (by decide) rfl (by decide) rfl rfl (by decide) (Nat.le_of_ble_eq_true rfl) (Nat.le_of_ble_eq_true rfl) qw_14bcb724a4 qw_bcd494e5c6 rfl rfl (by decide +kernel) dModel_init_111 dModel_init_113 (fun H locs hP hD hS hz => ?_)
  refine lv_aload_n hx hb dModel_init_116 rfl (lv_at hl 0 rfl) ?_
  refine lv_sipush (v := 1000) hx hb dModel_init_117 (by decide) ?_
  refine mi_int (V := (upd (fun _ => 0) 1 (-1))) (j := 12) (k := 16) S hnm hC hP hD hS hA hz rfl (by decide) (by decide) rfl (by decide) rfl rfl (by decide) (Nat.le_of_ble_eq_true rfl) (Nat.le_of_ble_eq_true rfl) qw_8e969fb20a qw_9bd8ea24bb rfl rfl (by decide +kernel) dModel_init_120 dModel_init_122 (fun H locs hP hD hS hz => ?_)
  refine lv_aload_n hx hb dModel_init_125 rfl (lv_at hl 0 rfl) ?_
  refine lv_sipush (v := 1000) hx hb dModel_init_126 (by decide) ?_
  refine mi_int (V := (upd (fun _ => 0) 1 (-1))) (j := 13) (k := 17) S hnm hC hP hD hS hA hz rfl (by decide) (by decide) rfl (by decide) rfl rfl (by decide) (Nat.le_of_ble_eq_true rfl) (Nat.le_of_ble_eq_true rfl) qw_8e969fb20a qw_94306de345 rfl rfl (by decide +kernel) dModel_init_129 dModel_init_131 (fun H locs hP hD hS hz => ?_)
  refine lv_aload_n hx hb dModel_init_134 rfl (lv_at hl 0 rfl) ?_
  refine lv_sipush (v := 1000) hx hb dModel_init_135 (by decide) ?_
  refine mi_int (V := (upd (fun _ => 0) 1 (-1))) (j := 14) (k := 18) S hnm hC hP hD hS hA hz rfl (by decide) (by decide) rfl (by decide) rfl rfl (by decide) (Nat.le_of_ble_eq_true rfl) (Nat.le_of_ble_eq_true rfl) qw_8e969fb20a qw_82ee92f611 rfl rfl (by decide +kernel) dModel_init_138 dModel_init_140 (fun H locs hP hD hS hz => ?_)
  refine lv_aload_n hx hb dModel_init_143 rfl (lv_at hl 0 rfl) ?_
  refine lv_sipush (v := 1000) hx hb dModel_init_144 (by decide) ?_
  refine mi_int (V := (upd (fun _ => 0) 1 (-1))) (j := 15) (k := 19) S hnm hC hP hD hS hA hz rfl (by decide) (by decide) rfl (by decide) rfl rfl (by decide) (Nat.le_of_ble_eq_true rfl) (Nat.le_of_ble_eq_true rfl) qw_8e969fb20a qw_c139dbceda rfl rfl (by decide +kernel) dModel_init_147 dModel_init_149 (fun H locs hP hD hS hz => ?_)
  refine lv_aload_n hx hb dModel_init_152 rfl (lv_at hl 0 rfl) ?_
  refine lv_sipush (v := 1000) hx hb dModel_init_153 (by decide) ?_
  refine mi_boolean (V := (upd (fun _ => 0) 1 (-1))) (j := 16) (k := 20) S hnm hC hP hD hS hA hz rfl (by decide) (by decide) rfl (by decide) rfl rfl (by decide) (Nat.le_of_ble_eq_true rfl) (Nat.le_of_ble_eq_true rfl) qw_14bcb724a4 qw_1579022aeb rfl rfl (by decide +kernel) dModel_init_156 dModel_init_158 (fun H locs hP hD hS hz => ?_)
  refine lv_aload_n hx hb dModel_init_161 rfl (lv_at hl 0 rfl) ?_
  refine lv_sipush (v := 2000) hx hb dModel_init_162 (by decide) ?_
  refine mi_int (V := (upd (fun _ => 0) 1 (-1))) (j := 17) (k := 22) S hnm hC hP hD hS hA hz rfl (by decide) (by decide) rfl (by decide) rfl rfl (by decide) (Nat.le_of_ble_eq_true rfl) (Nat.le_of_ble_eq_true rfl) qw_8e969fb20a qw_50c5849686 rfl rfl (by decide +kernel) dModel_init_165 dModel_init_167 (fun H locs hP hD hS hz => ?_)
  refine lv_aload_n hx hb dModel_init_170 rfl (lv_at hl 0 rfl) ?_
  refine lv_sipush (v := 2000) hx hb dModel_init_171 (by decide) ?_
  refine mi_int (V := (upd (fun _ => 0) 1 (-1))) (j := 18) (k := 23) S hnm hC hP hD hS hA hz rfl (by decide) (by decide) rfl (by decide) rfl rfl (by decide) (Nat.le_of_ble_eq_true rfl) (Nat.le_of_ble_eq_true rfl) qw_8e969fb20a qw_bd9bcb35cb rfl rfl (by decide +kernel) dModel_init_174 dModel_init_176 (fun H locs hP hD hS hz => ?_)
  refine lv_aload_n hx hb dModel_init_179 rfl (lv_at hl 0 rfl) ?_
  refine lv_sipush (v := 3000) hx hb dModel_init_180 (by decide) ?_
  refine mi_int (V := (upd (fun _ => 0) 1 (-1))) (j := 19) (k := 25) S hnm hC hP hD hS hA hz rfl (by decide) (by decide) rfl (by decide) rfl rfl (by decide) (Nat.le_of_ble_eq_true rfl) (Nat.le_of_ble_eq_true rfl) qw_8e969fb20a qw_0f8ce80864 rfl rfl (by decide +kernel) dModel_init_183 dModel_init_185 (fun H locs hP hD hS hz => ?_)
  refine lv_aload_n hx hb dModel_init_188 rfl (lv_at hl 0 rfl) ?_
  refine lv_sipush (v := 3000) hx hb dModel_init_189 (by decide) ?_
  refine mi_int (V := (upd (fun _ => 0) 1 (-1))) (j := 20) (k := 26) S hnm hC hP hD hS hA hz rfl (by decide) (by decide) rfl (by decide) rfl rfl (by decide) (Nat.le_of_ble_eq_true rfl) (Nat.le_of_ble_eq_true rfl) qw_8e969fb20a qw_e95de6bb1e rfl rfl (by decide +kernel) dModel_init_192 dModel_init_194 (fun H locs hP hD hS hz => ?_)
  refine lv_aload_n hx hb dModel_init_197 rfl (lv_at hl 0 rfl) ?_
  refine lv_sipush (v := 3000) hx hb dModel_init_198 (by decide) ?_
  refine mi_int (V := (upd (fun _ => 0) 1 (-1))) (j := 21) (k := 27) S hnm hC hP hD hS hA hz rfl (by decide) (by decide) rfl (by decide) rfl rfl (by decide) (Nat.le_of_ble_eq_true rfl) (Nat.le_of_ble_eq_true rfl) qw_8e969fb20a qw_5b2f86bc41 rfl rfl (by decide +kernel) dModel_init_201 dModel_init_203 (fun H locs hP hD hS hz => ?_)
  refine lv_aload_n hx hb dModel_init_206 rfl (lv_at hl 0 rfl) ?_
  refine lv_sipush (v := 3000) hx hb dModel_init_207 (by decide) ?_
  refine mi_int (V := (upd (fun _ => 0) 1 (-1))) (j := 22) (k := 28) S hnm hC hP hD hS hA hz rfl (by decide) (by decide) rfl (by decide) rfl rfl (by decide) (Nat.le_of_ble_eq_true rfl) (Nat.le_of_ble_eq_true rfl) qw_8e969fb20a qw_73fdadc701 rfl rfl (by decide +kernel) dModel_init_210 dModel_init_212 (fun H locs hP hD hS hz => ?_)
  refine lv_aload_n hx hb dModel_init_215 rfl (lv_at hl 0 rfl) ?_
  refine lv_sipush (v := 3000) hx hb dModel_init_216 (by decide) ?_
  refine mi_int (V := (upd (fun _ => 0) 1 (-1))) (j := 23) (k := 29) S hnm hC hP hD hS hA hz rfl (by decide) (by decide) rfl (by decide) rfl rfl (by decide) (Nat.le_of_ble_eq_true rfl) (Nat.le_of_ble_eq_true rfl) qw_8e969fb20a qw_6551c8877a rfl rfl (by decide +kernel) dModel_init_219 dModel_init_221 (fun H locs hP hD hS hz => ?_)
  rw [wsI_all] at hP hD
  refine lv_aload_n hx hb dModel_init_224 rfl (lv_at hl 0 rfl) ?_
  refine lv_iconst (v := 1) hx hb dModel_init_225 (by decide) ?_
  refine mb_pI (Z := (fun q => a ≤ q)) S hC ⟨hP, hD⟩ hS 31 (by decide) rfl qw_e3979b88d4 rfl (by decide +kernel) dModel_init_226 (fun H locs hMb hS => ?_)
  have hM := md_of hMb
  refine W.up (k := 24) (n := 738000) (Nat.le_of_ble_eq_true rfl) (Nat.le_of_ble_eq_true rfl) ?_
  obtain ⟨κ0, hT0, h2_0, h5_0⟩ : ∃ κ0 : Nat → Nat, ST κ0 (fun _ => 0) (fun _ => 0) (upd (upd (fun _ => 0) 1 (-1)) 31 1) (fun _ _ => 0) ∧ κ0 2 = 0 ∧ κ0 5 = 1 ∧ κ0 0 = 0 ∧ κ0 1 = 0 ∧ κ0 3 = 0 ∧ κ0 4 = 0 := ⟨_, mi_st, rfl, rfl, rfl, rfl, rfl, rfl⟩
  obtain ⟨V2, hV2, hV0⟩ : ∃ V2 : Nat → Int32, V2 = (upd (upd (fun _ => 0) 1 (-1)) 31 1) ∧ (V2 0 = 0 ∧ V2 32 = 0) := ⟨_, rfl, rfl, rfl⟩
  rw [← hV2] at hM hT0
  refine lv_aload_n hx hb dModel_init_229 rfl (lv_at hl 0 rfl) ?_
  refine lv_iconst (v := 0) hx hb dModel_init_230 (by decide) ?_
  refine lv_iconst (v := 0) hx hb dModel_init_231 (by decide) ?_
  refine lv_iconst (v := 0) hx hb dModel_init_232 (by decide) ?_
  refine lv_iconst (v := 0) hx hb dModel_init_233 (by decide) ?_
  refine lv_iconst (v := 0) hx hb dModel_init_234 (by decide) ?_
  refine mu_Vi (rest := []) S hC (fun q h => hA q (Nat.le_trans hS.1 h)) (fun q h => h) hS (n_newType l γ a (B0 a) (fun q => a ≤ q) κ0 (fun _ => 0) (fun _ => 0) V2 (fun _ _ => 0) V2 (fun _ _ => 0) (fun _ => 0) hT0 0 0 0 0 0 (by rw [h2_0]; decide) (fun h9 => absurd h9 (by decide))) meModel_newType qw_90495fa5dd ⟨Nat.le_of_ble_eq_true rfl, Nat.le_of_ble_eq_true rfl⟩ (md_rv hC hM) hM rfl hl.1 rfl (Nat.le_of_ble_eq_true rfl) dModel_init_235 ⟨Nat.le_of_ble_eq_true rfl, Nat.le_of_ble_eq_true rfl⟩ (fun r0 H locs hPO hS _ _ => ?_)
  obtain ⟨_, ν0, τ0, hO0, hM, hT1⟩ := hPO
  have hτ0 : τ0 = NTy 0 (fun _ _ => 0) 0 0 0 0 0 := nt_ty (by decide) h2_0 hO0
  obtain ⟨κ1, hκ1⟩ : ∃ z : Nat → Nat, z = ku κ0 2 (κ0 2 + 1) := ⟨_, rfl⟩
  rw [← hκ1] at hT1
  have h2_1 : κ1 2 = 1 := (by rw [hκ1]; show κ0 2 + 1 = _; rw [h2_0])
  have h5_1 : κ1 5 = 1 ∧ κ1 0 = 0 ∧ κ1 1 = 0 ∧ κ1 3 = 0 ∧ κ1 4 = 0 := (by rw [hκ1]; exact h5_0)
  refine lv_pop hx hb dModel_init_238 rfl ?_
  refine lv_aload_n hx hb dModel_init_239 rfl (lv_at hl 0 rfl) ?_
  refine lv_iconst (v := 1) hx hb dModel_init_240 (by decide) ?_
  refine lv_iconst (v := 0) hx hb dModel_init_241 (by decide) ?_
  refine lv_iconst (v := 0) hx hb dModel_init_242 (by decide) ?_
  refine lv_iconst (v := 0) hx hb dModel_init_243 (by decide) ?_
  refine lv_iconst (v := 0) hx hb dModel_init_244 (by decide) ?_
  refine mu_Vi (rest := []) S hC (fun q h => hA q (Nat.le_trans hS.1 h)) (fun q h => h) hS (n_newType l γ a (B0 a) (fun q => a ≤ q) κ1 (fun _ => 0) (fun _ => 0) ν0 τ0 V2 (fun _ _ => 0) (fun _ => 0) hT1 1 0 0 0 0 (by rw [h2_1]; decide) (fun h9 => absurd h9 (by decide))) meModel_newType qw_90495fa5dd ⟨Nat.le_of_ble_eq_true rfl, Nat.le_of_ble_eq_true rfl⟩ (md_rv hC hM) hM rfl hl.1 rfl (Nat.le_of_ble_eq_true rfl) dModel_init_245 ⟨Nat.le_of_ble_eq_true rfl, Nat.le_of_ble_eq_true rfl⟩ (fun r1 H locs hPO hS _ _ => ?_)
  obtain ⟨_, ν1, τ1, hO1, hM, hT2⟩ := hPO
  have hτ1 : τ1 = NTy 1 τ0 1 0 0 0 0 := nt_ty (by decide) h2_1 hO1
  obtain ⟨κ2, hκ2⟩ : ∃ z : Nat → Nat, z = ku κ1 2 (κ1 2 + 1) := ⟨_, rfl⟩
  rw [← hκ2] at hT2
  have h2_2 : κ2 2 = 2 := (by rw [hκ2]; show κ1 2 + 1 = _; rw [h2_1])
  have h5_2 : κ2 5 = 1 ∧ κ2 0 = 0 ∧ κ2 1 = 0 ∧ κ2 3 = 0 ∧ κ2 4 = 0 := (by rw [hκ2]; exact h5_1)
  refine lv_pop hx hb dModel_init_248 rfl ?_
  refine lv_aload_n hx hb dModel_init_249 rfl (lv_at hl 0 rfl) ?_
  refine lv_iconst (v := 2) hx hb dModel_init_250 (by decide) ?_
  refine lv_ldc (v := (-2147483647)) hx hb hown (hW _ qw_935637abc2) dModel_init_251 ?_
  refine lv_ldc (v := 2147483647) hx hb hown (hW _ qw_56a015b2eb) dModel_init_253 ?_
  refine lv_iconst (v := 0) hx hb dModel_init_255 (by decide) ?_
  refine lv_iconst (v := 0) hx hb dModel_init_256 (by decide) ?_
  refine mu_Vi (rest := []) S hC (fun q h => hA q (Nat.le_trans hS.1 h)) (fun q h => h) hS (n_newType l γ a (B0 a) (fun q => a ≤ q) κ2 (fun _ => 0) (fun _ => 0) ν1 τ1 V2 (fun _ _ => 0) (fun _ => 0) hT2 2 (-2147483647) 2147483647 0 0 (by rw [h2_2]; decide) (fun h9 => absurd h9 (by decide))) meModel_newType qw_90495fa5dd ⟨Nat.le_of_ble_eq_true rfl, Nat.le_of_ble_eq_true rfl⟩ (md_rv hC hM) hM rfl hl.1 rfl (Nat.le_of_ble_eq_true rfl) dModel_init_257 ⟨Nat.le_of_ble_eq_true rfl, Nat.le_of_ble_eq_true rfl⟩ (fun r2 H locs hPO hS _ _ => ?_)
  obtain ⟨_, ν2, τ2, hO2, hM, hT3⟩ := hPO
  have hτ2 : τ2 = NTy 2 τ1 2 (-2147483647) 2147483647 0 0 := nt_ty (by decide) h2_2 hO2
  obtain ⟨κ3, hκ3⟩ : ∃ z : Nat → Nat, z = ku κ2 2 (κ2 2 + 1) := ⟨_, rfl⟩
  rw [← hκ3] at hT3
  have h2_3 : κ3 2 = 3 := (by rw [hκ3]; show κ2 2 + 1 = _; rw [h2_2])
  have h5_3 : κ3 5 = 1 ∧ κ3 0 = 0 ∧ κ3 1 = 0 ∧ κ3 3 = 0 ∧ κ3 4 = 0 := (by rw [hκ3]; exact h5_2)
  refine lv_pop hx hb dModel_init_260 rfl ?_
  refine lv_aload_n hx hb dModel_init_261 rfl (lv_at hl 0 rfl) ?_
  refine lv_iconst (v := 2) hx hb dModel_init_262 (by decide) ?_
  refine lv_iconst (v := 0) hx hb dModel_init_263 (by decide) ?_
  refine lv_ldc (v := 2147483647) hx hb hown (hW _ qw_56a015b2eb) dModel_init_264 ?_
  refine lv_iconst (v := 0) hx hb dModel_init_266 (by decide) ?_
  refine lv_iconst (v := 0) hx hb dModel_init_267 (by decide) ?_
  refine mu_Vi (rest := []) S hC (fun q h => hA q (Nat.le_trans hS.1 h)) (fun q h => h) hS (n_newType l γ a (B0 a) (fun q => a ≤ q) κ3 (fun _ => 0) (fun _ => 0) ν2 τ2 V2 (fun _ _ => 0) (fun _ => 0) hT3 2 0 2147483647 0 0 (by rw [h2_3]; decide) (fun h9 => absurd h9 (by decide))) meModel_newType qw_90495fa5dd ⟨Nat.le_of_ble_eq_true rfl, Nat.le_of_ble_eq_true rfl⟩ (md_rv hC hM) hM rfl hl.1 rfl (Nat.le_of_ble_eq_true rfl) dModel_init_268 ⟨Nat.le_of_ble_eq_true rfl, Nat.le_of_ble_eq_true rfl⟩ (fun r3 H locs hPO hS _ _ => ?_)
  obtain ⟨_, ν3, τ3, hO3, hM, hT4⟩ := hPO
  have hτ3 : τ3 = NTy 3 τ2 2 0 2147483647 0 0 := nt_ty (by decide) h2_3 hO3
  obtain ⟨κ4, hκ4⟩ : ∃ z : Nat → Nat, z = ku κ3 2 (κ3 2 + 1) := ⟨_, rfl⟩
  rw [← hκ4] at hT4
  have h2_4 : κ4 2 = 4 := (by rw [hκ4]; show κ3 2 + 1 = _; rw [h2_3])
  have h5_4 : κ4 5 = 1 ∧ κ4 0 = 0 ∧ κ4 1 = 0 ∧ κ4 3 = 0 ∧ κ4 4 = 0 := (by rw [hκ4]; exact h5_3)
  refine lv_pop hx hb dModel_init_271 rfl ?_
  refine lv_aload_n hx hb dModel_init_272 rfl (lv_at hl 0 rfl) ?_
  refine lv_iconst (v := 2) hx hb dModel_init_273 (by decide) ?_
  refine lv_iconst (v := 1) hx hb dModel_init_274 (by decide) ?_
  refine lv_ldc (v := 2147483647) hx hb hown (hW _ qw_56a015b2eb) dModel_init_275 ?_
  refine lv_iconst (v := 0) hx hb dModel_init_277 (by decide) ?_
  refine lv_iconst (v := 0) hx hb dModel_init_278 (by decide) ?_
  refine mu_Vi (rest := []) S hC (fun q h => hA q (Nat.le_trans hS.1 h)) (fun q h => h) hS (n_newType l γ a (B0 a) (fun q => a ≤ q) κ4 (fun _ => 0) (fun _ => 0) ν3 τ3 V2 (fun _ _ => 0) (fun _ => 0) hT4 2 1 2147483647 0 0 (by rw [h2_4]; decide) (fun h9 => absurd h9 (by decide))) meModel_newType qw_90495fa5dd ⟨Nat.le_of_ble_eq_true rfl, Nat.le_of_ble_eq_true rfl⟩ (md_rv hC hM) hM rfl hl.1 rfl (Nat.le_of_ble_eq_true rfl) dModel_init_279 ⟨Nat.le_of_ble_eq_true rfl, Nat.le_of_ble_eq_true rfl⟩ (fun r4 H locs hPO hS _ _ => ?_)
  obtain ⟨_, ν4, τ4, hO4, hM, hT5⟩ := hPO
  have hτ4 : τ4 = NTy 4 τ3 2 1 2147483647 0 0 := nt_ty (by decide) h2_4 hO4
  obtain ⟨κ5, hκ5⟩ : ∃ z : Nat → Nat, z = ku κ4 2 (κ4 2 + 1) := ⟨_, rfl⟩
  rw [← hκ5] at hT5
  have h2_5 : κ5 2 = 5 := (by rw [hκ5]; show κ4 2 + 1 = _; rw [h2_4])
  have h5_5 : κ5 5 = 1 ∧ κ5 0 = 0 ∧ κ5 1 = 0 ∧ κ5 3 = 0 ∧ κ5 4 = 0 := (by rw [hκ5]; exact h5_4)
  refine lv_pop hx hb dModel_init_282 rfl ?_
  refine hE _ _ _ _ _ _ hS (Nat.le_of_ble_eq_true rfl) (Nat.le_of_ble_eq_true rfl) (fun hG => ?_) dModel_init_283
  have hz1 := hG.2.1
  have hz2 := md_sz hM
  refine ⟨⟨κ5, τ4, V2, h2_5, h5_5, ?_, (fun _ => 0), (fun _ => 0), ν4, hT5, sz_0, fd_0 hV0.2, gd_0, hM⟩, sz_25 hz1 rfl hz00 hz2⟩
  rw [hτ4, hτ3, hτ2, hτ1, hτ0]
  rfl
-- what both sides hold as they are made
theorem ni_r {f9 : Nat → Int32} (h9 : ∀ c, c < 256 → f9 c = -1) : ∀ j, j ≤ 12 → CHN (NI f9 j) j ∧ ∀ e, e < j → NI f9 j 0 e = nI e ∧ NI f9 j 1 e = FS e ∧ NI f9 j 2 e = FN e ∧ NI f9 j 3 e = 0 := by
  intro j
  induction j with
  | zero =>
    intro _
    refine ⟨⟨fun c hc => ?_, fun e he => absurd he (Nat.not_lt_zero e)⟩, fun e he => absurd he (Nat.not_lt_zero e)⟩
    show f9 c = -1
    exact h9 c hc
  | succ j ih =>
    intro hj
    obtain ⟨h1, h2⟩ := ih (by omega)
    obtain ⟨a0, a1, a2, a3, a4, a5⟩ := pp_put (N := j) (sc := 1) (L := 64) (f := NI f9 j) (x1 := nI j) (x2 := FS j) (x3 := FN j) (x4 := 0) (by omega) (by omega)
    have e0 : NI f9 (j + 1) = P_Names_put j 1 64 (NI f9 j) (nI j) (FS j) (FN j) 0 := rfl
    rw [e0]
    refine ⟨CHN_put (by omega) (by omega) h1, fun e he => ?_⟩
    by_cases h9 : e = j
    · subst h9; exact ⟨a1, a2, a3, a4⟩
    · have he' : e < j := by omega
      rw [a0 0 e (by decide) he', a0 1 e (by decide) he', a0 2 e (by decide) he', a0 3 e (by decide) he']
      exact h2 e he'
theorem nx_n {f9 : Nat → Int32} {q : Nat} (h : ¬ q = 6) : NX f9 q = NI f9 12 q := if_neg h
theorem nx_6 {f9 : Nat → Int32} : NX f9 6 0 = nI 12 := by
  unfold NX Au
  rw [if_pos rfl]
  exact if_pos rfl
theorem nm_first : ∀ e, e < 12 → NMr (FS e) (FN e) 0 (d32 (nI e)) (d33 (nI e)) 0 := by
  intro e he
  rcases (show e = 0 ∨ e = 1 ∨ e = 2 ∨ e = 3 ∨ e = 4 ∨ e = 5 ∨ e = 6 ∨ e = 7 ∨ e = 8 ∨ e = 9 ∨ e = 10 ∨ e = 11 by omega) with h | h | h | h | h | h | h | h | h | h | h | h <;> subst h <;> unfold NMr <;> decide +kernel
theorem ti_5 : ∀ t, t < 5 → TI5 0 t = TM 16 t ∧ TI5 1 t = TM 17 t ∧ TI5 2 t = TM 18 t ∧ TI5 3 t = 0 ∧ TM 19 t = 0 ∧ TM 20 t = 0 ∧ (TM 16 t = 0 ∨ TM 16 t = 1 ∨ TM 16 t = 2) := by
  intro t ht
  rcases (show t = 0 ∨ t = 1 ∨ t = 2 ∨ t = 3 ∨ t = 4 by omega) with h | h | h | h | h <;> subst h <;> decide +kernel
theorem rx_start {φ : gF} {ψ : gG} {κm : Nat → Nat} {τ F : gf} {nu : gg} {f9 : Nat → Int32} (hf9 : ∀ c, c < 256 → f9 c = -1) (h3 : φ 3 = NX f9) (h4 : φ 4 = TI5) (hk2 : κm 2 = 5) (hk : κm 5 = 1 ∧ κm 0 = 0 ∧ κm 1 = 0 ∧ κm 3 = 0 ∧ κm 4 = 0) (hτ : τ = TM) : RX κT φ ψ κm τ F nu := by
  obtain ⟨k5, k0, k1, k3, k4⟩ := hk
  obtain ⟨n1, n2⟩ := ni_r hf9 12 (Nat.le_refl _)
  have e5 : (12 : Nat) < 2 ^ 31 := by decide
  refine ⟨⟨?_, ⟨?_, ?_, ?_⟩, ⟨?_, ?_, ?_, ?_, ?_, ?_, ?_, ?_, ?_⟩, ?_, ⟨?_, ?_, ?_, ?_⟩, ?_, ?_, ?_⟩, ?_, ?_, ?_, ?_⟩
  · show 12 ≤ 8192; omega
  · rw [k0]; rfl
  · intro k hk; exact absurd hk (Nat.not_lt_zero k)
  · intro k hk; exact absurd hk (Nat.not_lt_zero k)
  · rw [k4]; rfl
  · rw [k5]; rfl
  · omega
  · show CHN (φ 3) 12
    rw [h3]
    unfold CHN
    rw [nx_n (by decide), nx_n (by decide), nx_n (by decide)]
    exact n1
  · intro e he
    rw [h3, nx_n (by decide), nx_n (by decide), nx_n (by decide), nx_n (by decide)]
    obtain ⟨a0, a1, a2, a3⟩ := n2 e he
    rw [a0, a1, a2, a3]
    exact ⟨rfl, nm_first e he⟩
  · intro i hi; omega
  · intro i hi; omega
  · rw [h3]; exact nx_6
  · intro s hs
    obtain rfl : s = 0 := by omega
    exact ⟨12, Nat.le_refl _, by rw [h3]; exact nx_6⟩
  · intro i hi; omega
  · rw [hk2]; rfl
  · omega
  · omega
  · intro t ht
    have ht : t < 5 := ht
    obtain ⟨a0, a1, a2, a3, a4, a5, a6⟩ := ti_5 t ht
    rw [h4, hτ, a0, a1, a2, a3, a4, a5]
    refine ⟨rfl, rfl, rfl, rfl, rfl, ?_, fun h => ?_⟩
    · rcases a6 with h | h | h
      · exact Or.inl h
      · exact Or.inr (Or.inl h)
      · exact Or.inr (Or.inr (Or.inl h))
    · rcases a6 with h1 | h1 | h1 <;> rw [h1] at h <;> exact absurd h (by decide)
  · rw [k3]; rfl
  · omega
  · intro o ho; exact absurd ho (Nat.not_lt_zero o)
  · intro s hs
    obtain rfl : s = 0 := by omega
    exact ⟨12, Nat.le_refl _, e5, by rw [h3]; exact nx_6⟩
  · intro o _ _
    rw [hτ]
    show ¬ (0 : Int32) = 1
    decide
  · rw [k1]; rfl
  · show (0 : Nat) ≤ 64 ∧ (0 : Nat) ≤ 64 ∧ (0 : Nat) ≤ 64 ∧ (0 : Nat) ≤ 64 ∧ (0 : Nat) ≤ 64 ∧ (0 : Nat) ≤ 16
    omega
