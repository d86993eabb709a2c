theorem qw_77ca0da9d6 : (Cond.methodLink R_TypeBook 1 Lib.objectInit) ∈ bs_W0 := bs_in (in_tables_1_1 (List.mem_of_getElem? (i := 29) rfl)) rfl
theorem qw_f6e6c98d3f : (Cond.classLink R_TypeBook 7 R_Trees) ∈ bs_W0 := bs_in (in_tables_1_1 (List.mem_of_getElem? (i := 32) rfl)) rfl
theorem qw_728b969c31 : (Cond.instantiable R_Trees 6) ∈ bs_W0 := bs_in (in_tables_1_1 (List.mem_of_getElem? (i := 33) rfl)) rfl
theorem qw_03679b470b : (Cond.initialized R_Trees) ∈ bs_W0 := bs_in (in_tables_1_1 (List.mem_of_getElem? (i := 2) rfl)) rfl
theorem qn_3f7204588e : (Cond.methodLinkNest R_TypeBook 9 yTrees_init "TypeBook") ∈ lw_tbl := in_tables_1_1 (List.mem_of_getElem? (i := 34) rfl)
theorem qw_5869ee7718 : (Cond.classLink R_TypeBook 16 R_Names) ∈ bs_W0 := bs_in (in_tables_1_1 (List.mem_of_getElem? (i := 60) rfl)) rfl
theorem qw_0fe9ef37a0 : (Cond.instantiable R_Names 9) ∈ bs_W0 := bs_in (in_tables_1_1 (List.mem_of_getElem? (i := 61) rfl)) rfl
theorem qw_59cecfe9cd : (Cond.initialized R_Names) ∈ bs_W0 := bs_in (in_tables_1_1 (List.mem_of_getElem? (i := 3) rfl)) rfl
theorem qw_e3502542dd : (Cond.methodLink R_TypeBook 18 yNames_init) ∈ bs_W0 := bs_in (in_tables_1_1 (List.mem_of_getElem? (i := 62) rfl)) rfl
theorem qw_b43be4bd43 : (Cond.classLink R_TypeBook 23 R_Types) ∈ bs_W0 := bs_in (in_tables_1_1 (List.mem_of_getElem? (i := 128) rfl)) rfl
theorem qw_3790227522 : (Cond.instantiable R_Types 5) ∈ bs_W0 := bs_in (in_tables_1_1 (List.mem_of_getElem? (i := 129) rfl)) rfl
theorem qw_bdae26afb0 : (Cond.initialized R_Types) ∈ bs_W0 := bs_in (in_tables_1_1 (List.mem_of_getElem? (i := 7) rfl)) rfl
theorem qw_bbc4b7e74b : (Cond.methodLink R_TypeBook 25 yTypes_init) ∈ bs_W0 := bs_in (in_tables_1_1 (List.mem_of_getElem? (i := 130) rfl)) rfl
theorem qw_cecb0f06f4 : (Cond.classLink R_TypeBook 30 R_Objects) ∈ bs_W0 := bs_in (in_tables_1_1 (List.mem_of_getElem? (i := 158) rfl)) rfl
theorem qw_faf701598a : (Cond.instantiable R_Objects 5) ∈ bs_W0 := bs_in (in_tables_1_1 (List.mem_of_getElem? (i := 159) rfl)) rfl
theorem qw_278e47cc10 : (Cond.initialized R_Objects) ∈ bs_W0 := bs_in (in_tables_1_1 (List.mem_of_getElem? (i := 8) rfl)) rfl
theorem qn_8cbb55c35c : (Cond.methodLinkNest R_TypeBook 32 yObjects_init "TypeBook") ∈ lw_tbl := in_tables_1_1 (List.mem_of_getElem? (i := 160) rfl)
theorem qw_b3c5038eb4 : (Cond.classLink R_TypeBook 37 R_Looks) ∈ bs_W0 := bs_in (in_tables_1_1 (List.mem_of_getElem? (i := 194) rfl)) rfl
theorem qn_bac56fcd2e : (Cond.methodLinkNest R_TypeBook 39 yLooks_init "TypeBook") ∈ lw_tbl := in_tables_1_1 (List.mem_of_getElem? (i := 196) rfl)
theorem qw_923158a9c5 : (Cond.classLink R_TypeBook 44 R_Looker) ∈ bs_W0 := bs_in (in_tables_1_1 (List.mem_of_getElem? (i := 226) rfl)) rfl
theorem qw_8c7395766b : (Cond.instantiable R_Looker 8) ∈ bs_W0 := bs_in (in_tables_1_1 (List.mem_of_getElem? (i := 227) rfl)) rfl
theorem qw_72ac24d81b : (Cond.initialized R_Looker) ∈ bs_W0 := bs_in (in_tables_1_1 (List.mem_of_getElem? (i := 11) rfl)) rfl
theorem qw_95d519e819 : (Cond.methodLink R_TypeBook 46 yLooker_init) ∈ bs_W0 := bs_in (in_tables_1_1 (List.mem_of_getElem? (i := 228) rfl)) rfl
set_option maxHeartbeats 4000000 in
set_option maxRecDepth 100000 in
theorem i_TypeBook2 (l : Launch) (γ : gE) (s0 : State) (hw0 : SW s0) (a : Nat) {p : Program} {e : Env} {s : State} {m : MethodId} {args : Array Value} {below : List Frame} {meth : Method} {c : Code} {ls : Array Slot} {Q : State → Prop} {H : Heap} {locs : List Loc} (S : bs_F p s m args c bTypeBook_init 1 R_TypeBook) (hnm : meth.name = yTypeBook_init.name) (hC : CX γ s) (hF0 : FB s0 s s.heap) (hA1 : s0.heap.size ≤ a) (hA : ∀ q, s.heap.size ≤ q → a ≤ q) (hE : ∀ (H : Heap) (locs : List Loc) (cells slots pc : Nat) (ls : Array Slot), va_S (fun q => a ≤ q) s.heap H locs → cells ≤ 44 → slots ≤ 2310 → (GR s.heap H cells slots → INV (γT γ a) (fun q => a ≤ q) κT H ∧ H.size = a + 45) → decode bTypeBook_init pc = .ok (.return_, 1) → W p l e (bs_rm 5 44 2310 149) s m args below meth c H locs cells slots Q (F0 m pc ls [])) (hl : lv_has ls 1 [(0, .ref a)]) (hS : va_S (fun q => a ≤ q) s.heap H locs) (hz : H.size = a + 33) (hP : va_P γ.1 vwCl [(a, .inr (0, [.ref (a + 1), .ref (a + 6), .ref (a + 14), .ref (a + 19), .ref (a + 25), .null, .int 0]))] H) (hD : va_D (fun q => a ≤ q) [(a, .inr (0, [.ref (a + 1), .ref (a + 6), .ref (a + 14), .ref (a + 19), .ref (a + 25), .null, .int 0]))]) (hc1 : cmp γ (fTrees γ (a + 1) 0 0 64) (iv (a + 1) (a + 6)) H) (hc6 : cmp γ (fNames γ (a + 6) 12 1 64) (iv (a + 6) (a + 14)) H) (hc14 : cmp γ (fTypes γ (a + 14) 5 16) (iv (a + 14) (a + 19)) H) (hc19 : cmp γ (fObjects γ (a + 19) (a + 23) 0 16) (iv (a + 19) (a + 23)) H) (hr19 : cmp γ (fRows γ (a + 23) 16) (iv (a + 23) (a + 25)) H) (hc25 : cmp γ (fLooks γ (a + 25) (a + 31) 64) (iv (a + 25) (a + 31)) H) (hr25 : cmp γ (fRows γ (a + 31) 64) (iv (a + 31) (a + 33)) H) : W p l e (bs_rm 5 44 2310 149) s m args below meth c H locs 32 1649 Q (F0 m 59 ls []) := by
  have hA0 : ∀ q, a ≤ q → s0.heap.size ≤ q := fun q h => Nat.le_trans hA1 h
  obtain ⟨hx, hb, hml, hown, hW⟩ := id S
  refine lv_aload_n hx hb dTypeBook_init_59 rfl (lv_at hl 0 rfl) ?_
  have hlw33 : ∀ (i : Nat) (x9 : Nat × va_E), ([(a, .inr (0, [.ref (a + 1), .ref (a + 6), .ref (a + 14), .ref (a + 19), .ref (a + 25), .null, .int 0]))] : va_W)[i]? = some x9 → x9.1 < a + 33 := fun i x9 hx9 => by rw [← hz]; exact (hP i x9 hx9).lt
  refine cw_new (fs := [.null, .null, .null, .null, .null, .null, .null, .int 0]) (C := R_Looker) (T := T_Looker) (N := 8) (ci := 7) S hC in_Looker t_Looker t_Looker_ok qw_923158a9c5 qw_8c7395766b qw_72ac24d81b rfl (fun j hj => by rcases (show j = 0 ∨ j = 1 ∨ j = 2 ∨ j = 3 ∨ j = 4 ∨ j = 5 ∨ j = 6 ∨ j = 7 by omega) with h | h | h | h | h | h | h | h <;> subst h <;> rfl) hP hS hA hz (Nat.le_of_ble_eq_true rfl) (Nat.le_of_ble_eq_true rfl) dTypeBook_init_60 (fun H hPn hP hS hz hk9 => ?_)
  have hz : H.size = a + 34 := hz
  have hc1 : cmp γ (fTrees γ (a + 1) 0 0 64) (iv (a + 1) (a + 6)) _ := iv_kept hc1 (fun q k1 k2 k3 => hk9 q (by omega))
  have hc6 : cmp γ (fNames γ (a + 6) 12 1 64) (iv (a + 6) (a + 14)) _ := iv_kept hc6 (fun q k1 k2 k3 => hk9 q (by omega))
  have hc14 : cmp γ (fTypes γ (a + 14) 5 16) (iv (a + 14) (a + 19)) _ := iv_kept hc14 (fun q k1 k2 k3 => hk9 q (by omega))
  have hc19 : cmp γ (fObjects γ (a + 19) (a + 23) 0 16) (iv (a + 19) (a + 23)) _ := iv_kept hc19 (fun q k1 k2 k3 => hk9 q (by omega))
  have hr19 : cmp γ (fRows γ (a + 23) 16) (iv (a + 23) (a + 25)) _ := iv_kept hr19 (fun q k1 k2 k3 => hk9 q (by omega))
  have hc25 : cmp γ (fLooks γ (a + 25) (a + 31) 64) (iv (a + 25) (a + 31)) _ := iv_kept hc25 (fun q k1 k2 k3 => hk9 q (by omega))
  have hr25 : cmp γ (fRows γ (a + 31) 64) (iv (a + 31) (a + 33)) _ := iv_kept hr25 (fun q k1 k2 k3 => hk9 q (by omega))
  refine lv_dup hx hb dTypeBook_init_63 rfl ?_
  refine lv_aload_n hx hb dTypeBook_init_64 rfl (lv_at hl 0 rfl) ?_
  refine va_get (D := γ.1) (ci := 0) (v := .ref (a + 1)) (C := R_TypeBook) (T := T_TypeBook) (N := 7) (Ts := bs_W0) hx hb hW in_TypeBook hown hC.1 hP 0 rfl rfl 0 (by decide) (hW _ qw_6151ee7924) (fun _ h9 => h9) rfl dTypeBook_init_65 ?_
  refine lv_aload_n hx hb dTypeBook_init_68 rfl (lv_at hl 0 rfl) ?_
  refine va_get (D := γ.1) (ci := 0) (v := .ref (a + 6)) (C := R_TypeBook) (T := T_TypeBook) (N := 7) (Ts := bs_W0) hx hb hW in_TypeBook hown hC.1 hP 0 rfl rfl 1 (by decide) (hW _ qw_a088f6ef48) (fun _ h9 => h9) rfl dTypeBook_init_69 ?_
  refine lv_aload_n hx hb dTypeBook_init_72 rfl (lv_at hl 0 rfl) ?_
  refine va_get (D := γ.1) (ci := 0) (v := .ref (a + 14)) (C := R_TypeBook) (T := T_TypeBook) (N := 7) (Ts := bs_W0) hx hb hW in_TypeBook hown hC.1 hP 0 rfl rfl 2 (by decide) (hW _ qw_393f431be6) (fun _ h9 => h9) rfl dTypeBook_init_73 ?_
  refine lv_aload_n hx hb dTypeBook_init_76 rfl (lv_at hl 0 rfl) ?_
  refine va_get (D := γ.1) (ci := 0) (v := .ref (a + 19)) (C := R_TypeBook) (T := T_TypeBook) (N := 7) (Ts := bs_W0) hx hb hW in_TypeBook hown hC.1 hP 0 rfl rfl 3 (by decide) (hW _ qw_ba22bdaa87) (fun _ h9 => h9) rfl dTypeBook_init_77 ?_
  refine ms_I (rest := [.ref (a + 33), .ref a]) S hC (fun q h => Nat.le_trans (by omega) h) (fun q h => Nat.le_trans (by omega) h) hS (i_Looker l γ s0 hw0 (a + 33) _ (a + 1) (a + 6) (a + 14) (a + 19)) ct_blind meLooker_init qw_95d519e819 ⟨(Nat.le_of_ble_eq_true rfl), (Nat.le_of_ble_eq_true rfl)⟩ (fun U hU hW9 => ⟨⟨by rw [hU]; exact (hF0.step hA0 hS.1 hS.2.1).warm hW9, by omega⟩, hU, hz, hPn⟩) rfl hl.1 rfl (Nat.le_of_ble_eq_true rfl) dTypeBook_init_80 ⟨(Nat.le_of_ble_eq_true rfl), (Nat.le_of_ble_eq_true rfl)⟩ (fun H1 locs hPO hS hz9 hk9 => ?_)
  obtain ⟨⟨ho33, hc33, hr33, hp33, hh33, hm33⟩, hzn⟩ := hPO
  have ho33 : cmp γ (fun ws => ws = [(a + 33, .inr (7, [.ref (a + 1), .ref (a + 6), .ref (a + 14), .ref (a + 34), .ref (a + 42), .ref (a + 44), .ref (a + 43), .int (-1)]))]) (iv (a + 33) (a + 34)) H1 := ho33
  have hc33 : cmp γ (fLooks γ (a + 34) (a + 40) 64) (iv (a + 34) (a + 40)) H1 := hc33
  have hr33 : cmp γ (fRows γ (a + 40) 64) (iv (a + 40) (a + 42)) H1 := hr33
  have hp33 : cmp γ (fun ws => ws = [(a + 42, .inr (8, [.ref (a + 34)]))]) (iv (a + 42) (a + 43)) H1 := hp33
  have hh33 : cmp γ (fun ws => ws = [(a + 43, .inl (γ.2.1, 64, .inl (fun _ => 0)))]) (iv (a + 43) (a + 44)) H1 := hh33
  have hm33 : cmp γ (fun ws => ws = [(a + 44, .inr (9, [.ref (a + 1), .ref (a + 6), .ref (a + 14), .ref (a + 19), .ref (a + 34)]))]) (iv (a + 44) (a + 45)) H1 := hm33
  have hz : H1.size = a + 45 := hzn
  have hP : va_P γ.1 vwCl [(a, .inr (0, [.ref (a + 1), .ref (a + 6), .ref (a + 14), .ref (a + 19), .ref (a + 25), .null, .int 0]))] H1 := hP.kept (fun i x9 hx9 => hk9 x9.1 (hP i x9 hx9).lt (fun h9 => absurd (hlw33 i x9 hx9) (Nat.not_lt.mpr h9)))
  have hc1 : cmp γ (fTrees γ (a + 1) 0 0 64) (iv (a + 1) (a + 6)) _ := iv_kept hc1 (fun q k1 k2 k3 => hk9 q k3 (by omega))
  have hc6 : cmp γ (fNames γ (a + 6) 12 1 64) (iv (a + 6) (a + 14)) _ := iv_kept hc6 (fun q k1 k2 k3 => hk9 q k3 (by omega))
  have hc14 : cmp γ (fTypes γ (a + 14) 5 16) (iv (a + 14) (a + 19)) _ := iv_kept hc14 (fun q k1 k2 k3 => hk9 q k3 (by omega))
  have hc19 : cmp γ (fObjects γ (a + 19) (a + 23) 0 16) (iv (a + 19) (a + 23)) _ := iv_kept hc19 (fun q k1 k2 k3 => hk9 q k3 (by omega))
  have hr19 : cmp γ (fRows γ (a + 23) 16) (iv (a + 23) (a + 25)) _ := iv_kept hr19 (fun q k1 k2 k3 => hk9 q k3 (by omega))
  have hc25 : cmp γ (fLooks γ (a + 25) (a + 31) 64) (iv (a + 25) (a + 31)) _ := iv_kept hc25 (fun q k1 k2 k3 => hk9 q k3 (by omega))
  have hr25 : cmp γ (fRows γ (a + 31) 64) (iv (a + 31) (a + 33)) _ := iv_kept hr25 (fun q k1 k2 k3 => hk9 q k3 (by omega))
  refine st_putF (D := γ.1) (ci := 0) (v := .ref (a + 33)) (ty := .object "TypeBook$Looker") (C := R_TypeBook) (T := T_TypeBook) (N := 7) (Ts := bs_W0) hx hb hW in_TypeBook t_TypeBook t_TypeBook_ok n_TypeBook hown hC.1 hP hD (fun q h => h) hS 0 rfl rfl 5 (by decide) (hW _ qw_130a6323a2) (fun _ h9 => h9) rfl hnm rfl (by decide +kernel) rfl rfl (Nat.le_of_ble_eq_true rfl) dTypeBook_init_83 (fun H locs hP hD hS hz9 ho9 => ?_)
  have hz : H.size = a + 45 := hz9.trans hz
  have hP : va_P γ.1 vwCl [(a, .inr (0, [.ref (a + 1), .ref (a + 6), .ref (a + 14), .ref (a + 19), .ref (a + 25), .ref (a + 33), .int 0]))] _ := hP
  have hD : va_D _ [(a, .inr (0, [.ref (a + 1), .ref (a + 6), .ref (a + 14), .ref (a + 19), .ref (a + 25), .ref (a + 33), .int 0]))] := hD
  have hc1 : cmp γ (fTrees γ (a + 1) 0 0 64) (iv (a + 1) (a + 6)) _ := iv_kept hc1 (fun q k1 k2 k3 => ho9 q (by omega))
  have hc6 : cmp γ (fNames γ (a + 6) 12 1 64) (iv (a + 6) (a + 14)) _ := iv_kept hc6 (fun q k1 k2 k3 => ho9 q (by omega))
  have hc14 : cmp γ (fTypes γ (a + 14) 5 16) (iv (a + 14) (a + 19)) _ := iv_kept hc14 (fun q k1 k2 k3 => ho9 q (by omega))
  have hc19 : cmp γ (fObjects γ (a + 19) (a + 23) 0 16) (iv (a + 19) (a + 23)) _ := iv_kept hc19 (fun q k1 k2 k3 => ho9 q (by omega))
  have hr19 : cmp γ (fRows γ (a + 23) 16) (iv (a + 23) (a + 25)) _ := iv_kept hr19 (fun q k1 k2 k3 => ho9 q (by omega))
  have hc25 : cmp γ (fLooks γ (a + 25) (a + 31) 64) (iv (a + 25) (a + 31)) _ := iv_kept hc25 (fun q k1 k2 k3 => ho9 q (by omega))
  have hr25 : cmp γ (fRows γ (a + 31) 64) (iv (a + 31) (a + 33)) _ := iv_kept hr25 (fun q k1 k2 k3 => ho9 q (by omega))
  have ho33 : cmp γ (fun ws => ws = [(a + 33, .inr (7, [.ref (a + 1), .ref (a + 6), .ref (a + 14), .ref (a + 34), .ref (a + 42), .ref (a + 44), .ref (a + 43), .int (-1)]))]) (iv (a + 33) (a + 34)) _ := iv_kept ho33 (fun q k1 k2 k3 => ho9 q (by omega))
  have hc33 : cmp γ (fLooks γ (a + 34) (a + 40) 64) (iv (a + 34) (a + 40)) _ := iv_kept hc33 (fun q k1 k2 k3 => ho9 q (by omega))
  have hr33 : cmp γ (fRows γ (a + 40) 64) (iv (a + 40) (a + 42)) _ := iv_kept hr33 (fun q k1 k2 k3 => ho9 q (by omega))
  have hp33 : cmp γ (fun ws => ws = [(a + 42, .inr (8, [.ref (a + 34)]))]) (iv (a + 42) (a + 43)) _ := iv_kept hp33 (fun q k1 k2 k3 => ho9 q (by omega))
  have hh33 : cmp γ (fun ws => ws = [(a + 43, .inl (γ.2.1, 64, .inl (fun _ => 0)))]) (iv (a + 43) (a + 44)) _ := iv_kept hh33 (fun q k1 k2 k3 => ho9 q (by omega))
  have hm33 : cmp γ (fun ws => ws = [(a + 44, .inr (9, [.ref (a + 1), .ref (a + 6), .ref (a + 14), .ref (a + 19), .ref (a + 34)]))]) (iv (a + 44) (a + 45)) _ := iv_kept hm33 (fun q k1 k2 k3 => ho9 q (by omega))
  refine lv_aload_n hx hb dTypeBook_init_86 rfl (lv_at hl 0 rfl) ?_
  refine lv_iconst (v := (-1)) hx hb dTypeBook_init_87 (by decide) ?_
  refine st_put (D := γ.1) (ci := 0) (v := .int (-1)) (ty := .int) (C := R_TypeBook) (T := T_TypeBook) (N := 7) (Ts := bs_W0) hx hb hW in_TypeBook t_TypeBook t_TypeBook_ok n_TypeBook hown hC.1 hP hD (fun q h => h) hS 0 rfl rfl 6 (by decide) (hW _ qw_464f80981e) (fun _ h9 => h9) rfl (by decide +kernel) rfl rfl (Nat.le_of_ble_eq_true rfl) dTypeBook_init_88 (fun H locs hP hD hS hz9 ho9 => ?_)
  have hz : H.size = a + 45 := hz9.trans hz
  have hP : va_P γ.1 vwCl [(a, .inr (0, [.ref (a + 1), .ref (a + 6), .ref (a + 14), .ref (a + 19), .ref (a + 25), .ref (a + 33), .int (-1)]))] _ := hP
  have hD : va_D _ [(a, .inr (0, [.ref (a + 1), .ref (a + 6), .ref (a + 14), .ref (a + 19), .ref (a + 25), .ref (a + 33), .int (-1)]))] := hD
  have hc1 : cmp γ (fTrees γ (a + 1) 0 0 64) (iv (a + 1) (a + 6)) _ := iv_kept hc1 (fun q k1 k2 k3 => ho9 q (by omega))
  have hc6 : cmp γ (fNames γ (a + 6) 12 1 64) (iv (a + 6) (a + 14)) _ := iv_kept hc6 (fun q k1 k2 k3 => ho9 q (by omega))
  have hc14 : cmp γ (fTypes γ (a + 14) 5 16) (iv (a + 14) (a + 19)) _ := iv_kept hc14 (fun q k1 k2 k3 => ho9 q (by omega))
  have hc19 : cmp γ (fObjects γ (a + 19) (a + 23) 0 16) (iv (a + 19) (a + 23)) _ := iv_kept hc19 (fun q k1 k2 k3 => ho9 q (by omega))
  have hr19 : cmp γ (fRows γ (a + 23) 16) (iv (a + 23) (a + 25)) _ := iv_kept hr19 (fun q k1 k2 k3 => ho9 q (by omega))
  have hc25 : cmp γ (fLooks γ (a + 25) (a + 31) 64) (iv (a + 25) (a + 31)) _ := iv_kept hc25 (fun q k1 k2 k3 => ho9 q (by omega))
  have hr25 : cmp γ (fRows γ (a + 31) 64) (iv (a + 31) (a + 33)) _ := iv_kept hr25 (fun q k1 k2 k3 => ho9 q (by omega))
  have ho33 : cmp γ (fun ws => ws = [(a + 33, .inr (7, [.ref (a + 1), .ref (a + 6), .ref (a + 14), .ref (a + 34), .ref (a + 42), .ref (a + 44), .ref (a + 43), .int (-1)]))]) (iv (a + 33) (a + 34)) _ := iv_kept ho33 (fun q k1 k2 k3 => ho9 q (by omega))
  have hc33 : cmp γ (fLooks γ (a + 34) (a + 40) 64) (iv (a + 34) (a + 40)) _ := iv_kept hc33 (fun q k1 k2 k3 => ho9 q (by omega))
  have hr33 : cmp γ (fRows γ (a + 40) 64) (iv (a + 40) (a + 42)) _ := iv_kept hr33 (fun q k1 k2 k3 => ho9 q (by omega))
  have hp33 : cmp γ (fun ws => ws = [(a + 42, .inr (8, [.ref (a + 34)]))]) (iv (a + 42) (a + 43)) _ := iv_kept hp33 (fun q k1 k2 k3 => ho9 q (by omega))
  have hh33 : cmp γ (fun ws => ws = [(a + 43, .inl (γ.2.1, 64, .inl (fun _ => 0)))]) (iv (a + 43) (a + 44)) _ := iv_kept hh33 (fun q k1 k2 k3 => ho9 q (by omega))
  have hm33 : cmp γ (fun ws => ws = [(a + 44, .inr (9, [.ref (a + 1), .ref (a + 6), .ref (a + 14), .ref (a + 19), .ref (a + 34)]))]) (iv (a + 44) (a + 45)) _ := iv_kept hm33 (fun q k1 k2 k3 => ho9 q (by omega))
  refine hE _ _ _ _ _ _ hS (Nat.le_of_ble_eq_true rfl) (Nat.le_of_ble_eq_true rfl) (fun hG => ?_) dTypeBook_init_91
  exact ⟨tb_inv hP hc1 hc6 hc14 hc19 hr19 hc25 hr25 ho33 hc33 hr33 hp33 hh33 hm33, hz⟩
