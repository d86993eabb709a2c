
theorem tb_skel {γ : gE} {a : Nat} {H : Heap} (hP : va_P γ.1 vwCl [(a, .inr (0, [.ref (a + 1), .ref (a + 6), .ref (a + 14), .ref (a + 19), .ref (a + 25), .ref (a + 33), .int (-1)]))] H)
    (hPo : va_P γ.1 vwCl [(a + 33, .inr (7, [.ref (a + 1), .ref (a + 6), .ref (a + 14), .ref (a + 34), .ref (a + 42), .ref (a + 44), .ref (a + 43), .int (-1)]))] H) (hPm : va_P γ.1 vwCl [(a + 44, .inr (9, [.ref (a + 1), .ref (a + 6), .ref (a + 14), .ref (a + 19), .ref (a + 34)]))] H) (hPp : va_P γ.1 vwCl [(a + 42, .inr (8, [.ref (a + 34)]))] H) (hPh : va_P γ.1 vwCl [(a + 43, .inl (γ.2.1, 64, .inl (fun _ => 0)))] H) : cmp (γT γ a) (fSkel (γT γ a) (oT γ a) 64) (fun q => rhoT a q = 1) H := by
  refine ⟨_, ⟨a + 43, fun _ => 0, -1, -1, rfl, (Nat.le_of_ble_eq_true rfl), (Nat.le_of_ble_eq_true rfl)⟩, ?_, ?_⟩
  · exact va_P_cons (va_P_cons (va_P_cons (va_P_cons hPh (hPm 0 _ rfl)) (hPp 0 _ rfl)) (hPo 0 _ rfl)) (hP 0 _ rfl)
  · refine va_D_cons (va_D_cons (va_D_cons (va_D_cons (one_D (rho_42 ⟨by show a + 42 ≤ a + 43; omega, by show a + 43 < a + 45; omega⟩)) (rho_42 ⟨by show a + 42 ≤ a + 44; omega, by show a + 44 < a + 45; omega⟩) ?_) (rho_42 ⟨by show a + 42 ≤ a + 42; omega, by show a + 42 < a + 45; omega⟩) ?_) (rho_33 ⟨by show a + 33 ≤ a + 33; omega, by show a + 33 < a + 34; omega⟩) ?_) (rho_0 ⟨by show a + 0 ≤ a; omega, by show a < a + 1; omega⟩) ?_ <;> (intro x9 h9; simp only [List.mem_cons, List.not_mem_nil, or_false] at h9)
    · subst h9; show a + 43 ≠ a + 44; omega
    · rcases h9 with rfl | rfl
      · show a + 44 ≠ a + 42; omega
      · show a + 43 ≠ a + 42; omega
    · rcases h9 with rfl | rfl | rfl
      · show a + 42 ≠ a + 33; omega
      · show a + 44 ≠ a + 33; omega
      · show a + 43 ≠ a + 33; omega
    · rcases h9 with rfl | rfl | rfl | rfl
      · show a + 33 ≠ a; omega
      · show a + 42 ≠ a; omega
      · show a + 44 ≠ a; omega
      · show a + 43 ≠ a; omega
set_option maxHeartbeats 1000000 in
theorem tb_inv {γ : gE} {a : Nat} {H : Heap} (hP : va_P γ.1 vwCl [(a, .inr (0, [.ref (a + 1), .ref (a + 6), .ref (a + 14), .ref (a + 19), .ref (a + 25), .ref (a + 33), .int (-1)]))] H) (h1 : cmp γ (fTrees γ (a + 1) 0 0 64) (iv (a + 1) (a + 6)) H) (h2 : cmp γ (fNames γ (a + 6) 12 1 64) (iv (a + 6) (a + 14)) H) (h3 : cmp γ (fTypes γ (a + 14) 5 16) (iv (a + 14) (a + 19)) H) (h4 : cmp γ (fObjects γ (a + 19) (a + 23) 0 16) (iv (a + 19) (a + 23)) H) (h5 : cmp γ (fRows γ (a + 23) 16) (iv (a + 23) (a + 25)) H) (h6 : cmp γ (fLooks γ (a + 25) (a + 31) 64) (iv (a + 25) (a + 31)) H) (h7 : cmp γ (fRows γ (a + 31) 64) (iv (a + 31) (a + 33)) H) (kho : cmp γ (fun ws => ws = [(a + 33, .inr (7, [.ref (a + 1), .ref (a + 6), .ref (a + 14), .ref (a + 34), .ref (a + 42), .ref (a + 44), .ref (a + 43), .int (-1)]))]) (iv (a + 33) (a + 34)) H) (khc : cmp γ (fLooks γ (a + 34) (a + 40) 64) (iv (a + 34) (a + 40)) H) (khr : cmp γ (fRows γ (a + 40) 64) (iv (a + 40) (a + 42)) H) (khp : cmp γ (fun ws => ws = [(a + 42, .inr (8, [.ref (a + 34)]))]) (iv (a + 42) (a + 43)) H) (khh : cmp γ (fun ws => ws = [(a + 43, .inl (γ.2.1, 64, .inl (fun _ => 0)))]) (iv (a + 43) (a + 44)) H) (khm : cmp γ (fun ws => ws = [(a + 44, .inr (9, [.ref (a + 1), .ref (a + 6), .ref (a + 14), .ref (a + 19), .ref (a + 34)]))]) (iv (a + 44) (a + 45)) H) : INV (γT γ a) (fun q => a ≤ q) κT H := by
  obtain ⟨_, rfl, hPo, -⟩ := kho
  obtain ⟨_, rfl, hPp, -⟩ := khp
  obtain ⟨_, rfl, hPh, -⟩ := khh
  obtain ⟨_, rfl, hPm, -⟩ := khm
  refine ⟨rhoT a, fun q h => rho_A h, fun i g1 g2 => ?_⟩
  rcases (show i = 1 ∨ i = 2 ∨ i = 3 ∨ i = 4 ∨ i = 5 ∨ i = 6 ∨ i = 7 ∨ i = 8 ∨ i = 9 ∨ i = 10 by omega) with h | h | h | h | h | h | h | h | h | h <;> subst h
  · exact tb_skel hP hPo hPm hPp hPh
  · exact (cmp_kept (Z1 := fun q => rhoT a q = 2) h1 (fun _ _ _ => rfl) (fun q h _ => rho_1 h))
  · exact (cmp_kept (Z1 := fun q => rhoT a q = 3) h2 (fun _ _ _ => rfl) (fun q h _ => rho_6 h))
  · exact (cmp_kept (Z1 := fun q => rhoT a q = 4) h3 (fun _ _ _ => rfl) (fun q h _ => rho_14 h))
  · exact (cmp_kept (Z1 := fun q => rhoT a q = 5) h4 (fun _ _ _ => rfl) (fun q h _ => rho_19 h))
  · exact (cmp_kept (Z1 := fun q => rhoT a q = 6) h5 (fun _ _ _ => rfl) (fun q h _ => rho_23 h))
  · exact (cmp_kept (Z1 := fun q => rhoT a q = 7) h6 (fun _ _ _ => rfl) (fun q h _ => rho_25 h))
  · exact (cmp_kept (Z1 := fun q => rhoT a q = 8) h7 (fun _ _ _ => rfl) (fun q h _ => rho_31 h))
  · exact (cmp_kept (Z1 := fun q => rhoT a q = 9) khc (fun _ _ _ => rfl) (fun q h _ => rho_34 h))
  · exact (cmp_kept (Z1 := fun q => rhoT a q = 10) khr (fun _ _ _ => rfl) (fun q h _ => rho_40 h))
