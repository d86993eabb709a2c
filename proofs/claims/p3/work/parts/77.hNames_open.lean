
theorem k2_Names_open (l : Launch) (γ : gE) (A : Nat → Prop) (κ : Nat → Nat)  (hsc : κ 3 < 32) : MU l yNames_open bNames_open 1 (none) 0 0 0 0 [.ref (γ.2.2.2 2)] γ A (INV γ A κ) (mQv (fun H => INV γ A (ku κ 3 (κ 3 + 1)) H) A) :=
  mu_upv (κ := κ) (κ' := (ku κ 3 (κ 3 + 1))) 3 (by decide) (by decide) (fun j h1 h2 h3 => by rcases (show j = 1 ∨ j = 2 ∨ j = 3 ∨ j = 4 ∨ j = 5 ∨ j = 6 ∨ j = 7 ∨ j = 8 ∨ j = 9 ∨ j = 10 by omega) with h | h | h | h | h | h | h | h | h | h <;> subst h <;> first | rfl | exact absurd rfl h1) (fun Z => c_Names_open l γ Z (γ.2.2.2 2) (κ 2) (κ 3) (κ 12) hsc)
