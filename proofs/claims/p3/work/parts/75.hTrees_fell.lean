
theorem k1_Trees_fell (l : Launch) (γ : gE) (A : Nat → Prop) (κ : Nat → Nat)   : MU l yTrees_fell bTrees_fell 1 (none) 0 0 0 0 [.ref (γ.2.2.2 1)] γ A (INV γ A κ) (mQv (fun H => INV γ A (ku (ku κ 0 (0)) 1 (0)) H) A) :=
  mu_upv (κ := κ) (κ' := (ku (ku κ 0 (0)) 1 (0))) 2 (by decide) (by decide) (fun j h1 h2 h3 => by rcases (show j = 1 ∨ j = 2 ∨ j = 3 ∨ j = 4 ∨ j = 5 ∨ j = 6 ∨ j = 7 ∨ j = 8 ∨ j = 9 ∨ j = 10 by omega) with h | h | h | h | h | h | h | h | h | h <;> subst h <;> first | rfl | exact absurd rfl h1) (fun Z => c_Trees_fell l γ Z (γ.2.2.2 1) (κ 0) (κ 1) (κ 11) )
