theorem inv_ext {γ : gE} {A : Nat → Prop} {κ1 κ2 : Nat → Nat} {H : Heap} (hI : INV γ A κ1 H) (e0 : κ1 0 = κ2 0) (e1 : κ1 1 = κ2 1) (e2 : κ1 2 = κ2 2) (e3 : κ1 3 = κ2 3) (e4 : κ1 4 = κ2 4) (e5 : κ1 5 = κ2 5) (e6 : κ1 6 = κ2 6) (e7 : κ1 7 = κ2 7) (e8 : κ1 8 = κ2 8) (e9 : κ1 9 = κ2 9) (e10 : κ1 10 = κ2 10) (e11 : κ1 11 = κ2 11) (e12 : κ1 12 = κ2 12) (e13 : κ1 13 = κ2 13) (e14 : κ1 14 = κ2 14) (e15 : κ1 15 = κ2 15) : INV γ A κ2 H := by
  obtain ⟨ρ, hρ, hc⟩ := hI
  refine ⟨ρ, hρ, fun i h1 h2 => ?_⟩
  have h := hc i h1 h2
  have he : FF γ κ1 i = FF γ κ2 i := by
    rcases (show i = 1 ∨ i = 2 ∨ i = 3 ∨ i = 4 ∨ i = 5 ∨ i = 6 ∨ i = 7 ∨ i = 8 ∨ i = 9 ∨ i = 10 by omega) with h | h | h | h | h | h | h | h | h | h <;> subst h <;> simp only [FF, e0, e1, e2, e3, e4, e5, e6, e7, e8, e9, e10, e11, e12, e13, e14, e15]
  rw [he] at h
  exact h
theorem k2_Names_close (l : Launch) (γ : gE) (A : Nat → Prop) (κ : Nat → Nat) (s1 : Nat) (hs : κ 3 = s1 + 1) (hs1 : 1 ≤ s1) : MU l yNames_close bNames_close 3 none 0 0 0 0 [.ref (γ.2.2.2 2)] γ A (INV γ A κ) (mQv (fun H => ∃ j9, j9 ≤ κ 2 ∧ INV γ A (ku (ku κ 3 s1) 2 j9) H) A) :=
  met_x (fun Z => c_Names_close l γ Z (γ.2.2.2 2) (κ 2) (κ 3) (κ 12) s1 hs hs1) (fun a U h => by
    obtain ⟨ha, hC, hA, hI⟩ := h
    obtain ⟨Z, hc, hZn, hZA, hback⟩ := inv_lift hI hA 3 (by decide) (by decide)
    refine ⟨Z, ⟨ha, hC, hZn, hc⟩, fun o t h => ?_, hZA⟩
    obtain ⟨⟨u, e1, e2, j9, e3, e4⟩, hz, hk⟩ := h
    exact ⟨⟨u, e1, e2, j9, e3, hback (ku (ku κ 3 s1) 2 j9) _ (fun j h1 h2 h3 => by rcases (show j = 1 ∨ j = 2 ∨ j = 3 ∨ j = 4 ∨ j = 5 ∨ j = 6 ∨ j = 7 ∨ j = 8 ∨ j = 9 ∨ j = 10 by omega) with h | h | h | h | h | h | h | h | h | h <;> subst h <;> first | rfl | exact absurd rfl h1) e4 hz hk⟩, hz, fun q h3 h4 => hk q h3 (fun h5 => h4 (hZA q h5))⟩)
