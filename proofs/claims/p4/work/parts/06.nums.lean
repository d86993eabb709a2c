-- NUMBERS
theorem in_has {r x : Int32} {N n : Nat} (hr : r = 0 ∨ ∃ j, j < N ∧ x = nI j) (hc : ¬ r = 0) (h : N ≤ n) (hn : n < 2 ^ 31) : vp_in x n := by
  rcases hr with h0 | ⟨j, hj, rfl⟩
  · exact absurd h0 hc
  · exact vp_in_nI (by omega) (by omega)
theorem first_ok {r x : Int32} {N : Nat} {f : Nat → Int32} (hr : r = 0 ∨ ∃ j, j < N ∧ x = nI j) (hc : ¬ r = 0) (hf : ∀ k, k < N → ¬ f k < 0) (hN : N < 2 ^ 31) : ¬ f x.toNatClampNeg < 0 := by
  rcases hr with h0 | ⟨j, hj, rfl⟩
  · exact absurd h0 hc
  · rw [nI_clamp (by omega)]
    exact hf j hj
theorem sc_in {sc : Nat} (h1 : 1 ≤ sc) (h2 : sc ≤ 32) : vp_in (nI sc - 1) 32 := by
  obtain ⟨k, rfl⟩ : ∃ k, sc = k + 1 := ⟨sc - 1, by omega⟩
  rw [nI_pred]
  exact vp_in_nI (by omega) (by omega)
theorem rows_q {M : Nat} (h : M ≤ 8192) : nI (4 * M) / 4 = nI M := by
  have h1 := pk_div (a := 4 * M) (d := 4) (by omega) (by omega) (by omega)
  rw [show (4 * M) / 4 = M by omega] at h1
  exact h1
theorem rows_ix {x k : Int32} {M : Nat} (h1 : ¬ x < 0) (h2 : ¬ nI (4 * M) / 4 ≤ x) (h3 : ¬ k < 0) (h4 : ¬ 64 ≤ k) (hM : M ≤ 8192) : vp_in (x * 4 + k / 16) (4 * M) := by
  rw [rows_q hM] at h2
  obtain ⟨j, hj, rfl⟩ := has_ok h1 h2 (by omega)
  obtain ⟨i, hi, rfl⟩ := has_ok (N := 64) h3 h4 (by omega)
  have e1 : nI j * 4 = nI (j * 4) := pk_mul j 4
  have e2 : nI i / 16 = nI (i / 16) := pk_div (a := i) (d := 16) (by omega) (by omega) (by omega)
  rw [e1, e2, nI_add]
  exact vp_in_nI (by omega) (by omega)
theorem in_cmp {x : Int32} {n : Nat} (h0 : ¬ x < 0) (h1 : ¬ nI n ≤ x) (hn : n < 2 ^ 31) : vp_in x n := by
  obtain ⟨j, hj, rfl⟩ := has_ok h0 h1 hn
  exact vp_in_nI hj hn
theorem lc_nz {x y : Int64} {v : Int32} (h : v = lg_cmp x y) (hv : ¬ v = 0) : ¬ x = y := by
  intro e
  subst e
  exact hv (by rw [h]; simp [lg_cmp])
