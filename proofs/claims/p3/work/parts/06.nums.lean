-- NUMBERS
theorem in_has {r x : Int32} {N n : Nat} (hr : r = 0 ∨ ∃ j, j < N ∧ x = nI j) (hc : ¬ r = 0) (h : N ≤ n) (hn : n < 2 ^ 31) : vp_in x n := by
  rcases hr with h0 | ⟨j, hj, rfl⟩
  · exact absurd h0 hc
  · exact vp_in_nI (by omega) (by omega)
theorem first_ok {r x : Int32} {N : Nat} {f : Nat → Int32} (hr : r = 0 ∨ ∃ j, j < N ∧ x = nI j) (hc : ¬ r = 0) (hf : ∀ k, k < N → ¬ f k < 0) (hN : N < 2 ^ 31) : ¬ f x.toNatClampNeg < 0 := by
  rcases hr with h0 | ⟨j, hj, rfl⟩
  · exact absurd h0 hc
  · rw [nI_clamp (by omega)]
    exact hf j hj
theorem sc_in {sc : Nat} (h1 : 1 ≤ sc) (h2 : sc ≤ 32) : vp_in (nI sc - 1) 32 := by
  obtain ⟨k, rfl⟩ : ∃ k, sc = k + 1 := ⟨sc - 1, by omega⟩
  rw [nI_pred]
  exact vp_in_nI (by omega) (by omega)
theorem rows_q {M : Nat} (h : M ≤ 8192) : nI (4 * M) / 4 = nI M := by
  have h1 := pk_div (a := 4 * M) (d := 4) (by omega) (by omega) (by omega)
  rw [show (4 * M) / 4 = M by omega] at h1
  exact h1
theorem rows_ix {x k : Int32} {M : Nat} (h1 : ¬ x < 0) (h2 : ¬ nI (4 * M) / 4 ≤ x) (h3 : ¬ k < 0) (h4 : ¬ 64 ≤ k) (hM : M ≤ 8192) : vp_in (x * 4 + k / 16) (4 * M) := by
  rw [rows_q hM] at h2
  obtain ⟨j, hj, rfl⟩ := has_ok h1 h2 (by omega)
  obtain ⟨i, hi, rfl⟩ := has_ok (N := 64) h3 h4 (by omega)
  have e1 : nI j * 4 = nI (j * 4) := pk_mul j 4
  have e2 : nI i / 16 = nI (i / 16) := pk_div (a := i) (d := 16) (by omega) (by omega) (by omega)
  rw [e1, e2, nI_add]
  exact vp_in_nI (by omega) (by omega)
theorem in_cmp {x : Int32} {n : Nat} (h0 : ¬ x < 0) (h1 : ¬ nI n ≤ x) (hn : n < 2 ^ 31) : vp_in x n := by
  obtain ⟨j, hj, rfl⟩ := has_ok h0 h1 hn
  exact vp_in_nI hj hn
theorem lc_nz {x y : Int64} {v : Int32} (h : v = lg_cmp x y) (hv : ¬ v = 0) : ¬ x = y := by
  intro e
  subst e
  exact hv (by rw [h]; simp [lg_cmp])
theorem cn_ok {f : Nat → Int32} {p N : Nat} {x : Int32} (hp : p = N) (hx : ∃ j, j ≤ 4096 ∧ x = nI j) (hf : ∀ k, k < N → ∃ j, j ≤ 4096 ∧ f k = nI j) : ∀ k, k < N + 1 → ∃ j, j ≤ 4096 ∧ upd f p x k = nI j := by
  intro k hk
  subst hp
  by_cases h : k = p
  · subst h
    rw [pk_us]
    exact hx
  · rw [pk_un h]
    exact hf k (by omega)
theorem cnt_ok {r x : Int32} {N : Nat} {f : Nat → Int32} (hr : r = 0 ∨ ∃ j, j < N ∧ x = nI j) (hc : ¬ r = 0) (hf : ∀ k, k < N → ∃ j, j ≤ 4096 ∧ f k = nI j) (hN : N < 2 ^ 31) : ∃ j, j ≤ 4096 ∧ f x.toNatClampNeg = nI j := by
  rcases hr with h0 | ⟨j, hj, rfl⟩
  · exact absurd h0 hc
  · rw [nI_clamp (by omega)]
    exact hf j hj
theorem pr_lt {N : Nat} (h : N ≤ 8192) : (nI N - 1).toInt < (N : Int) := by
  cases N with
  | zero => decide
  | succ k =>
    rw [nI_pred, nI_toInt (by omega)]
    omega
theorem rng_ok {x y : Int32} {G N L : Nat} (hy : y = nI G) (hG : G ≤ N) (hx : ¬ x < y) (hlt : x.toInt < (N : Int)) (hL : N ≤ L) (hL2 : L ≤ 8192) : vp_in x L ∧ -2147483648 < x.toInt := by
  subst hy
  rw [Int32.lt_iff_toInt_lt, nI_toInt (by omega)] at hx
  refine ⟨vp_in_iff.mpr ⟨by omega, by omega⟩, by omega⟩
theorem node_ok {r x : Int32} {N : Nat} (h : r = 0 ∨ ∃ j, j < N ∧ x = nI j) (hc : ¬ r = 0) (hN : N ≤ 8192) : x.toInt < 2147483647 ∧ (x - 1).toInt < 2147483647 := by
  rcases h with h | ⟨j, hj, rfl⟩
  · exact absurd h hc
  · refine ⟨by rw [nI_toInt (by omega)]; omega, ?_⟩
    have := pr_lt (N := j) (by omega)
    omega
theorem nge_ok {v c : Int32} {N M : Nat} (ev : v = nI N) (ec : c = nI M) (h : ¬ c ≤ v) (hN : N < 2 ^ 31) (hM : M < 2 ^ 31) : N < M := by
  subst ev; subst ec
  exact Nat.not_le.mp (fun h9 => h ((nI_leI hM hN).mpr h9))
theorem hr_ok {k N : Nat} (hk : k ≤ 8192) (hN : N ≤ 5000) (h : ¬ (3000 : Int32) < nI k - nI 12 + nI N) : k + N ≤ 3012 := by
  rcases Nat.lt_or_ge 3012 (k + N) with h1 | h1
  · exfalso
    have h2 : nI k - nI 12 + nI N = nI (k + N) - nI 12 := by
      rw [← nI_add, Int32.sub_eq_add_neg, Int32.sub_eq_add_neg, Int32.add_assoc, Int32.add_assoc, Int32.add_comm (-nI 12)]
    rw [h2, pk_sub (a := k + N) (b := 12) (by omega)] at h
    exact h (nI_lt (a := 3000) (b := k + N - 12) (by omega) (by omega))
  · exact h1
-- what add refuses
def BN (k : Int32) : Prop := k = 1 ∨ k = 10 ∨ (¬ k < 22 ∧ k ≤ 25) ∨ k = 53
def GNm (v : Int32) : Prop := ¬ v < 0 ∧ ¬ 9999 < v
def BA (r : Nat) (k v n : Int32) : Prop := k < 0 ∨ 99 < k ∨ n < 0 ∨ ¬ n ≤ nI r ∨ (BN k ∧ ¬ GNm v)
theorem bt_t {P : Prop} {v : Int32} (h : (v = 1 ∧ P) ∨ (v = 0 ∧ ¬ P)) (h0 : ¬ v = 0) : P := h.elim (fun h => h.2) (fun h => absurd h.1 h0)
theorem bt_f {P : Prop} {v : Int32} (h : (v = 1 ∧ P) ∨ (v = 0 ∧ ¬ P)) (h0 : v = 0) : ¬ P := h.elim (fun h => by rw [h.1] at h0; exact absurd h0 (by decide)) (fun h => h.2)
theorem ba_ok {r : Nat} {k w n v : Int32} (h1 : ¬ k < 0) (h2 : ¬ 99 < k) (h3 : ¬ n < 0) (ev : v = nI r) (h4 : n ≤ v) (h5 : ¬ (BN k ∧ ¬ GNm w)) : ¬ BA r k w n := by
  intro h
  rcases h with h | h | h | h | h
  · exact h1 h
  · exact h2 h
  · exact h3 h
  · exact h (by rw [← ev]; exact h4)
  · exact h5 h
theorem ba_n {r : Nat} {n v : Int32} (ev : v = nI r) (h : ¬ n ≤ v) : ¬ n ≤ nI r := by rw [← ev]; exact h
theorem ba_m {r : Nat} {n v : Int32} (ev : v = nI r) (h : v < n) : ¬ n ≤ nI r := by rw [← ev]; exact Int32.not_le.mpr h
theorem ba_ok2 {r : Nat} {k w n : Int32} (h1 : ¬ k < 0) (h2 : ¬ 99 < k) (h3 : ¬ n < 0) (h4 : ¬ nI r < n) (h5 : ¬ (BN k ∧ ¬ GNm w)) : ¬ BA r k w n := ba_ok h1 h2 h3 rfl (Int32.not_lt.mp h4) h5
theorem bn_of {k : Int32} (h : k = 1 ∨ k = 10 ∨ k = 22 ∨ k = 23 ∨ k = 24 ∨ k = 25 ∨ k = 53) : BN k := by
  unfold BN
  rcases h with h | h | h | h | h | h | h <;> subst h <;> decide
theorem bn_not {k : Int32} (h1 : ¬ k = 1) (h2 : ¬ k = 10) (h3 : ¬ k = 22) (h4 : ¬ k = 23) (h5 : ¬ k = 24) (h6 : ¬ k = 25) (h7 : ¬ k = 53) : ¬ BN k := by
  intro h
  rcases h with h | h | ⟨h, h'⟩ | h
  · exact h1 h
  · exact h2 h
  · have e1 := Int32.not_lt.mp h
    rw [Int32.le_iff_toInt_le] at e1 h'
    have a1 : ¬ k.toInt = 22 := fun e => h3 (Int32.toInt_inj.mp e)
    have a2 : ¬ k.toInt = 23 := fun e => h4 (Int32.toInt_inj.mp e)
    have a3 : ¬ k.toInt = 24 := fun e => h5 (Int32.toInt_inj.mp e)
    have a4 : ¬ k.toInt = 25 := fun e => h6 (Int32.toInt_inj.mp e)
    have b1 : (22 : Int32).toInt = 22 := by decide
    have b2 : (25 : Int32).toInt = 25 := by decide
    omega
  · exact h7 h
theorem gm_t {v : Int32} (h1 : ¬ v < 0) (h2 : ¬ 10000 ≤ v) : GNm v := by
  refine ⟨h1, fun h => h2 ?_⟩
  rw [Int32.lt_iff_toInt_lt] at h
  rw [Int32.le_iff_toInt_le]
  have b1 : (9999 : Int32).toInt = 9999 := by decide
  have b2 : (10000 : Int32).toInt = 10000 := by decide
  omega
theorem gm_2 {v : Int32} (h : 10000 ≤ v) : ¬ GNm v := by
  intro h9
  refine h9.2 ?_
  rw [Int32.le_iff_toInt_le] at h
  rw [Int32.lt_iff_toInt_lt]
  have b1 : (9999 : Int32).toInt = 9999 := by decide
  have b2 : (10000 : Int32).toInt = 10000 := by decide
  omega
