-- ONE NODE'S LOOK
theorem k_binary {κ κr : Nat → Nat} {φ0 : gF} {ψ : gG} {τ : gf} {σ : Nat → Int32} {F : gf} {nu : gg} {k a b o : Nat} (hC : CK κ) (hk : k < κ 0) (ha : CH κ φ0 ψ F nu k a) (hb : CH κ φ0 ψ F nu k b) (ho : τ 3 k = nI o) (ho2 : o ≤ 20) :
    LK2 (κ 10) φ0 ψ F nu k (P_Operators_binary κ (ct φ0 k (-1) 0 (-1) 0 0) ψ (nI k) (nI o) (nI a) (nI b)) (Q_lookBinary κr τ σ F nu (nI k) (nI a) (nI b)) := by
  have hC' := hC
  obtain ⟨c0, _⟩ := hC'
  have eN : (nI k).toNatClampNeg = k := nI_clamp (by omega)
  have heta2 : ∀ r : Int32 × gs × gf × gg, (r.1, r.2.1, r.2.2.1, r.2.2.2) = r := fun _ => rfl
  unfold Q_lookBinary Q_lookBinary_56 Q_lookBinary_70 Q_lookBinary_124
  simp only [heta2, eN, ho]
  have h6 : (6 ≤ nI o) = (6 ≤ o) := j_le (a := 6) (by omega) (by omega)
  have h12 : (12 ≤ nI o) = (12 ≤ o) := j_le (a := 12) (by omega) (by omega)
  have h19 : (19 ≤ nI o) = (19 ≤ o) := j_le (a := 19) (by omega) (by omega)
  have e12 : (nI o = 12) = (o = 12) := j_eq (b := 12) (by omega) (by omega)
  have e13 : (nI o = 13) = (o = 13) := j_eq (b := 13) (by omega) (by omega)
  have e14 : (nI o = 14) = (o = 14) := j_eq (b := 14) (by omega) (by omega)
  have e19 : (nI o = 19) = (o = 19) := j_eq (b := 19) (by omega) (by omega)
  simp only [h6, h12, h19, e12, e13, e14, e19]
  by_cases q6 : 6 ≤ o
  · rw [if_pos q6]
    by_cases q12 : 12 ≤ o
    · rw [if_pos q12]
      by_cases p12 : o = 12
      · rw [if_pos p12, if_neg (show ¬ o = 13 by omega)]; exact k_sum hC hk ha hb (Or.inl ⟨p12, rfl⟩)
      · rw [if_neg p12]
        by_cases p13 : o = 13
        · rw [if_pos p13, if_pos p13]; exact k_sum hC hk ha hb (Or.inr ⟨p13, rfl⟩)
        · rw [if_neg p13]
          by_cases p14 : o = 14
          · rw [if_pos p14]; subst p14; exact k_joined hC hk ha hb
          · rw [if_neg p14]
            by_cases p19 : 19 ≤ o
            · rw [if_pos p19]
              by_cases p : o = 19
              · rw [if_pos p]; exact k_shift hC hk ha hb (Or.inl ⟨p, rfl⟩)
              · rw [if_neg p]; exact k_shift hC hk ha hb (Or.inr ⟨by omega, rfl⟩)
            · rw [if_neg p19]; exact k_numbers hC hk ha hb (by omega) (by omega)
    · rw [if_neg q12]; exact k_order hC hk ha hb q6 (by omega)
  · rw [if_neg q6]; exact k_logic hC hk ha hb (by omega)
theorem look_step {κ κr : Nat → Nat} {φ0 : gF} {ψ : gG} {τ : gf} {σ : Nat → Int32} {F : gf} {nu : gg} {k n n' : Nat} (hC : CK κ) (hR : RS κ φ0 ψ κr τ F nu) (hWS : ∀ o, κ 5 ≤ o → o < 2000 → ¬ τ 22 o = 1) (hk : k < κ 0) (hn : τ 4 k = nI n) (hn2 : n ≤ 4000) (hk1 : n = 1 → 1 ≤ k) (hn' : τ 4 (k - 1) = nI n') (hn2' : n' ≤ 4000)
    (hch : ¬ τ 2 k = 25 → ∀ i, i < n → ∃ a, chn τ k i = nI a ∧ CH κ φ0 ψ F nu k a ∧ SG τ a) :
    LK2 (κ 10) φ0 ψ F nu k (P_Looker_lookAt κ φ0 ψ (nI k)) (Q_look κr τ σ F nu (nI k)) := by
  have hC' := hC
  obtain ⟨c0, c1, c2, c3, c4, c5, c6, c7, c8⟩ := hC'
  have hTr := hR.2.1
  obtain ⟨t1, t2, t3, t4⟩ := hTr.2.1 k hk
  have eN : (nI k).toNatClampNeg = k := nI_clamp (by omega)
  have L7 : k < κ 7 := by omega
  have heta : ∀ r : Int32 × gF × gG, (r.1, r.2.1, r.2.2) = r := fun _ => rfl
  have heta2 : ∀ r : Int32 × gs × gf × gg, (r.1, r.2.1, r.2.2.1, r.2.2.2) = r := fun _ => rfl
  have hco : P_Trees_countOf (κ 0) (κ 1) (κ 11) (φ0 2) (nI k) = nI n := (pt_2 hk (by omega)).trans (t3.trans hn)
  have hva : P_Trees_valueOf (κ 0) (κ 1) (κ 11) (φ0 2) (nI k) = τ 3 k := (pt_1 hk (by omega)).trans t2
  have hkd : P_Trees_kindOf (κ 0) (κ 1) (κ 11) (φ0 2) (nI k) = τ 2 k := (pt_0 hk (by omega)).trans t1
  have h11 : ∀ σ', LK2 (κ 10) φ0 ψ F nu k (11, ct φ0 k (-1) 0 (-1) 0 0, ψ) (11, σ', F, nu) := fun σ' => nf_f ct_fr frM.rf (by decide) (by decide)
  -- the children of a node that is no attribute
  have hone : ¬ τ 2 k = 25 → 1 ≤ n → 1 ≤ k ∧ CH κ φ0 ψ F nu k (k - 1) := by
    intro h25 h1
    obtain ⟨a, ea, ha, _⟩ := hch h25 0 (by omega)
    have hak := ha.1
    obtain rfl := ch_a0 (by omega) hak ea
    exact ⟨by omega, ha⟩
  have htwo : ¬ τ 2 k = 25 → 2 ≤ n → ∃ a, τ 5 (k - 1) - 1 = nI a ∧ CH κ φ0 ψ F nu k a := by
    intro h25 h2
    obtain ⟨hk1, _⟩ := hone h25 (by omega)
    obtain ⟨a, ea, ha, _⟩ := hch h25 1 (by omega)
    rw [ch_a1 (by omega) hk1] at ea
    exact ⟨a, ea, ha⟩
  have hleft : ∀ a, 1 ≤ k → τ 5 (k - 1) - 1 = nI a → P_Trees_leftOfTwo (κ 0) (κ 1) (κ 11) (φ0 2) (nI k) = nI a := by
    intro a hk1 ea
    obtain ⟨u1, u2, u3, u4⟩ := hTr.2.1 (k - 1) (by omega)
    unfold P_Trees_leftOfTwo
    rw [j_pred hk1, pt_3 (by omega) (by omega), u4, ea]
  have hneg : ∀ {z : Int32}, ¬ z < 0 → ∃ o, z = nI o ∧ o < 2 ^ 31 := by
    intro z h
    have hb := i32_b z
    rw [Int32.lt_iff_toInt_lt, show (0 : Int32).toInt = 0 from rfl] at h
    exact ⟨z.toInt.toNat, by apply Int32.toInt_inj.mp; rw [nI_toInt (by omega)]; omega, by omega⟩
  unfold P_Looker_lookAt
  rw [ct_fg L7 c2]
  simp only [ct_o (show ¬ 2 = 9 by decide), hkd, heta]
  unfold Q_look
  rw [eN]
  simp only [heta2]
  by_cases h1 : τ 2 k = 1
  · simp (decide := true) only [h1, reduceIte]
    exact k_name hC hR hk h1 hn hn2
  by_cases h2 : τ 2 k = 2
  · simp (decide := true) only [h2, reduceIte]
    exact (k_leaf hC hTr hk hn hn2).1
  by_cases h3 : τ 2 k = 3
  · simp (decide := true) only [h3, reduceIte]
    exact (k_leaf hC hTr hk hn hn2).2
  by_cases h4 : τ 2 k = 4
  · simp (decide := true) only [h4, reduceIte]
    refine k_row hC hTr hk hn hn2 (fun i hi => ?_)
    obtain ⟨a, ea, ha, hs⟩ := hch (by rw [h4]; decide) i hi
    exact ⟨a, ea, ha.1, hs⟩
  by_cases h20 : τ 2 k = 20
  · have h25 : ¬ τ 2 k = 25 := by rw [h20]; decide
    simp (decide := true) only [h20, reduceIte]
    unfold P_Looker_isOperator Q_look_266
    rw [ct_o (show ¬ 2 = 9 by decide), hco, hva, hn]
    by_cases q1 : n = 1
    · subst q1
      obtain ⟨hk1, hb⟩ := hone h25 (Nat.le_refl _)
      rw [if_pos (show nI 1 = 1 from rfl), if_pos (show nI 1 = 1 from rfl)]
      by_cases q2 : τ 3 k < 0
      · rw [if_pos q2, if_pos rfl, if_pos q2]; exact h11 _
      · rw [if_neg q2, if_neg q2]
        by_cases q3 : 3 < τ 3 k
        · rw [if_pos q3, if_pos rfl, if_neg (Int32.not_le.mpr q3)]; exact h11 _
        · rw [if_neg q3, if_neg (by decide), if_pos (Int32.not_lt.mp q3)]
          obtain ⟨o, ho, ho2⟩ := hneg q2
          have q4 : o ≤ 3 := by
            have := Int32.not_lt.mp q3
            rw [ho, show (3 : Int32) = nI 3 from rfl, j_le ho2 (by omega)] at this; exact this
          have eC : Q_child κr τ σ F nu (nI k) 0 = nI (k - 1) := qc_0 hk1
          rw [ho, j_pred hk1]
          first
            | (rw [eC]; exact k_unary hC hk hb.1 hb.2 ho (by omega))
            | exact k_unary hC hk hb.1 hb.2 ho (by omega)
    · have hne : ¬ nI n = 1 := by rw [show (1 : Int32) = nI 1 from rfl, j_eq (by omega) (by omega)]; exact q1
      rw [if_neg hne, if_neg hne, if_pos rfl]; exact h11 _
  by_cases h21 : τ 2 k = 21
  · have h25 : ¬ τ 2 k = 25 := by rw [h21]; decide
    simp (decide := true) only [h21, reduceIte]
    unfold P_Looker_isOperator Q_look_308
    rw [ct_o (show ¬ 2 = 9 by decide), hco, hva, hn]
    by_cases q1 : n = 2
    · subst q1
      obtain ⟨hk1, hb⟩ := hone h25 (by omega)
      obtain ⟨a, ea, ha⟩ := htwo h25 (Nat.le_refl _)
      rw [if_pos (show nI 2 = 2 from rfl), if_pos (show nI 2 = 2 from rfl)]
      by_cases q2 : τ 3 k < 0
      · rw [if_pos q2, if_pos rfl, if_pos q2]; exact h11 _
      · rw [if_neg q2, if_neg q2]
        by_cases q3 : 20 < τ 3 k
        · rw [if_pos q3, if_pos rfl, if_neg (Int32.not_le.mpr q3)]; exact h11 _
        · rw [if_neg q3, if_neg (by decide), if_pos (Int32.not_lt.mp q3)]
          obtain ⟨o, ho, ho2⟩ := hneg q2
          have q4 : o ≤ 20 := by
            have := Int32.not_lt.mp q3
            rw [ho, show (20 : Int32) = nI 20 from rfl, j_le ho2 (by omega)] at this; exact this
          rw [qc_0 hk1, qc_1 hk1 (by omega), ea, hleft a hk1 ea, ho, j_pred hk1]
          exact k_binary hC hk ha hb ho q4
    · have hne : ¬ nI n = 2 := by rw [show (2 : Int32) = nI 2 from rfl, j_eq (by omega) (by omega)]; exact q1
      rw [if_neg hne, if_neg hne, if_pos rfl]; exact h11 _
  by_cases h22 : τ 2 k = 22
  · have h25 : ¬ τ 2 k = 25 := by rw [h22]; decide
    simp (decide := true) only [h22, reduceIte]
    exact k_apply hC hR hWS hk h22 hn hn2 (fun h => hone h25 (by omega)) (fun h => htwo h25 (by omega))
  by_cases h23 : τ 2 k = 23
  · have h25 : ¬ τ 2 k = 25 := by rw [h23]; decide
    simp (decide := true) only [h23, reduceIte]
    exact k_slice hC hR hk (Or.inl h23) hn hn2 (fun h => ⟨(hone h25 (by omega)).1, (hone h25 (by omega)).2, htwo h25 (by omega)⟩)
  by_cases h24 : τ 2 k = 24
  · have h25 : ¬ τ 2 k = 25 := by rw [h24]; decide
    simp (decide := true) only [h24, reduceIte]
    exact k_slice hC hR hk (Or.inr h24) hn hn2 (fun h => ⟨(hone h25 (by omega)).1, (hone h25 (by omega)).2, htwo h25 (by omega)⟩)
  by_cases h25 : τ 2 k = 25
  · simp (decide := true) only [h25, reduceIte]
    exact k_attr hC hR hk h25 hn hn2 hk1 hn' hn2'
  simp only [if_neg h1, if_neg h2, if_neg h3, if_neg h4, if_neg h20, if_neg h21, if_neg h22, if_neg h23, if_neg h24, if_neg h25, ite_self]
  exact h11 _
theorem look_sg {κr : Nat → Nat} {τ : gf} {σ : Nat → Int32} {F : gf} {nu : gg} {k n : Nat} (hk : k < 4000) (hn : τ 4 k = nI n) (hn2 : n ≤ 4000) (h : (Q_look κr τ σ F nu (nI k)).1 = 0) : SG τ k := by
  intro h3
  have eN : (nI k).toNatClampNeg = k := nI_clamp (by omega)
  unfold Q_look Q_look_229 at h
  rw [eN] at h
  simp (decide := true) only [h3, reduceIte] at h
  have h0' : (0 < nI n) = (0 < n) := j_lt (a := 0) (by omega) (by omega)
  rw [hn] at h ⊢
  simp only [h0'] at h
  by_cases q0 : 0 < n
  · rw [if_pos q0] at h; exact absurd (show (11 : Int32) = 0 from h) (by decide)
  · rw [if_neg q0] at h
    obtain rfl : n = 0 := by omega
    refine ⟨rfl, ?_⟩
    by_cases q1 : τ 3 k < 0
    · rw [if_pos q1] at h; exact absurd (show (11 : Int32) = 0 from h) (by decide)
    · rw [if_neg q1] at h
      by_cases q2 : τ 3 k ≤ 8
      · rw [Int32.le_iff_toInt_le] at q2; rw [Int32.lt_iff_toInt_lt] at q1
        have z0 : (0 : Int32).toInt = 0 := rfl
        have z8 : (8 : Int32).toInt = 8 := rfl
        exact ⟨(τ 3 k).toInt.toNat, by omega, by apply Int32.toInt_inj.mp; rw [nI_toInt (by omega)]; omega⟩
      · rw [if_neg q2] at h; exact absurd (show (11 : Int32) = 0 from h) (by decide)
-- TREES' SHAPE; WHAT IS BELOW AN ATTRIBUTE
def bg (τ : gf) (k : Nat) : Nat := (τ 5 k).toNatClampNeg
def TW (N : Nat) (τ : gf) : Prop := ∀ k, k < N → (∃ n, n ≤ 4000 ∧ τ 4 k = nI n ∧ ∀ i, i < n → ∃ a, bg τ k ≤ a ∧ a < k ∧ chn τ k i = nI a) ∧ τ 5 k = nI (bg τ k) ∧ bg τ k ≤ k ∧ ∀ j, bg τ k ≤ j → j < k → bg τ k ≤ bg τ j
def hdn (τ : gf) (k m : Nat) : Prop := ∃ a, k < a ∧ a < m ∧ τ 2 a = 25 ∧ bg τ a ≤ k
theorem j_last {m i : Nat} (hm : m < 2 ^ 31) (hi : i < 2 ^ 31) : (nI m - 1 < nI i) = (m ≤ i) := by
  by_cases h : m = 0
  · subst h
    apply propext
    refine ⟨fun _ => Nat.zero_le _, fun _ => ?_⟩
    rw [Int32.lt_iff_toInt_lt, nI_toInt hi]
    exact Int.lt_of_lt_of_le (show (nI 0 - 1).toInt < 0 by decide) (by omega)
  · rw [j_pred (by omega), j_lt (by omega) hi]
    apply propext; omega
/-- children lie side by side -/
theorem ch_gap {N : Nat} {τ : gf} {k n : Nat} (hT : TW N τ) (hN : N ≤ 4000) (hk : k < N) (hn : τ 4 k = nI n) (hn2 : n ≤ 4000) : ∀ i a, i < n → chn τ k i = nI a → a < k → ∀ b, a < b → b < k → a < bg τ b := by
  obtain ⟨⟨n', h1, h2, h3⟩, h4, h5, h6⟩ := hT k hk
  obtain rfl : n' = n := by rw [hn] at h2; exact ((j_eq (by omega) (by omega)).mp h2).symm
  intro i
  induction i with
  | zero =>
    intro a _ ea hak b hb1 hb2
    have := ch_a0 (by omega) hak ea
    omega
  | succ i ih =>
    intro a hi ea hak b hb1 hb2
    obtain ⟨a', e1, e2, e3⟩ := h3 i (by omega)
    obtain ⟨_, g4, g5, g6⟩ := hT a' (by omega)
    have ea' : τ 5 (chn τ k i).toNatClampNeg - 1 = nI a := ea
    rw [e3, nI_clamp (by omega), g4] at ea'
    have h0 : 1 ≤ bg τ a' := by
      by_cases h : 1 ≤ bg τ a'
      · exact h
      · obtain h : bg τ a' = 0 := by omega
        rw [h] at ea'
        exact absurd ea'.symm (neg1 (by omega))
    rw [j_pred h0, j_eq (by omega) (by omega)] at ea'
    by_cases q1 : a' < b
    · have := ih a' (by omega) e3 e2 b q1 hb2; omega
    · by_cases q2 : b = a'
      · subst q2; omega
      · have := g6 b (by omega) (by omega); omega
theorem ch_hid {N : Nat} {τ : gf} {k n m i a : Nat} (hT : TW N τ) (hN : N ≤ 4000) (hk : k < N) (hn : τ 4 k = nI n) (hn2 : n ≤ 4000) (hi : i < n) (ea : chn τ k i = nI a) (hak : a < k) (h25 : ¬ τ 2 k = 25) (hh : ¬ hdn τ k m) : ¬ hdn τ a m := by
  rintro ⟨b, b1, b2, b3, b4⟩
  by_cases q1 : b = k
  · subst q1; exact h25 b3
  · by_cases q2 : k < b
    · exact hh ⟨b, q2, b2, b3, by omega⟩
    · have := ch_gap hT hN hk hn hn2 i a hi ea hak b b1 (by omega); omega
theorem qb_t {κ : Nat → Nat} {τ : gf} {σ : gs} {F : gf} {nu : gg} {N k m : Nat} (hT : TW N τ) (hN : N ≤ 4000) (hk : k < m) (hm : m ≤ N) : (Q_below κ τ σ F nu (nI k) (nI m - 1) = 0) = ¬ hdn τ k m := by
  have h1 : ∀ d i fuel, i + d = m → d < fuel → Q_below_7 κ τ σ F nu (nI k) (nI m - 1) fuel (nI i) 1 = 1 := by
    intro d
    induction d with
    | zero =>
      intro i fuel hi hf
      obtain ⟨q, rfl⟩ : ∃ q, fuel = q + 1 := ⟨fuel - 1, by omega⟩
      show (if nI m - 1 < nI i then _ else _) = _
      rw [if_pos (by rw [j_last (by omega) (by omega)]; omega)]
    | succ d ih =>
      intro i fuel hi hf
      obtain ⟨q, rfl⟩ : ∃ q, fuel = q + 1 := ⟨fuel - 1, by omega⟩
      show (if nI m - 1 < nI i then _ else if (1 : Int32) = 0 then _ else Q_below_7 κ τ σ F nu (nI k) (nI m - 1) q (nI i + 1) 1) = _
      rw [if_neg (by rw [j_last (by omega) (by omega)]; omega), if_neg (by decide), ← nI_succ]
      exact ih (i + 1) q (by omega) (by omega)
  have h0 : ∀ d i fuel, i + d = m → d < fuel → (Q_below_7 κ τ σ F nu (nI k) (nI m - 1) fuel (nI i) 0 = 0) = ¬ ∃ a, i ≤ a ∧ a < m ∧ τ 2 a = 25 ∧ bg τ a ≤ k := by
    intro d
    induction d with
    | zero =>
      intro i fuel hi hf
      obtain ⟨q, rfl⟩ : ∃ q, fuel = q + 1 := ⟨fuel - 1, by omega⟩
      show ((if nI m - 1 < nI i then (0 : Int32) else _) = 0) = _
      rw [if_pos (by rw [j_last (by omega) (by omega)]; omega)]
      apply propext
      exact ⟨fun _ ⟨a, a1, a2, _⟩ => by omega, fun _ => rfl⟩
    | succ d ih =>
      intro i fuel hi hf
      obtain ⟨q, rfl⟩ : ∃ q, fuel = q + 1 := ⟨fuel - 1, by omega⟩
      obtain ⟨_, g4, g5, g6⟩ := hT i (by omega)
      show ((if nI m - 1 < nI i then (0 : Int32) else if (0 : Int32) = 0 then (if τ 2 (nI i).toNatClampNeg = 25 then (if nI k < τ 5 (nI i).toNatClampNeg then Q_below_7 κ τ σ F nu (nI k) (nI m - 1) q (nI i + 1) 0 else Q_below_7 κ τ σ F nu (nI k) (nI m - 1) q (nI i + 1) 1) else Q_below_7 κ τ σ F nu (nI k) (nI m - 1) q (nI i + 1) 0) else _) = 0) = _
      rw [if_neg (by rw [j_last (by omega) (by omega)]; omega), if_pos rfl, nI_clamp (by omega), g4, ← nI_succ]
      have hne : ¬ (τ 2 i = 25 ∧ bg τ i ≤ k) → (¬ ∃ a, i + 1 ≤ a ∧ a < m ∧ τ 2 a = 25 ∧ bg τ a ≤ k) = ¬ ∃ a, i ≤ a ∧ a < m ∧ τ 2 a = 25 ∧ bg τ a ≤ k := by
        intro hq
        apply propext
        refine ⟨fun h9 ⟨a, a1, a2, a3, a4⟩ => h9 ⟨a, ?_, a2, a3, a4⟩, fun h9 ⟨a, a1, a2, a3, a4⟩ => h9 ⟨a, by omega, a2, a3, a4⟩⟩
        by_cases h8 : a = i
        · subst h8; exact absurd ⟨a3, a4⟩ hq
        · omega
      by_cases q25 : τ 2 i = 25
      · rw [if_pos q25]
        by_cases qk : k < bg τ i
        · rw [if_pos (by rw [j_lt (by omega) (by omega)]; exact qk), ih (i + 1) q (by omega) (by omega), hne (by omega)]
        · rw [if_neg (by rw [j_lt (by omega) (by omega)]; exact qk), h1 d (i + 1) q (by omega) (by omega)]
          apply propext
          exact ⟨fun h9 => absurd h9 (by decide), fun h9 => absurd ⟨i, Nat.le_refl _, by omega, q25, by omega⟩ h9⟩
      · rw [if_neg q25, ih (i + 1) q (by omega) (by omega), hne (fun h9 => q25 h9.1)]
  unfold Q_below
  rw [← nI_succ]
  have hf : m - (k + 1) < (2147483647 - (nI (k + 1)).toInt).toNat + 1 := by
    rw [nI_toInt (by omega)]; omega
  rw [h0 (m - (k + 1)) (k + 1) _ (by omega) hf]
  rfl
/-- what the class hides, from above -/
theorem hb_t {κ κr : Nat → Nat} {φ : gF} {ψ : gG} {τ : gf} {r : Nat} (hT : TW (κ 0) τ) (hR : RTr κ (φ 2) κr τ) (hN : κ 0 ≤ 4000) (hH : κ 0 ≤ κ 15) (hH2 : κ 15 ≤ 8192) (hr : r < κ 0) :
    ∃ h, P_Looker_hideBelowAttributes κ φ ψ (nI r) = (up φ 1 h, ψ) ∧ (∀ q i, ¬ q = 0 → h q i = φ 1 q i) ∧ ∀ j, bg τ r ≤ j → j ≤ r → (hdn τ j (r + 1) → h 0 j = 1) ∧ (¬ hdn τ j (r + 1) → h 0 j = 0) := by
  obtain ⟨_, r4, r5, r6⟩ := hT r hr
  have hfst : ∀ φ' : gF, φ' 2 = φ 2 → P_Trees_firstOf (κ 0) (κ 1) (κ 11) (φ' 2) (nI r) = nI (bg τ r) := by
    intro φ' h2; rw [h2, pt_3 hr (by omega), (hR.2.1 r hr).2.2.2, r4]
  -- at place j, lowest L
  have key : ∀ d j L fuel (h : gf), j = bg τ r + d → j ≤ r → d + 1 < fuel → L ≤ r + 1 → (L = r + 1 ∨ ∃ a, j < a ∧ a ≤ r ∧ τ 2 a = 25 ∧ bg τ a = L) → (∀ a, j < a → a ≤ r → τ 2 a = 25 → L ≤ bg τ a) → (∀ q i, ¬ q = 0 → h q i = φ 1 q i) → (∀ i, j < i → i ≤ r → (hdn τ i (r + 1) → h 0 i = 1) ∧ (¬ hdn τ i (r + 1) → h 0 i = 0)) →
      ∃ h', P_Looker_hideBelowAttributes_6 κ fuel (up φ 1 h) ψ (nI r) (nI L) (nI j) = (up φ 1 h', ψ) ∧ (∀ q i, ¬ q = 0 → h' q i = φ 1 q i) ∧ ∀ i, bg τ r ≤ i → i ≤ r → (hdn τ i (r + 1) → h' 0 i = 1) ∧ (¬ hdn τ i (r + 1) → h' 0 i = 0) := by
    intro d
    induction d with
    | zero =>
      intro j L fuel h hj hjr hf hL1 hL hA hq hs
      obtain ⟨m, rfl⟩ : ∃ m, fuel = m + 2 := ⟨fuel - 2, by omega⟩
      obtain ⟨_, j4, j5, j6⟩ := hT j (by omega)
      have hjj : (nI L ≤ nI j) = (L ≤ j) := j_le (by omega) (by omega)
      have hjl : (nI j < nI L) = (j < L) := j_lt (by omega) (by omega)
      have hhid : hdn τ j (r + 1) ↔ L ≤ j := by
        constructor
        · rintro ⟨a, a1, a2, a3, a4⟩; have := hA a a1 (by omega) a3; omega
        · intro h9
          rcases hL with h8 | ⟨a, a1, a2, a3, a4⟩
          · omega
          · exact ⟨a, a1, by omega, a3, by omega⟩
      have hfin : ∀ (L' : Int32) (v : Int32), (L ≤ j → v = 1) → (¬ L ≤ j → v = 0) → ∃ h', P_Looker_hideBelowAttributes_6 κ (m + 1) (up φ 1 (Au h 0 j v)) ψ (nI r) L' (nI j + (-1)) = (up φ 1 h', ψ) ∧ (∀ q i, ¬ q = 0 → h' q i = φ 1 q i) ∧ ∀ i, bg τ r ≤ i → i ≤ r → (hdn τ i (r + 1) → h' 0 i = 1) ∧ (¬ hdn τ i (r + 1) → h' 0 i = 0) := by
        intro L' v hv1 hv2
        refine ⟨Au h 0 j v, ?_, fun q i h0 => ?_, fun i h1 h2 => ?_⟩
        · show (if nI j + (-1) < P_Trees_firstOf (κ 0) (κ 1) (κ 11) ((up φ 1 (Au h 0 j v)) 2) (nI r) then _ else _) = _
          rw [hfst _ (up_n (by decide)), if_pos]
          rw [Int32.lt_iff_toInt_lt, Int32.toInt_add, nI_toInt (by omega), nI_toInt (by omega), show (-1 : Int32).toInt = -1 from rfl]
          rw [Int.bmod_eq_of_le (by omega) (by omega)]; omega
        · rw [au_a, if_neg (fun h9 => h0 h9.1)]; exact hq q i h0
        · rw [au_a]
          by_cases hi : i = j
          · subst hi
            rw [if_pos ⟨rfl, rfl⟩]
            exact ⟨fun h9 => hv1 (hhid.mp h9), fun h9 => hv2 (fun h8 => h9 (hhid.mpr h8))⟩
          · rw [if_neg (fun h9 => hi h9.2)]; exact hs i (by omega) h2
      show ∃ h', (if nI j < P_Trees_firstOf (κ 0) (κ 1) (κ 11) ((up φ 1 h) 2) (nI r) then _ else if nI (κ 15) ≤ nI j then _ else if nI j < nI L then (if nI L ≤ nI j then _ else if P_Trees_kindOf (κ 0) (κ 1) (κ 11) ((up (up φ 1 h) 1 (Au ((up φ 1 h) 1) 0 (nI j).toNatClampNeg 0)) 2) (nI j) = 25 then P_Looker_hideBelowAttributes_6 κ (m + 1) (up (up φ 1 h) 1 (Au ((up φ 1 h) 1) 0 (nI j).toNatClampNeg 0)) ψ (nI r) (P_Trees_firstOf (κ 0) (κ 1) (κ 11) ((up (up φ 1 h) 1 (Au ((up φ 1 h) 1) 0 (nI j).toNatClampNeg 0)) 2) (nI j)) (nI j + (-1)) else P_Looker_hideBelowAttributes_6 κ (m + 1) (up (up φ 1 h) 1 (Au ((up φ 1 h) 1) 0 (nI j).toNatClampNeg 0)) ψ (nI r) (nI L) (nI j + (-1))) else (if nI L ≤ nI j then P_Looker_hideBelowAttributes_6 κ (m + 1) (up (up φ 1 h) 1 (Au ((up φ 1 h) 1) 0 (nI j).toNatClampNeg 1)) ψ (nI r) (nI L) (nI j + (-1)) else _)) = _ ∧ _
      rw [hfst _ (up_n (by decide)), if_neg (by rw [j_lt (by omega) (by omega)]; omega), if_neg (by rw [j_le (by omega) (by omega)]; omega), nI_clamp (by omega), up_up, up_up, up_s]
      simp only [hjj, hjl]
      by_cases hLj : L ≤ j
      · rw [if_neg (by omega), if_pos hLj]
        exact hfin _ _ (fun _ => rfl) (fun h9 => absurd hLj h9)
      · rw [if_pos (by omega), if_neg hLj]
        split
        · exact hfin _ _ (fun h9 => absurd h9 hLj) (fun _ => rfl)
        · exact hfin _ _ (fun h9 => absurd h9 hLj) (fun _ => rfl)
    | succ d ih =>
      intro j L fuel h hj hjr hf hL1 hL hA hq hs
      obtain ⟨m, rfl⟩ : ∃ m, fuel = m + 1 := ⟨fuel - 1, by omega⟩
      obtain ⟨_, j4, j5, j6⟩ := hT j (by omega)
      have hjj : (nI L ≤ nI j) = (L ≤ j) := j_le (by omega) (by omega)
      have hjl : (nI j < nI L) = (j < L) := j_lt (by omega) (by omega)
      have hjp : nI j + (-1) = nI (j - 1) := by
        apply Int32.toInt_inj.mp
        rw [Int32.toInt_add, nI_toInt (by omega), nI_toInt (by omega), show (-1 : Int32).toInt = -1 from rfl, Int.bmod_eq_of_le (by omega) (by omega)]; omega
      have hhid : hdn τ j (r + 1) ↔ L ≤ j := by
        constructor
        · rintro ⟨a, a1, a2, a3, a4⟩; have := hA a a1 (by omega) a3; omega
        · intro h9
          rcases hL with h8 | ⟨a, a1, a2, a3, a4⟩
          · omega
          · exact ⟨a, a1, by omega, a3, by omega⟩
      have hkd : ∀ v, P_Trees_kindOf (κ 0) (κ 1) (κ 11) ((up φ 1 (Au h 0 j v)) 2) (nI j) = τ 2 j := fun v => by rw [up_n (by decide), pt_0 (by omega) (by omega), (hR.2.1 j (by omega)).1]
      have hfj : ∀ v, P_Trees_firstOf (κ 0) (κ 1) (κ 11) ((up φ 1 (Au h 0 j v)) 2) (nI j) = nI (bg τ j) := fun v => by rw [up_n (by decide), pt_3 (by omega) (by omega), (hR.2.1 j (by omega)).2.2.2, j4]
      have hq' : ∀ v q i, ¬ q = 0 → Au h 0 j v q i = φ 1 q i := fun v q i h0 => by rw [au_a, if_neg (fun h9 => h0 h9.1)]; exact hq q i h0
      have hs' : ∀ v, (L ≤ j → v = 1) → (¬ L ≤ j → v = 0) → ∀ i, j - 1 < i → i ≤ r → (hdn τ i (r + 1) → Au h 0 j v 0 i = 1) ∧ (¬ hdn τ i (r + 1) → Au h 0 j v 0 i = 0) := by
        intro v hv1 hv2 i h1 h2
        rw [au_a]
        by_cases hi : i = j
        · subst hi
          rw [if_pos ⟨rfl, rfl⟩]
          exact ⟨fun h9 => hv1 (hhid.mp h9), fun h9 => hv2 (fun h8 => h9 (hhid.mpr h8))⟩
        · rw [if_neg (fun h9 => hi h9.2)]; exact hs i (by omega) h2
      show ∃ h', (if nI j < P_Trees_firstOf (κ 0) (κ 1) (κ 11) ((up φ 1 h) 2) (nI r) then _ else if nI (κ 15) ≤ nI j then _ else if nI j < nI L then (if nI L ≤ nI j then _ else if P_Trees_kindOf (κ 0) (κ 1) (κ 11) ((up (up φ 1 h) 1 (Au ((up φ 1 h) 1) 0 (nI j).toNatClampNeg 0)) 2) (nI j) = 25 then P_Looker_hideBelowAttributes_6 κ m (up (up φ 1 h) 1 (Au ((up φ 1 h) 1) 0 (nI j).toNatClampNeg 0)) ψ (nI r) (P_Trees_firstOf (κ 0) (κ 1) (κ 11) ((up (up φ 1 h) 1 (Au ((up φ 1 h) 1) 0 (nI j).toNatClampNeg 0)) 2) (nI j)) (nI j + (-1)) else P_Looker_hideBelowAttributes_6 κ m (up (up φ 1 h) 1 (Au ((up φ 1 h) 1) 0 (nI j).toNatClampNeg 0)) ψ (nI r) (nI L) (nI j + (-1))) else (if nI L ≤ nI j then P_Looker_hideBelowAttributes_6 κ m (up (up φ 1 h) 1 (Au ((up φ 1 h) 1) 0 (nI j).toNatClampNeg 1)) ψ (nI r) (nI L) (nI j + (-1)) else _)) = _ ∧ _
      rw [hfst _ (up_n (by decide)), if_neg (by rw [j_lt (by omega) (by omega)]; omega), if_neg (by rw [j_le (by omega) (by omega)]; omega), nI_clamp (by omega), up_up, up_up, up_s, hjp]
      simp only [hjj, hjl, hkd, hfj]
      by_cases hLj : L ≤ j
      · rw [if_neg (by omega), if_pos hLj]
        refine ih (j - 1) L m (Au h 0 j 1) (by omega) (by omega) (by omega) hL1 ?_ ?_ (hq' 1) (hs' 1 (fun _ => rfl) (fun h9 => absurd hLj h9))
        · rcases hL with h8 | ⟨a, a1, a2, a3, a4⟩
          · exact Or.inl h8
          · exact Or.inr ⟨a, by omega, a2, a3, a4⟩
        · intro a a1 a2 a3
          by_cases ha : a = j
          · subst ha
            rcases hL with h8 | ⟨b, b1, b2, b3, b4⟩
            · omega
            · obtain ⟨_, y4, y5, y6⟩ := hT b (by omega)
              have := y6 a (by omega) b1; omega
          · exact hA a (by omega) a2 a3
      · rw [if_pos (by omega), if_neg hLj]
        by_cases h25 : τ 2 j = 25
        · rw [if_pos h25]
          refine ih (j - 1) (bg τ j) m (Au h 0 j 0) (by omega) (by omega) (by omega) (by omega) (Or.inr ⟨j, by omega, hjr, h25, rfl⟩) ?_ (hq' 0) (hs' 0 (fun h9 => absurd h9 hLj) (fun _ => rfl))
          intro a a1 a2 a3
          by_cases ha : a = j
          · subst ha; exact Nat.le_refl _
          · have := hA a (by omega) a2 a3; omega
        · rw [if_neg h25]
          refine ih (j - 1) L m (Au h 0 j 0) (by omega) (by omega) (by omega) hL1 ?_ ?_ (hq' 0) (hs' 0 (fun h9 => absurd h9 hLj) (fun _ => rfl))
          · rcases hL with h8 | ⟨a, a1, a2, a3, a4⟩
            · exact Or.inl h8
            · exact Or.inr ⟨a, by omega, a2, a3, a4⟩
          · intro a a1 a2 a3
            by_cases ha : a = j
            · subst ha; exact absurd a3 h25
            · exact hA a (by omega) a2 a3
  unfold P_Looker_hideBelowAttributes
  have hfu : r + 2 ≤ ((nI r).toInt + 2147483648).toNat + 1 := by rw [nI_toInt (by omega)]; omega
  have := key (r - bg τ r) r (r + 1) (((nI r).toInt + 2147483648).toNat + 1) (φ 1) (by omega) (Nat.le_refl _) (by omega) (Nat.le_refl _) (Or.inl rfl) (fun a a1 a2 _ => by omega) (fun _ _ _ => rfl) (fun i h1 h2 => by omega)
  rw [up_id φ 1, nI_succ] at this
  exact this
-- A WHOLE TREE'S LOOK
def FrX (φ : gF) (ψ : gG) (φ' : gF) (ψ' : gG) : Prop := (∀ i, ¬ i = 1 → ¬ i = 9 → φ' i = φ i) ∧ (∀ i, ¬ i = 10 → ψ' i = ψ i) ∧ ∀ q i, ¬ q = 0 → ¬ q = 2 → φ' 1 q i = φ 1 q i
def frR (F : gf) (nu : gg) (F' : gf) (nu' : gg) : Prop := (∀ q, ¬ q = 9 → ¬ q = 10 → ¬ q = 11 → ¬ q = 12 → ¬ q = 14 → F' q = F q) ∧ (∀ q i, ¬ q = 14 → 4000 ≤ i → F' q i = F q i) ∧ (∀ i, 4000 ≤ i / 64 → F' 14 i = F 14 i) ∧ ∀ i, 4000 ≤ i → nu' i = nu i
theorem FrX.rf {φ : gF} {ψ : gG} : FrX φ ψ φ ψ := ⟨fun _ _ _ => rfl, fun _ _ => rfl, fun _ _ _ _ => rfl⟩
theorem FrX.tr {φ φ1 φ2 : gF} {ψ ψ1 ψ2 : gG} (h1 : FrX φ ψ φ1 ψ1) (h2 : FrX φ1 ψ1 φ2 ψ2) : FrX φ ψ φ2 ψ2 :=
  ⟨fun i a b => (h2.1 i a b).trans (h1.1 i a b), fun i a => (h2.2.1 i a).trans (h1.2.1 i a), fun q i a b => (h2.2.2 q i a b).trans (h1.2.2 q i a b)⟩
theorem FrX.c {M k : Nat} {φ φ1 : gF} {ψ ψ1 : gG} (h : FrC M k φ ψ φ1 ψ1) : FrX φ ψ φ1 ψ1 := by
  obtain ⟨f, g, rfl, rfl, _, _⟩ := h
  refine ⟨fun i a b => up_n b, fun i a => up_n a, fun q i a b => by rw [up_n (by decide)]⟩
theorem FrX.h {φ : gF} {ψ : gG} {h : gf} (hq : ∀ q i, ¬ q = 0 → ¬ q = 2 → h q i = φ 1 q i) : FrX φ ψ (up φ 1 h) ψ :=
  ⟨fun i a b => up_n a, fun i a => rfl, fun q i a b => by rw [up_s]; exact hq q i a b⟩
theorem frR.rf {F : gf} {nu : gg} : frR F nu F nu := ⟨fun _ _ _ _ _ _ => rfl, fun _ _ _ _ => rfl, fun _ _ => rfl, fun _ _ => rfl⟩
theorem frR.tr {F F1 F2 : gf} {nu n1 n2 : gg} (h1 : frR F nu F1 n1) (h2 : frR F1 n1 F2 n2) : frR F nu F2 n2 :=
  ⟨fun q a b c d e => (h2.1 q a b c d e).trans (h1.1 q a b c d e), fun q i a b => (h2.2.1 q i a b).trans (h1.2.1 q i a b), fun i a => (h2.2.2.1 i a).trans (h1.2.2.1 i a), fun i a => (h2.2.2.2 i a).trans (h1.2.2.2 i a)⟩
theorem frR.m {k : Nat} {F F1 : gf} {nu n1 : gg} (hk : k < 4000) (h : frM k F nu F1 n1) : frR F nu F1 n1 :=
  ⟨h.1, fun q i a b => h.2.1 q i a (by omega), fun i a => h.2.2.1 i (by omega), fun i a => h.2.2.2 i (by omega)⟩
theorem RS.fr {κ κr : Nat → Nat} {φ φ' : gF} {ψ ψ' : gG} {τ F F' : gf} {nu nu' : gg} (h : RS κ φ ψ κr τ F nu) (h1 : FrX φ ψ φ' ψ') (h2 : frR F nu F' nu') : RS κ φ' ψ' κr τ F' nu' := by
  obtain ⟨a1, a2, a3, a4, a5, b1, b2, b3⟩ := h
  refine ⟨a1, by rw [h1.1 2 (by decide) (by decide)]; exact a2, by rw [h1.1 3 (by decide) (by decide)]; exact a3, a4, by rw [h1.1 4 (by decide) (by decide)]; exact a5, b1, b2, ?_⟩
  rw [h1.1 5 (by decide) (by decide), h1.2.1 6 (by decide)]
  intro o ho
  obtain ⟨c1, c2, c3, t, c4, c5, c6⟩ := b3 o ho
  refine ⟨c1, c2, c3, t, c4, c5, fun h0 => ?_⟩
  rw [h2.2.1 9 (8000 + o) (by decide) (by omega), h2.2.1 10 (8000 + o) (by decide) (by omega), h2.2.1 11 (8000 + o) (by decide) (by omega), h2.2.2.2 (8000 + o) (by omega)]
  obtain ⟨d1, d2, d3, e1, e2, e3, e4, e5⟩ := c6 h0
  refine ⟨d1, d2, d3, e1, e2, e3, e4, fun hx => ⟨(e5 hx).1, (e5 hx).2.1, fun h3 E j hE hE2 hj => ?_⟩⟩
  have : ee F' (8000 + o) j = ee F (8000 + o) j := h2.2.2.1 (64 * (8000 + o) + j) (by omega)
  rw [this]
  exact (e5 hx).2.2 h3 E j hE hE2 hj
theorem ls_fr {M a : Nat} {f f' : gf} {g g' : gg} {F F' : gf} {nu nu' : gg} (h : LsK M f g F nu a) (h1 : ∀ j, f' j a = f j a) (h2 : ∀ j, j < 64 → rr M g' a j = rr M g a j) (h3 : ∀ q, ¬ q = 14 → F' q a = F q a) (h4 : ∀ j, j < 64 → ee F' a j = ee F a j) (h5 : nu' a = nu a) : LsK M f' g' F' nu' a := by
  obtain ⟨a1, a2, a3, a4, b1, b2, b3, b4, b5⟩ := h
  unfold LsK
  rw [h1, h1, h1, h1, h1, h3 9 (by decide), h3 10 (by decide), h3 11 (by decide), h3 12 (by decide), h5]
  refine ⟨a1, a2, a3, a4, b1, b2, b3, b4, fun hx => ⟨(b5 hx).1, (b5 hx).2.1, fun hc E j hE hE2 hj => ?_⟩⟩
  rw [h2 j (by omega), h4 j (by omega)]
  exact (b5 hx).2.2 hc E j hE hE2 hj
theorem ls_step {M k a : Nat} {φ φ' : gF} {ψ ψ' : gG} {F F' : gf} {nu nu' : gg} (hc : FrC M k φ ψ φ' ψ') (hm : frM k F nu F' nu') (ha : ¬ a = k) (haM : a < M) (h : LsK M (φ 9) (ψ 10) F nu a) : LsK M (φ' 9) (ψ' 10) F' nu' a := by
  obtain ⟨f, g, rfl, rfl, e1, e2⟩ := hc
  rw [up_s, up_s]
  exact ls_fr h (fun j => e1 j a ha) (fun j hj => e2 a j haM hj ha) (fun q hq => hm.2.1 q a hq ha) (fun j hj => hm.2.2.1 (64 * a + j) (by omega)) (hm.2.2.2 a ha)
/-- after the looks of a tree: a fault on both sides, or the same looks -/
def LKT (κ : Nat → Nat) (φ0 : gF) (ψ0 : gG) (F0 : gf) (nu0 : gg) (τ : gf) (f m : Nat) (oc : Int32 × gF × gG) (om : Int32 × gs × gf × gg) : Prop :=
  FrX φ0 ψ0 oc.2.1 oc.2.2 ∧ frR F0 nu0 om.2.2.1 om.2.2.2 ∧ (∀ j, f ≤ j → j < m → (hdn τ j m → oc.2.1 1 0 j = 1) ∧ (¬ hdn τ j m → oc.2.1 1 0 j = 0)) ∧
  ((¬ oc.1 = 0 ∧ 0 < om.1) ∨ (oc.1 = 0 ∧ om.1 = 0 ∧ ∀ a, f ≤ a → a < m → ¬ hdn τ a m → LsK (κ 10) (oc.2.1 9) (oc.2.2 10) om.2.2.1 om.2.2.2 a))
theorem look_loop {κ κr : Nat → Nat} {φ0 : gF} {ψ0 : gG} {τ : gf} {F0 : gf} {nu0 : gg} {f m : Nat} {x1 : Int32} {σ1 : gs} {F1 : gf} {nu1 : gg} {xr : Int32} (hC : CK κ) (hR : RS κ φ0 ψ0 κr τ F0 nu0) (hWS : ∀ o, κ 5 ≤ o → o < 2000 → ¬ τ 22 o = 1) (hT : TW (κ 0) τ) (hH : κ 0 ≤ κ 15) (hH2 : κ 15 ≤ 8192) (hm : m ≤ κ 0) (hfm : ∀ k, f ≤ k → k < m → f ≤ bg τ k) :
    ∀ d i fc fm φ ψ σ F nu, i + d = m → d < fc → d < fm → f ≤ i → FrX φ0 ψ0 φ ψ → frR F0 nu0 F nu → (∀ j, f ≤ j → j < m → (hdn τ j m → φ 1 0 j = 1) ∧ (¬ hdn τ j m → φ 1 0 j = 0)) → (∀ a, f ≤ a → a < i → ¬ hdn τ a m → LsK (κ 10) (φ 9) (ψ 10) F nu a ∧ SG τ a) →
      LKT κ φ0 ψ0 F0 nu0 τ f m (P_Looker_look_14 κ fc φ ψ xr (nI m - 1) (nI i)) (Q_goThrough_2 κr τ σ1 F1 nu1 x1 (nI m - 1) fm σ F nu (nI i)) := by
  have hC' := hC
  obtain ⟨c0, c1, c2, c3, c4, c5, c6, c7, c8⟩ := hC'
  intro d
  induction d with
  | zero =>
    intro i fc fm φ ψ σ F nu hi h1 h2 hfi hX hRr hh hl
    obtain ⟨p, rfl⟩ : ∃ p, fc = p + 1 := ⟨fc - 1, by omega⟩
    obtain ⟨q, rfl⟩ : ∃ q, fm = q + 1 := ⟨fm - 1, by omega⟩
    obtain rfl : i = m := by omega
    have hlt : nI i - 1 < nI i := by rw [j_last (by omega) (by omega)]; exact Nat.le_refl _
    have e1 : P_Looker_look_14 κ (p + 1) φ ψ xr (nI i - 1) (nI i) = (0, φ, ψ) := by
      show (if nI i - 1 < nI i then _ else _) = _
      rw [if_pos hlt]
    have e2 : Q_goThrough_2 κr τ σ1 F1 nu1 x1 (nI i - 1) (q + 1) σ F nu (nI i) = (0, upd σ 1 (-1), F, nu) := by
      show (if nI i - 1 < nI i then _ else _) = _
      rw [if_pos hlt]
    rw [e1, e2]
    exact ⟨hX, hRr, hh, Or.inr ⟨rfl, rfl, fun a a1 a2 a3 => (hl a a1 a2 a3).1⟩⟩
  | succ d ih =>
    intro i fc fm φ ψ σ F nu hi h1 h2 hfi hX hRr hh hl
    obtain ⟨p, rfl⟩ : ∃ p, fc = p + 1 := ⟨fc - 1, by omega⟩
    obtain ⟨q, rfl⟩ : ∃ q, fm = q + 1 := ⟨fm - 1, by omega⟩
    have hlt : ¬ nI m - 1 < nI i := by rw [j_last (by omega) (by omega)]; omega
    have hat : FrX φ0 ψ0 (up φ 1 (Au (φ 1) 2 0 (nI i))) ψ := hX.tr (FrX.h (fun q' i' a b => by rw [au_a, if_neg (fun h9 => b h9.1)]))
    have hh' : ∀ j, (up φ 1 (Au (φ 1) 2 0 (nI i))) 1 0 j = φ 1 0 j := fun j => by rw [up_s, au_a, if_neg (by omega)]
    have hih : P_Looker_isHidden κ (up φ 1 (Au (φ 1) 2 0 (nI i))) ψ (nI i) = if φ 1 0 i = 1 then 1 else 0 := by
      unfold P_Looker_isHidden P_Looker_isHidden_23
      rw [if_neg (nI_pos (by omega)), if_neg (by rw [j_le (by omega) (by omega)]; omega), nI_clamp (by omega), hh']
    have hqb := qb_t (κ := κr) (σ := σ) (F := F) (nu := nu) hT c0 (show i < m by omega) hm
    have eC : P_Looker_look_14 κ (p + 1) φ ψ xr (nI m - 1) (nI i) = if φ 1 0 i = 1 then P_Looker_look_14 κ p (up φ 1 (Au (φ 1) 2 0 (nI i))) ψ xr (nI m - 1) (nI (i + 1)) else if (P_Looker_lookAt κ (up φ 1 (Au (φ 1) 2 0 (nI i))) ψ (nI i)).1 = 0 then P_Looker_look_14 κ p (P_Looker_lookAt κ (up φ 1 (Au (φ 1) 2 0 (nI i))) ψ (nI i)).2.1 (P_Looker_lookAt κ (up φ 1 (Au (φ 1) 2 0 (nI i))) ψ (nI i)).2.2 xr (nI m - 1) (nI (i + 1)) else P_Looker_lookAt κ (up φ 1 (Au (φ 1) 2 0 (nI i))) ψ (nI i) := by
      show (if nI m - 1 < nI i then _ else if P_Looker_isHidden κ (up φ 1 (Au (φ 1) 2 0 (nI i))) ψ (nI i) = 0 then (if (P_Looker_lookAt κ (up φ 1 (Au (φ 1) 2 0 (nI i))) ψ (nI i)).1 = 0 then P_Looker_look_14 κ p (P_Looker_lookAt κ (up φ 1 (Au (φ 1) 2 0 (nI i))) ψ (nI i)).2.1 (P_Looker_lookAt κ (up φ 1 (Au (φ 1) 2 0 (nI i))) ψ (nI i)).2.2 xr (nI m - 1) (nI i + 1) else P_Looker_lookAt κ (up φ 1 (Au (φ 1) 2 0 (nI i))) ψ (nI i)) else P_Looker_look_14 κ p (up φ 1 (Au (φ 1) 2 0 (nI i))) ψ xr (nI m - 1) (nI i + 1)) = _
      rw [if_neg hlt, hih, ← nI_succ]
      by_cases h9 : φ 1 0 i = 1
      · simp (decide := true) only [h9, reduceIte]
      · simp only [if_neg h9, if_true]
    have eM : Q_goThrough_2 κr τ σ1 F1 nu1 x1 (nI m - 1) (q + 1) σ F nu (nI i) = if Q_below κr τ σ F nu (nI i) (nI m - 1) = 0 then (if (Q_look κr τ σ F nu (nI i)).1 ≤ 0 then Q_goThrough_2 κr τ σ1 F1 nu1 x1 (nI m - 1) q (Q_look κr τ σ F nu (nI i)).2.1 (Q_look κr τ σ F nu (nI i)).2.2.1 (Q_look κr τ σ F nu (nI i)).2.2.2 (nI (i + 1)) else ((Q_look κr τ σ F nu (nI i)).1, upd (Q_look κr τ σ F nu (nI i)).2.1 1 (nI i), (Q_look κr τ σ F nu (nI i)).2.2.1, (Q_look κr τ σ F nu (nI i)).2.2.2)) else Q_goThrough_2 κr τ σ1 F1 nu1 x1 (nI m - 1) q σ F nu (nI (i + 1)) := by
      show (if nI m - 1 < nI i then _ else if Q_below κr τ σ F nu (nI i) (nI m - 1) = 0 then (if (Q_look κr τ σ F nu (nI i)).1 ≤ 0 then Q_goThrough_2 κr τ σ1 F1 nu1 x1 (nI m - 1) q (Q_look κr τ σ F nu (nI i)).2.1 (Q_look κr τ σ F nu (nI i)).2.2.1 (Q_look κr τ σ F nu (nI i)).2.2.2 (nI i + 1) else _) else Q_goThrough_2 κr τ σ1 F1 nu1 x1 (nI m - 1) q σ F nu (nI i + 1)) = _
      rw [if_neg hlt, ← nI_succ]
    rw [eC, eM]
    by_cases hd : hdn τ i m
    · rw [if_pos ((hh i hfi (by omega)).1 hd), if_neg (show ¬ Q_below κr τ σ F nu (nI i) (nI m - 1) = 0 by rw [hqb]; exact fun h9 => h9 hd)]
      refine ih (i + 1) p q _ ψ σ F nu (by omega) (by omega) (by omega) (by omega) hat hRr (fun j h3 h4 => by rw [hh']; exact hh j h3 h4) (fun a a1 a2 a3 => ?_)
      by_cases ha : a = i
      · subst ha; exact absurd hd a3
      · rw [up_n (by decide)]; exact hl a a1 (by omega) a3
    · rw [if_neg (show ¬ φ 1 0 i = 1 by rw [(hh i hfi (by omega)).2 hd]; decide), if_pos (show Q_below κr τ σ F nu (nI i) (nI m - 1) = 0 by rw [hqb]; exact hd)]
      obtain ⟨⟨n, n1, n2, n3⟩, i4, i5, i6⟩ := hT i (by omega)
      obtain ⟨⟨n', n1', n2', n3'⟩, _, _, _⟩ := hT (i - 1) (by omega)
      have hlk := look_step (σ := σ) (k := i) (n := n) (n' := n') hC (hR.fr hat hRr) hWS (by omega) n2 n1 (fun h9 => by obtain ⟨a, a1, a2, _⟩ := n3 0 (by omega); omega) n2' n1' (fun h25 j hj => by
        obtain ⟨a, a1, a2, a3⟩ := n3 j hj
        have hfa := hfm i hfi (by omega)
        have hna := ch_hid hT c0 (show i < κ 0 by omega) n2 n1 hj a3 a2 h25 hd
        obtain ⟨b1, b2⟩ := hl a (by omega) a2 hna
        exact ⟨a, a3, ⟨a2, by rw [up_n (by decide)]; exact b1⟩, b2⟩)
      obtain ⟨k1, k2, k3⟩ := hlk
      have hX' := hat.tr (FrX.c k1)
      have hR' := hRr.tr (frR.m (by omega) k2)
      have hh2 : ∀ j, f ≤ j → j < m → (hdn τ j m → (P_Looker_lookAt κ (up φ 1 (Au (φ 1) 2 0 (nI i))) ψ (nI i)).2.1 1 0 j = 1) ∧ (¬ hdn τ j m → (P_Looker_lookAt κ (up φ 1 (Au (φ 1) 2 0 (nI i))) ψ (nI i)).2.1 1 0 j = 0) := by
        intro j h3 h4
        obtain ⟨f', g', e1, e2, e3, e4⟩ := k1
        rw [e1, up_n (by decide), hh']
        exact hh j h3 h4
      rcases k3 with ⟨l1, l2⟩ | ⟨l1, l2, l3⟩
      · rw [if_neg l1, if_neg (Int32.not_le.mpr l2)]
        exact ⟨hX', hR', hh2, Or.inl ⟨l1, l2⟩⟩
      · rw [if_pos l1, if_pos (show (Q_look κr τ σ F nu (nI i)).1 ≤ 0 by rw [l2]; decide)]
        refine ih (i + 1) p q _ _ _ _ _ (by omega) (by omega) (by omega) (by omega) hX' hR' hh2 (fun a a1 a2 a3 => ?_)
        by_cases ha : a = i
        · subst ha; exact ⟨l3, look_sg (by omega) n2 n1 l2⟩
        · obtain ⟨b1, b2⟩ := hl a a1 (by omega) a3
          exact ⟨ls_step k1 k2 ha (by omega) (by rw [up_n (by decide)]; exact b1), b2⟩
theorem look_all {κ κr : Nat → Nat} {φ : gF} {ψ : gG} {τ : gf} {σ : gs} {F : gf} {nu : gg} {r m : Nat} (hC : CK κ) (hR : RS κ φ ψ κr τ F nu) (hWS : ∀ o, κ 5 ≤ o → o < 2000 → ¬ τ 22 o = 1) (hT : TW (κ 0) τ) (hH : κ 0 ≤ κ 15) (hH2 : κ 15 ≤ 8192) (hr : r < κ 0) (hm : m = r + 1 ∨ (m = r ∧ ¬ τ 2 r = 25)) :
    LKT κ φ ψ F nu τ (bg τ r) m (P_Looker_look κ φ ψ (nI r) (nI m - 1)) (Q_goThrough κr τ σ F nu (τ 5 r) (nI m - 1)) := by
  have hC' := hC
  obtain ⟨c0, c1, c2, c3, c4, c5, c6, c7, c8⟩ := hC'
  obtain ⟨_, r4, r5, r6⟩ := hT r hr
  obtain ⟨h, e1, e2, e3⟩ := hb_t (ψ := ψ) hT hR.2.1 c0 hH hH2 hr
  have hsame : ∀ j, j < m → (hdn τ j m ↔ hdn τ j (r + 1)) := by
    intro j hj
    rcases hm with h9 | ⟨h9, h8⟩
    · rw [h9]
    · subst h9
      constructor
      · rintro ⟨a, a1, a2, a3, a4⟩; exact ⟨a, a1, by omega, a3, a4⟩
      · rintro ⟨a, a1, a2, a3, a4⟩
        refine ⟨a, a1, ?_, a3, a4⟩
        by_cases ha : a = m
        · subst ha; exact absurd a3 h8
        · omega
  have hfst : P_Trees_firstOf (κ 0) (κ 1) (κ 11) ((up φ 1 h) 2) (nI r) = nI (bg τ r) := by rw [up_n (by decide), pt_3 hr (by omega), (hR.2.1.2.1 r hr).2.2.2, r4]
  unfold P_Looker_look Q_goThrough
  rw [e1]
  dsimp only
  rw [hfst, r4]
  have hz : m ≤ κ 0 := by rcases hm with h9 | ⟨h9, _⟩ <;> omega
  have hfu : m - bg τ r < (2147483647 - (nI (bg τ r)).toInt).toNat + 1 := by rw [nI_toInt (by omega)]; omega
  exact look_loop hC hR hWS hT hH hH2 hz (fun k h1 h2 => by
      by_cases hk : k = r
      · subst hk; exact Nat.le_refl _
      · exact r6 k h1 (by rcases hm with h9 | ⟨h9, _⟩ <;> omega)) (m - bg τ r) (bg τ r) _ _ _ ψ σ F nu (by rcases hm with h9 | ⟨h9, _⟩ <;> omega) hfu hfu (Nat.le_refl _) (FrX.h (fun q i a _ => e2 q i a)) frR.rf (fun j h1 h2 => by
      rw [up_s]
      have := e3 j h1 (by rcases hm with h9 | ⟨h9, _⟩ <;> omega)
      rw [hsame j h2]; exact this) (fun a a1 a2 _ => by omega)
-- shapes of trees out of the reference's; names grow and shrink on both sides
theorem chn_tX {N r : Nat} {τ : gf} {b mn : Nat → Nat} (hT : TR N r τ b mn) (hN : N ≤ 4000) {k : Nat} (hk : k ≤ N) : ∀ i, (∀ j, j ≤ i → 1 ≤ tX b k j) → chn τ k i = nI (tX b k i - 1) := by
  have hb : ∀ c, c < N → b c ≤ c := fun c hc => (hT.1 c hc).2
  intro i
  induction i with
  | zero =>
    intro h
    have h0 : 1 ≤ k := h 0 (Nat.le_refl _)
    show nI k - 1 = nI (k - 1)
    exact j_pred h0
  | succ i ih =>
    intro h
    have h1 := ih (fun j hj => h j (by omega))
    have h2 := h i (by omega)
    have h3 := h (i + 1) (Nat.le_refl _)
    have hle := tX_le hb hk i
    obtain ⟨m, hm⟩ : ∃ m, tX b k i = m + 1 := ⟨tX b k i - 1, by omega⟩
    have e1 := tX_s hm
    show τ 5 (chn τ k i).toNatClampNeg - 1 = _
    rw [h1, hm, nI_clamp (by omega), show m + 1 - 1 = m from rfl, (hT.1 m (by omega)).1, ← e1]
    exact j_pred h3
theorem TW_of {N r : Nat} {τ : gf} {b mn : Nat → Nat} (hT : TR N r τ b mn) (hN : N ≤ 4000) : TW N τ ∧ ∀ k, k < N → bg τ k = b k := by
  have hb : ∀ c, c < N → b c ≤ c := fun c hc => (hT.1 c hc).2
  have hbg : ∀ k, k < N → bg τ k = b k := by
    intro k hk
    unfold bg
    rw [(hT.1 k hk).1]
    exact nI_clamp (by have := hb k hk; omega)
  refine ⟨fun k hk => ⟨⟨mn k, (hT.2.1 k hk).2.1, (hT.2.1 k hk).1, fun i hi => ?_⟩, by rw [hbg k hk]; exact (hT.1 k hk).1, by rw [hbg k hk]; exact hb k hk, fun j h1 h2 => ?_⟩, hbg⟩
  · have hone := (hT.2.1 k hk).2.2.1
    have hmn := (hT.2.1 k hk).2.2.2
    have h1 : 1 ≤ tX b k i := hone i hi
    have hle := tX_le hb (Nat.le_of_lt hk) i
    refine ⟨tX b k i - 1, ?_, by omega, chn_tX hT hN (Nat.le_of_lt hk) i (fun j hj => hone j (by omega))⟩
    rw [hbg k hk, hmn]
    obtain ⟨m, hm⟩ : ∃ m, tX b k i = m + 1 := ⟨tX b k i - 1, by omega⟩
    have e1 := tX_s hm
    have e2 := hb m (by omega)
    obtain ⟨d, hd⟩ : ∃ d, mn k = (i + 1) + d := ⟨mn k - (i + 1), by omega⟩
    have e3 := tX_mono hb (Nat.le_of_lt hk) (i + 1) d
    rw [hd]
    omega
  · rw [hbg k hk, hbg j (by omega)]
    rw [hbg k hk] at h1
    exact lam hb (fun k hk => (hT.2.1 k hk).2.2.2) k hk j h1 (by omega)
-- Names.put
theorem wr_lt {L N j : Nat} {f : Nat → Int32} (h : j < L) : P_wr L (N + 1) f j = f j := P_wr_lt h
theorem pp_put {N sc L : Nat} {f : gf} {x1 x2 x3 x4 : Int32} (hN : N ≤ 8192) (hL : N ≤ L) :
    (∀ q e, q < 5 → e < N → P_Names_put N sc L f x1 x2 x3 x4 q e = f q e) ∧ P_Names_put N sc L f x1 x2 x3 x4 0 N = x1 ∧ P_Names_put N sc L f x1 x2 x3 x4 1 N = x2 ∧ P_Names_put N sc L f x1 x2 x3 x4 2 N = x3 ∧ P_Names_put N sc L f x1 x2 x3 x4 3 N = x4 ∧ P_Names_put N sc L f x1 x2 x3 x4 4 N = f 5 (bk x1) ∧
    (∀ c, P_Names_put N sc L f x1 x2 x3 x4 5 c = if c = bk x1 then nI N else f 5 c) ∧ (∀ s, P_Names_put N sc L f x1 x2 x3 x4 6 s = f 6 s) := by
  have eN : (nI N).toNatClampNeg = N := nI_clamp (by omega)
  unfold P_Names_put
  simp only [eN]
  refine ⟨fun q e hq he => ?_, ?_, ?_, ?_, ?_, ?_, fun c => ?_, fun s => ?_⟩
  · rcases (show q = 0 ∨ q = 1 ∨ q = 2 ∨ q = 3 ∨ q = 4 by omega) with h | h | h | h | h <;> subst h <;> simp only [au_a, show ¬ e = N by omega, and_false, if_false, show ¬ (0 : Nat) = 5 by decide, show ¬ (1 : Nat) = 5 by decide, show ¬ (2 : Nat) = 5 by decide, show ¬ (3 : Nat) = 5 by decide, show ¬ (4 : Nat) = 5 by decide, false_and]
    all_goals (show P_wr L (N + 1) _ e = _; exact wr_lt (by omega))
  · simp [au_a]
  · simp [au_a]
  · simp [au_a]
  · simp [au_a]
  · simp only [au_a, show ¬ (4 : Nat) = 5 by decide, false_and, if_false, true_and, if_true, show ¬ (5 : Nat) = 3 by decide, show ¬ (5 : Nat) = 2 by decide, show ¬ (5 : Nat) = 1 by decide, show ¬ (5 : Nat) = 0 by decide]
    rfl
  · simp only [au_a, show ¬ (5 : Nat) = 4 by decide, show ¬ (5 : Nat) = 3 by decide, show ¬ (5 : Nat) = 2 by decide, show ¬ (5 : Nat) = 1 by decide, show ¬ (5 : Nat) = 0 by decide, false_and, if_false, true_and]
    rfl
  · simp only [au_a, show ¬ (6 : Nat) = 5 by decide, show ¬ (6 : Nat) = 4 by decide, show ¬ (6 : Nat) = 3 by decide, show ¬ (6 : Nat) = 2 by decide, show ¬ (6 : Nat) = 1 by decide, show ¬ (6 : Nat) = 0 by decide, false_and, if_false]
    rfl
theorem lB_cg {f0 f1 : Nat → Int32} {c : Nat} : ∀ n, (∀ e, e < n → f1 e = f0 e) → lB f1 c n = lB f0 c n := by
  intro n
  induction n with
  | zero => intro _; rfl
  | succ n ih =>
    intro h
    unfold lB
    rw [h n (by omega), ih (fun e he => h e (by omega))]
theorem CHN_put {N sc L : Nat} {f : gf} {x1 x2 x3 x4 : Int32} (hN : N ≤ 8192) (hL : N ≤ L) (h : CHN f N) : CHN (P_Names_put N sc L f x1 x2 x3 x4) (N + 1) := by
  obtain ⟨a0, a1, a2, a3, a4, a5, a6, a7⟩ := pp_put (sc := sc) (f := f) (x1 := x1) (x2 := x2) (x3 := x3) (x4 := x4) hN hL
  have h0 : ∀ c n, n ≤ N → lB (P_Names_put N sc L f x1 x2 x3 x4 0) c n = lB (f 0) c n := fun c n hn => lB_cg n (fun e he => a0 0 e (by decide) (by omega))
  refine ⟨fun c hc => ?_, fun e he => ?_⟩
  · show _ = if bk (P_Names_put N sc L f x1 x2 x3 x4 0 N) = c then nI N else lB (P_Names_put N sc L f x1 x2 x3 x4 0) c N
    rw [a6, a1, h0 c N (Nat.le_refl _)]
    by_cases hq : bk x1 = c
    · rw [if_pos hq.symm, if_pos hq]
    · rw [if_neg (fun h9 => hq h9.symm), if_neg hq]; exact h.1 c hc
  · by_cases he' : e = N
    · subst he'
      rw [a5, a1, h0 _ _ (Nat.le_refl _)]
      exact h.1 _ (bk_lt x1)
    · rw [a0 4 e (by decide) (by omega), a0 0 e (by decide) (by omega), h0 _ e (by omega)]
      exact h.2 e (by omega)
/-- starts of scopes lie behind the first names -/
def S12 (κr : Nat → Nat) (f : gf) : Prop := ∀ s, s < κr 5 → ∃ g, 12 ≤ g ∧ g < 2 ^ 31 ∧ f 6 s = nI g
theorem RN_put {κ κr κ' κr' : Nat → Nat} {f τ τ' : gf} {x1 x2 x3 x4 y2 y3 y4 : Int32} (hN : κ 2 ≤ 8192) (hL : κ 2 ≤ κ 12) (h : RN κ f κr τ) (hS : S12 κr f) (h4 : κr 4 < 3000) (h5 : 1 ≤ κr 5) (h51 : κr 5 ≤ 32) (hm : NMr x2 x3 x4 y2 y3 y4)
    (k2 : κ' 2 = κ 2 + 1) (k3 : κ' 3 = κ 3) (r4 : κr' 4 = κr 4 + 1) (r5 : κr' 5 = κr 5) (e25 : ∀ i, i < κr 4 → τ' 25 i = τ 25 i ∧ τ' 26 i = τ 26 i ∧ τ' 27 i = τ 27 i ∧ τ' 28 i = τ 28 i ∧ τ' 29 i = τ 29 i) (n25 : τ' 25 (κr 4) = x1 ∧ τ' 26 (κr 4) = y2 ∧ τ' 27 (κr 4) = y3 ∧ τ' 28 (κr 4) = y4 ∧ τ' 29 (κr 4) = nI (κr 5)) :
    RN κ' (P_Names_put (κ 2) (κ 3) (κ 12) f x1 x2 x3 x4) κr' τ' ∧ S12 κr' (P_Names_put (κ 2) (κ 3) (κ 12) f x1 x2 x3 x4) := by
  obtain ⟨a0, a1, a2, a3, a4, a5, a6, a7⟩ := pp_put (sc := κ 3) (f := f) (x1 := x1) (x2 := x2) (x3 := x3) (x4 := x4) hN hL
  obtain ⟨b1, b2, b3, b4, b5, b6, b7, b8, b9⟩ := h
  refine ⟨⟨by omega, by rw [k3, r5]; exact b2, by omega, by rw [k2]; exact CHN_put hN hL b4, fun e he => ?_, fun i hi => ?_, fun i hi => ?_, by rw [a7]; exact b8, fun s hs => ?_⟩, fun s hs => ?_⟩
  · rw [a0 0 e (by decide) (by omega), a0 1 e (by decide) (by omega), a0 2 e (by decide) (by omega), a0 3 e (by decide) (by omega)]
    exact b5 e he
  · by_cases hi' : i = κr 4
    · subst hi'
      obtain ⟨c1, c2, c3, c4, c5⟩ := n25
      rw [← b1, a1, a2, a3, a4, c1, c2, c3, c4]
      exact ⟨rfl, hm⟩
    · obtain ⟨c1, c2, c3, c4, c5⟩ := e25 i (by omega)
      rw [a0 0 _ (by decide) (by omega), a0 1 _ (by decide) (by omega), a0 2 _ (by decide) (by omega), a0 3 _ (by decide) (by omega), c1, c2, c3, c4]
      exact b6 i (by omega)
  · by_cases hi' : i = κr 4
    · subst hi'
      refine ⟨κr 5, h5, by omega, n25.2.2.2.2, fun s hs => ?_⟩
      obtain ⟨g, g1, g2⟩ := b9 s (by omega)
      rw [a7, g2, nI_toInt (by omega)]
      omega
    · obtain ⟨d, d1, d2, d3, d4⟩ := b7 i (by omega)
      refine ⟨d, d1, by omega, by rw [(e25 i (by omega)).2.2.2.2]; exact d3, fun s hs => ?_⟩
      rw [a7]; exact d4 s (by omega)
  · obtain ⟨g, g1, g2⟩ := b9 s (by omega)
    exact ⟨g, by omega, by rw [a7]; exact g2⟩
  · obtain ⟨g, g1, g2, g3⟩ := hS s (by omega)
    exact ⟨g, g1, g2, by rw [a7]; exact g3⟩
theorem RN_open {κ κr κ' κr' : Nat → Nat} {f τ : gf} (hN : κ 2 ≤ 8192) (h : RN κ f κr τ) (hS : S12 κr f) (h5 : κr 5 < 32) (k2 : κ' 2 = κ 2) (k3 : κ' 3 = κ 3 + 1) (r4 : κr' 4 = κr 4) (r5 : κr' 5 = κr 5 + 1) (h51 : 1 ≤ κr 5) :
    RN κ' (P_Names_open (κ 2) (κ 3) (κ 12) f) κr' τ ∧ S12 κr' (P_Names_open (κ 2) (κ 3) (κ 12) f) := by
  obtain ⟨b1, b2, b3, b4, b5, b6, b7, b8, b9⟩ := h
  have hP : P_Names_open (κ 2) (κ 3) (κ 12) f = Au f 6 (κ 3) (nI (κ 2)) := by
    unfold P_Names_open
    rw [if_neg (by rw [show (32 : Int32) = nI 32 from rfl, j_le (by omega) (by omega)]; omega), nI_clamp (by omega)]
  rw [hP]
  have hq : ∀ q e, ¬ q = 6 → Au f 6 (κ 3) (nI (κ 2)) q e = f q e := fun q e hq => by rw [au_a, if_neg (fun h9 => hq h9.1)]
  have h6 : ∀ s, Au f 6 (κ 3) (nI (κ 2)) 6 s = if s = κ 3 then nI (κ 2) else f 6 s := fun s => by rw [au_a]; simp
  refine ⟨⟨by omega, by omega, by omega, ⟨fun c hc => ?_, fun e he => ?_⟩, fun e he => ?_, fun i hi => ?_, fun i hi => ?_, by rw [h6, if_neg (by omega)]; exact b8, fun s hs => ?_⟩, fun s hs => ?_⟩
  · rw [hq 5 c (by decide), show (Au f 6 (κ 3) (nI (κ 2)) 0) = f 0 from rfl, k2]; exact b4.1 c hc
  · rw [hq 4 e (by decide), show (Au f 6 (κ 3) (nI (κ 2)) 0) = f 0 from rfl]; exact b4.2 e (by omega)
  · rw [hq 0 e (by decide), hq 1 e (by decide), hq 2 e (by decide), hq 3 e (by decide)]; exact b5 e he
  · rw [hq 0 _ (by decide), hq 1 _ (by decide), hq 2 _ (by decide), hq 3 _ (by decide)]; exact b6 i (by omega)
  · obtain ⟨d, d1, d2, d3, d4⟩ := b7 i (by omega)
    refine ⟨d, d1, by omega, d3, fun s hs => ?_⟩
    rw [h6]
    by_cases hs' : s = κ 3
    · rw [if_pos hs', nI_toInt (by omega)]; omega
    · rw [if_neg hs']; exact d4 s (by omega)
  · rw [h6]
    by_cases hs' : s = κ 3
    · rw [if_pos hs']; exact ⟨κ 2, by omega, rfl⟩
    · rw [if_neg hs', k2]; exact b9 s (by omega)
  · rw [h6]
    by_cases hs' : s = κ 3
    · rw [if_pos hs']; exact ⟨κ 2, by omega, by omega, rfl⟩
    · rw [if_neg hs']; exact hS s (by omega)
-- scopes closed; names taken; types grow
theorem pc_35 {N sc L G : Nat} {f0 : gf} (hN : N ≤ 8192) (hC : CHN f0 N) : ∀ d e fuel (f : gf), e = G + d → e ≤ N → d < fuel → (∀ q i, ¬ q = 5 → f q i = f0 q i) → (∀ c, c < 256 → f 5 c = lB (f0 0) c e) →
    ∃ f', P_Names_close_35 N sc L fuel f (nI G) (nI e - 1) = f' ∧ (∀ q i, ¬ q = 5 → f' q i = f0 q i) ∧ ∀ c, c < 256 → f' 5 c = lB (f0 0) c G := by
  intro d
  induction d with
  | zero =>
    intro e fuel f he heN hf hq h5
    obtain ⟨m, rfl⟩ : ∃ m, fuel = m + 1 := ⟨fuel - 1, by omega⟩
    obtain rfl : e = G := by omega
    refine ⟨f, ?_, hq, h5⟩
    show (if nI e - 1 < nI e then f else _) = f
    rw [if_pos (by rw [j_last (by omega) (by omega)]; exact Nat.le_refl _)]
  | succ d ih =>
    intro e fuel f he heN hf hq h5
    obtain ⟨m, rfl⟩ : ∃ m, fuel = m + 1 := ⟨fuel - 1, by omega⟩
    obtain ⟨e', rfl⟩ : ∃ e', e = e' + 1 := ⟨e - 1, by omega⟩
    have hp : nI (e' + 1) - 1 = nI e' := nI_pred e'
    have hp2 : nI e' + (-1) = nI e' - 1 := by
      apply Int32.toInt_inj.mp
      rw [Int32.toInt_add, Int32.toInt_sub, nI_toInt (by omega), show (-1 : Int32).toInt = -1 from rfl, show (1 : Int32).toInt = 1 from rfl]
      congr 1
    have hbk : ((f 0 e') &&& 255).toNatClampNeg = bk (f0 0 e') := by rw [hq 0 e' (by decide)]; rfl
    show ∃ f', (if nI (e' + 1) - 1 < nI G then f else P_Names_close_35 N sc L m (Au f 5 ((f 0 (nI (e' + 1) - 1).toNatClampNeg) &&& 255).toNatClampNeg (f 4 (nI (e' + 1) - 1).toNatClampNeg)) (nI G) (nI (e' + 1) - 1 + (-1))) = f' ∧ _
    rw [if_neg (by rw [j_last (by omega) (by omega)]; omega), hp, nI_clamp (by omega), hbk, hp2, hq 4 e' (by decide), hC.2 e' (by omega)]
    refine ih e' m _ (by omega) (by omega) (by omega) (fun q i h => ?_) (fun c hc => ?_)
    · rw [au_a, if_neg (fun h9 => h h9.1)]; exact hq q i h
    · rw [au_a]
      by_cases hc' : c = bk (f0 0 e')
      · rw [if_pos ⟨rfl, hc'⟩, hc']
      · rw [if_neg (fun h9 => hc' h9.2), h5 c hc]
        show (if bk (f0 0 e') = c then nI e' else lB (f0 0) c e') = _
        rw [if_neg (fun h9 => hc' h9.symm)]
theorem ql_36 {κ κ0 : Nat → Nat} {τ : gf} {σ : gs} {F : gf} {nu : gg} {t : Int32} {n : Nat} (h5 : κ0 5 ≤ 32) : ∀ d fuel (κ1 : Nat → Nat), κ1 4 = n + d → κ1 4 ≤ 3000 → (∀ i, ¬ i = 4 → κ1 i = κ0 i) → d < fuel → (∀ i, n ≤ i → i < κ1 4 → ∃ dd, dd ≤ 33 ∧ τ 29 i = nI dd ∧ κ0 5 < dd) → (n = 0 ∨ ∃ dd, dd ≤ 33 ∧ τ 29 (n - 1) = nI dd ∧ dd ≤ κ0 5) →
    ∃ κ2, Q_leave_36 κ τ σ F nu t fuel κ1 τ = (nI (κ0 5), κ2, τ, upd σ 0 t, F, nu) ∧ κ2 4 = n ∧ ∀ i, ¬ i = 4 → κ2 i = κ0 i := by
  intro d
  induction d with
  | zero =>
    intro fuel κ1 h1 h2 h3 hf hd hn
    obtain ⟨m, rfl⟩ : ∃ m, fuel = m + 1 := ⟨fuel - 1, by omega⟩
    refine ⟨κ1, ?_, by omega, h3⟩
    show (if nI (κ1 4) ≤ 0 then _ else if τ 29 (nI (κ1 4) - 1).toNatClampNeg ≤ nI (κ1 5) then _ else _) = _
    rw [h3 5 (by decide)]
    by_cases h0 : κ1 4 = 0
    · rw [if_pos (by rw [h0]; decide)]
    · rw [if_neg (by rw [show (0 : Int32) = nI 0 from rfl, j_le (by omega) (by omega)]; omega), j_pred (by omega), nI_clamp (by omega)]
      rcases hn with h | ⟨dd, d1, d2, d3⟩
      · omega
      · rw [show κ1 4 - 1 = n - 1 by omega, d2, if_pos (by rw [j_le (by omega) (by omega)]; exact d3)]
  | succ d ih =>
    intro fuel κ1 h1 h2 h3 hf hd hn
    obtain ⟨m, rfl⟩ : ∃ m, fuel = m + 1 := ⟨fuel - 1, by omega⟩
    show ∃ κ2, (if nI (κ1 4) ≤ 0 then _ else if τ 29 (nI (κ1 4) - 1).toNatClampNeg ≤ nI (κ1 5) then _ else Q_leave_36 κ τ σ F nu t m (ku κ1 4 (κ1 4 - 1)) τ) = _ ∧ _
    obtain ⟨dd, d1, d2, d3⟩ := hd (κ1 4 - 1) (by omega) (by omega)
    rw [if_neg (by rw [show (0 : Int32) = nI 0 from rfl, j_le (by omega) (by omega)]; omega), j_pred (by omega), nI_clamp (by omega), d2, h3 5 (by decide), if_neg (by rw [j_le (by omega) (by omega)]; omega)]
    exact ih m _ (by show κ1 4 - 1 = _; omega) (by show κ1 4 - 1 ≤ _; omega) (fun i hi => by show (if i = 4 then _ else κ1 i) = _; rw [if_neg hi]; exact h3 i hi) (by omega) (fun i a b => hd i a (by have h9 : i < κ1 4 - 1 := b; omega)) hn
theorem fu_dn {n : Nat} (h : n < 2 ^ 31) : n ≤ ((nI n).toInt + 2147483648).toNat := by
  rw [nI_toInt h]; omega
theorem RN_close {κ κr κ' κr' : Nat → Nat} {f τ : gf} {s1 : Nat} (hN : κ 2 ≤ 8192) (h : RN κ f κr τ) (hS : S12 κr f) (h5 : κr 5 = s1 + 1) (hs1 : 1 ≤ s1) (h51 : κr 5 ≤ 32) (k2 : κ' 2 = (f 6 s1).toNatClampNeg) (k3 : κ' 3 = s1) (r5 : κr' 5 = s1) :
    12 ≤ (f 6 s1).toNatClampNeg ∧ (f 6 s1).toNatClampNeg ≤ κ 2 ∧ (κr' 4 = (f 6 s1).toNatClampNeg - 12 → RN κ' (P_Names_close (κ 2) (κ 3) (κ 12) f s1) κr' τ ∧ S12 κr' (P_Names_close (κ 2) (κ 3) (κ 12) f s1)) ∧
    (∀ i, (f 6 s1).toNatClampNeg - 12 ≤ i → i < κr 4 → ∃ dd, dd ≤ 33 ∧ τ 29 i = nI dd ∧ s1 < dd) ∧ ((f 6 s1).toNatClampNeg - 12 = 0 ∨ ∃ dd, dd ≤ 33 ∧ τ 29 ((f 6 s1).toNatClampNeg - 12 - 1) = nI dd ∧ dd ≤ s1) := by
  obtain ⟨b1, b2, b3, b4, b5, b6, b7, b8, b9⟩ := h
  obtain ⟨g, g1, g2⟩ := b9 s1 (by omega)
  obtain ⟨g', g3, g4, g5⟩ := hS s1 (by omega)
  obtain rfl : g' = g := by rw [g2] at g5; exact ((j_eq (by omega) (by omega)).mp g5).symm
  have hG : (f 6 s1).toNatClampNeg = g' := by rw [g2]; exact nI_clamp (by omega)
  rw [hG] at k2 ⊢
  have hin : ∀ i, i < κr 4 → ∃ d, 1 ≤ d ∧ d ≤ κr 5 ∧ τ 29 i = nI d ∧ (g' ≤ 12 + i ↔ s1 + 1 ≤ d) := by
    intro i hi
    obtain ⟨d, d1, d2, d3, d4⟩ := b7 i hi
    refine ⟨d, d1, d2, d3, ?_⟩
    have := d4 s1 (by omega)
    rw [g2, nI_toInt (by omega)] at this
    constructor
    · intro h9; exact this.mp (by omega)
    · intro h9; have := this.mpr h9; omega
  refine ⟨g3, by omega, fun r4 => ?_, fun i h1 h2 => ?_, ?_⟩
  · have hP : ∃ f', P_Names_close (κ 2) (κ 3) (κ 12) f s1 = f' ∧ (∀ q i, ¬ q = 5 → f' q i = f q i) ∧ ∀ c, c < 256 → f' 5 c = lB (f 0) c g' := by
      unfold P_Names_close
      rw [if_neg (by rw [show (1 : Int32) = nI 1 from rfl, j_le (by omega) (by omega)]; omega), nI_clamp (by omega), g2]
      have hfu : κ 2 - g' < (((nI (κ 2)) - 1).toInt + 2147483648).toNat + 1 := by
        rw [j_pred (by omega)]
        have h8 := fu_dn (n := κ 2 - 1) (by omega)
        generalize ((nI (κ 2 - 1)).toInt + 2147483648).toNat = X at h8 ⊢
        omega
      exact pc_35 hN b4 (κ 2 - g') (κ 2) _ f (by omega) (Nat.le_refl _) hfu (fun _ _ _ => rfl) (fun c hc => b4.1 c hc)
    obtain ⟨f', e1, e2, e3⟩ := hP
    rw [e1]
    have e0 : f' 0 = f 0 := funext (fun i => e2 0 i (by decide))
    refine ⟨⟨by omega, by omega, by omega, ⟨fun c hc => by rw [e3 c hc, e0, k2], fun e he => by rw [e2 4 e (by decide), e0]; exact b4.2 e (by omega)⟩, fun e he => ?_, fun i hi => ?_, fun i hi => ?_, by rw [e2 6 0 (by decide)]; exact b8, fun s hs => ?_⟩, fun s hs => ?_⟩
    · rw [e2 0 e (by decide), e2 1 e (by decide), e2 2 e (by decide), e2 3 e (by decide)]; exact b5 e he
    · rw [e2 0 _ (by decide), e2 1 _ (by decide), e2 2 _ (by decide), e2 3 _ (by decide)]; exact b6 i (by omega)
    · obtain ⟨d, d1, d2, d3, d4⟩ := b7 i (by omega)
      obtain ⟨dd, c1, c2, c3, c4⟩ := hin i (by omega)
      have hdd : dd = d := by rw [d3] at c3; exact ((j_eq (by omega) (by omega)).mp c3).symm
      have : ¬ s1 + 1 ≤ dd := fun h9 => by have := c4.mpr h9; omega
      exact ⟨d, d1, by omega, d3, fun s hs => by rw [e2 6 s (by decide)]; exact d4 s (by omega)⟩
    · obtain ⟨u, u1, u2⟩ := b9 s (by omega)
      refine ⟨u, ?_, by rw [e2 6 s (by decide)]; exact u2⟩
      -- starts rise
      rw [k2]
      by_cases hu : u ≤ g'
      · exact hu
      · exfalso
        obtain ⟨d, d1, d2, d3, d4⟩ := b7 (g' - 12) (by omega)
        obtain ⟨dd, c1, c2, c3, c4⟩ := hin (g' - 12) (by omega)
        have hdd : dd = d := by rw [d3] at c3; exact ((j_eq (by omega) (by omega)).mp c3).symm
        have h8 := c4.mp (by omega)
        have h9 := (d4 s (by omega)).mpr (by omega)
        rw [u2, nI_toInt (by omega)] at h9
        omega
    · obtain ⟨u, u1, u2, u3⟩ := hS s (by omega)
      exact ⟨u, u1, u2, by rw [e2 6 s (by decide)]; exact u3⟩
  · obtain ⟨d, d1, d2, d3, d4⟩ := hin i h2
    exact ⟨d, by omega, d3, by have := d4.mp (by omega); omega⟩
  · by_cases h0 : g' - 12 = 0
    · exact Or.inl h0
    · right
      obtain ⟨d, d1, d2, d3, d4⟩ := hin (g' - 12 - 1) (by omega)
      refine ⟨d, by omega, d3, ?_⟩
      have : ¬ s1 + 1 ≤ d := fun h9 => by have := d4.mpr h9; omega
      omega
/-- a name is taken in the innermost scope, on both sides -/
theorem tk_rel {κ κr : Nat → Nat} {f τ : gf} {σ : gs} {F : gf} {nu : gg} {v : Nat} (hN : κ 2 ≤ 8192) (h : RN κ f κr τ) (hS : S12 κr f) (h5 : 1 ≤ κr 5) (h51 : κr 5 ≤ 32) (hv : v < 10000) :
    (P_Names_isTaken (κ 2) (κ 3) (κ 12) f (nI v) = 0) = (Q_hasHere κr τ σ F nu (nI v) = 0) := by
  obtain ⟨b1, b2, b3, b4, b5, b6, b7, b8, b9⟩ := h
  have hQ1 : ∀ d i fuel, i + d = κr 4 → d < fuel → Q_hasHere_4 κr τ σ F nu (nI v) fuel (nI i) 1 = 1 := by
    intro d
    induction d with
    | zero =>
      intro i fuel hi hf
      obtain ⟨m, rfl⟩ : ∃ m, fuel = m + 1 := ⟨fuel - 1, by omega⟩
      show (if nI (κr 4) ≤ nI i then _ else _) = _
      rw [if_pos (by rw [j_le (by omega) (by omega)]; omega)]
    | succ d ih =>
      intro i fuel hi hf
      obtain ⟨m, rfl⟩ : ∃ m, fuel = m + 1 := ⟨fuel - 1, by omega⟩
      show (if nI (κr 4) ≤ nI i then _ else if (1 : Int32) = 0 then _ else Q_hasHere_4 κr τ σ F nu (nI v) m (nI i + 1) 1) = _
      rw [if_neg (by rw [j_le (by omega) (by omega)]; omega), if_neg (by decide), ← nI_succ]
      exact ih (i + 1) m (by omega) (by omega)
  have hQ : ∀ d i fuel, i + d = κr 4 → d < fuel → (Q_hasHere_4 κr τ σ F nu (nI v) fuel (nI i) 0 = 0) = ¬ ∃ j, i ≤ j ∧ j < κr 4 ∧ τ 25 j = nI v ∧ τ 29 j = nI (κr 5) := by
    intro d
    induction d with
    | zero =>
      intro i fuel hi hf
      obtain ⟨m, rfl⟩ : ∃ m, fuel = m + 1 := ⟨fuel - 1, by omega⟩
      show ((if nI (κr 4) ≤ nI i then (0 : Int32) else _) = 0) = _
      rw [if_pos (by rw [j_le (by omega) (by omega)]; omega)]
      exact propext ⟨fun _ ⟨j, j1, j2, _⟩ => by omega, fun _ => rfl⟩
    | succ d ih =>
      intro i fuel hi hf
      obtain ⟨m, rfl⟩ : ∃ m, fuel = m + 1 := ⟨fuel - 1, by omega⟩
      show ((if nI (κr 4) ≤ nI i then (0 : Int32) else if (0 : Int32) = 0 then (if τ 25 (nI i).toNatClampNeg = nI v then (if τ 29 (nI i).toNatClampNeg = nI (κr 5) then Q_hasHere_4 κr τ σ F nu (nI v) m (nI i + 1) 1 else Q_hasHere_4 κr τ σ F nu (nI v) m (nI i + 1) 0) else Q_hasHere_4 κr τ σ F nu (nI v) m (nI i + 1) 0) else _) = 0) = _
      rw [if_neg (by rw [j_le (by omega) (by omega)]; omega), if_pos rfl, nI_clamp (by omega), ← nI_succ]
      have hne : ¬ (τ 25 i = nI v ∧ τ 29 i = nI (κr 5)) → (¬ ∃ j, i + 1 ≤ j ∧ j < κr 4 ∧ τ 25 j = nI v ∧ τ 29 j = nI (κr 5)) = ¬ ∃ j, i ≤ j ∧ j < κr 4 ∧ τ 25 j = nI v ∧ τ 29 j = nI (κr 5) := by
        intro hq
        refine propext ⟨fun h9 ⟨j, j1, j2, j3, j4⟩ => h9 ⟨j, ?_, j2, j3, j4⟩, fun h9 ⟨j, j1, j2, j3, j4⟩ => h9 ⟨j, by omega, j2, j3, j4⟩⟩
        by_cases h8 : j = i
        · subst h8; exact absurd ⟨j3, j4⟩ hq
        · omega
      by_cases q1 : τ 25 i = nI v
      · rw [if_pos q1]
        by_cases q2 : τ 29 i = nI (κr 5)
        · rw [if_pos q2, hQ1 d (i + 1) m (by omega) (by omega)]
          exact propext ⟨fun h9 => absurd h9 (by decide), fun h9 => absurd ⟨i, Nat.le_refl _, by omega, q1, q2⟩ h9⟩
        · rw [if_neg q2, ih (i + 1) m (by omega) (by omega), hne (fun h9 => q2 h9.2)]
      · rw [if_neg q1, ih (i + 1) m (by omega) (by omega), hne (fun h9 => q1 h9.1)]
  have hf0 := fuel0
  have hQ0 : (Q_hasHere κr τ σ F nu (nI v) = 0) = ¬ ∃ j, 0 ≤ j ∧ j < κr 4 ∧ τ 25 j = nI v ∧ τ 29 j = nI (κr 5) := by
    unfold Q_hasHere
    exact hQ (κr 4) 0 _ (by omega) (by omega)
  rw [hQ0]
  unfold P_Names_isTaken
  rw [pn_find hN b4, j_pred (by omega), nI_clamp (by omega)]
  obtain ⟨g, g1, g2, g3⟩ := hS (κ 3 - 1) (by omega)
  rw [g3]
  have hin : ∀ i, i < κr 4 → (g ≤ 12 + i ↔ τ 29 i = nI (κr 5)) := by
    intro i hi
    obtain ⟨d, d1, d2, d3, d4⟩ := b7 i hi
    have h9 := d4 (κ 3 - 1) (by omega)
    rw [g3, nI_toInt g2] at h9
    rw [d3, j_eq (by omega) (by omega)]
    constructor
    · intro h8; have := h9.mp (by omega); omega
    · intro h8; have := h9.mpr (by omega); omega
  rcases lNm_c (f 0) (nI v) (κ 2) with ⟨h1, h2⟩ | ⟨e, h1, h2, h3, h4⟩
  · rw [h1, if_pos (by rw [Int32.lt_iff_toInt_lt, nI_toInt g2]; exact Int.lt_of_lt_of_le (show (-1 : Int32).toInt < 0 by decide) (by omega))]
    refine propext ⟨fun _ ⟨j, j1, j2, j3, j4⟩ => h2 (12 + j) (by omega) ?_, fun _ => rfl⟩
    rw [(b6 j j2).1]; exact j3
  · rw [h2]
    by_cases he : e < g
    · rw [if_pos (by rw [j_lt (by omega) g2]; exact he)]
      refine propext ⟨fun _ ⟨j, j1, j2, j3, j4⟩ => ?_, fun _ => rfl⟩
      have h8 := (hin j j2).mpr j4
      exact h4 (12 + j) (by omega) (by omega) (by rw [(b6 j j2).1]; exact j3)
    · rw [if_neg (by rw [j_lt (by omega) g2]; exact he)]
      refine propext ⟨fun h9 => absurd h9 (by decide), fun h9 => ?_⟩
      exfalso
      apply h9
      refine ⟨e - 12, Nat.zero_le _, by omega, ?_, (hin (e - 12) (by omega)).mp (by omega)⟩
      rw [← (b6 (e - 12) (by omega)).1, show 12 + (e - 12) = e by omega]; exact h3
theorem pt_put {N L : Nat} {f : gf} {x1 x2 x3 x4 : Int32} (hN : N ≤ 8192) (hL : N ≤ L) :
    (P_Types_put N L f x1 x2 x3 x4).1 = nI N ∧ (∀ q e, q < 4 → e < N → (P_Types_put N L f x1 x2 x3 x4).2 q e = f q e) ∧ (P_Types_put N L f x1 x2 x3 x4).2 0 N = x1 ∧ (P_Types_put N L f x1 x2 x3 x4).2 1 N = x2 ∧ (P_Types_put N L f x1 x2 x3 x4).2 2 N = x3 ∧ (P_Types_put N L f x1 x2 x3 x4).2 3 N = x4 := by
  have eN : (nI N).toNatClampNeg = N := nI_clamp (by omega)
  unfold P_Types_put
  simp only [eN]
  refine ⟨trivial, fun q e hq he => ?_, ?_, ?_, ?_, ?_⟩
  · rcases (show q = 0 ∨ q = 1 ∨ q = 2 ∨ q = 3 by omega) with h | h | h | h <;> subst h <;> simp only [au_a, show ¬ e = N by omega, and_false, if_false]
    all_goals (show P_wr L (N + 1) _ e = _; exact wr_lt (by omega))
  · simp [au_a]
  · simp [au_a]
  · simp [au_a]
  · simp [au_a]
/-- a type is put on both sides -/
theorem RTy_put {κ κr κ' κr' : Nat → Nat} {f f' τ τ' : gf} {x1 x2 x3 x4 c : Int32} (hT : RTy κ f κr τ) (h2 : κr 2 < 1000) (k4 : κ' 4 = κ 4 + 1) (r2 : κr' 2 = κr 2 + 1) (hf : (∀ q e, q < 4 → e < κ 4 → f' q e = f q e) ∧ f' 0 (κ 4) = x1 ∧ f' 1 (κ 4) = x2 ∧ f' 2 (κ 4) = x3 ∧ f' 3 (κ 4) = c)
    (e16 : ∀ t, t < κr 2 → τ' 16 t = τ 16 t ∧ τ' 17 t = τ 17 t ∧ τ' 18 t = τ 18 t ∧ τ' 19 t = τ 19 t ∧ τ' 20 t = τ 20 t) (n16 : τ' 16 (κr 2) = x1 ∧ τ' 17 (κr 2) = x2 ∧ τ' 18 (κr 2) = x3 ∧ τ' 19 (κr 2) = x4 ∧ τ' 20 (κr 2) = if 0 ≤ c then 0 else 1) (hc : (if 0 ≤ c then c else 0 - c) = x4) (hx : x1 = 0 ∨ x1 = 1 ∨ x1 = 2 ∨ x1 = 3 ∨ x1 = 4)
    (hr : x1 = 3 → ∃ l r n : Nat, x2 = nI l ∧ x3 = nI r ∧ x4 = nI n ∧ l < 2 ^ 31 ∧ r < 2 ^ 31 ∧ 1 ≤ n ∧ n ≤ 64 ∧ (((if 0 ≤ c then (0 : Int32) else 1) = 0 ∧ r + 1 = l + n) ∨ ((if 0 ≤ c then (0 : Int32) else 1) = 1 ∧ l + 1 = r + n))) : RTy κ' f' κr' τ' := by
  obtain ⟨a1, a2, a3, a4⟩ := hT
  obtain ⟨f0, f1, f2, f3, f4⟩ := hf
  refine ⟨by omega, by omega, by omega, fun t ht => ?_⟩
  by_cases ht' : t = κ 4
  · subst ht'
    obtain ⟨m1, m2, m3, m4, m5⟩ := n16
    rw [f1, f2, f3, f4, a1, m1, m2, m3, m4, m5]
    exact ⟨rfl, rfl, rfl, hc, rfl, hx, hr⟩
  · obtain ⟨m1, m2, m3, m4, m5⟩ := e16 t (by omega)
    rw [f0 0 t (by decide) (by omega), f0 1 t (by decide) (by omega), f0 2 t (by decide) (by omega), f0 3 t (by decide) (by omega), m1, m2, m3, m4, m5]
    exact a4 t (by omega)
-- what both sides hold between two calls; enter, leave, subtype, clear, typeOf
def IL (κ : Nat → Nat) : Prop := (κ 6 ≤ 8192 ∧ κ 7 ≤ 8192 ∧ κ 8 ≤ 8192 ∧ κ 9 ≤ 8192 ∧ κ 10 ≤ 8192 ∧ κ 11 ≤ 8192 ∧ κ 12 ≤ 8192 ∧ κ 13 ≤ 8192 ∧ κ 14 ≤ 8192 ∧ κ 15 ≤ 8192) ∧ κ 0 ≤ κ 11 ∧ κ 1 ≤ κ 0 ∧ κ 2 ≤ κ 12 ∧ κ 4 ≤ κ 13 ∧ κ 5 ≤ κ 14 ∧ 1 ≤ κ 3 ∧ κ 3 ≤ 32
def RX (κ : Nat → Nat) (φ : gF) (ψ : gG) (κr : Nat → Nat) (τ : gf) (F : gf) (nu : gg) : Prop :=
  RS κ φ ψ κr τ F nu ∧ S12 κr (φ 3) ∧ (∀ o, κ 5 ≤ o → o < 2000 → ¬ τ 22 o = 1) ∧ κ 1 = κr 1 ∧ (κ 0 ≤ κ 6 ∧ κ 0 ≤ κ 7 ∧ κ 0 ≤ κ 9 ∧ κ 0 ≤ κ 10 ∧ κ 0 ≤ κ 15 ∧ κ 5 ≤ κ 8)
def STEP (o : XR) (q : XQ) : Prop := RX o.2.2.1 o.2.2.2.1 o.2.2.2.2 q.2.1 q.2.2.1 q.2.2.2.2.1 q.2.2.2.2.2
theorem RS_nm {κ κ' κr κr' : Nat → Nat} {φ φ' : gF} {ψ ψ' : gG} {τ τ' F : gf} {nu : gg} (h : RS κ φ ψ κr τ F nu) (hk : κ' 0 = κ 0 ∧ κ' 4 = κ 4 ∧ κ' 5 = κ 5 ∧ κ' 8 = κ 8) (hr : κr' 0 = κr 0 ∧ κr' 2 = κr 2 ∧ κr' 3 = κr 3) (hτ : ∀ q, q < 25 → τ' q = τ q) (hφ : φ' 2 = φ 2 ∧ φ' 4 = φ 4 ∧ φ' 5 = φ 5) (hψ : ψ' 6 = ψ 6) (hN : κ' 2 ≤ 8192) (hRN : RN κ' (φ' 3) κr' τ') (hNW : NW κr' τ') : RS κ' φ' ψ' κr' τ' F nu := by
  obtain ⟨a1, ⟨t1, t2, t3⟩, a3, a4, ⟨y1, y2, y3, y4⟩, o1, o2, o3⟩ := h
  obtain ⟨k0, k4, k5, k8⟩ := hk
  obtain ⟨r0, r2, r3⟩ := hr
  obtain ⟨p2, p4, p5⟩ := hφ
  refine ⟨hN, ⟨by rw [k0, r0]; exact t1, ?_, ?_⟩, hRN, hNW, ⟨by rw [k4, r2]; exact y1, by rw [r2]; exact y2, by rw [r2]; exact y3, ?_⟩, by rw [k5, r3]; exact o1, by rw [r3]; exact o2, ?_⟩
  · rw [k0, p2, hτ 2 (by decide), hτ 3 (by decide), hτ 4 (by decide), hτ 5 (by decide)]; exact t2
  · rw [k0, hτ 2 (by decide), hτ 3 (by decide)]; exact t3
  · rw [k4, p4, hτ 16 (by decide), hτ 17 (by decide), hτ 18 (by decide), hτ 19 (by decide), hτ 20 (by decide)]; exact y4
  · have hext : ext τ' = ext τ := by funext t; unfold ext; rw [hτ 16 (by decide), hτ 19 (by decide)]
    rw [k5, k4, k8, p5, hψ, hτ 22 (by decide), hτ 23 (by decide), hτ 16 (by decide), hext]; exact o3
/-- the answers agree -/
def AN (o : XR) (q : XQ) : Prop := o.1 = q.2.2.2.1 0 ∧ (o.1 = 0 → o.2.1 = q.1)
theorem an_n {t r : Int32} {κ : Nat → Nat} {φ : gF} {ψ : gG} {q : XQ} (ht : ¬ t = 0) (h1 : t = q.2.2.2.1 0) : AN (t, r, κ, φ, ψ) q := ⟨h1, fun h9 => absurd h9 ht⟩
theorem an_0 {r : Int32} {κ : Nat → Nat} {φ : gF} {ψ : gG} {q : XQ} (h1 : 0 = q.2.2.2.1 0) (h2 : r = q.1) : AN (0, r, κ, φ, ψ) q := ⟨h1, fun _ => h2⟩
theorem cd_up {σ : gs} {t : Int32} : (upd σ 0 t) 0 = t := by simp [upd]
theorem RX.fault {κ κr : Nat → Nat} {φ : gF} {ψ : gG} {τ F : gf} {nu : gg} {x : Int32} (h : RX κ φ ψ κr τ F nu) : RX κ (up φ 1 (Au (φ 1) 1 0 x)) ψ κr τ F nu := by
  obtain ⟨hR, hS, hW, h1, hcap⟩ := h
  exact ⟨RS_nm hR ⟨rfl, rfl, rfl, rfl⟩ ⟨rfl, rfl, rfl⟩ (fun _ _ => rfl) ⟨rfl, rfl, rfl⟩ rfl hR.1 (by rw [up_n (by decide)]; exact hR.2.2.1) hR.2.2.2.1, by rw [up_n (by decide)]; exact hS, hW, h1, hcap⟩
theorem has_t {N L : Nat} {f : gf} {x : Int32} (hN : N < 2 ^ 31) : (P_Types_has N L f x = 0 ∧ ¬ ∃ t, t < N ∧ x = nI t) ∨ (P_Types_has N L f x = 1 ∧ ∃ t, t < N ∧ x = nI t) := by
  unfold P_Types_has
  by_cases h0 : x < 0
  · rw [if_pos h0]; exact Or.inl ⟨rfl, fun ⟨t, h1, h2⟩ => by rw [h2] at h0; exact nI_pos (by omega) h0⟩
  · obtain ⟨t, ht, rfl⟩ := nI_of h0
    rw [if_neg h0]
    by_cases h1 : N ≤ t
    · rw [if_pos (by rw [j_le hN (by omega)]; exact h1)]
      exact Or.inl ⟨rfl, fun ⟨t', h3, h4⟩ => by have := (j_eq (by omega) (by omega)).mp h4; omega⟩
    · rw [if_neg (by rw [j_le hN (by omega)]; exact h1)]
      exact Or.inr ⟨rfl, t, by omega, rfl⟩
theorem nt_t {κ : Nat → Nat} {τ : gf} {σ : gs} {F : gf} {nu : gg} {x : Int32} (hN : κ 2 < 2 ^ 31) : (Q_noType κ τ σ F nu x = 1 ∧ ¬ ∃ t, t < κ 2 ∧ x = nI t) ∨ (Q_noType κ τ σ F nu x = 0 ∧ ∃ t, t < κ 2 ∧ x = nI t) := by
  unfold Q_noType Q_noType_12
  by_cases h0 : x < 0
  · rw [if_pos h0]; exact Or.inl ⟨rfl, fun ⟨t, h1, h2⟩ => by rw [h2] at h0; exact nI_pos (by omega) h0⟩
  · obtain ⟨t, ht, rfl⟩ := nI_of h0
    rw [if_neg h0]
    by_cases h1 : t < κ 2
    · rw [if_pos (by rw [j_lt (by omega) hN]; exact h1)]
      exact Or.inr ⟨rfl, t, h1, rfl⟩
    · rw [if_neg (by rw [j_lt (by omega) hN]; exact h1)]
      exact Or.inl ⟨rfl, fun ⟨t', h3, h4⟩ => by have := (j_eq (by omega) (by omega)).mp h4; omega⟩
theorem nn_t {κ : Nat → Nat} {τ : gf} {σ : gs} {F : gf} {nu : gg} {x : Int32} (hN : κ 0 < 2 ^ 31) : (Q_noNode κ τ σ F nu x = 1 ∧ ¬ ∃ t, t < κ 0 ∧ x = nI t) ∨ (Q_noNode κ τ σ F nu x = 0 ∧ ∃ t, t < κ 0 ∧ x = nI t) := by
  unfold Q_noNode Q_noNode_12
  by_cases h0 : x < 0
  · rw [if_pos h0]; exact Or.inl ⟨rfl, fun ⟨t, h1, h2⟩ => by rw [h2] at h0; exact nI_pos (by omega) h0⟩
  · obtain ⟨t, ht, rfl⟩ := nI_of h0
    rw [if_neg h0]
    by_cases h1 : t < κ 0
    · rw [if_pos (by rw [j_lt (by omega) hN]; exact h1)]
      exact Or.inr ⟨rfl, t, h1, rfl⟩
    · rw [if_neg (by rw [j_lt (by omega) hN]; exact h1)]
      exact Or.inl ⟨rfl, fun ⟨t', h3, h4⟩ => by have := (j_eq (by omega) (by omega)).mp h4; omega⟩
theorem hn_t {N r L : Nat} {f : gf} {x : Int32} (hN : N < 2 ^ 31) : (P_Trees_has N r L f x = 0 ∧ ¬ ∃ t, t < N ∧ x = nI t) ∨ (P_Trees_has N r L f x = 1 ∧ ∃ t, t < N ∧ x = nI t) := by
  unfold P_Trees_has
  by_cases h0 : x < 0
  · rw [if_pos h0]; exact Or.inl ⟨rfl, fun ⟨t, h1, h2⟩ => by rw [h2] at h0; exact nI_pos (by omega) h0⟩
  · obtain ⟨t, ht, rfl⟩ := nI_of h0
    rw [if_neg h0]
    by_cases h1 : N ≤ t
    · rw [if_pos (by rw [j_le hN (by omega)]; exact h1)]
      exact Or.inl ⟨rfl, fun ⟨t', h3, h4⟩ => by have := (j_eq (by omega) (by omega)).mp h4; omega⟩
    · rw [if_neg (by rw [j_le hN (by omega)]; exact h1)]
      exact Or.inr ⟨rfl, t, by omega, rfl⟩
theorem gn_t {x : Int32} : (P_TypeBook_isName x = 0 ∧ Q_goodName x = 0) ∨ (P_TypeBook_isName x = 1 ∧ Q_goodName x = 1 ∧ ∃ v, v < 10000 ∧ x = nI v) := by
  unfold P_TypeBook_isName Q_goodName
  by_cases h0 : x < 0
  · rw [if_pos h0, if_pos h0]; exact Or.inl ⟨rfl, rfl⟩
  · obtain ⟨t, ht, rfl⟩ := nI_of h0
    rw [if_neg h0, if_neg h0]
    by_cases h1 : 9999 < t
    · rw [if_pos (by rw [show (9999 : Int32) = nI 9999 from rfl, j_lt (by omega) (by omega)]; exact h1), if_pos (by rw [show (10000 : Int32) = nI 10000 from rfl, j_le (by omega) (by omega)]; omega)]
      exact Or.inl ⟨rfl, rfl⟩
    · rw [if_neg (by rw [show (9999 : Int32) = nI 9999 from rfl, j_lt (by omega) (by omega)]; exact h1), if_neg (by rw [show (10000 : Int32) = nI 10000 from rfl, j_le (by omega) (by omega)]; omega)]
      exact Or.inr ⟨rfl, rfl, t, by omega, rfl⟩
theorem hr_t {K N : Nat} (hK : K ≤ 8192) (hN : N ≤ 5000) : P_Names_haveRoom K N = if K + N ≤ 3012 then 1 else 0 := by
  unfold P_Names_haveRoom
  have e : (nI K - nI 12 + nI N).toInt = (K : Int) - 12 + N := by
    have e1 : (nI K - nI 12).toInt = (K : Int) - 12 := by
      rw [Int32.toInt_sub, nI_toInt (by omega), nI_toInt (by omega)]
      exact Int.bmod_eq_of_le (by omega) (by omega)
    rw [Int32.toInt_add, e1, nI_toInt (by omega)]
    exact Int.bmod_eq_of_le (by omega) (by omega)
  have e3 : (3000 : Int32).toInt = 3000 := rfl
  by_cases h : K + N ≤ 3012
  · rw [if_neg (by rw [Int32.lt_iff_toInt_lt, e, e3]; omega), if_pos h]
  · rw [if_pos (by rw [Int32.lt_iff_toInt_lt, e, e3]; omega), if_neg h]
/-- a name is put on both sides -/
theorem RX_name {κ κr : Nat → Nat} {φ : gF} {ψ : gG} {τ F : gf} {nu : gg} {x1 x2 x3 x4 y2 y3 y4 : Int32} {σ : gs} (hI : IL κ) (h : RX κ φ ψ κr τ F nu) (h4 : κr 4 < 3000) (h5 : 1 ≤ κr 5) (h51 : κr 5 ≤ 32) (hm : NMr x2 x3 x4 y2 y3 y4) (hw : ((y2 = 0 ∨ y2 = 2) → ∃ t, t < κr 2 ∧ y3 = nI t) ∧ (y2 = 1 → ∃ o, o < κr 3 ∧ y3 = nI o)) :
    RX (ku (ku κ 2 (κ 2 + 1)) 12 (wl (κ 12) (κ 2 + 1))) (up φ 3 (P_Names_put (κ 2) (κ 3) (κ 12) (φ 3) x1 x2 x3 x4)) ψ (ku κr 4 (κr 4 + 1)) (Q_name κr τ σ F nu x1 y2 y3 y4).2.1 F nu := by
  obtain ⟨hR, hS, hW, h1, hcap⟩ := h
  obtain ⟨i1, i2, i3, i4, i5, i6, i7, i8⟩ := hI
  have hRN := hR.2.2.1
  have e4 : (nI (κr 4)).toNatClampNeg = κr 4 := nI_clamp (by omega)
  have ht : (Q_name κr τ σ F nu x1 y2 y3 y4).2.1 = Au (Au (Au (Au (Au τ 25 (κr 4) x1) 26 (κr 4) y2) 27 (κr 4) y3) 28 (κr 4) y4) 29 (κr 4) (nI (κr 5)) := by
    unfold Q_name; simp only [e4]
  rw [ht]
  generalize hτ' : Au (Au (Au (Au (Au τ 25 (κr 4) x1) 26 (κr 4) y2) 27 (κr 4) y3) 28 (κr 4) y4) 29 (κr 4) (nI (κr 5)) = τ'
  have hlow : ∀ q, q < 25 → τ' q = τ q := by
    intro q hq; subst hτ'
    funext i
    simp only [au_a, show ¬ q = 29 by omega, show ¬ q = 28 by omega, show ¬ q = 27 by omega, show ¬ q = 26 by omega, show ¬ q = 25 by omega, false_and, if_false]
  have hold : ∀ i, i < κr 4 → τ' 25 i = τ 25 i ∧ τ' 26 i = τ 26 i ∧ τ' 27 i = τ 27 i ∧ τ' 28 i = τ 28 i ∧ τ' 29 i = τ 29 i := by
    intro i hi; subst hτ'
    simp only [au_a, show ¬ i = κr 4 by omega, and_false, if_false]
    exact ⟨trivial, trivial, trivial, trivial, trivial⟩
  have hnew : τ' 25 (κr 4) = x1 ∧ τ' 26 (κr 4) = y2 ∧ τ' 27 (κr 4) = y3 ∧ τ' 28 (κr 4) = y4 ∧ τ' 29 (κr 4) = nI (κr 5) := by
    subst hτ'
    simp [au_a]
  obtain ⟨c1, c2⟩ := RN_put (κ' := ku (ku κ 2 (κ 2 + 1)) 12 (wl (κ 12) (κ 2 + 1))) (κr' := ku κr 4 (κr 4 + 1)) (x1 := x1) hR.1 i4 hRN hS h4 h5 h51 hm rfl rfl rfl rfl hold hnew
  have hNW : NW (ku κr 4 (κr 4 + 1)) τ' := by
    intro i hi
    have hi : i < κr 4 + 1 := hi
    by_cases hi' : i = κr 4
    · subst hi'; rw [hnew.2.1, hnew.2.2.1]; exact hw
    · rw [(hold i (by omega)).2.1, (hold i (by omega)).2.2.1]; exact hR.2.2.2.1 i (by omega)
  refine ⟨RS_nm hR ⟨rfl, rfl, rfl, rfl⟩ ⟨rfl, rfl, rfl⟩ hlow ⟨rfl, rfl, rfl⟩ rfl ?_ (by rw [up_s]; exact c1) hNW, by rw [up_s]; exact c2, ?_, h1, hcap⟩
  · show κ 2 + 1 ≤ 8192
    have := hRN.1; omega
  · intro o a1 a2; rw [hlow 22 (by decide)]; exact hW o a1 a2
-- add, clear
theorem RS_tr {κ κ' κr κr' : Nat → Nat} {φ φ' : gF} {ψ ψ' : gG} {τ τ' F F' : gf} {nu : gg} (h : RS κ φ ψ κr τ F nu) (hk : κ' 2 = κ 2 ∧ κ' 3 = κ 3 ∧ κ' 4 = κ 4 ∧ κ' 5 = κ 5 ∧ κ' 8 = κ 8) (hr : κr' 2 = κr 2 ∧ κr' 3 = κr 3 ∧ κr' 4 = κr 4 ∧ κr' 5 = κr 5) (hτ : ∀ q, 16 ≤ q → τ' q = τ q) (hφ : φ' 3 = φ 3 ∧ φ' 4 = φ 4 ∧ φ' 5 = φ 5) (hψ : ψ' 6 = ψ 6) (hF : ∀ q, ¬ q = 15 → F' q = F q) (hT : RTr κ' (φ' 2) κr' τ') : RS κ' φ' ψ' κr' τ' F' nu := by
  obtain ⟨a1, _, ⟨n1, n2, n3, n4, n5, n6, n7, n8, n9⟩, w, ⟨y1, y2, y3, y4⟩, o1, o2, o3⟩ := h
  obtain ⟨k2, k3, k4, k5, k8⟩ := hk
  obtain ⟨r2, r3, r4, r5⟩ := hr
  obtain ⟨p3, p4, p5⟩ := hφ
  refine ⟨by rw [k2]; exact a1, hT, ⟨by rw [k2, r4]; exact n1, by rw [k3, r5]; exact n2, by rw [r4]; exact n3, by rw [k2, p3]; exact n4, by rw [p3]; exact n5, ?_, ?_, by rw [p3]; exact n8, by rw [r5, k2, p3]; exact n9⟩, ?_, ⟨by rw [k4, r2]; exact y1, by rw [r2]; exact y2, by rw [r2]; exact y3, ?_⟩, by rw [k5, r3]; exact o1, by rw [r3]; exact o2, ?_⟩
  · rw [r4, p3, hτ 25 (by decide), hτ 26 (by decide), hτ 27 (by decide), hτ 28 (by decide)]; exact n6
  · rw [r4, r5, p3, hτ 29 (by decide)]; exact n7
  · intro i hi
    rw [r4] at hi
    rw [r2, r3, hτ 26 (by decide), hτ 27 (by decide)]; exact w i hi
  · rw [k4, p4, hτ 16 (by decide), hτ 17 (by decide), hτ 18 (by decide), hτ 19 (by decide), hτ 20 (by decide)]; exact y4
  · have hext : ext τ' = ext τ := by funext t; unfold ext; rw [hτ 16 (by decide), hτ 19 (by decide)]
    have hee : ∀ i, ee F' i = ee F i := fun i => by funext j; unfold ee; rw [hF 14 (by decide)]
    rw [k5, k4, k8, p5, hψ, hτ 22 (by decide), hτ 23 (by decide), hτ 16 (by decide), hext, hF 9 (by decide), hF 10 (by decide), hF 11 (by decide)]
    intro o ho
    rw [hee]
    exact o3 o ho
theorem pg_grow {N rt L n : Nat} {f τ : gf} {b mn : Nat → Nat} {x1 x2 : Int32} (hT : TR N rt τ b mn) (hN : N ≤ 4000) (hL : N ≤ L) (hf : ∀ k, k < N → f 3 k = τ 5 k) (hn : n ≤ rt) :
    (P_Trees_grow N rt L f x1 x2 n).1 = nI N ∧ (∀ q e, q < 4 → e < N → (P_Trees_grow N rt L f x1 x2 n).2 q e = f q e) ∧ (P_Trees_grow N rt L f x1 x2 n).2 0 N = x1 ∧ (P_Trees_grow N rt L f x1 x2 n).2 1 N = x2 ∧ (P_Trees_grow N rt L f x1 x2 n).2 2 N = nI n ∧ (P_Trees_grow N rt L f x1 x2 n).2 3 N = nI (tX b N n) := by
  have hb : ∀ c, c < N → b c ≤ c := fun c hc => (hT.1 c hc).2
  have eN : (nI N).toNatClampNeg = N := nI_clamp (by omega)
  have hrt : n ≤ N := by
    by_cases h0 : n = 0
    · omega
    · have h1 := tX_sub hb (Nat.le_refl N) n (fun j hj => (hT.2.2 j (by omega)).1)
      omega
  -- the loop
  have hlp : ∀ (f' : gf), (∀ k, k < N → f' 3 k = τ 5 k) → ∀ d i fuel, i + d = n → d < fuel → P_Trees_grow_73 N rt L fuel f' x1 x2 (nI n) (nI N) (nI (tX b N i)) (nI i) = (nI N, Au (Au (Au (Au f' 0 N x1) 1 N x2) 2 N (nI n)) 3 N (nI (tX b N n))) := by
    intro f' hf' d
    induction d with
    | zero =>
      intro i fuel hi hfu
      obtain ⟨m, rfl⟩ : ∃ m, fuel = m + 1 := ⟨fuel - 1, by omega⟩
      obtain rfl : i = n := by omega
      show (if nI i ≤ nI i then (nI N, Au (Au (Au (Au f' 0 (nI N).toNatClampNeg x1) 1 (nI N).toNatClampNeg x2) 2 (nI N).toNatClampNeg (nI i)) 3 (nI N).toNatClampNeg (nI (tX b N i))) else _) = _
      rw [if_pos (by rw [j_le (by omega) (by omega)]; exact Nat.le_refl _), eN]
    | succ d ih =>
      intro i fuel hi hfu
      obtain ⟨m, rfl⟩ : ∃ m, fuel = m + 1 := ⟨fuel - 1, by omega⟩
      have h1 := (hT.2.2 i (by omega)).1
      have hle := tX_le hb (Nat.le_refl N) i
      obtain ⟨q, hq⟩ : ∃ q, tX b N i = q + 1 := ⟨tX b N i - 1, by omega⟩
      show (if nI n ≤ nI i then _ else P_Trees_grow_73 N rt L m f' x1 x2 (nI n) (nI N) (P_Trees_firstOf N rt (wl L (N + 1)) f' (nI (tX b N i) - 1)) (nI i + 1)) = _
      rw [if_neg (by rw [j_le (by omega) (by omega)]; omega), hq, show nI (q + 1) - 1 = nI q from nI_pred q, pt_3 (show q < N by omega) (by omega), hf' q (by omega), (hT.1 q (by omega)).1, ← tX_s hq, ← nI_succ]
      exact ih (i + 1) m (by omega) (by omega)
  have hf0 := fuel0
  have hG : P_Trees_grow N rt L f x1 x2 n = (nI N, Au (Au (Au (Au (up (up (up (up f 0 (P_wr L (N + 1) (f 0))) 1 (P_wr L (N + 1) ((up f 0 (P_wr L (N + 1) (f 0))) 1))) 2 (P_wr L (N + 1) ((up (up f 0 (P_wr L (N + 1) (f 0))) 1 (P_wr L (N + 1) ((up f 0 (P_wr L (N + 1) (f 0))) 1))) 2))) 3 (P_wr L (N + 1) ((up (up (up f 0 (P_wr L (N + 1) (f 0))) 1 (P_wr L (N + 1) ((up f 0 (P_wr L (N + 1) (f 0))) 1))) 2 (P_wr L (N + 1) ((up (up f 0 (P_wr L (N + 1) (f 0))) 1 (P_wr L (N + 1) ((up f 0 (P_wr L (N + 1) (f 0))) 1))) 2))) 3))) 0 N x1) 1 N x2) 2 N (nI n)) 3 N (nI (tX b N n))) := by
    unfold P_Trees_grow
    refine hlp _ (fun k hk => ?_) n 0 _ (by omega) (by omega)
    show P_wr L (N + 1) (f 3) k = _
    rw [wr_lt (by omega)]; exact hf k hk
  rw [hG]
  refine ⟨rfl, fun q e hq he => ?_, by simp [au_a], by simp [au_a], by simp [au_a], by simp [au_a]⟩
  rcases (show q = 0 ∨ q = 1 ∨ q = 2 ∨ q = 3 by omega) with h | h | h | h <;> subst h <;> simp only [au_a, show ¬ e = N by omega, and_false, if_false]
  all_goals (show P_wr L (N + 1) _ e = _; exact wr_lt (by omega))
theorem bn_t {x : Int32} : (P_Trees_bearsName x = 1 ∧ (x = 1 ∨ x = 10 ∨ x = 22 ∨ x = 23 ∨ x = 24 ∨ x = 25 ∨ x = 53)) ∨ (P_Trees_bearsName x = 0 ∧ ¬ (x = 1 ∨ x = 10 ∨ x = 22 ∨ x = 23 ∨ x = 24 ∨ x = 25 ∨ x = 53)) := by
  unfold P_Trees_bearsName P_Trees_bearsName_29 P_Trees_bearsName_23
  by_cases h1 : x = 1
  · rw [if_pos h1]; exact Or.inl ⟨rfl, Or.inl h1⟩
  rw [if_neg h1]
  by_cases h10 : x = 10
  · rw [if_pos h10]; exact Or.inl ⟨rfl, Or.inr (Or.inl h10)⟩
  rw [if_neg h10]
  have e22 : (22 : Int32).toInt = 22 := rfl
  have e25 : (25 : Int32).toInt = 25 := rfl
  by_cases h22 : x < 22
  · rw [if_pos h22]
    by_cases h53 : x = 53
    · subst h53; exact absurd h22 (by decide)
    · rw [if_neg h53]
      refine Or.inr ⟨rfl, ?_⟩
      rintro (h | h | h | h | h | h | h)
      · exact h1 h
      · exact h10 h
      all_goals (subst h; exact absurd h22 (by decide))
  · rw [if_neg h22]
    by_cases h25 : x ≤ 25
    · rw [if_pos h25]
      refine Or.inl ⟨rfl, ?_⟩
      rw [Int32.lt_iff_toInt_lt, e22] at h22
      rw [Int32.le_iff_toInt_le, e25] at h25
      rcases (show x.toInt = 22 ∨ x.toInt = 23 ∨ x.toInt = 24 ∨ x.toInt = 25 by omega) with h | h | h | h
      · exact Or.inr (Or.inr (Or.inl (Int32.toInt_inj.mp h)))
      · exact Or.inr (Or.inr (Or.inr (Or.inl (Int32.toInt_inj.mp h))))
      · exact Or.inr (Or.inr (Or.inr (Or.inr (Or.inl (Int32.toInt_inj.mp h)))))
      · exact Or.inr (Or.inr (Or.inr (Or.inr (Or.inr (Or.inl (Int32.toInt_inj.mp h))))))
    · rw [if_neg h25]
      by_cases h53 : x = 53
      · rw [if_pos h53]; exact Or.inl ⟨rfl, Or.inr (Or.inr (Or.inr (Or.inr (Or.inr (Or.inr h53)))))⟩
      · rw [if_neg h53]
        refine Or.inr ⟨rfl, ?_⟩
        rintro (h | h | h | h | h | h | h)
        · exact h1 h
        · exact h10 h
        · subst h; exact h25 (by decide)
        · subst h; exact h25 (by decide)
        · subst h; exact h25 (by decide)
        · subst h; exact h25 (by decide)
        · exact h53 h
theorem st_clear {κ κr : Nat → Nat} {φ : gF} {ψ : gG} {τ : gf} {σ : gs} {F : gf} {nu : gg} (h : RX κ φ ψ κr τ F nu) : RX (ku (ku κ 0 0) 1 0) (P_TypeBook_clear κ φ ψ).2.1 (P_TypeBook_clear κ φ ψ).2.2 (Q_clear κr τ σ F nu).2.1 (Q_clear κr τ σ F nu).2.2.1 (Q_clear κr τ σ F nu).2.2.2.2.1 (Q_clear κr τ σ F nu).2.2.2.2.2 := by
  obtain ⟨hR, hS, hW, h1, hcap⟩ := h
  refine ⟨RS_tr hR ⟨rfl, rfl, rfl, rfl, rfl⟩ ⟨rfl, rfl, rfl, rfl⟩ (fun _ _ => rfl) ⟨rfl, rfl, rfl⟩ rfl (fun _ _ => rfl) ⟨rfl, fun k hk => absurd hk (Nat.not_lt_zero k), fun k hk => absurd hk (Nat.not_lt_zero k)⟩, hS, hW, rfl, Nat.zero_le _, Nat.zero_le _, Nat.zero_le _, Nat.zero_le _, Nat.zero_le _, hcap.2.2.2.2.2⟩
-- what is told: known looks
theorem pc_copy {κ : Nat → Nat} {φ : gF} {ψ : gG} {k : Nat} (h6 : k < κ 6) (h62 : κ 6 ≤ 8192) (h7 : k < κ 7) (h72 : κ 7 ≤ 8192) : P_Looks_copy κ φ ψ (nI k) = (up φ 7 (cs (φ 7) k (φ 9 0 k) (φ 9 1 k) (φ 9 2 k) (φ 9 3 k) (if φ 9 4 k = 1 then 1 else 0)), up ψ 8 (P_Rows_copy (κ 9) (κ 10) (ψ 8) (ψ 10) (nI k) (nI k))) := by
  have g9 : ∀ f, (up φ 7 f) 9 = φ 9 := fun _ => up_n (by decide)
  have e4 : (if (if φ 9 4 k = 1 then (1 : Int32) else 0) = 0 then (0 : Int32) else 1) = if φ 9 4 k = 1 then 1 else 0 := by
    by_cases h : φ 9 4 k = 1 <;> simp [h]
  unfold P_Looks_copy
  simp only [up_up, g9, up_s, pl_0 h7 h72, pl_1 h7 h72, pl_2 h7 h72, pl_3 h7 h72, pl_4 h7 h72, pl_note h6 h62, pl_sm h6 h62, pl_sn h6 h62]
  rw [au5 (f := φ 7) (by decide), cs_au (by decide), cs_au (by decide), cs_au (by decide), cs_au (by decide), e4]
  rfl
def told (κ : Nat → Nat) (φ : gF) (ψ : gG) (f7 : gf) (g8 : gg) (k : Nat) : Prop := f7 0 k = φ 9 0 k ∧ f7 1 k = φ 9 1 k ∧ f7 2 k = φ 9 2 k ∧ f7 3 k = φ 9 3 k ∧ f7 4 k = (if φ 9 4 k = 1 then 1 else 0) ∧ ∀ j, j < 64 → rr (κ 9) g8 k j = rr (κ 10) (ψ 10) k j
theorem tell_t {κ κr : Nat → Nat} {φ : gF} {ψ : gG} {τ : gf} {r m : Nat} (hT : TW (κ 0) τ) (hR : RTr κ (φ 2) κr τ) (hN : κ 0 ≤ 4000) (hcap : κ 0 ≤ κ 6 ∧ κ 0 ≤ κ 7 ∧ κ 0 ≤ κ 9 ∧ κ 0 ≤ κ 10 ∧ κ 0 ≤ κ 15) (hlen : κ 6 ≤ 8192 ∧ κ 7 ≤ 8192 ∧ κ 9 ≤ 8192 ∧ κ 10 ≤ 8192 ∧ κ 15 ≤ 8192) (hr : r < κ 0) (hm : m = r + 1 ∨ m = r) (hh : ∀ j, bg τ r ≤ j → j < m → (hdn τ j m → φ 1 0 j = 1) ∧ (¬ hdn τ j m → φ 1 0 j = 0)) :
    ∃ f7 g8, P_Looker_tell κ φ ψ (nI r) (nI m - 1) = (up φ 7 f7, up ψ 8 g8) ∧ (∀ k, bg τ r ≤ k → k < m → ¬ hdn τ k m → told κ φ ψ f7 g8 k) ∧ ∀ k, (k < bg τ r ∨ m ≤ k ∨ hdn τ k m) → (∀ q, f7 q k = φ 7 q k) := by
  obtain ⟨_, r4, r5, r6⟩ := hT r hr
  obtain ⟨c6, c7, c9, c10, c15⟩ := hcap
  obtain ⟨l6, l7, l9, l10, l15⟩ := hlen
  have key : ∀ d i fuel f7 g8, i + d = m → d < fuel → bg τ r ≤ i → (∀ k, bg τ r ≤ k → k < i → ¬ hdn τ k m → told κ φ ψ f7 g8 k) → (∀ k, (k < bg τ r ∨ i ≤ k ∨ hdn τ k m) → (∀ q, f7 q k = φ 7 q k)) →
      ∃ f7' g8', P_Looker_tell_10 κ fuel (up φ 7 f7) (up ψ 8 g8) (nI r) (nI m - 1) (nI i) = (up φ 7 f7', up ψ 8 g8') ∧ (∀ k, bg τ r ≤ k → k < m → ¬ hdn τ k m → told κ φ ψ f7' g8' k) ∧ ∀ k, (k < bg τ r ∨ m ≤ k ∨ hdn τ k m) → (∀ q, f7' q k = φ 7 q k) := by
    intro d
    induction d with
    | zero =>
      intro i fuel f7 g8 hi hf hbi h1 h2
      obtain ⟨n, rfl⟩ : ∃ n, fuel = n + 1 := ⟨fuel - 1, by omega⟩
      obtain rfl : i = m := by omega
      refine ⟨f7, g8, ?_, h1, h2⟩
      show (if nI i - 1 < nI i then _ else _) = _
      rw [if_pos (by rw [j_last (by omega) (by omega)]; exact Nat.le_refl _)]
    | succ d ih =>
      intro i fuel f7 g8 hi hf hbi h1 h2
      obtain ⟨n, rfl⟩ : ∃ n, fuel = n + 1 := ⟨fuel - 1, by omega⟩
      have hiN : i < κ 0 := by rcases hm with h | h <;> omega
      have hih : P_Looker_isHidden κ (up φ 7 f7) (up ψ 8 g8) (nI i) = if φ 1 0 i = 1 then 1 else 0 := by
        unfold P_Looker_isHidden P_Looker_isHidden_23
        rw [if_neg (nI_pos (by omega)), if_neg (by rw [j_le (by omega) (by omega)]; omega), nI_clamp (by omega), up_n (by decide)]
      show ∃ f7' g8', (if nI m - 1 < nI i then _ else if P_Looker_isHidden κ (up φ 7 f7) (up ψ 8 g8) (nI i) = 0 then P_Looker_tell_10 κ n (P_Looks_copy κ (up φ 7 f7) (up ψ 8 g8) (nI i)).1 (P_Looks_copy κ (up φ 7 f7) (up ψ 8 g8) (nI i)).2 (nI r) (nI m - 1) (nI i + 1) else P_Looker_tell_10 κ n (up φ 7 f7) (up ψ 8 g8) (nI r) (nI m - 1) (nI i + 1)) = _ ∧ _
      rw [if_neg (by rw [j_last (by omega) (by omega)]; omega), hih, ← nI_succ]
      by_cases hd : hdn τ i m
      · rw [(hh i hbi (by omega)).1 hd]
        simp (decide := true) only [reduceIte]
        refine ih (i + 1) n f7 g8 (by omega) (by omega) (by omega) (fun k a1 a2 a3 => h1 k a1 ?_ a3) (fun k a => h2 k (by rcases a with a | a | a; exact Or.inl a; exact Or.inr (Or.inl (by omega)); exact Or.inr (Or.inr a)))
        by_cases hk : k = i
        · subst hk; exact absurd hd a3
        · omega
      · rw [(hh i hbi (by omega)).2 hd, if_neg (show ¬ (0 : Int32) = 1 by decide), if_pos rfl, pc_copy (by omega) l6 (by omega) l7]
        dsimp only
        rw [up_up, up_up, up_s, up_s, up_n (show ¬ 9 = 7 by decide), up_n (show ¬ 10 = 8 by decide)]
        have hrow : ∀ s' j, s' < κ 9 → j < 64 → rr (κ 9) (P_Rows_copy (κ 9) (κ 10) g8 (ψ 10) (nI i) (nI i)) s' j = if s' = i then rr (κ 10) (ψ 10) i j else rr (κ 9) g8 s' j := fun s' j a1 a2 => rr_copy l9 l10 (by omega) (by omega) a1 a2
        refine ih (i + 1) n _ _ (by omega) (by omega) (by omega) (fun k a1 a2 a3 => ?_) (fun k a q => ?_)
        · by_cases hk : k = i
          · subst hk
            refine ⟨by rw [cs_k]; rfl, by rw [cs_k]; rfl, by rw [cs_k]; rfl, by rw [cs_k]; rfl, by rw [cs_k]; rfl, fun j hj => by rw [hrow _ _ (by omega) hj, if_pos rfl]⟩
          · obtain ⟨t0, t1, t2, t3, t4, t5⟩ := h1 k a1 (by omega) a3
            refine ⟨by rw [cs_a hk]; exact t0, by rw [cs_a hk]; exact t1, by rw [cs_a hk]; exact t2, by rw [cs_a hk]; exact t3, by rw [cs_a hk]; exact t4, fun j hj => by rw [hrow _ _ (by omega) hj, if_neg hk]; exact t5 j hj⟩
        · have hk : ¬ k = i := by
            rintro rfl
            rcases a with a | a | a
            · omega
            · omega
            · exact hd a
          rw [cs_a hk]
          exact h2 k (by rcases a with a | a | a; exact Or.inl a; exact Or.inr (Or.inl (by omega)); exact Or.inr (Or.inr a)) q
  have hfst : P_Trees_firstOf (κ 0) (κ 1) (κ 11) (φ 2) (nI r) = nI (bg τ r) := by rw [pt_3 hr (by omega), (hR.2.1 r hr).2.2.2, r4]
  unfold P_Looker_tell
  rw [hfst]
  have hfu : m - bg τ r < (2147483647 - (nI (bg τ r)).toInt).toNat + 1 := by rw [nI_toInt (by omega)]; omega
  have := key (m - bg τ r) (bg τ r) _ (φ 7) (ψ 8) (by rcases hm with h | h <;> omega) hfu (Nat.le_refl _) (fun k a1 a2 => by omega) (fun _ _ _ => rfl)
  rw [up_id φ 7, up_id ψ 8] at this
  exact this
/-- a node's look, kept -/
def kept (F nu0 : gf) (nu : gg) (F' : gf) (nu' : gg) (k : Nat) : Prop := F' 9 (4000 + k) = F 9 k ∧ F' 10 (4000 + k) = F 10 k ∧ F' 11 (4000 + k) = F 11 k ∧ F' 12 (4000 + k) = F 12 k ∧ nu' (4000 + k) = nu k ∧ (∀ j, j < 64 → ee F' (4000 + k) j = bw (ee F k j)) ∧ F' 15 k = 1
theorem n40 {o : Nat} : (4000 : Int32) + nI o = nI (4000 + o) := nI_add 4000 o
theorem keep_t {κ : Nat → Nat} {τ : gf} {σ : gs} {F : gf} {nu : gg} {f m : Nat} (hT : TW (κ 0) τ) (hN : κ 0 ≤ 4000) (hm : m ≤ κ 0) (hfm : f ≤ m) (hx : ∀ k, f ≤ k → k < m → ¬ hdn τ k m → F 11 k = 0 ∨ F 11 k = 1) :
    ∃ F' nu', Q_keep κ τ σ F nu (nI f) (nI m - 1) = (σ, F', nu') ∧ (∀ k, f ≤ k → k < m → ¬ hdn τ k m → kept F F nu F' nu' k) ∧ (∀ q i, ¬ q = 14 → ¬ q = 15 → (∀ k, i = 4000 + k → k < f ∨ m ≤ k ∨ hdn τ k m) → F' q i = F q i) ∧ (∀ i, (∀ k, i / 64 = 4000 + k → k < f ∨ m ≤ k ∨ hdn τ k m) → F' 14 i = F 14 i) ∧ (∀ i, (∀ k, i = 4000 + k → k < f ∨ m ≤ k ∨ hdn τ k m) → nu' i = nu i) ∧ ∀ k, (k < f ∨ m ≤ k ∨ hdn τ k m) → F' 15 k = F 15 k := by
  have key : ∀ d i fuel F1 nu1, i + d = m → d < fuel → f ≤ i → (∀ k, f ≤ k → k < i → ¬ hdn τ k m → kept F F nu F1 nu1 k) → (∀ q j, ¬ q = 14 → ¬ q = 15 → (∀ k, j = 4000 + k → k < f ∨ i ≤ k ∨ hdn τ k m) → F1 q j = F q j) → (∀ j, (∀ k, j / 64 = 4000 + k → k < f ∨ i ≤ k ∨ hdn τ k m) → F1 14 j = F 14 j) → (∀ j, (∀ k, j = 4000 + k → k < f ∨ i ≤ k ∨ hdn τ k m) → nu1 j = nu j) → (∀ k, (k < f ∨ i ≤ k ∨ hdn τ k m) → F1 15 k = F 15 k) →
      ∃ F' nu', Q_keep_2 κ τ σ F nu (nI f) (nI m - 1) fuel F1 nu1 (nI i) = (σ, F', nu') ∧ (∀ k, f ≤ k → k < m → ¬ hdn τ k m → kept F F nu F' nu' k) ∧ (∀ q i, ¬ q = 14 → ¬ q = 15 → (∀ k, i = 4000 + k → k < f ∨ m ≤ k ∨ hdn τ k m) → F' q i = F q i) ∧ (∀ i, (∀ k, i / 64 = 4000 + k → k < f ∨ m ≤ k ∨ hdn τ k m) → F' 14 i = F 14 i) ∧ (∀ i, (∀ k, i = 4000 + k → k < f ∨ m ≤ k ∨ hdn τ k m) → nu' i = nu i) ∧ ∀ k, (k < f ∨ m ≤ k ∨ hdn τ k m) → F' 15 k = F 15 k := by
    intro d
    induction d with
    | zero =>
      intro i fuel F1 nu1 hi hf hfi h1 h2 h3 h4 h5
      obtain ⟨n, rfl⟩ : ∃ n, fuel = n + 1 := ⟨fuel - 1, by omega⟩
      obtain rfl : i = m := by omega
      refine ⟨F1, nu1, ?_, h1, h2, h3, h4, h5⟩
      show (if nI i - 1 < nI i then _ else _) = _
      rw [if_pos (by rw [j_last (by omega) (by omega)]; exact Nat.le_refl _)]
    | succ d ih =>
      intro i fuel F1 nu1 hi hf hfi h1 h2 h3 h4 h5
      obtain ⟨n, rfl⟩ : ∃ n, fuel = n + 1 := ⟨fuel - 1, by omega⟩
      have hqb := qb_t (κ := κ) (σ := σ) (F := F1) (nu := nu1) hT hN (show i < m by omega) hm
      show ∃ F' nu', (if nI m - 1 < nI i then _ else if Q_below κ τ σ F1 nu1 (nI i) (nI m - 1) = 0 then Q_keep_2 κ τ σ F nu (nI f) (nI m - 1) n (Au ((Q_copy κ τ σ F1 nu1 (nI i) (4000 + nI i)).2.1) 15 (nI i).toNatClampNeg (vp_nar .boolean 1)) ((Q_copy κ τ σ F1 nu1 (nI i) (4000 + nI i)).2.2) (nI i + 1) else Q_keep_2 κ τ σ F nu (nI f) (nI m - 1) n F1 nu1 (nI i + 1)) = _ ∧ _
      rw [if_neg (by rw [j_last (by omega) (by omega)]; omega), ← nI_succ]
      by_cases hd : hdn τ i m
      · rw [if_neg (show ¬ Q_below κ τ σ F1 nu1 (nI i) (nI m - 1) = 0 by rw [hqb]; exact fun h9 => h9 hd)]
        have hw : ∀ k, (k < f ∨ i + 1 ≤ k ∨ hdn τ k m) → (k < f ∨ i ≤ k ∨ hdn τ k m) := fun k h => by
          rcases h with h | h | h
          · exact Or.inl h
          · exact Or.inr (Or.inl (by omega))
          · exact Or.inr (Or.inr h)
        refine ih (i + 1) n F1 nu1 (by omega) (by omega) (by omega) (fun k a1 a2 a3 => h1 k a1 ?_ a3) (fun q j a b c => h2 q j a b (fun k e => hw k (c k e))) (fun j c => h3 j (fun k e => hw k (c k e))) (fun j c => h4 j (fun k e => hw k (c k e))) (fun k a => h5 k (hw k a))
        by_cases hk : k = i
        · subst hk; exact absurd hd a3
        · omega
      · rw [if_pos (show Q_below κ τ σ F1 nu1 (nI i) (nI m - 1) = 0 by rw [hqb]; exact hd)]
        have hs9 : ∀ q, ¬ q = 14 → ¬ q = 15 → F1 q i = F q i := fun q a b => h2 q i a b (fun k e => by omega)
        have hse : ∀ j, j < 64 → ee F1 i j = ee F i j := fun j hj => h3 (64 * i + j) (fun k e => by omega)
        have hsn : nu1 i = nu i := h4 i (fun k e => by omega)
        rw [n40, copy_t (by omega) (by omega) (by omega) (by rw [hs9 11 (by decide) (by decide)]; exact hx i hfi (by omega) hd), nI_clamp (by omega), show vp_nar .boolean 1 = 1 from rfl]
        dsimp only
        rw [hs9 9 (by decide) (by decide), hs9 10 (by decide) (by decide), hs9 11 (by decide) (by decide), hs9 12 (by decide) (by decide), hsn]
        generalize hM : mt F1 (4000 + i) (F 9 i) (F 10 i) (F 11 i) (F 12 i) (fun j => bw (ee F1 i j)) = M1
        have hMq : ∀ q j, ¬ q = 14 → ¬ j = 4000 + i → M1 q j = F1 q j := fun q j a b => by subst hM; exact mt_a a b
        have hM14 : ∀ j, ¬ j / 64 = 4000 + i → M1 14 j = F1 14 j := fun j a => by subst hM; unfold mt; rw [if_pos rfl, if_neg a]
        have hMk := mt_k (F := F1) (k := 4000 + i) (c := F 9 i) (e := F 10 i) (x := F 11 i) (m := F 12 i) (r := fun j => bw (ee F1 i j))
        rw [hM] at hMk
        have hA : ∀ q j, ¬ q = 15 → Au M1 15 i 1 q j = M1 q j := fun q j a => by rw [au_a, if_neg (fun h9 => a h9.1)]
        have hA15 : ∀ k, Au M1 15 i 1 15 k = if k = i then 1 else F1 15 k := fun k => by
          rw [au_a]
          by_cases hk : k = i
          · simp [hk]
          · rw [if_neg (fun h9 => hk h9.2), if_neg hk]
            by_cases hk2 : k = 4000 + i
            · subst hk2; subst hM; unfold mt; simp
            · exact hMq 15 k (by decide) hk2
        refine ih (i + 1) n _ _ (by omega) (by omega) (by omega) (fun k a1 a2 a3 => ?_) (fun q j a b c => ?_) (fun j c => ?_) (fun j c => ?_) (fun k a => ?_)
        · by_cases hk : k = i
          · subst hk
            refine ⟨by rw [hA 9 _ (by decide)]; exact hMk.1, by rw [hA 10 _ (by decide)]; exact hMk.2.1, by rw [hA 11 _ (by decide)]; exact hMk.2.2.1, by rw [hA 12 _ (by decide)]; exact hMk.2.2.2.1, by rw [upl_a, if_pos rfl], fun j hj => ?_, by rw [hA15, if_pos rfl]⟩
            have : ee (Au M1 15 k 1) (4000 + k) j = ee M1 (4000 + k) j := hA 14 _ (by decide)
            rw [this, hMk.2.2.2.2 j hj, hse j hj]
          · obtain ⟨t0, t1, t2, t3, t4, t5, t6⟩ := h1 k a1 (by omega) a3
            have hne : ¬ 4000 + k = 4000 + i := by omega
            refine ⟨by rw [hA 9 _ (by decide), hMq 9 _ (by decide) hne]; exact t0, by rw [hA 10 _ (by decide), hMq 10 _ (by decide) hne]; exact t1, by rw [hA 11 _ (by decide), hMq 11 _ (by decide) hne]; exact t2, by rw [hA 12 _ (by decide), hMq 12 _ (by decide) hne]; exact t3, by rw [upl_a, if_neg hne]; exact t4, fun j hj => ?_, by rw [hA15, if_neg hk]; exact t6⟩
            have e1 : ee (Au M1 15 i 1) (4000 + k) j = ee M1 (4000 + k) j := hA 14 _ (by decide)
            have e2 : ee M1 (4000 + k) j = ee F1 (4000 + k) j := hM14 (64 * (4000 + k) + j) (by omega)
            rw [e1, e2]; exact t5 j hj
        · have hne : ¬ j = 4000 + i := fun h9 => by
            rcases c i h9 with h | h | h
            · omega
            · omega
            · exact hd h
          rw [hA q j b, hMq q j a hne]
          exact h2 q j a b (fun k e => by rcases c k e with h | h | h; exact Or.inl h; exact Or.inr (Or.inl (by omega)); exact Or.inr (Or.inr h))
        · have hne : ¬ j / 64 = 4000 + i := fun h9 => by
            rcases c i h9 with h | h | h
            · omega
            · omega
            · exact hd h
          rw [hA 14 j (by decide), hM14 j hne]
          exact h3 j (fun k e => by rcases c k e with h | h | h; exact Or.inl h; exact Or.inr (Or.inl (by omega)); exact Or.inr (Or.inr h))
        · have hne : ¬ j = 4000 + i := fun h9 => by
            rcases c i h9 with h | h | h
            · omega
            · omega
            · exact hd h
          rw [upl_a, if_neg hne]
          exact h4 j (fun k e => by rcases c k e with h | h | h; exact Or.inl h; exact Or.inr (Or.inl (by omega)); exact Or.inr (Or.inr h))
        · have hne : ¬ k = i := fun h9 => by
            subst h9
            rcases a with h | h | h
            · omega
            · omega
            · exact hd h
          rw [hA15, if_neg hne]
          exact h5 k (by rcases a with h | h | h; exact Or.inl h; exact Or.inr (Or.inl (by omega)); exact Or.inr (Or.inr h))
  unfold Q_keep
  have hfu : m - f < (2147483647 - (nI f).toInt).toNat + 1 := by rw [nI_toInt (by omega)]; omega
  exact key (m - f) f _ F nu (by omega) hfu (Nat.le_refl _) (fun k a1 a2 => by omega) (fun _ _ _ _ _ => rfl) (fun _ _ => rfl) (fun _ _ => rfl) (fun _ _ => rfl)
-- judged on both sides; check
theorem er_0 (a b : Int32) : (P_Looker_earlier a b = 0) = (a = 0 ∧ b = 0) := by
  unfold P_Looker_earlier P_Looker_earlier_8
  apply propext
  by_cases ha : a = 0
  · rw [if_pos ha, if_pos ha]; exact ⟨fun h => ⟨ha, h⟩, fun h => h.2⟩
  · rw [if_neg ha, if_neg ha]
    refine ⟨fun h => ?_, fun h => absurd h.1 ha⟩
    exfalso
    by_cases hb : b = 0
    · rw [if_pos hb] at h; exact ha h
    · rw [if_neg hb] at h
      split at h
      · exact hb h
      · exact ha h
theorem jd_bad {κ : Nat → Nat} {φ : gF} {ψ : gG} {f x2 x3 x4 : Int32} (hf : ¬ f = 0) : ¬ P_Looker_judge κ φ ψ f x2 x3 x4 = 0 := by
  have h82 : ∀ i5, ¬ P_Looker_judge_82 κ φ ψ f x2 x3 x4 i5 = 0 := fun i5 => by unfold P_Looker_judge_82; rw [er_0]; exact fun h => hf h.1
  have h55 : ∀ i5, ¬ P_Looker_judge_55 κ φ ψ f x2 x3 x4 i5 = 0 := fun i5 => by
    unfold P_Looker_judge_55
    rw [if_neg hf]
    split <;> exact h82 _
  have h35 : ∀ i5, ¬ P_Looker_judge_35 κ φ ψ f x2 x3 x4 i5 = 0 := fun i5 => by
    unfold P_Looker_judge_35
    split <;> exact h55 _
  unfold P_Looker_judge P_Looker_judge_14 P_Looker_judge_34
  rw [if_neg hf]
  split
  · split
    · exact h35 _
    · split <;> exact h35 _
  · exact hf
theorem jd_none {κ : Nat → Nat} {φ : gF} {ψ : gG} {x2 : Int32} : P_Looker_judge κ φ ψ 0 x2 (-1) 0 = 0 := by
  unfold P_Looker_judge P_Looker_judge_14 P_Looker_judge_34 P_Looker_judge_35 P_Looker_judge_55 P_Looker_judge_82
  simp only [if_true]
  rw [er_0]; exact ⟨rfl, rfl⟩
theorem i64_lt {n : Int32} {v : Int64} {m : Int32} (h : n.toInt = v.toInt) : (lg_cmp v m.toInt64 < 0) = (n < m) := by
  rw [lg_lt, w_i, Int32.lt_iff_toInt_lt, h]
theorem i64_le {n : Int32} {v : Int64} {m : Int32} (h : n.toInt = v.toInt) : (lg_cmp v m.toInt64 ≤ 0) = (n ≤ m) := by
  rw [lg_le, w_i, Int32.le_iff_toInt_le, h]
theorem jd_ok {κ κr : Nat → Nat} {φ : gF} {ψ : gG} {τ : gf} {σ : gs} {F : gf} {nu : gg} {r t : Nat} {x4 : Int32} (hr : r < κ 7) (h7 : κ 7 ≤ 8192) (hTy : RTy κ (φ 4) κr τ) (ht : t < κ 4) (hS : LsK (κ 10) (φ 9) (ψ 10) F nu r) :
    (P_Looker_judge κ φ ψ 0 (nI r) (nI t) x4 = 0) = ((x4 = 0 ∨ F 11 r = 1) ∧ Q_fits κr τ σ F nu (nI r) (nI t) = 0) := by
  obtain ⟨s0, s1, s2, s4, v1, v2, v3, v4, v5⟩ := hS
  obtain ⟨z1, z2, z3, z4, z5, z6⟩ := ty_r (L := κ 13) hTy ht
  have ht2 := hTy.1; have ht3 := hTy.2.2.1
  have e0 : P_Looks_classOf (κ 7) (φ 9) (nI r) = F 9 r := (pl_0 hr h7).trans s0
  have e1 : P_Looks_extentOf (κ 7) (φ 9) (nI r) = F 10 r := (pl_1 hr h7).trans s1
  have e3 : P_Looks_numberOf (κ 7) (φ 9) (nI r) = φ 9 3 r := pl_3 hr h7
  have e4 : P_Looks_isFixed (κ 7) (φ 9) (nI r) = F 11 r := by rw [pl_4 hr h7, s4]; exact fx0 v2
  have eR : (nI r).toNatClampNeg = r := nI_clamp (by omega)
  have eT : (nI t).toNatClampNeg = t := nI_clamp (by omega)
  have hn1 : ¬ nI t = -1 := neg1 (by omega)
  have hj : (P_Looker_judge κ φ ψ 0 (nI r) (nI t) x4 = 0) = ((x4 = 0 ∨ F 11 r = 1) ∧ P_Looker_classMisfit κ φ ψ (nI r) (nI t) = 0 ∧ P_Looker_isOutside κ φ ψ (nI r) (nI t) = 0) := by
    have h35 : ∀ m, (P_Looker_judge_35 κ φ ψ 0 (nI r) (nI t) x4 m = 0) = (m = 0 ∧ P_Looker_classMisfit κ φ ψ (nI r) (nI t) = 0 ∧ P_Looker_isOutside κ φ ψ (nI r) (nI t) = 0) := by
      intro m
      unfold P_Looker_judge_35 P_Looker_judge_55 P_Looker_judge_82
      rw [if_neg hn1, if_neg hn1, if_pos rfl]
      by_cases ho : P_Looker_isOutside κ φ ψ (nI r) (nI t) = 0
      · rw [if_pos ho, er_0, er_0]; apply propext; exact ⟨fun h => ⟨h.2.2, h.2.1, ho⟩, fun h => ⟨rfl, h.2.1, h.1⟩⟩
      · rw [if_neg ho, er_0, er_0]; apply propext
        exact ⟨fun h => absurd h.2.2 (by decide), fun h => absurd h.2.2 ho⟩
    unfold P_Looker_judge P_Looker_judge_14 P_Looker_judge_34
    rw [if_pos rfl, e4]
    by_cases h4 : x4 = 0
    · rw [if_pos h4, h35]; apply propext; exact ⟨fun h => ⟨Or.inl h4, h.2⟩, fun h => ⟨rfl, h.2⟩⟩
    · rw [if_neg h4]
      by_cases hx : F 11 r = 0
      · rw [if_pos hx, h35]; apply propext
        refine ⟨fun h => absurd h.1 (by decide), fun h => ?_⟩
        rcases h.1 with h9 | h9
        · exact absurd h9 h4
        · rw [hx] at h9; exact absurd h9 (by decide)
      · rw [if_neg hx, h35]; apply propext; exact ⟨fun h => ⟨Or.inr (v2.resolve_left hx), h.2⟩, fun h => ⟨rfl, h.2⟩⟩
  rw [hj]
  suffices hh : (P_Looker_classMisfit κ φ ψ (nI r) (nI t) = 0 ∧ P_Looker_isOutside κ φ ψ (nI r) (nI t) = 0) = (Q_fits κr τ σ F nu (nI r) (nI t) = 0) by rw [hh]
  unfold P_Looker_classMisfit P_Looker_classMisfit_51 P_Looker_isOutside P_Looker_isOutside_56 Q_fits Q_fits_37 Q_fits_64 Q_fits_117
  rw [e0, e1, e3, e4, z1, z2, z3, z6, eR, eT]
  have h12 : ((1 : Int32) = 0) = False := eq_false (by decide)
  have h30 : ((3 : Int32) = 0) = False := eq_false (by decide)
  have h40 : ((4 : Int32) = 0) = False := eq_false (by decide)
  have h80 : ((8 : Int32) = 0) = False := eq_false (by decide)
  by_cases hc : F 9 r = τ 16 t
  · rw [if_pos hc, if_pos hc]
    rcases v1 with h | h | h | h | h
    · simp (decide := true) only [h, reduceIte, and_self]
    · simp (decide := true) only [h, reduceIte, and_self]
    · simp (decide := true) only [h, reduceIte, true_and]
      by_cases hx : F 11 r = 0
      · simp only [if_pos hx]
      · simp only [if_neg hx]
        have hx1 := v2.resolve_left hx
        have hnum := w_eq.mp ((v5 hx1).1 h).1
        simp only [i64_lt (m := τ 17 t) hnum, i64_le (m := τ 18 t) hnum]
        by_cases q1 : φ 9 3 r < τ 17 t
        · simp only [if_pos q1, h12, h80]
        · simp only [if_neg q1]
          by_cases q2 : φ 9 3 r ≤ τ 18 t
          · simp only [if_pos q2]
          · simp only [if_neg q2, h12, h80]
    · have hext : ext τ t = τ 19 t := by unfold ext; rw [← hc, if_pos h]
      obtain ⟨E, hE1, hE2, hE⟩ := v3 h
      have hne : ¬ F 10 r = 0 := by rw [hE, show (0 : Int32) = nI 0 from rfl, j_eq (by omega) (by omega)]; omega
      simp (decide := true) only [h, reduceIte, hext, if_neg hne]
      by_cases q : F 10 r = τ 19 t
      · simp only [if_pos q, and_self]
      · simp only [if_neg q, h40, false_and]
    · have hext : ext τ t = nI t := by unfold ext; rw [← hc, h, if_neg (by decide), if_pos rfl]
      simp (decide := true) only [h, reduceIte, hext]
      by_cases q : F 10 r = nI t
      · simp only [if_pos q, and_self]
      · simp only [if_neg q, h30, false_and]
  · rw [if_neg hc, if_neg hc]
    simp only [h30, false_and]
theorem fi_le {κr : Nat → Nat} {τ : gf} {σ : gs} {F : gf} {nu : gg} {x y : Int32} : (Q_fits κr τ σ F nu x y ≤ 0) = (Q_fits κr τ σ F nu x y = 0) := by
  have : Q_fits κr τ σ F nu x y = 0 ∨ Q_fits κr τ σ F nu x y = 3 ∨ Q_fits κr τ σ F nu x y = 4 ∨ Q_fits κr τ σ F nu x y = 8 := by
    unfold Q_fits Q_fits_37 Q_fits_64 Q_fits_117
    repeat' split
    all_goals simp
  rcases this with h | h | h | h <;> rw [h] <;> decide
theorem CK_of {κ κr b mn : Nat → Nat} {φ : gF} {ψ : gG} {ν : Nat → Int32} {τ F : gf} {nu : gg} (hI : IL κ) (hT : ST κr b mn ν τ) (h : RX κ φ ψ κr τ F nu) : CK κ := by
  obtain ⟨hR, hS, hW, h1, c6, c7, c9, c10, c15, c8⟩ := h
  obtain ⟨⟨s0, s1, s2, s3, s4, s5, s6⟩, _⟩ := hT
  obtain ⟨⟨i6, i7, i8, i9, i10, i11, i12, i13, i14, i15⟩, _⟩ := hI
  have h0 : κ 0 = κr 0 := hR.2.1.1
  have h4 : κ 4 = κr 2 := hR.2.2.2.2.1.1
  have h5 : κ 5 = κr 3 := hR.2.2.2.2.2.1
  exact ⟨by omega, c7, i7, c10, i10, c8, i8, by omega, by omega⟩
theorem look_rx {κ κr b mn : Nat → Nat} {φ : gF} {ψ : gG} {ν : Nat → Int32} {τ : gf} {σ : gs} {F : gf} {nu : gg} {r m : Nat} (hI : IL κ) (hT : ST κr b mn ν τ) (h : RX κ φ ψ κr τ F nu) (hr : r < κ 0) (hm : m = r + 1 ∨ (m = r ∧ ¬ τ 2 r = 25)) : TW (κ 0) τ ∧ LKT κ φ ψ F nu τ (bg τ r) m (P_Looker_look κ φ ψ (nI r) (nI m - 1)) (Q_goThrough κr τ σ F nu (τ 5 r) (nI m - 1)) := by
  have hC := CK_of hI hT h
  obtain ⟨hR, hS, hW, h1, c6, c7, c9, c10, c15, c8⟩ := h
  have h0 : κ 0 = κr 0 := hR.2.1.1
  have hTW : TW (κ 0) τ := by rw [h0]; exact (TW_of hT.2.2.1 hT.1.1).1
  exact ⟨hTW, look_all hC hR hW hTW c15 hI.1.2.2.2.2.2.2.2.2.2 hr hm⟩
theorem RX.fr {κ κr : Nat → Nat} {φ φ' : gF} {ψ ψ' : gG} {τ F F' : gf} {nu nu' : gg} (h : RX κ φ ψ κr τ F nu) (h1 : FrX φ ψ φ' ψ') (h2 : frR F nu F' nu') : RX κ φ' ψ' κr τ F' nu' := by
  obtain ⟨hR, hS, hW, h1', hcap⟩ := h
  exact ⟨hR.fr h1 h2, by rw [h1.1 3 (by decide) (by decide)]; exact hS, hW, h1', hcap⟩
theorem RX.tl {κ κr : Nat → Nat} {φ : gF} {ψ : gG} {τ F : gf} {nu : gg} {f7 : gf} {g8 : gg} (h : RX κ φ ψ κr τ F nu) : RX κ (up φ 7 f7) (up ψ 8 g8) κr τ F nu := by
  obtain ⟨hR, hS, hW, h1, hcap⟩ := h
  exact ⟨RS_nm hR ⟨rfl, rfl, rfl, rfl⟩ ⟨rfl, rfl, rfl⟩ (fun _ _ => rfl) ⟨rfl, rfl, rfl⟩ rfl hR.1 hR.2.2.1 hR.2.2.2.1, hS, hW, h1, hcap⟩
theorem RX.kp {κ κr : Nat → Nat} {φ : gF} {ψ : gG} {τ F F' : gf} {nu nu' : gg} (h : RX κ φ ψ κr τ F nu) (h9 : ∀ q i, ¬ q = 14 → ¬ q = 15 → 8000 ≤ i → F' q i = F q i) (h14 : ∀ i, 8000 ≤ i / 64 → F' 14 i = F 14 i) (hn : ∀ i, 8000 ≤ i → nu' i = nu i) : RX κ φ ψ κr τ F' nu' := by
  obtain ⟨⟨a1, a2, a3, a4, a5, b1, b2, b3⟩, hS, hW, h1, hcap⟩ := h
  refine ⟨⟨a1, a2, a3, a4, a5, b1, b2, fun o ho => ?_⟩, hS, hW, h1, hcap⟩
  obtain ⟨c1, c2, c3, t, c4, c5, c6⟩ := b3 o ho
  refine ⟨c1, c2, c3, t, c4, c5, fun h0 => ?_⟩
  rw [h9 9 (8000 + o) (by decide) (by decide) (by omega), h9 10 (8000 + o) (by decide) (by decide) (by omega), h9 11 (8000 + o) (by decide) (by decide) (by omega), hn (8000 + o) (by omega)]
  obtain ⟨d1, d2, d3, e1, e2, e3, e4, e5⟩ := c6 h0
  refine ⟨d1, d2, d3, e1, e2, e3, e4, fun hx => ⟨(e5 hx).1, (e5 hx).2.1, fun h3 E j hE hE2 hj => ?_⟩⟩
  have : ee F' (8000 + o) j = ee F (8000 + o) j := h14 (64 * (8000 + o) + j) (by omega)
  rw [this]
  exact (e5 hx).2.2 h3 E j hE hE2 hj
-- frames where an attribute's tree is looked through; a type is put on both sides
theorem go_fr {κ κr : Nat → Nat} {φ : gF} {ψ : gG} {τ : gf} {σ : gs} {F : gf} {nu : gg} {r : Nat} (hC : CK κ) (hR : RS κ φ ψ κr τ F nu) (hWS : ∀ o, κ 5 ≤ o → o < 2000 → ¬ τ 22 o = 1) (hT : TW (κ 0) τ) (hH : κ 0 ≤ κ 15) (hH2 : κ 15 ≤ 8192) (hr : r < κ 0) :
    frR F nu (Q_goThrough κr τ σ F nu (τ 5 r) (nI r - 1)).2.2.1 (Q_goThrough κr τ σ F nu (τ 5 r) (nI r - 1)).2.2.2 := by
  obtain ⟨c0, c1, c2, c3, c4, c5, c6, c7, c8⟩ := id hC
  obtain ⟨_, r4, r5, r6⟩ := hT r hr
  have hfu : r - bg τ r < (2147483647 - (nI (bg τ r)).toInt).toNat + 1 := by rw [nI_toInt (by omega)]; omega
  have hq : ∃ h : gf, (∀ q i, ¬ q = 0 → ¬ q = 2 → h q i = φ 1 q i) ∧ ∀ j, (hdn τ j r → h 0 j = 1) ∧ (¬ hdn τ j r → h 0 j = 0) := by
    refine ⟨fun q j => if q = 0 then (@ite _ (hdn τ j r) (Classical.propDecidable _) (1 : Int32) 0) else φ 1 q j, fun q i a _ => if_neg a, fun j => ⟨fun a => ?_, fun a => ?_⟩⟩
    · show (if (0 : Nat) = 0 then _ else _) = _
      rw [if_pos rfl]; exact if_pos a
    · show (if (0 : Nat) = 0 then _ else _) = _
      rw [if_pos rfl]; exact if_neg a
  obtain ⟨h, h1, h2⟩ := hq
  have key := look_loop (x1 := τ 5 r) (σ1 := σ) (F1 := F) (nu1 := nu) (xr := 0) hC hR hWS hT hH hH2 (Nat.le_of_lt hr) (fun k a1 a2 => r6 k a1 a2) (r - bg τ r) (bg τ r) _ _ (up φ 1 h) ψ σ F nu (by omega) hfu hfu (Nat.le_refl _) (FrX.h h1) frR.rf (fun j _ _ => by rw [up_s]; exact h2 j) (fun a a1 a2 _ => by omega)
  have := key.2.1
  unfold Q_goThrough
  rw [r4] at this ⊢
  exact this
theorem lk_25 {κ κr : Nat → Nat} {φ : gF} {ψ : gG} {τ : gf} {r : Nat} (hT : TW (κ 0) τ) (hR : RTr κ (φ 2) κr τ) (hN : κ 0 ≤ 4000) (hH : κ 0 ≤ κ 15) (hH2 : κ 15 ≤ 8192) (hr : r < κ 0) (h25 : τ 2 r = 25) :
    FrX φ ψ (P_Looker_look κ φ ψ (nI r) (nI r - 1)).2.1 (P_Looker_look κ φ ψ (nI r) (nI r - 1)).2.2 := by
  obtain ⟨_, r4, r5, r6⟩ := hT r hr
  obtain ⟨h, e1, e2, e3⟩ := hb_t (ψ := ψ) hT hR hN hH hH2 hr
  have hfst : P_Trees_firstOf (κ 0) (κ 1) (κ 11) ((up φ 1 h) 2) (nI r) = nI (bg τ r) := by rw [up_n (by decide), pt_3 hr (by omega), (hR.2.1 r hr).2.2.2, r4]
  have key : ∀ d i fuel φ1, i + d = r → d < fuel → bg τ r ≤ i → FrX φ ψ φ1 ψ → (∀ j, bg τ r ≤ j → j < r → φ1 1 0 j = 1) → FrX φ ψ (P_Looker_look_14 κ fuel φ1 ψ (nI r) (nI r - 1) (nI i)).2.1 (P_Looker_look_14 κ fuel φ1 ψ (nI r) (nI r - 1) (nI i)).2.2 := by
    intro d
    induction d with
    | zero =>
      intro i fuel φ1 hi hf hbi hX hh
      obtain ⟨p, rfl⟩ : ∃ p, fuel = p + 1 := ⟨fuel - 1, by omega⟩
      have e : P_Looker_look_14 κ (p + 1) φ1 ψ (nI r) (nI r - 1) (nI i) = (0, φ1, ψ) := by
        show (if nI r - 1 < nI i then _ else _) = _
        rw [if_pos (by rw [j_last (by omega) (by omega)]; omega)]
      rw [e]; exact hX
    | succ d ih =>
      intro i fuel φ1 hi hf hbi hX hh
      obtain ⟨p, rfl⟩ : ∃ p, fuel = p + 1 := ⟨fuel - 1, by omega⟩
      have hlt : ¬ nI r - 1 < nI i := by rw [j_last (by omega) (by omega)]; omega
      have hat : FrX φ ψ (up φ1 1 (Au (φ1 1) 2 0 (nI i))) ψ := hX.tr (FrX.h (fun q' i' a b => by rw [au_a, if_neg (fun h9 => b h9.1)]))
      have hh' : ∀ j, (up φ1 1 (Au (φ1 1) 2 0 (nI i))) 1 0 j = φ1 1 0 j := fun j => by rw [up_s, au_a, if_neg (by omega)]
      have hih : P_Looker_isHidden κ (up φ1 1 (Au (φ1 1) 2 0 (nI i))) ψ (nI i) = 1 := by
        unfold P_Looker_isHidden P_Looker_isHidden_23
        rw [if_neg (nI_pos (by omega)), if_neg (by rw [j_le (by omega) (by omega)]; omega), nI_clamp (by omega), hh', hh i hbi (by omega)]
        rfl
      have e : P_Looker_look_14 κ (p + 1) φ1 ψ (nI r) (nI r - 1) (nI i) = P_Looker_look_14 κ p (up φ1 1 (Au (φ1 1) 2 0 (nI i))) ψ (nI r) (nI r - 1) (nI (i + 1)) := by
        show (if nI r - 1 < nI i then _ else if P_Looker_isHidden κ (up φ1 1 (Au (φ1 1) 2 0 (nI i))) ψ (nI i) = 0 then _ else P_Looker_look_14 κ p (up φ1 1 (Au (φ1 1) 2 0 (nI i))) ψ (nI r) (nI r - 1) (nI i + 1)) = _
        rw [if_neg hlt, hih, if_neg (by decide), ← nI_succ]
      rw [e]
      exact ih (i + 1) p _ (by omega) (by omega) (by omega) hat (fun j a b => by rw [hh']; exact hh j a b)
  unfold P_Looker_look
  rw [e1]
  dsimp only
  rw [hfst]
  have hfu : r - bg τ r < (2147483647 - (nI (bg τ r)).toInt).toNat + 1 := by rw [nI_toInt (by omega)]; omega
  exact key (r - bg τ r) (bg τ r) _ _ (by omega) hfu (Nat.le_refl _) (FrX.h (fun q i a _ => e2 q i a)) (fun j a b => by
    rw [up_s]
    refine (e3 j a (by omega)).1 ⟨r, b, by omega, h25, a⟩)
theorem RX_type {κ κr : Nat → Nat} {φ : gF} {ψ : gG} {τ F : gf} {nu : gg} {σ : gs} {F1 : gf} {nu1 : gg} {x1 x2 x3 x4 x5 c : Int32} (hI : IL κ) (h : RX κ φ ψ κr τ F nu) (h2 : κr 2 < 1000) (h5 : vp_nar .boolean x5 = if 0 ≤ c then 0 else 1) (hc : (if 0 ≤ c then c else 0 - c) = x4) (hx : x1 = 0 ∨ x1 = 1 ∨ x1 = 2 ∨ x1 = 3 ∨ x1 = 4)
    (hr : x1 = 3 → ∃ l r n : Nat, x2 = nI l ∧ x3 = nI r ∧ x4 = nI n ∧ l < 2 ^ 31 ∧ r < 2 ^ 31 ∧ 1 ≤ n ∧ n ≤ 64 ∧ (((if 0 ≤ c then (0 : Int32) else 1) = 0 ∧ r + 1 = l + n) ∨ ((if 0 ≤ c then (0 : Int32) else 1) = 1 ∧ l + 1 = r + n))) :
    RX (ku (ku κ 4 (κ 4 + 1)) 13 (wl (κ 13) (κ 4 + 1))) (up φ 4 (P_Types_put (κ 4) (κ 13) (φ 4) x1 x2 x3 c).2) ψ (ku κr 2 (κr 2 + 1)) (Q_newType κr τ σ F1 nu1 x1 x2 x3 x4 x5).2.2.1 F nu := by
  obtain ⟨hR, hS, hW, h1, hcap⟩ := h
  obtain ⟨i1, i2, i3, i4, i5, i6, i7, i8⟩ := hI
  obtain ⟨a1, ⟨t1, t2, t3⟩, a3, a4, hTy, o1, o2, o3⟩ := hR
  have h42 : κ 4 = κr 2 := hTy.1
  have e2 : (nI (κr 2)).toNatClampNeg = κr 2 := nI_clamp (by omega)
  have ht : (Q_newType κr τ σ F1 nu1 x1 x2 x3 x4 x5).2.2.1 = Au (Au (Au (Au (Au τ 16 (κr 2) x1) 17 (κr 2) x2) 18 (κr 2) x3) 19 (κr 2) x4) 20 (κr 2) (vp_nar .boolean x5) := by
    unfold Q_newType; simp only [e2]
  rw [ht]
  generalize hτ' : Au (Au (Au (Au (Au τ 16 (κr 2) x1) 17 (κr 2) x2) 18 (κr 2) x3) 19 (κr 2) x4) 20 (κr 2) (vp_nar .boolean x5) = τ'
  have hlow : ∀ q, (q < 16 ∨ 20 < q) → τ' q = τ q := by
    intro q hq; subst hτ'
    funext i
    simp only [au_a, show ¬ q = 20 by omega, show ¬ q = 19 by omega, show ¬ q = 18 by omega, show ¬ q = 17 by omega, show ¬ q = 16 by omega, false_and, if_false]
  have hold : ∀ t, t < κr 2 → τ' 16 t = τ 16 t ∧ τ' 17 t = τ 17 t ∧ τ' 18 t = τ 18 t ∧ τ' 19 t = τ 19 t ∧ τ' 20 t = τ 20 t := by
    intro i hi; subst hτ'
    simp only [au_a, show ¬ i = κr 2 by omega, and_false, if_false]
    exact ⟨trivial, trivial, trivial, trivial, trivial⟩
  have hnew : τ' 16 (κr 2) = x1 ∧ τ' 17 (κr 2) = x2 ∧ τ' 18 (κr 2) = x3 ∧ τ' 19 (κr 2) = x4 ∧ τ' 20 (κr 2) = if 0 ≤ c then 0 else 1 := by
    subst hτ'
    rw [← h5]
    simp [au_a]
  obtain ⟨p1, p2, p3, p4, p5, p6⟩ := pt_put (N := κ 4) (L := κ 13) (f := φ 4) (x1 := x1) (x2 := x2) (x3 := x3) (x4 := c) (by omega) i5
  have hT' := RTy_put (κ' := ku (ku κ 4 (κ 4 + 1)) 13 (wl (κ 13) (κ 4 + 1))) (κr' := ku κr 2 (κr 2 + 1)) hTy h2 rfl rfl ⟨p2, p3, p4, p5, p6⟩ hold hnew hc hx hr
  have hext : ∀ t, t < κr 2 → ext τ' t = ext τ t := fun t ht => by unfold ext; rw [(hold t ht).1, (hold t ht).2.2.2.1]
  refine ⟨⟨a1, ⟨t1, ?_, ?_⟩, ?_, ?_, ?_, o1, o2, ?_⟩, ?_, ?_, h1, hcap⟩
  · rw [up_n (by decide), hlow 2 (by decide), hlow 3 (by decide), hlow 4 (by decide), hlow 5 (by decide)]; exact t2
  · rw [hlow 2 (by decide), hlow 3 (by decide)]; exact t3
  · rw [up_n (by decide)]
    obtain ⟨b1, b2, b3, b4, b5, b6, b7, b8, b9⟩ := a3
    refine ⟨b1, b2, b3, b4, b5, ?_, ?_, b8, b9⟩
    · rw [hlow 25 (by decide), hlow 26 (by decide), hlow 27 (by decide), hlow 28 (by decide)]; exact b6
    · rw [hlow 29 (by decide)]; exact b7
  · intro i hi
    rw [hlow 26 (by decide), hlow 27 (by decide)]
    obtain ⟨w1, w2⟩ := a4 i hi
    refine ⟨fun h9 => ?_, w2⟩
    obtain ⟨t, ht1, ht2⟩ := w1 h9
    exact ⟨t, by show t < κr 2 + 1; omega, ht2⟩
  · rw [up_s]; exact hT'
  · rw [up_n (by decide), hlow 22 (by decide), hlow 23 (by decide)]
    intro o ho
    obtain ⟨c1, c2, c3, t, c4, c5, c6⟩ := o3 o ho
    refine ⟨c1, c2, c3, t, by show t < κ 4 + 1; omega, c5, fun h0 => ?_⟩
    rw [(hold t (by omega)).1, hext t (by omega)]
    exact c6 h0
  · rw [up_n (by decide)]; exact hS
  · intro o q1 q2; rw [hlow 22 (by decide)]; exact hW o q1 q2
theorem i64_z {n : Int32} : n.toInt64.toInt32 = n := by
  apply Int32.toInt_inj.mp
  rw [Int64.toInt_toInt32, Int32.toInt_toInt64]
  have := i32_b n
  exact Int.bmod_eq_of_le (by omega) (by omega)
theorem i64_el {a b : Int32} : (a.toInt64 - b.toInt64 + 1).toInt = a.toInt - b.toInt + 1 := by
  have h1 := i32_b a
  have h2 := i32_b b
  rw [Int64.toInt_add, Int64.toInt_sub, Int32.toInt_toInt64, Int32.toInt_toInt64, show (1 : Int64).toInt = 1 from rfl]
  rw [Int.bmod_eq_of_le (n := a.toInt - b.toInt) (by omega) (by omega)]
  exact Int.bmod_eq_of_le (by omega) (by omega)
theorem i64_nI {x : Int64} {n : Nat} (h : x.toInt = n) (hn : n < 2 ^ 31) : x.toInt32 = nI n := by
  apply Int32.toInt_inj.mp
  rw [Int64.toInt_toInt32, h, nI_toInt hn]
  exact Int.bmod_eq_of_le (by omega) (by omega)
-- type
-- an object is put on both sides; declare
theorem rr_room {M N s j : Nat} {g : gg} (hM : M ≤ 8192) (hN : N ≤ 4096) (hs : s < M) (hj : j < 64) : rr (wl M N) (P_Rows_makeRoom M g N) s j = rr M g s j := by
  have w := wl_ok (n := M) (N := N) hM hN
  rw [rr_eq w.2.2 (by omega) hj, rr_eq hM hs hj]
  unfold P_Rows_makeRoom P_wrL
  by_cases h9 : N ≤ M
  · rw [if_pos h9]
  · rw [if_neg h9]
    unfold va_cpy
    rw [if_pos (by omega)]
    congr 3
    omega
theorem fits_eq {κr : Nat → Nat} {τ : gf} {σ : gs} {F : gf} {nu : gg} {r t : Nat} {n : Int32} {v : Int64} {rc rm : Nat → Int32} (hr : r < 4000) (ht : t < 1000) (hL : LSv (F 9 r) (F 10 r) (F 11 r) n v rc rm) (h : Q_fits κr τ σ F nu (nI r) (nI t) = 0) : F 9 r = τ 16 t ∧ F 10 r = ext τ t := by
  unfold Q_fits Q_fits_37 at h
  rw [nI_clamp (by omega), nI_clamp (by omega)] at h
  by_cases h1 : F 9 r = τ 16 t
  · refine ⟨h1, ?_⟩
    rw [if_pos h1] at h
    unfold ext
    rw [← h1]
    rcases hL.1 with q | q | q | q | q
    · rw [q, if_neg (by decide), if_neg (by decide)]; exact hL.2.2.2.1 (Or.inl q)
    · rw [q, if_neg (by decide), if_neg (by decide)]; exact hL.2.2.2.1 (Or.inr (Or.inl q))
    · rw [q, if_neg (by decide), if_neg (by decide)]; exact hL.2.2.2.1 (Or.inr (Or.inr q))
    · rw [q] at h
      rw [q, if_pos rfl]
      simp (decide := true) only [reduceIte] at h
      by_cases h2 : F 10 r = τ 19 t
      · exact h2
      · rw [if_neg h2] at h; exact absurd h (by decide)
    · rw [q] at h
      rw [q, if_neg (by decide), if_pos rfl]
      simp (decide := true) only [reduceIte] at h
      by_cases h2 : F 10 r = nI t
      · exact h2
      · rw [if_neg h2] at h; exact absurd h (by decide)
  · rw [if_neg h1] at h; exact absurd h (by decide)
theorem TW_cg {N : Nat} {τ τ' : gf} (h4 : τ' 4 = τ 4) (h5 : τ' 5 = τ 5) (h : TW N τ) : TW N τ' := by
  have hb : ∀ k, bg τ' k = bg τ k := fun k => by unfold bg; rw [h5]
  have hc : ∀ k i, chn τ' k i = chn τ k i := by
    intro k i
    induction i with
    | zero => rfl
    | succ i ih => unfold chn; rw [ih, h5]
  intro k hk
  obtain ⟨⟨n, n1, n2, n3⟩, n4, n5, n6⟩ := h k hk
  refine ⟨⟨n, n1, by rw [h4]; exact n2, fun i hi => ?_⟩, by rw [h5, hb]; exact n4, by rw [hb]; exact n5, fun j a c => ?_⟩
  · obtain ⟨a, a1, a2, a3⟩ := n3 i hi
    exact ⟨a, by rw [hb]; exact a1, a2, by rw [hc]; exact a3⟩
  · rw [hb, hb]; rw [hb] at a; exact n6 j a c
theorem hdn_cg {τ τ' : gf} {k m : Nat} (h2 : τ' 2 = τ 2) (h5 : τ' 5 = τ 5) : hdn τ' k m ↔ hdn τ k m := by
  have hb : ∀ k, bg τ' k = bg τ k := fun k => by unfold bg; rw [h5]
  constructor
  · rintro ⟨a, a1, a2, a3, a4⟩; exact ⟨a, a1, a2, by rw [← h2]; exact a3, by rw [← hb]; exact a4⟩
  · rintro ⟨a, a1, a2, a3, a4⟩; exact ⟨a, a1, a2, by rw [h2]; exact a3, by rw [hb]; exact a4⟩
def ko (κ : Nat → Nat) : Nat → Nat := ku (ku (ku κ 14 (wl (κ 14) (κ 5 + 1))) 8 (wl (κ 8) (κ 5 + 1))) 5 (κ 5 + 1)
theorem IL_ko {κ : Nat → Nat} (hI : IL κ) (h5 : κ 5 < 2000) : IL (ko κ) := by
  obtain ⟨⟨i6, i7, i8, i9, i10, i11, i12, i13, i14, i15⟩, j1, j2, j3, j4, j5, j6, j7⟩ := hI
  have w8 := wl_ok (n := κ 8) (N := κ 5 + 1) i8 (by omega)
  have w14 := wl_ok (n := κ 14) (N := κ 5 + 1) i14 (by omega)
  exact ⟨⟨i6, i7, w8.2.2, i9, i10, i11, i12, i13, w14.2.2, i15⟩, j1, j2, j3, j4, w14.1, j6, j7⟩
theorem RX_obj {κ κr : Nat → Nat} {φ φ1 : gF} {ψ ψ1 : gG} {τ F F1 : gf} {nu nu1 : gg} {x1 : Int32} {t : Nat} (hI : IL κ) (h : RX κ φ ψ κr τ F nu) (h3 : κ 5 < 2000) (ht : t < κ 4) (hx : x1 = 0 ∨ x1 = 1 ∨ x1 = 2) (p2 : φ1 2 = φ 2) (p3 : φ1 3 = φ 3) (p4 : φ1 4 = φ 4)
    (hf : (∀ q e, q < 3 → e < κ 5 → φ1 5 q e = φ 5 q e) ∧ φ1 5 0 (κ 5) = x1 ∧ φ1 5 1 (κ 5) = nI t) (hg : ∀ s j, s < κ 5 → j < 64 → rr (wl (κ 8) (κ 5 + 1)) (ψ1 6) s j = rr (κ 8) (ψ 6) s j)
    (hF : ∀ q i, ¬ q = 14 → ¬ q = 15 → 8000 ≤ i → i < 8000 + κ 5 → F1 q i = F q i) (hF14 : ∀ i, 8000 ≤ i / 64 → i / 64 < 8000 + κ 5 → F1 14 i = F 14 i) (hn : ∀ i, 8000 ≤ i → i < 8000 + κ 5 → nu1 i = nu i)
    (hc : x1 = 0 → F1 9 (8000 + κ 5) = τ 16 t ∧ F1 10 (8000 + κ 5) = ext τ t ∧ F1 11 (8000 + κ 5) = 1 ∧ LSv (τ 16 t) (ext τ t) 1 (φ1 5 2 (κ 5)) (nu1 (8000 + κ 5)) (rr (wl (κ 8) (κ 5 + 1)) (ψ1 6) (κ 5)) (ee F1 (8000 + κ 5))) :
    RX (ko κ) φ1 ψ1 (ku κr 3 (κr 3 + 1)) (Au (Au τ 22 (κr 3) x1) 23 (κr 3) (nI t)) F1 nu1 := by
  obtain ⟨⟨a1, ⟨t1, t2, t3⟩, a3, a4, hTy, o1, o2, o3⟩, hS, hW, h1, c6, c7, c9, c10, c15, c8⟩ := h
  have w8 := wl_ok (n := κ 8) (N := κ 5 + 1) hI.1.2.2.1 (by omega)
  refine ⟨⟨a1, ⟨t1, by rw [p2]; exact t2, t3⟩, by rw [p3]; exact a3, ?_, by rw [p4]; exact hTy, by show κ 5 + 1 = κr 3 + 1; omega, by show κr 3 + 1 ≤ 2000; omega, ?_⟩, by rw [p3]; exact hS, ?_, h1, c6, c7, c9, c10, c15, w8.1⟩
  · intro i hi
    obtain ⟨w1, w2⟩ := a4 i hi
    refine ⟨w1, fun h9 => ?_⟩
    obtain ⟨o, ho1, ho2⟩ := w2 h9
    exact ⟨o, by show o < κr 3 + 1; omega, ho2⟩
  · intro o ho
    have ho : o < κ 5 + 1 := ho
    have hext : ∀ u, ext (Au (Au τ 22 (κr 3) x1) 23 (κr 3) (nI t)) u = ext τ u := fun _ => rfl
    have e22 : (Au (Au τ 22 (κr 3) x1) 23 (κr 3) (nI t)) 22 o = if o = κr 3 then x1 else τ 22 o := by simp [au_a]
    have e23 : (Au (Au τ 22 (κr 3) x1) 23 (κr 3) (nI t)) 23 o = if o = κr 3 then nI t else τ 23 o := by simp [au_a]
    rw [e22, e23]
    by_cases ho' : o = κ 5
    · subst ho'
      rw [if_pos o1, if_pos o1]
      exact ⟨hf.2.1, hf.2.2, hx, t, ht, rfl, fun h9 => hc h9⟩
    · rw [if_neg (by omega), if_neg (by omega)]
      obtain ⟨c1, c2, c3, u, c4, c5, c6'⟩ := o3 o (by omega)
      rw [hf.1 0 o (by decide) (by omega), hf.1 1 o (by decide) (by omega), hf.1 2 o (by decide) (by omega)]
      refine ⟨c1, c2, c3, u, c4, c5, fun h0 => ?_⟩
      rw [hF 9 (8000 + o) (by decide) (by decide) (by omega) (by omega), hF 10 (8000 + o) (by decide) (by decide) (by omega) (by omega), hF 11 (8000 + o) (by decide) (by decide) (by omega) (by omega), hn (8000 + o) (by omega) (by omega)]
      obtain ⟨d1, d2, d3, e1, e2, e3, e4, e5⟩ := c6' h0
      refine ⟨d1, d2, d3, e1, e2, e3, e4, fun hx => ⟨(e5 hx).1, (e5 hx).2.1, fun h3 E j hE hE2 hj => ?_⟩⟩
      have e9 : ee F1 (8000 + o) j = ee F (8000 + o) j := hF14 (64 * (8000 + o) + j) (by omega) (by omega)
      have e8 : rr (ko κ 8) (ψ1 6) o j = rr (κ 8) (ψ 6) o j := hg o j (by omega) (by omega)
      rw [e8, e9]
      exact (e5 hx).2.2 h3 E j hE hE2 hj
  · intro o q1 q2
    have q1 : κ 5 + 1 ≤ o := q1
    have e22 : (Au (Au τ 22 (κr 3) x1) 23 (κr 3) (nI t)) 22 o = if o = κr 3 then x1 else τ 22 o := by simp [au_a]
    rw [e22, if_neg (by omega)]
    exact hW o (by omega) q2
-- declare
theorem po_put {κ : Nat → Nat} {φ : gF} {ψ : gG} {x1 x2 : Int32} (h5 : κ 5 < 2000) (hL : κ 5 ≤ κ 14) :
    ∃ f5, P_Objects_put κ φ ψ x1 x2 = (nI (κ 5), up φ 5 f5, up ψ 6 (P_Rows_makeRoom (κ 8) (ψ 6) (κ 5 + 1))) ∧ (∀ q e, q < 3 → e < κ 5 → f5 q e = φ 5 q e) ∧ f5 0 (κ 5) = x1 ∧ f5 1 (κ 5) = x2 := by
  have eN : (nI (κ 5)).toNatClampNeg = κ 5 := nI_clamp (by omega)
  unfold P_Objects_put
  simp only [eN, up_up]
  refine ⟨_, rfl, fun q e hq he => ?_, ?_, ?_⟩
  · rcases (show q = 0 ∨ q = 1 ∨ q = 2 by omega) with h | h | h <;> subst h <;> simp only [au_a, show ¬ e = κ 5 by omega, and_false, if_false]
    all_goals (show P_wr (κ 14) (κ 5 + 1) _ e = _; exact wr_lt (by omega))
  · simp [au_a]
  · simp [au_a]
-- enumeration: shapes and loops
def gd (τ : gf) (r j : Nat) : Prop := τ 2 (chn τ r j).toNatClampNeg = 1 ∧ τ 4 (chn τ r j).toNatClampNeg = 0
theorem en_shape {N rt : Nat} {τ : gf} {b mn : Nat → Nat} (hT : TR N rt τ b mn) (hN : N ≤ 4000) {r : Nat} (hr : r < N) (hg : ∀ i, i < mn r → gd τ r i) : ∀ i, i ≤ mn r → tX b r i = r - i ∧ i ≤ r := by
  have hb : ∀ c, c < N → b c ≤ c := fun c hc => (hT.1 c hc).2
  have hone := (hT.2.1 r hr).2.2.1
  intro i
  induction i with
  | zero => intro _; exact ⟨rfl, Nat.zero_le _⟩
  | succ i ih =>
    intro hi
    obtain ⟨e1, e2⟩ := ih (by omega)
    have h1 := hone i (by omega)
    obtain ⟨m, hm⟩ : ∃ m, tX b r i = m + 1 := ⟨tX b r i - 1, by omega⟩
    rw [tX_s hm]
    have hc : chn τ r i = nI m := by
      rw [chn_tX hT hN (Nat.le_of_lt hr) i (fun j hj => hone j (by omega)), hm]; rfl
    have h4 := (hg i (by omega)).2
    rw [hc, nI_clamp (by omega), (hT.2.1 m (by omega)).1, show (0 : Int32) = nI 0 from rfl, j_eq (by have := (hT.2.1 m (by omega)).2.1; omega) (by omega)] at h4
    have h5 := (hT.2.1 m (by omega)).2.2.2
    rw [h4] at h5
    have h6 : tX b m 0 = m := rfl
    rw [h5, h6]
    omega
theorem mal_49 {κ κr : Nat → Nat} {φ : gF} {ψ : gG} {τ : gf} {r n : Nat} (hR : RTr κ (φ 2) κr τ) (hN : κ 0 ≤ 4000) (hr : r < κ 0) (hn : n ≤ 4000) (hch : ∀ i, i < n → ∃ a, a < r ∧ chn τ r i = nI a) : ∀ d i fuel acc, i + d = n → d < fuel →
    (P_TypeBook_malformedEnumNode_49 κ φ ψ fuel (nI r) (nI n) acc (chn τ r i) (nI i) = -1) = (acc = -1 ∧ ∀ j, i ≤ j → j < n → gd τ r j) := by
  intro d
  induction d with
  | zero =>
    intro i fuel acc hi hf
    obtain ⟨m, rfl⟩ : ∃ m, fuel = m + 1 := ⟨fuel - 1, by omega⟩
    show ((if nI n ≤ nI i then acc else _) = -1) = _
    rw [if_pos (by rw [j_le (by omega) (by omega)]; omega)]
    exact propext ⟨fun h => ⟨h, fun j a b => by omega⟩, fun h => h.1⟩
  | succ d ih =>
    intro i fuel acc hi hf
    obtain ⟨m, rfl⟩ : ∃ m, fuel = m + 1 := ⟨fuel - 1, by omega⟩
    obtain ⟨a, ha, ea⟩ := hch i (by omega)
    obtain ⟨t1, t2, t3, t4⟩ := hR.2.1 a (by omega)
    have hnx : P_Trees_firstOf (κ 0) (κ 1) (κ 11) (φ 2) (nI a) - 1 = chn τ r (i + 1) := by
      show _ = τ 5 (chn τ r i).toNatClampNeg - 1
      rw [pt_3 (by omega) (by omega), t4, ea, nI_clamp (by omega)]
    show ((if nI n ≤ nI i then acc else if P_Trees_kindOf (κ 0) (κ 1) (κ 11) (φ 2) (chn τ r i) = 1 then (if P_Trees_countOf (κ 0) (κ 1) (κ 11) (φ 2) (chn τ r i) = 0 then P_TypeBook_malformedEnumNode_49 κ φ ψ m (nI r) (nI n) acc (P_Trees_firstOf (κ 0) (κ 1) (κ 11) (φ 2) (chn τ r i) - 1) (nI i + 1) else P_TypeBook_malformedEnumNode_49 κ φ ψ m (nI r) (nI n) (chn τ r i) (P_Trees_firstOf (κ 0) (κ 1) (κ 11) (φ 2) (chn τ r i) - 1) (nI i + 1)) else P_TypeBook_malformedEnumNode_49 κ φ ψ m (nI r) (nI n) (chn τ r i) (P_Trees_firstOf (κ 0) (κ 1) (κ 11) (φ 2) (chn τ r i) - 1) (nI i + 1)) = -1) = _
    rw [if_neg (by rw [j_le (by omega) (by omega)]; omega), ea, hnx, pt_0 (by omega) (by omega), pt_2 (by omega) (by omega), t1, t3, ← nI_succ]
    have hbad : ¬ gd τ r i → (P_TypeBook_malformedEnumNode_49 κ φ ψ m (nI r) (nI n) (nI a) (chn τ r (i + 1)) (nI (i + 1)) = -1) = (acc = -1 ∧ ∀ j, i ≤ j → j < n → gd τ r j) := by
      intro hg
      rw [ih (i + 1) m (nI a) (by omega) (by omega)]
      exact propext ⟨fun h => absurd h.1 (neg1 (by omega)), fun h => absurd (h.2 i (Nat.le_refl _) (by omega)) hg⟩
    have hgi : gd τ r i = (τ 2 a = 1 ∧ τ 4 a = 0) := by unfold gd; rw [ea, nI_clamp (by omega)]
    by_cases q1 : τ 2 a = 1
    · rw [if_pos q1]
      by_cases q2 : τ 4 a = 0
      · rw [if_pos q2, ih (i + 1) m acc (by omega) (by omega)]
        refine propext ⟨fun h => ⟨h.1, fun j h1 h2 => ?_⟩, fun h => ⟨h.1, fun j h1 h2 => h.2 j (by omega) h2⟩⟩
        by_cases h9 : j = i
        · subst h9; rw [hgi]; exact ⟨q1, q2⟩
        · exact h.2 j (by omega) h2
      · rw [if_neg q2]; exact hbad (by rw [hgi]; exact fun h => q2 h.2)
    · rw [if_neg q1]; exact hbad (by rw [hgi]; exact fun h => q1 h.1)
theorem mal_t {κ κr : Nat → Nat} {φ : gF} {ψ : gG} {τ : gf} {r n : Nat} (hR : RTr κ (φ 2) κr τ) (hN : κ 0 ≤ 4000) (hr : r < κ 0) (hn : n ≤ 4000) (en : τ 4 r = nI n) (hch : ∀ i, i < n → ∃ a, a < r ∧ chn τ r i = nI a) :
    (P_TypeBook_malformedEnumNode κ φ ψ (nI r) = -1) = (τ 2 r = 53 ∧ 1 ≤ n ∧ n ≤ 64 ∧ ∀ j, j < n → gd τ r j) := by
  obtain ⟨t1, t2, t3, t4⟩ := hR.2.1 r hr
  have hf0 := fuel0
  have key : ∀ acc, (P_TypeBook_malformedEnumNode_40 κ φ ψ (nI r) (nI n) acc = -1) = (acc = -1 ∧ ∀ j, 0 ≤ j → j < n → gd τ r j) := by
    intro acc
    unfold P_TypeBook_malformedEnumNode_40
    exact mal_49 hR hN hr hn hch n 0 _ acc (by omega) (by omega)
  unfold P_TypeBook_malformedEnumNode P_TypeBook_malformedEnumNode_35
  rw [pt_0 hr (by omega), pt_2 hr (by omega), t1, t3, en]
  by_cases q1 : τ 2 r = 53
  · rw [if_pos q1]
    have hl : (nI n < 1) = (n < 1) := j_lt (b := 1) (by omega) (by omega)
    have hl2 : (nI n ≤ 64) = (n ≤ 64) := j_le (b := 64) (by omega) (by omega)
    simp only [hl, hl2]
    by_cases q2 : n < 1
    · rw [if_pos q2, key]
      exact propext ⟨fun h => absurd h.1 (neg1 (by omega)), fun h => by omega⟩
    · rw [if_neg q2]
      by_cases q3 : n ≤ 64
      · rw [if_pos q3, key]
        exact propext ⟨fun h => ⟨q1, by omega, q3, fun j hj => h.2 j (Nat.zero_le _) hj⟩, fun h => ⟨rfl, fun j _ hj => h.2.2.2 j hj⟩⟩
      · rw [if_neg q3, key]
        exact propext ⟨fun h => absurd h.1 (neg1 (by omega)), fun h => absurd h.2.2.1 q3⟩
  · rw [if_neg q1]
    exact propext ⟨fun h => absurd h (neg1 (by omega)), fun h => absurd h.1 q1⟩
theorem q64_0 {κ : Nat → Nat} {τ : gf} {σ : gs} {F : gf} {nu : gg} {x1 t0 i : Int32} {m : Nat} : Q_enumeration_64 κ τ σ F nu x1 0 t0 (m + 1) i 0 = (-11, κ, τ, upd (upd σ 0 0) 1 x1, F, nu) := by
  have h : Q_enumeration_117 κ τ σ F nu x1 0 t0 i 0 = (-11, κ, τ, upd (upd σ 0 0) 1 x1, F, nu) := by
    unfold Q_enumeration_117 Q_wrong
    rw [if_pos rfl]
  show (if τ 4 x1.toNatClampNeg ≤ i then Q_enumeration_117 κ τ σ F nu x1 0 t0 i 0 else if (0 : Int32) = 0 then Q_enumeration_117 κ τ σ F nu x1 0 t0 i 0 else _) = _
  rw [if_pos (show (0 : Int32) = 0 from rfl), ite_self, h]
theorem q64_1 {κ : Nat → Nat} {τ : gf} {σ : gs} {F : gf} {nu : gg} {r n : Nat} {t0 : Int32} (hr : r < 4000) (hn : n ≤ 4000) (en : τ 4 r = nI n) : ∀ d i fuel, i + d = n → d + 1 < fuel →
    ((∀ j, i ≤ j → j < n → gd τ r j) → Q_enumeration_64 κ τ σ F nu (nI r) 0 t0 fuel (nI i) 1 = Q_enumeration_117 κ τ σ F nu (nI r) 0 t0 (nI n) 1) ∧
    (¬ (∀ j, i ≤ j → j < n → gd τ r j) → Q_enumeration_64 κ τ σ F nu (nI r) 0 t0 fuel (nI i) 1 = (-11, κ, τ, upd (upd σ 0 0) 1 (nI r), F, nu)) := by
  intro d
  induction d with
  | zero =>
    intro i fuel hi hf
    obtain ⟨m, rfl⟩ : ∃ m, fuel = m + 1 := ⟨fuel - 1, by omega⟩
    obtain rfl : i = n := by omega
    refine ⟨fun _ => ?_, fun h => absurd (fun j a b => by omega) h⟩
    show (if τ 4 (nI r).toNatClampNeg ≤ nI i then _ else _) = _
    rw [nI_clamp (by omega), en, if_pos (by rw [j_le (by omega) (by omega)]; omega)]
  | succ d ih =>
    intro i fuel hi hf
    obtain ⟨m, rfl⟩ : ∃ m, fuel = m + 2 := ⟨fuel - 2, by omega⟩
    have hst : Q_enumeration_64 κ τ σ F nu (nI r) 0 t0 (m + 2) (nI i) 1 = if τ 2 (chn τ r i).toNatClampNeg = 1 then (if τ 4 (chn τ r i).toNatClampNeg = 0 then Q_enumeration_64 κ τ σ F nu (nI r) 0 t0 (m + 1) (nI (i + 1)) 1 else Q_enumeration_64 κ τ σ F nu (nI r) 0 t0 (m + 1) (nI (i + 1)) 0) else Q_enumeration_64 κ τ σ F nu (nI r) 0 t0 (m + 1) (nI (i + 1)) 0 := by
      show (if τ 4 (nI r).toNatClampNeg ≤ nI i then _ else if (1 : Int32) = 0 then _ else if τ 2 (Q_child κ τ (upd σ 0 0) F nu (nI r) (nI i)).toNatClampNeg = 1 then (if τ 4 (Q_child κ τ (upd σ 0 0) F nu (nI r) (nI i)).toNatClampNeg = 0 then Q_enumeration_64 κ τ σ F nu (nI r) 0 t0 (m + 1) (nI i + 1) 1 else Q_enumeration_64 κ τ σ F nu (nI r) 0 t0 (m + 1) (nI i + 1) 0) else Q_enumeration_64 κ τ σ F nu (nI r) 0 t0 (m + 1) (nI i + 1) 0) = _
      rw [nI_clamp (by omega), en, if_neg (by rw [j_le (by omega) (by omega)]; omega), if_neg (by decide), qc_n (by omega), ← nI_succ]
    rw [hst]
    by_cases q1 : τ 2 (chn τ r i).toNatClampNeg = 1
    · rw [if_pos q1]
      by_cases q2 : τ 4 (chn τ r i).toNatClampNeg = 0
      · rw [if_pos q2]
        obtain ⟨g1, g2⟩ := ih (i + 1) (m + 1) (by omega) (by omega)
        refine ⟨fun h => g1 (fun j a b => h j (by omega) b), fun h => g2 (fun h9 => h (fun j a b => ?_))⟩
        by_cases h8 : j = i
        · subst h8; exact ⟨q1, q2⟩
        · exact h9 j (by omega) b
      · rw [if_neg q2]
        exact ⟨fun h => absurd (h i (Nat.le_refl _) (by omega)).2 q2, fun _ => q64_0⟩
    · rw [if_neg q1]
      exact ⟨fun h => absurd (h i (Nat.le_refl _) (by omega)).1 q1, fun _ => q64_0⟩
-- names of the places
theorem ob_t {κ κr : Nat → Nat} {φ : gF} {ψ : gG} {τ : gf} {f i : Nat} (hR : RTr κ (φ 2) κr τ) (hN : κ 0 ≤ 4000) (hi : i < κ 0) (hfi : f ≤ i) : (P_TypeBook_isNameOfOneBefore κ φ ψ (nI f) (nI i) = 0) = ¬ ∃ j, f ≤ j ∧ j < i ∧ τ 3 j = τ 3 i := by
  have key : ∀ d j fuel, j + d = i → d < fuel → (P_TypeBook_isNameOfOneBefore_2 κ φ ψ fuel (nI f) (nI i) (nI j) = 0) = ¬ ∃ e, j ≤ e ∧ e < i ∧ τ 3 e = τ 3 i := by
    intro d
    induction d with
    | zero =>
      intro j fuel hj hf
      obtain ⟨m, rfl⟩ : ∃ m, fuel = m + 1 := ⟨fuel - 1, by omega⟩
      show ((if nI i ≤ nI j then (0 : Int32) else _) = 0) = _
      rw [if_pos (by rw [j_le (by omega) (by omega)]; omega)]
      exact propext ⟨fun _ ⟨e, e1, e2, _⟩ => by omega, fun _ => rfl⟩
    | succ d ih =>
      intro j fuel hj hf
      obtain ⟨m, rfl⟩ : ∃ m, fuel = m + 1 := ⟨fuel - 1, by omega⟩
      show ((if nI i ≤ nI j then (0 : Int32) else if P_Trees_valueOf (κ 0) (κ 1) (κ 11) (φ 2) (nI j) = P_Trees_valueOf (κ 0) (κ 1) (κ 11) (φ 2) (nI i) then 1 else P_TypeBook_isNameOfOneBefore_2 κ φ ψ m (nI f) (nI i) (nI j + 1)) = 0) = _
      rw [if_neg (by rw [j_le (by omega) (by omega)]; omega), pt_1 (by omega) (by omega), pt_1 (by omega) (by omega), (hR.2.1 j (by omega)).2.1, (hR.2.1 i hi).2.1, ← nI_succ]
      by_cases q : τ 3 j = τ 3 i
      · rw [if_pos q]
        exact propext ⟨fun h => absurd h (by decide), fun h => absurd ⟨j, Nat.le_refl _, by omega, q⟩ h⟩
      · rw [if_neg q, ih (j + 1) m (by omega) (by omega)]
        refine propext ⟨fun h ⟨e, e1, e2, e3⟩ => h ⟨e, ?_, e2, e3⟩, fun h ⟨e, e1, e2, e3⟩ => h ⟨e, by omega, e2, e3⟩⟩
        by_cases h9 : e = j
        · subst h9; exact absurd e3 q
        · omega
  unfold P_TypeBook_isNameOfOneBefore
  have hfu : i - f < (2147483647 - (nI f).toInt).toNat + 1 := by rw [nI_toInt (by omega)]; omega
  exact key (i - f) f _ (by omega) hfu
def bad (κ : Nat → Nat) (f3 τ : gf) (r f i : Nat) : Prop := τ 3 i = τ 3 r ∨ ¬ P_Names_isTaken (κ 2) (κ 3) (κ 12) f3 (τ 3 i) = 0 ∨ ∃ j, f ≤ j ∧ j < i ∧ τ 3 j = τ 3 i
theorem tk_34 {κ κr : Nat → Nat} {φ : gF} {ψ : gG} {τ : gf} {r f : Nat} (hR : RTr κ (φ 2) κr τ) (hN : κ 0 ≤ 4000) (hr : r < κ 0) : ∀ d i fuel, i + d = r → d < fuel → f ≤ i →
    (P_TypeBook_takenEnumNode_34 κ φ ψ fuel (nI r) (τ 3 r) (nI f) (nI i) = -1) = ∀ j, i ≤ j → j < r → ¬ bad κ (φ 3) τ r f j := by
  intro d
  induction d with
  | zero =>
    intro i fuel hi hf hfi
    obtain ⟨m, rfl⟩ : ∃ m, fuel = m + 1 := ⟨fuel - 1, by omega⟩
    show ((if nI r ≤ nI i then (-1 : Int32) else _) = -1) = _
    rw [if_pos (by rw [j_le (by omega) (by omega)]; omega)]
    exact propext ⟨fun _ j a b => by omega, fun _ => rfl⟩
  | succ d ih =>
    intro i fuel hi hf hfi
    obtain ⟨m, rfl⟩ : ∃ m, fuel = m + 1 := ⟨fuel - 1, by omega⟩
    show ((if nI r ≤ nI i then (-1 : Int32) else if P_Trees_valueOf (κ 0) (κ 1) (κ 11) (φ 2) (nI i) = τ 3 r then nI i else if P_Names_isTaken (κ 2) (κ 3) (κ 12) (φ 3) (P_Trees_valueOf (κ 0) (κ 1) (κ 11) (φ 2) (nI i)) = 0 then (if P_TypeBook_isNameOfOneBefore κ φ ψ (nI f) (nI i) = 0 then P_TypeBook_takenEnumNode_34 κ φ ψ m (nI r) (τ 3 r) (nI f) (nI i + 1) else nI i) else nI i) = -1) = _
    rw [if_neg (by rw [j_le (by omega) (by omega)]; omega), pt_1 (by omega) (by omega), (hR.2.1 i (by omega)).2.1, ← nI_succ]
    have hno : bad κ (φ 3) τ r f i → (nI i = -1) = ∀ j, i ≤ j → j < r → ¬ bad κ (φ 3) τ r f j := fun hb => propext ⟨fun h => absurd h (neg1 (by omega)), fun h => absurd hb (h i (Nat.le_refl _) (by omega))⟩
    have hob := ob_t (ψ := ψ) (f := f) (i := i) hR hN (by omega) hfi
    by_cases q1 : τ 3 i = τ 3 r
    · rw [if_pos q1]; exact hno (Or.inl q1)
    · rw [if_neg q1]
      by_cases q2 : P_Names_isTaken (κ 2) (κ 3) (κ 12) (φ 3) (τ 3 i) = 0
      · rw [if_pos q2]
        by_cases q3 : ∃ j, f ≤ j ∧ j < i ∧ τ 3 j = τ 3 i
        · rw [if_neg (by rw [hob]; exact fun h => h q3)]; exact hno (Or.inr (Or.inr q3))
        · rw [if_pos (by rw [hob]; exact q3), ih (i + 1) m (by omega) (by omega) (by omega)]
          refine propext ⟨fun h j a b => ?_, fun h j a b => h j (by omega) b⟩
          by_cases h9 : j = i
          · subst h9
            rintro (h8 | h8 | h8)
            · exact q1 h8
            · exact h8 q2
            · exact q3 h8
          · exact h j (by omega) b
      · rw [if_neg q2]; exact hno (Or.inr (Or.inl q2))
theorem q203 {κ : Nat → Nat} {τ : gf} {σ : gs} {F : gf} {nu : gg} {x1 t0 i4 i3 t9 : Int32} {σ1 : gs} {F1 : gf} {nu1 : gg} {k : gs → gf → gg → Int32 → XQ} {i : Nat} (hi : i < 4000) : ∀ d j fuel, j + d = i → d < fuel →
    (Q_enumeration_203 κ τ σ F nu x1 0 t0 i4 i3 σ1 F1 nu1 (nI i) t9 k fuel (nI j) 1 = (-7, κ, τ, upd σ1 1 (nI i), F1, nu1)) ∧
    ((¬ ∃ e, j ≤ e ∧ e < i ∧ τ 3 e = τ 3 i) → Q_enumeration_203 κ τ σ F nu x1 0 t0 i4 i3 σ1 F1 nu1 (nI i) t9 k fuel (nI j) 0 = k σ1 F1 nu1 (nI (i + 1))) ∧
    ((∃ e, j ≤ e ∧ e < i ∧ τ 3 e = τ 3 i) → Q_enumeration_203 κ τ σ F nu x1 0 t0 i4 i3 σ1 F1 nu1 (nI i) t9 k fuel (nI j) 0 = (-7, κ, τ, upd σ1 1 (nI i), F1, nu1)) := by
  intro d
  induction d with
  | zero =>
    intro j fuel hj hf
    obtain ⟨m, rfl⟩ : ∃ m, fuel = m + 1 := ⟨fuel - 1, by omega⟩
    have hle : nI i ≤ nI j := by rw [j_le (by omega) (by omega)]; omega
    refine ⟨?_, fun _ => ?_, fun ⟨e, e1, e2, _⟩ => by omega⟩
    · show (if nI i ≤ nI j then (if (1 : Int32) = 0 then _ else ((Q_wrong κ τ σ1 F1 nu1 (nI i) 7).1, κ, τ, (Q_wrong κ τ σ1 F1 nu1 (nI i) 7).2.1, F1, nu1)) else _) = _
      rw [if_pos hle, if_neg (by decide)]; rfl
    · show (if nI i ≤ nI j then (if (0 : Int32) = 0 then k σ1 F1 nu1 (nI i + 1) else _) else _) = _
      rw [if_pos hle, if_pos rfl, ← nI_succ]
  | succ d ih =>
    intro j fuel hj hf
    obtain ⟨m, rfl⟩ : ∃ m, fuel = m + 1 := ⟨fuel - 1, by omega⟩
    have hle : ¬ nI i ≤ nI j := by rw [j_le (by omega) (by omega)]; omega
    obtain ⟨g1, g2, g3⟩ := ih (j + 1) m (by omega) (by omega)
    have h0 : Q_enumeration_203 κ τ σ F nu x1 0 t0 i4 i3 σ1 F1 nu1 (nI i) t9 k (m + 1) (nI j) 0 = if τ 3 j = τ 3 i then Q_enumeration_203 κ τ σ F nu x1 0 t0 i4 i3 σ1 F1 nu1 (nI i) t9 k m (nI (j + 1)) 1 else Q_enumeration_203 κ τ σ F nu x1 0 t0 i4 i3 σ1 F1 nu1 (nI i) t9 k m (nI (j + 1)) 0 := by
      show (if nI i ≤ nI j then _ else if (0 : Int32) = 0 then (if τ 3 (nI j).toNatClampNeg = τ 3 (nI i).toNatClampNeg then Q_enumeration_203 κ τ σ F nu x1 0 t0 i4 i3 σ1 F1 nu1 (nI i) t9 k m (nI j + 1) 1 else Q_enumeration_203 κ τ σ F nu x1 0 t0 i4 i3 σ1 F1 nu1 (nI i) t9 k m (nI j + 1) 0) else _) = _
      rw [if_neg hle, if_pos rfl, nI_clamp (by omega), nI_clamp (by omega), ← nI_succ]
    refine ⟨?_, fun h => ?_, fun h => ?_⟩
    · show (if nI i ≤ nI j then _ else if (1 : Int32) = 0 then _ else Q_enumeration_203 κ τ σ F nu x1 0 t0 i4 i3 σ1 F1 nu1 (nI i) t9 k m (nI j + 1) 1) = _
      rw [if_neg hle, if_neg (by decide), ← nI_succ]; exact g1
    · rw [h0, if_neg (fun h9 => h ⟨j, Nat.le_refl _, by omega, h9⟩)]
      exact g2 (fun ⟨e, e1, e2, e3⟩ => h ⟨e, by omega, e2, e3⟩)
    · rw [h0]
      by_cases q : τ 3 j = τ 3 i
      · rw [if_pos q]; exact g1
      · rw [if_neg q]
        obtain ⟨e, e1, e2, e3⟩ := h
        refine g3 ⟨e, ?_, e2, e3⟩
        by_cases h9 : e = j
        · subst h9; exact absurd e3 q
        · omega
/-- where the reference ends its tests -/
def en_end (κ : Nat → Nat) (τ : gf) (σ : gs) (F : gf) (nu : gg) (r : Nat) (t0 i4 i3 : Int32) : XQ := (if (nI (κ 2)) = 1000 then (Q_enumeration_290 κ τ σ F nu (nI r) 0 t0 i4 i3 (upd σ 0 0) F nu (nI r)) else (if (((nI (κ 4)) + (τ 4 r)) + 1) ≤ 3000 then (Q_enumeration_295 κ τ σ F nu (nI r) 0 t0 i4 i3 (upd σ 0 0) F nu (nI r) 0) else (Q_enumeration_290 κ τ σ F nu (nI r) 0 t0 i4 i3 (upd σ 0 0) F nu (nI r))))
theorem q155 {κ κr : Nat → Nat} {f3 : gf} {τ : gf} {σ : gs} {F : gf} {nu : gg} {r n : Nat} {t0 i4 i3 : Int32} (hr : r < 4000) (hnr : n ≤ r) (en : τ 4 r = nI n) (htk : ∀ i, r - n ≤ i → i < r → (P_Names_isTaken (κ 2) (κ 3) (κ 12) f3 (τ 3 i) = 0) = (Q_hasHere κr τ (upd σ 0 0) F nu (τ 3 i) = 0)) : ∀ d i fuel, i + d = r → d < fuel → r - n ≤ i →
    ((∀ j, i ≤ j → j < r → ¬ bad κ f3 τ r (r - n) j) → Q_enumeration_155 κr τ σ F nu (nI r) 0 t0 i4 i3 fuel (upd σ 0 0) F nu (nI i) = en_end κr τ σ F nu r t0 i4 i3) ∧
    (¬ (∀ j, i ≤ j → j < r → ¬ bad κ f3 τ r (r - n) j) → ∃ w, Q_enumeration_155 κr τ σ F nu (nI r) 0 t0 i4 i3 fuel (upd σ 0 0) F nu (nI i) = (-7, κr, τ, upd (upd σ 0 0) 1 w, F, nu)) := by
  have hsub : nI r - nI n = nI (r - n) := by
    apply Int32.toInt_inj.mp
    rw [Int32.toInt_sub, nI_toInt (by omega), nI_toInt (by omega), nI_toInt (by omega), Int.bmod_eq_of_le (by omega) (by omega)]; omega
  intro d
  induction d with
  | zero =>
    intro i fuel hi hf hfi
    obtain ⟨m, rfl⟩ : ∃ m, fuel = m + 1 := ⟨fuel - 1, by omega⟩
    obtain rfl : i = r := by omega
    refine ⟨fun _ => ?_, fun h => absurd (fun j a b => by omega) h⟩
    show (if nI i ≤ nI i then (if nI (κr 2) = 1000 then _ else if nI (κr 4) + τ 4 (nI i).toNatClampNeg + 1 ≤ 3000 then _ else _) else _) = _
    rw [if_pos (by rw [j_le (by omega) (by omega)]; omega), nI_clamp (by omega)]
    rfl
  | succ d ih =>
    intro i fuel hi hf hfi
    obtain ⟨m, rfl⟩ : ∃ m, fuel = m + 1 := ⟨fuel - 1, by omega⟩
    have hfu : i - (r - n) < (2147483647 - (nI (r - n)).toInt).toNat + 1 := by rw [nI_toInt (by omega)]; omega
    have hst : Q_enumeration_155 κr τ σ F nu (nI r) 0 t0 i4 i3 (m + 1) (upd σ 0 0) F nu (nI i) = if Q_hasHere κr τ (upd σ 0 0) F nu (τ 3 i) = 0 then (if τ 3 i = τ 3 r then Q_enumeration_203 κr τ σ F nu (nI r) 0 t0 i4 i3 (upd σ 0 0) F nu (nI i) 1 (fun a0 a1 a2 a3 => Q_enumeration_155 κr τ σ F nu (nI r) 0 t0 i4 i3 m a0 a1 a2 a3) ((2147483647 - (nI (r - n)).toInt).toNat + 1) (nI (r - n)) 1 else Q_enumeration_203 κr τ σ F nu (nI r) 0 t0 i4 i3 (upd σ 0 0) F nu (nI i) 0 (fun a0 a1 a2 a3 => Q_enumeration_155 κr τ σ F nu (nI r) 0 t0 i4 i3 m a0 a1 a2 a3) ((2147483647 - (nI (r - n)).toInt).toNat + 1) (nI (r - n)) 0) else Q_enumeration_203 κr τ σ F nu (nI r) 0 t0 i4 i3 (upd σ 0 0) F nu (nI i) 1 (fun a0 a1 a2 a3 => Q_enumeration_155 κr τ σ F nu (nI r) 0 t0 i4 i3 m a0 a1 a2 a3) ((2147483647 - (nI (r - n)).toInt).toNat + 1) (nI (r - n)) 1 := by
      conv => lhs; unfold Q_enumeration_155
      rw [if_neg (by rw [j_le (by omega) (by omega)]; omega), nI_clamp (by omega), nI_clamp (by omega)]
      unfold Q_enumeration_191 Q_enumeration_196
      rw [nI_clamp (by omega), en, hsub]
    rw [hst]
    by_cases q2 : Q_hasHere κr τ (upd σ 0 0) F nu (τ 3 i) = 0
    · rw [if_pos q2]
      by_cases q1 : τ 3 i = τ 3 r
      · rw [if_pos q1]
        exact ⟨fun h => absurd (Or.inl q1) (h i (Nat.le_refl _) (by omega)), fun _ => ⟨nI i, (q203 (by omega) (i - (r - n)) (r - n) _ (by omega) hfu).1⟩⟩
      · rw [if_neg q1]
        by_cases q3 : ∃ e, r - n ≤ e ∧ e < i ∧ τ 3 e = τ 3 i
        · exact ⟨fun h => absurd (Or.inr (Or.inr q3)) (h i (Nat.le_refl _) (by omega)), fun _ => ⟨nI i, (q203 (by omega) (i - (r - n)) (r - n) _ (by omega) hfu).2.2 q3⟩⟩
        · rw [(q203 (by omega) (i - (r - n)) (r - n) _ (by omega) hfu).2.1 q3]
          obtain ⟨g1, g2⟩ := ih (i + 1) m (by omega) (by omega) (by omega)
          refine ⟨fun h => g1 (fun j a b => h j (by omega) b), fun h => g2 (fun h9 => h (fun j a b => ?_))⟩
          by_cases h8 : j = i
          · subst h8
            rintro (h7 | h7 | h7)
            · exact q1 h7
            · exact h7 (by rw [htk j hfi b]; exact q2)
            · exact q3 h7
          · exact h9 j (by omega) b
    · rw [if_neg q2]
      exact ⟨fun h => absurd (Or.inr (Or.inl (by rw [htk i hfi (by omega)]; exact q2))) (h i (Nat.le_refl _) (by omega)), fun _ => ⟨nI i, (q203 (by omega) (i - (r - n)) (r - n) _ (by omega) hfu).1⟩⟩
