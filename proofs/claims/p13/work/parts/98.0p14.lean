-- BINARY 14, 19, 20
theorem eloop2 {R : Type} {k n lo : Nat} {F0 : gf} {h : Nat → Int32} {T : Nat → gf → Nat → R} {fin : gf → R} (hn : n ≤ 64)
    (hT : ∀ fuel F i, lo ≤ i → i < n → agr k F0 F → T (fuel + 1) F i = T fuel (Au F 14 (64 * k + i) (h i)) (i + 1)) (hE : ∀ fuel F, agr k F0 F → T (fuel + 1) F n = fin F) :
    ∀ d i fuel F, i + d = n → lo ≤ i → d < fuel → agr k F0 F → T fuel F i = fin (SE F k h i n) := by
  intro d
  induction d with
  | zero =>
    intro i fuel F hi hl hf hF
    obtain ⟨m, rfl⟩ : ∃ m, fuel = m + 1 := ⟨fuel - 1, by omega⟩
    obtain rfl : i = n := by omega
    rw [hE m F hF, SE_e]
  | succ d ih =>
    intro i fuel F hi hl hf hF
    obtain ⟨m, rfl⟩ : ∃ m, fuel = m + 1 := ⟨fuel - 1, by omega⟩
    rw [hT m F i hl (by omega) hF, ih (i + 1) m _ (by omega) (by omega) (by omega) (hF.st (by omega)), SE_s (by omega)]
theorem cj_10 {κ : Nat → Nat} {φ0 : gF} {ψ : gG} {F : gf} {nu : gg} {k a b p q : Nat} {x : Int32} (hC : CK κ) (hk : k < κ 0) (ha : CH κ φ0 ψ F nu k a) (hb : CH κ φ0 ψ F nu k b) (h64 : p + q ≤ 64)
    (hea : ∀ i, ∃ m, m < 16 ∧ (if F 9 a = 3 then rr (κ 10) (ψ 10) a i else φ0 9 3 a) = nI m ∨ 64 ≤ i) (heb : ∀ i, ∃ m, m < 16 ∧ (if F 9 b = 3 then rr (κ 10) (ψ 10) b i else φ0 9 3 b) = nI m ∨ 64 ≤ i) :
    ∃ g', P_Operators_join_10 κ ((2147483647 - (0 : Int32).toInt).toNat + 1) (ct φ0 k 3 (nI (p + q)) (-1) 0 x) ψ (nI k) (nI a) (nI b) (nI q) 0 = (ct φ0 k 3 (nI (p + q)) (-1) 0 x, up ψ 10 g') ∧ ragr (κ 10) k (ψ 10) g' ∧ ∀ j, j < p + q → rr (κ 10) g' k j = if q ≤ j then (if F 9 a = 3 then rr (κ 10) (ψ 10) a (j - q) else φ0 9 3 a) else (if F 9 b = 3 then rr (κ 10) (ψ 10) b j else φ0 9 3 b) := by
  have hC' := hC
  obtain ⟨c0, c1, c2, c3, c4, c5, c6, c7, c8⟩ := hC'
  have hak := ha.1
  have hbk := hb.1
  have hel : ∀ (c i : Nat) (g : gg), CH κ φ0 ψ F nu k c → i < 64 → ragr (κ 10) k (ψ 10) g → P_Operators_elementOf κ (ct φ0 k 3 (nI (p + q)) (-1) 0 x) (up ψ 10 g) (nI c) (nI i) = (if F 9 c = 3 then rr (κ 10) (ψ 10) c i else φ0 9 3 c) := by
    intro c i g hc hi hg
    have hck := hc.1
    unfold P_Operators_elementOf
    rw [ch_0 hC hk hc, ch_3 hC hk hc, up_s]
    by_cases h3 : F 9 c = 3
    · rw [if_pos h3, if_pos h3]; exact hg c i (by omega) hi (by omega)
    · rw [if_neg h3, if_neg h3]
  obtain ⟨g', e1, e2, e3, e4⟩ := rowloop (M := κ 10) (s := k) (n := p + q) (g0 := ψ 10) (h := fun j => if q ≤ j then (if F 9 a = 3 then rr (κ 10) (ψ 10) a (j - q) else φ0 9 3 a) else (if F 9 b = 3 then rr (κ 10) (ψ 10) b j else φ0 9 3 b)) (T := fun fuel g i => P_Operators_join_10 κ fuel (ct φ0 k 3 (nI (p + q)) (-1) 0 x) (up ψ 10 g) (nI k) (nI a) (nI b) (nI q) (nI i)) (fin := fun g => (ct φ0 k 3 (nI (p + q)) (-1) 0 x, up ψ 10 g)) c4 (by omega) h64
    (fun j hj => by
      by_cases hq : q ≤ j
      · rw [if_pos hq]; obtain ⟨m, h⟩ := hea (j - q); rcases h with h | h
        · exact ⟨m, h⟩
        · omega
      · rw [if_neg hq]; obtain ⟨m, h⟩ := heb j; rcases h with h | h
        · exact ⟨m, h⟩
        · omega)
    (fun fuel g i hi hg => by
      show (if P_Looks_extentOf (κ 7) ((ct φ0 k 3 (nI (p + q)) (-1) 0 x) 9) (nI k) ≤ nI i then _ else _) = _
      rw [ct_n1 (by omega) c2, if_neg (by rw [j_le (by omega) (by omega)]; omega)]
      unfold P_Operators_join_60
      by_cases hq : q ≤ i
      · have e5 : nI i - nI q = nI (i - q) := by
          have := nI_add (i - q) q
          rw [show i - q + q = i by omega] at this
          rw [← this, Int32.add_sub_cancel]
        rw [if_pos (by rw [j_le (by omega) (by omega)]; exact hq), if_pos hq, e5, hel a (i - q) g ha (by omega) hg, ← nI_succ, up_up, up_s]
      · rw [if_neg (by rw [j_le (by omega) (by omega)]; exact hq), if_neg hq, hel b i g hb (by omega) hg, ← nI_succ, up_up, up_s])
    (fun fuel g hg => by
      show (if P_Looks_extentOf (κ 7) ((ct φ0 k 3 (nI (p + q)) (-1) 0 x) 9) (nI k) ≤ nI (p + q) then _ else _) = _
      rw [ct_n1 (by omega) c2, if_pos (by rw [j_le (by omega) (by omega)]; exact Nat.le_refl _)]) (p + q) 0 ((2147483647 - (0 : Int32).toInt).toNat + 1) (ψ 10) (by omega) (Nat.lt_trans (by omega) fuel0) ragr.rf
  refine ⟨g', ?_, e2, fun j hj => e3 j (Nat.zero_le _) hj⟩
  rw [up_id ψ 10] at e1
  exact e1
theorem mj_125 {κ : Nat → Nat} {τ : gf} {σ : Nat → Int32} {F : gf} {nu : gg} {k a b p q : Nat} {x : Int32} (hk : k < 4000) (ha : a < k) (hb : b < k) (h64 : p + q ≤ 64) (hx : x = 0 ∨ x = 1) :
    Q_lookJoined_125 κ τ σ F nu (nI k) (nI a) (nI b) (nI p) (nI q) x = kn κ τ σ (mt F k 3 (nI (p + q)) x (-1) (fun j => if q ≤ j ∧ j < p + q then bw (if F 9 a = 0 then (nu a).toInt32 else ee F a (j - q)) else if 0 ≤ j ∧ j < q then bw (if F 9 b = 0 then (nu b).toInt32 else ee F b j) else 0)) (vp_updL nu k 0) k := by
  have eA : (nI a).toNatClampNeg = a := nI_clamp (by omega)
  have eB : (nI b).toNatClampNeg = b := nI_clamp (by omega)
  have hak : ¬ a = k := by omega
  have hbk : ¬ b = k := by omega
  have na : vp_updL nu k 0 a = nu a := by rw [upl_a, if_neg hak]
  have nb : vp_updL nu k 0 b = nu b := by rw [upl_a, if_neg hbk]
  have hf0 := fuel0
  have epq : nI p + nI q = nI (p + q) := nI_add p q
  have hft := fact_t (κ := κ) (τ := τ) (σ := σ) (F := F) (nu := nu) (k := k) (c := 3) (e := nI (p + q)) (x := x) (by omega) hx
  have h2 : ∀ (G : gf) (z : Int32) (r : Nat → Int32), Q_lookJoined_180 κ τ σ F nu (nI k) (nI a) (nI b) (nI p) (nI q) x G z ((2147483647 - (0 : Int32).toInt).toNat + 1) (mt F k 3 (nI (p + q)) x (-1) r) 0 = kn κ τ σ (SE (mt F k 3 (nI (p + q)) x (-1) r) k (fun j => bw (if F 9 a = 0 then (nu a).toInt32 else ee F a (j - q))) q (p + q)) (vp_updL nu k 0) k := by
    intro G z r
    have := eloop2 (k := k) (n := p + q) (lo := q) (F0 := mt F k 3 (nI (p + q)) x (-1) r) (h := fun j => bw (if F 9 a = 0 then (nu a).toInt32 else ee F a (j - q))) (T := fun fuel F' i => Q_lookJoined_180 κ τ σ F nu (nI k) (nI a) (nI b) (nI p) (nI q) x G z fuel F' (nI (i - q))) (fin := fun F' => kn κ τ σ F' (vp_updL nu k 0) k) h64 (fun fuel F' i hl hi hF => by
        have hA := agr_mt (j := i - q) hF hak
        show (if nI p ≤ nI (i - q) then _ else if F' 9 (nI a).toNatClampNeg = 0 then _ else _) = _
        rw [if_neg (by rw [j_le (by omega) (by omega)]; omega), eA, hA.1 9 (by decide), epq, hft]
        unfold Q_lookJoined_220
        have e5 : nI q + nI (i - q) = nI i := by rw [nI_add]; congr 1; omega
        have e6 : nI (i - q) + 1 = nI (i + 1 - q) := by rw [← nI_succ]; congr 1; omega
        rw [epq, hft, e5, e6]
        dsimp only
        rw [na, el_n (by omega) (by omega), hA.2 (by omega), se_w (by omega) (by omega), se_w (by omega) (by omega)]
        by_cases h0 : F 9 a = 0
        · rw [if_pos h0, if_pos h0]
        · rw [if_neg h0, if_neg h0]) (fun fuel F' hF => by
        show (if nI p ≤ nI (p + q - q) then _ else _) = _
        rw [if_pos (by rw [j_le (by omega) (by omega)]; omega), epq, hft]
        rfl) p q ((2147483647 - (0 : Int32).toInt).toNat + 1) (mt F k 3 (nI (p + q)) x (-1) r) (by omega) (Nat.le_refl _) (by omega) agr.rf
    rw [Nat.sub_self] at this
    exact this
  unfold Q_lookJoined_125
  rw [epq, hft]
  have h1 := eloop (k := k) (n := q) (F0 := mt F k 3 (nI (p + q)) x (-1) (fun _ => 0)) (h := fun j => bw (if F 9 b = 0 then (nu b).toInt32 else ee F b j)) (T := fun fuel F' i => Q_lookJoined_131 κ τ σ F nu (nI k) (nI a) (nI b) (nI p) (nI q) x fuel F' (nI i)) (fin := fun F' => Q_lookJoined_180 κ τ σ F nu (nI k) (nI a) (nI b) (nI p) (nI q) x F' (nI q) ((2147483647 - (0 : Int32).toInt).toNat + 1) F' 0) (by omega) (fun fuel F' i hi hF => by
        have hB := agr_mt (j := i) hF hbk
        show (if nI q ≤ nI i then _ else if F' 9 (nI b).toNatClampNeg = 0 then _ else _) = _
        rw [if_neg (by rw [j_le (by omega) (by omega)]; omega), eB, hB.1 9 (by decide), epq, hft]
        unfold Q_lookJoined_168
        rw [epq, hft, ← nI_succ]
        dsimp only
        rw [nb, el_n (by omega) (by omega), hB.2 (by omega), se_w (by omega) (by omega), se_w (by omega) (by omega)]
        by_cases h0 : F 9 b = 0
        · rw [if_pos h0, if_pos h0]
        · rw [if_neg h0, if_neg h0]) (fun fuel F' hF => by
        show (if nI q ≤ nI q then _ else _) = _
        rw [if_pos (by rw [j_le (by omega) (by omega)]; exact Nat.le_refl _)]) q 0 ((2147483647 - (0 : Int32).toInt).toNat + 1) (mt F k 3 (nI (p + q)) x (-1) (fun _ => 0)) (by omega) (by omega) agr.rf
  refine Eq.trans h1 ?_
  rw [mt_se (by omega), h2, mt_se h64]
theorem k_joined {κ κr : Nat → Nat} {φ0 : gF} {ψ : gG} {τ : gf} {σ : Nat → Int32} {F : gf} {nu : gg} {k a b : Nat} (hC : CK κ) (hk : k < κ 0) (ha : CH κ φ0 ψ F nu k a) (hb : CH κ φ0 ψ F nu k b) :
    LK2 (κ 10) φ0 ψ F nu k (P_Operators_binary κ (ct φ0 k (-1) 0 (-1) 0 0) ψ (nI k) (nI 14) (nI a) (nI b)) (Q_lookJoined κr τ σ F nu (nI k) (nI a) (nI b)) := by
  have hC' := hC
  obtain ⟨c0, c1, c2, c3, c4, c5, c6, c7, c8⟩ := hC'
  have hak := ha.1
  have hbk := hb.1
  have eA : (nI a).toNatClampNeg = a := nI_clamp (by omega)
  have eB : (nI b).toNatClampNeg = b := nI_clamp (by omega)
  have L7 : k < κ 7 := by omega
  have hbx := bx01 (F 11 a) (F 11 b)
  have hft : ∀ (c m : Int32) (φ' : gF), FrC (κ 10) k φ0 ψ φ' ψ → ¬ c = 0 → 0 < m → LK2 (κ 10) φ0 ψ F nu k (c, φ', ψ) (m, σ, F, nu) := fun c m φ' h1 h2 h3 => nf_f h1 frM.rf h2 h3
  rw [cb_form hC hk ha hb]
  have hcl3 : LK2 (κ 10) φ0 ψ F nu k (cbin κ φ0 ψ k a b (nI 14) (-1) 0 (bx (F 11 a) (F 11 b)) (F 9 a) (F 9 b) (F 10 a) (F 10 b)) (3, σ, F, nu) := by
    unfold cbin; rw [if_pos rfl]; exact hft _ _ _ ct_fr (by decide) (by decide)
  -- widths
  have hw : ∀ c, CH κ φ0 ψ F nu k c → (F 9 c = 0 ∨ F 9 c = 3) → ∃ p, 1 ≤ p ∧ p ≤ 64 ∧ (if F 9 c = 3 then F 10 c else 1) = nI p ∧ (if F 9 c = 0 then 1 else F 10 c) = nI p ∧ (F 11 c = 1 → ∀ i, i < p → (if F 9 c = 3 then rr (κ 10) (ψ 10) c i else φ0 9 3 c) = (if F 9 c = 0 then (nu c).toInt32 else ee F c i) ∧ ∃ m, m < 9 ∧ (if F 9 c = 0 then (nu c).toInt32 else ee F c i) = nI m) := by
    intro c hc h
    rcases h with h | h
    · refine ⟨1, by decide, by decide, by rw [if_neg (by rw [h]; decide)]; rfl, by rw [if_pos h]; rfl, fun hx i _ => ?_⟩
      obtain ⟨l1, l2⟩ := ch_l hc hx h
      rw [if_neg (by rw [h]; decide), if_pos h, ← l1, w_back]
      exact ⟨rfl, l2⟩
    · obtain ⟨E, hE1, hE2, hE⟩ := ch_E hc h
      refine ⟨E, hE1, hE2, by rw [if_pos h]; exact hE, by rw [if_neg (by rw [h]; decide)]; exact hE, fun hx i hi => ?_⟩
      rw [if_pos h, if_neg (by rw [h]; decide)]
      exact ch_r hc hx h hE hE2 hi
  have main : (F 9 a = 0 ∨ F 9 a = 3) → (F 9 b = 0 ∨ F 9 b = 3) → LK2 (κ 10) φ0 ψ F nu k (cbin κ φ0 ψ k a b (nI 14) 3 ((if F 9 a = 3 then F 10 a else 1) + (if F 9 b = 3 then F 10 b else 1)) (bx (F 11 a) (F 11 b)) (F 9 a) (F 9 b) (F 10 a) (F 10 b)) (Q_lookJoined_80 κr τ σ F nu (nI k) (nI a) (nI b) (if F 9 a = 0 then 1 else F 10 a) (if F 9 b = 0 then 1 else F 10 b)) := by
    intro hA hB
    obtain ⟨p, p1, p2, p3, p4, p5⟩ := hw a ha hA
    obtain ⟨q, q1, q2, q3, q4, q5⟩ := hw b hb hB
    rw [p3, p4, q3, q4]
    have epq : nI p + nI q = nI (p + q) := nI_add p q
    unfold Q_lookJoined_80 Q_lookJoined_124 cbin
    rw [epq, if_neg (by decide)]
    by_cases h64 : p + q ≤ 64
    · rw [if_neg (by rw [show (64 : Int32) = nI 64 from rfl, j_lt (by omega) (by omega)]; omega), if_neg (fun h9 => h9.2.2.1 rfl), if_pos (by rw [show (64 : Int32) = nI 64 from rfl, j_le (by omega) (by omega)]; exact h64), eA, eB]
      have hQ : (if F 11 a = 0 then Q_lookJoined_125 κr τ σ F nu (nI k) (nI a) (nI b) (nI p) (nI q) 0 else if F 11 b = 0 then Q_lookJoined_125 κr τ σ F nu (nI k) (nI a) (nI b) (nI p) (nI q) 0 else Q_lookJoined_125 κr τ σ F nu (nI k) (nI a) (nI b) (nI p) (nI q) 1) = Q_lookJoined_125 κr τ σ F nu (nI k) (nI a) (nI b) (nI p) (nI q) (bx (F 11 a) (F 11 b)) := by
        unfold bx
        by_cases x1 : F 11 a = 0
        · simp only [x1, reduceIte]
        · by_cases x2 : F 11 b = 0 <;> simp only [x1, x2, reduceIte]
      rw [hQ, mj_125 (by omega) hak hbk h64 hbx]
      unfold P_Operators_binary_150 P_Operators_join
      simp (decide := true) only [ct_n4 L7 c2 hbx, reduceIte]
      rcases id hbx with hx | hx
      · rw [if_pos hx]
        exact nf_k0 (by omega) (lsv_3 (E := p + q) (by omega) h64 rfl hbx (fun h9 => absurd (hx.symm.trans h9) (by decide)))
      · rw [if_neg (by rw [hx]; decide)]
        obtain ⟨x1, x2⟩ := bx1 (ch_x ha) (ch_x hb) hx
        have hwb : P_Operators_widthOf κ (ct φ0 k 3 (nI (p + q)) (-1) 0 (bx (F 11 a) (F 11 b))) ψ (nI b) = nI q := by
          unfold P_Operators_widthOf; rw [ch_0 hC hk hb, ch_1 hC hk hb]; exact q3
        have e16 : ∀ c p', CH κ φ0 ψ F nu k c → F 11 c = 1 → (F 9 c = 0 ∨ F 9 c = 3) → p' = 0 → ∀ i, ∃ m, m < 16 ∧ (if F 9 c = 3 then rr (κ 10) (ψ 10) c i else φ0 9 3 c) = nI m ∨ 64 ≤ i := by
          intro c p' hc hx' hc0 _ i
          have hck := hc.1
          by_cases hi : i < 64
          · rcases hc0 with h | h
            · obtain ⟨m, hm, em⟩ := (ch_l hc hx' h).2
              exact ⟨m, Or.inl ⟨by omega, by rw [if_neg (by rw [h]; decide)]; exact em⟩⟩
            · obtain ⟨m, hm, em⟩ := rr_lt (M := κ 10) (s := c) (k := i) (g := ψ 10) c4 (by omega) hi
              exact ⟨m, Or.inl ⟨hm, by rw [if_pos h]; exact em⟩⟩
          · exact ⟨0, Or.inr (by omega)⟩
        obtain ⟨g', e1, e2, e3⟩ := cj_10 (p := p) (q := q) (x := bx (F 11 a) (F 11 b)) hC hk ha hb h64 (e16 a 0 ha x1 hA rfl) (e16 b 0 hb x2 hB rfl)
        rw [hwb, e1]
        refine nf_k (by omega) e2 (lsv_3 (E := p + q) (by omega) h64 rfl hbx (fun _ j hj => ?_))
        rw [e3 j hj]
        by_cases hq : q ≤ j
        · obtain ⟨w1, w2⟩ := p5 x1 (j - q) (by omega)
          rw [if_pos hq, if_pos (show q ≤ j ∧ j < p + q from ⟨hq, hj⟩), bw_n (m9 w2)]
          exact ⟨w1, w2⟩
        · obtain ⟨w1, w2⟩ := q5 x2 j (by omega)
          rw [if_neg hq, if_neg (show ¬ (q ≤ j ∧ j < p + q) from fun h9 => hq h9.1), if_pos (show 0 ≤ j ∧ j < q from ⟨Nat.zero_le _, by omega⟩), bw_n (m9 w2)]
          exact ⟨w1, w2⟩
    · rw [if_pos (by rw [show (64 : Int32) = nI 64 from rfl, j_lt (by omega) (by omega)]; omega), if_neg (by rw [show (64 : Int32) = nI 64 from rfl, j_le (by omega) (by omega)]; omega)]
      exact hft _ _ _ ct_fr (by decide) (by decide)
  unfold Q_lookJoined Q_lookJoined_19 Q_lookJoined_40 Q_lookJoined_59 P_Operators_resultClass P_Operators_resultClass_125 P_Operators_resultClass_126 P_Operators_resultClass_202 P_Operators_resultClass_213 P_Operators_resultLength P_Operators_widthOf
  simp (decide := true) only [ch_0 hC hk ha, ch_0 hC hk hb, ch_1 hC hk ha, ch_1 hC hk hb, eA, eB, reduceIte]
  by_cases a0 : F 9 a = 0
  · by_cases b0 : F 9 b = 0
    · have := main (Or.inl a0) (Or.inl b0)
      simp (decide := true) only [a0, b0, reduceIte] at this ⊢
      exact this
    · by_cases b3 : F 9 b = 3
      · have := main (Or.inl a0) (Or.inr b3)
        simp (decide := true) only [a0, b3, reduceIte] at this ⊢
        exact this
      · simp (decide := true) only [a0, b0, b3, reduceIte] at hcl3 ⊢
        exact hcl3
  · by_cases a3 : F 9 a = 3
    · by_cases b0 : F 9 b = 0
      · have := main (Or.inr a3) (Or.inl b0)
        simp (decide := true) only [a3, b0, reduceIte] at this ⊢
        exact this
      · by_cases b3 : F 9 b = 3
        · have := main (Or.inr a3) (Or.inr b3)
          simp (decide := true) only [a3, b3, reduceIte] at this ⊢
          exact this
        · simp (decide := true) only [a3, b0, b3, reduceIte] at hcl3 ⊢
          exact hcl3
    · simp (decide := true) only [a0, a3, reduceIte, ite_self]
      exact hcl3
-- BINARY 19, 20
def sv (r : Nat → Int32) (E : Nat) (w : Int64) (j : Nat) : Int32 := if lg_cmp ((nI j).toInt64 - w) 0 < 0 then 2 else if 0 ≤ lg_cmp ((nI j).toInt64 - w) ((nI E).toInt64) then 2 else r ((nI j).toInt64 - w).toInt32.toNatClampNeg
theorem sv_ix {E j : Nat} {w : Int64} (hE : E ≤ 64) (h1 : ¬ lg_cmp ((nI j).toInt64 - w) 0 < 0) (h2 : ¬ 0 ≤ lg_cmp ((nI j).toInt64 - w) ((nI E).toInt64)) : ∃ q, q < E ∧ ((nI j).toInt64 - w).toInt32 = nI q := by
  rw [lg_lt] at h1
  rw [lg_ge, w_i, nI_toInt (by omega)] at h2
  have z0 : (0 : Int64).toInt = 0 := rfl
  have e := n32 (t := (nI j).toInt64 - w) (by omega)
  refine ⟨((nI j).toInt64 - w).toInt.toNat, by omega, ?_⟩
  apply Int32.toInt_inj.mp
  rw [e, nI_toInt (by omega)]
  omega
theorem sv_16 {M a E j : Nat} {g : gg} {w : Int64} (hM : M ≤ 8192) (ha : a < M) (hE : E ≤ 64) : ∃ m, m < 16 ∧ sv (rr M g a) E w j = nI m := by
  unfold sv
  by_cases h1 : lg_cmp ((nI j).toInt64 - w) 0 < 0
  · rw [if_pos h1]; exact ⟨2, by decide, rfl⟩
  · rw [if_neg h1]
    by_cases h2 : 0 ≤ lg_cmp ((nI j).toInt64 - w) ((nI E).toInt64)
    · rw [if_pos h2]; exact ⟨2, by decide, rfl⟩
    · rw [if_neg h2]
      obtain ⟨q, hq, e⟩ := sv_ix hE h1 h2
      rw [e, nI_clamp (by omega)]
      exact rr_lt hM ha (by omega)
theorem csh_13 {κ : Nat → Nat} {φ : gF} {ψ : gG} {k a E : Nat} {sh : Int32} (hC : CK κ) (hk : k < κ 0) (ha : a < k) (hE : E ≤ 64) :
    ∃ g', P_Operators_shift_13 κ ((2147483647 - (0 : Int32).toInt).toNat + 1) φ ψ (nI k) (nI a) sh (nI E) 0 = (φ, up ψ 10 g') ∧ ragr (κ 10) k (ψ 10) g' ∧ ∀ j, j < E → rr (κ 10) g' k j = sv (rr (κ 10) (ψ 10) a) E sh.toInt64 j := by
  obtain ⟨c0, c1, c2, c3, c4, c5, c6, c7, c8⟩ := hC
  obtain ⟨g', e1, e2, e3, e4⟩ := rowloop (M := κ 10) (s := k) (n := E) (g0 := ψ 10) (h := sv (rr (κ 10) (ψ 10) a) E sh.toInt64) (T := fun fuel g i => P_Operators_shift_13 κ fuel φ (up ψ 10 g) (nI k) (nI a) sh (nI E) (nI i)) (fin := fun g => (φ, up ψ 10 g)) c4 (by omega) hE (fun j _ => sv_16 c4 (by omega) hE)
    (fun fuel g i hi hg => by
      show (if nI E ≤ nI i then _ else _) = _
      rw [if_neg (by rw [j_le (by omega) (by omega)]; omega)]
      unfold P_Operators_shift_71 P_Operators_shift_72 sv
      by_cases h1 : lg_cmp ((nI i).toInt64 - sh.toInt64) 0 < 0
      · rw [if_pos h1, if_pos h1, up_up, up_s, ← nI_succ]
      · rw [if_neg h1, if_neg h1]
        by_cases h2 : 0 ≤ lg_cmp ((nI i).toInt64 - sh.toInt64) ((nI E).toInt64)
        · rw [if_pos h2, if_pos h2, up_up, up_s, ← nI_succ]
        · rw [if_neg h2, if_neg h2, up_up, up_s, ← nI_succ]
          obtain ⟨q, hq, e⟩ := sv_ix hE h1 h2
          rw [e, nI_clamp (by omega)]
          have h3 := hg a q (by omega) (by omega) (by omega)
          unfold rr at h3 ⊢
          rw [h3])
    (fun fuel g hg => by
      show (if nI E ≤ nI E then _ else _) = _
      rw [if_pos (by rw [j_le (by omega) (by omega)]; exact Nat.le_refl _)]) E 0 ((2147483647 - (0 : Int32).toInt).toNat + 1) (ψ 10) (by omega) (Nat.lt_trans (by omega) fuel0) ragr.rf
  refine ⟨g', ?_, e2, fun j hj => e3 j (Nat.zero_le _) hj⟩
  rw [up_id ψ 10] at e1
  exact e1
theorem msh_81 {κ : Nat → Nat} {τ : gf} {σ : Nat → Int32} {F : gf} {nu : gg} {k a b E : Nat} {l x : Int32} {w : Int64} (hk : k < 4000) (ha : a < k) (hE : E ≤ 64) (h10 : F 10 a = nI E) (hx : x = 0 ∨ x = 1) :
    Q_lookShift_81 κ τ σ F nu (nI k) l (nI a) (nI b) x w = kn κ τ σ (mt F k 3 (nI E) x (-1) (fun j => if 0 ≤ j ∧ j < E then bw (sv (ee F a) E w j) else 0)) (vp_updL nu k 0) k := by
  have eA : (nI a).toNatClampNeg = a := nI_clamp (by omega)
  have hak : ¬ a = k := by omega
  have hft := fact_t (κ := κ) (τ := τ) (σ := σ) (F := F) (nu := nu) (k := k) (c := 3) (e := nI E) (x := x) (by omega) hx
  have hf0 := fuel0
  unfold Q_lookShift_81
  rw [eA, h10, hft, ← mt_se hE]
  have h1 := eloop (k := k) (n := E) (F0 := mt F k 3 (nI E) x (-1) (fun _ => 0)) (h := fun j => bw (sv (ee F a) E w j)) (T := fun fuel F' i => Q_lookShift_86 κ τ σ F nu (nI k) l (nI a) (nI b) x w fuel F' (nI i)) (fin := fun F' => kn κ τ σ F' (vp_updL nu k 0) k) hE (fun fuel F' i hi hF => by
      have hA := agr_mt (j := i) hF hak
      have hA2 : ∀ q, q < 64 → ee F' a q = ee F a q := fun q hq => (agr_mt (j := q) hF hak).2 hq
      show (if F' 10 (nI a).toNatClampNeg ≤ nI i then _ else _) = _
      rw [eA, hA.1 10 (by decide), h10, if_neg (by rw [j_le (by omega) (by omega)]; omega)]
      unfold Q_lookShift_140 Q_lookShift_141 sv
      rw [eA, h10, hft]
      dsimp only
      by_cases q1 : lg_cmp ((nI i).toInt64 - w) 0 < 0
      · rw [if_pos q1, if_pos q1, se_w (by omega) (by omega), ← nI_succ]
      · rw [if_neg q1, if_neg q1]
        by_cases q2 : 0 ≤ lg_cmp ((nI i).toInt64 - w) ((nI E).toInt64)
        · rw [if_pos q2, if_pos q2, se_w (by omega) (by omega), ← nI_succ]
        · rw [if_neg q2, if_neg q2]
          obtain ⟨q, hq, e⟩ := sv_ix hE q1 q2
          rw [e, nI_clamp (by omega), el_n (by omega) (by omega), hA2 q (by omega), se_w (by omega) (by omega), ← nI_succ]) (fun fuel F' hF => by
      have hA := agr_mt (j := 0) hF hak
      show (if F' 10 (nI a).toNatClampNeg ≤ nI E then _ else _) = _
      rw [eA, hA.1 10 (by decide), h10, if_pos (by rw [j_le (by omega) (by omega)]; exact Nat.le_refl _), hft]
      rfl) E 0 ((2147483647 - (0 : Int32).toInt).toNat + 1) (mt F k 3 (nI E) x (-1) (fun _ => 0)) (by omega) (by omega) agr.rf
  exact h1
theorem k_shift {κ κr : Nat → Nat} {φ0 : gF} {ψ : gG} {τ : gf} {σ : Nat → Int32} {F : gf} {nu : gg} {k a b o : Nat} {l : Int32} (hC : CK κ) (hk : k < κ 0) (ha : CH κ φ0 ψ F nu k a) (hb : CH κ φ0 ψ F nu k b) (ho : (o = 19 ∧ l = 1) ∨ (o = 20 ∧ l = 0)) :
    LK2 (κ 10) φ0 ψ F nu k (P_Operators_binary κ (ct φ0 k (-1) 0 (-1) 0 0) ψ (nI k) (nI o) (nI a) (nI b)) (Q_lookShift κr τ σ F nu (nI k) l (nI a) (nI b)) := by
  have hC' := hC
  obtain ⟨c0, c1, c2, c3, c4, c5, c6, c7, c8⟩ := hC'
  have hak := ha.1
  have hbk := hb.1
  have eA : (nI a).toNatClampNeg = a := nI_clamp (by omega)
  have eB : (nI b).toNatClampNeg = b := nI_clamp (by omega)
  have nb : vp_updL nu k 0 b = nu b := by rw [upl_a, if_neg (by omega)]
  have L7 : k < κ 7 := by omega
  have hbx := bx01 (F 11 a) (F 11 b)
  have hft : ∀ (c m : Int32) (φ' : gF), FrC (κ 10) k φ0 ψ φ' ψ → ¬ c = 0 → 0 < m → LK2 (κ 10) φ0 ψ F nu k (c, φ', ψ) (m, σ, F, nu) := fun c m φ' h1 h2 h3 => nf_f h1 frM.rf h2 h3
  rw [cb_form hC hk ha hb]
  have oo : (5 : Int32) < nI o ∧ (7 : Int32) < nI o ∧ (11 : Int32) < nI o ∧ (13 : Int32) < nI o ∧ ¬ nI o = 14 ∧ (18 : Int32) < nI o := by rcases ho with ⟨rfl, _⟩ | ⟨rfl, _⟩ <;> decide
  obtain ⟨o5, o7, o11, o13, o14, o18⟩ := oo
  have hcl3 : LK2 (κ 10) φ0 ψ F nu k (cbin κ φ0 ψ k a b (nI o) (-1) 0 (bx (F 11 a) (F 11 b)) (F 9 a) (F 9 b) (F 10 a) (F 10 b)) (3, σ, F, nu) := by
    unfold cbin; rw [if_pos rfl]; exact hft _ _ _ ct_fr (by decide) (by decide)
  have hQ : Q_lookShift κr τ σ F nu (nI k) l (nI a) (nI b) = if F 9 a = 3 then (if F 9 b = 2 then Q_lookShift_56 κr τ σ F nu (nI k) l (nI a) (nI b) (bx (F 11 a) (F 11 b)) else (3, σ, F, nu)) else (3, σ, F, nu) := by
    unfold Q_lookShift Q_lookShift_55 bx
    rw [eA, eB]
    by_cases x1 : F 11 a = 0
    · simp only [x1, reduceIte]
    · by_cases x2 : F 11 b = 0 <;> simp only [x1, x2, reduceIte]
  rw [hQ]
  unfold P_Operators_resultClass P_Operators_resultClass_125 P_Operators_resultClass_126 P_Operators_resultLength
  simp (decide := true) only [ch_0 hC hk ha, ch_0 hC hk hb, ch_1 hC hk ha, ch_1 hC hk hb, o5, o7, o11, o13, o14, o18, reduceIte]
  by_cases a3 : F 9 a = 3
  · obtain ⟨E, hE1, hE2, hE⟩ := ch_E ha a3
    by_cases b2 : F 9 b = 2
    · simp (decide := true) only [a3, b2, reduceIte]
      rw [hE]
      have hq56 : Q_lookShift_56 κr τ σ F nu (nI k) l (nI a) (nI b) (bx (F 11 a) (F 11 b)) = kn κr τ σ (mt F k 3 (nI E) (bx (F 11 a) (F 11 b)) (-1) (fun j => if 0 ≤ j ∧ j < E then bw (sv (ee F a) E (if l = 0 then -(nu b) else nu b) j) else 0)) (vp_updL nu k 0) k := by
        unfold Q_lookShift_56
        rw [eA, eB, hE, fact_t (by omega) hbx]
        dsimp only
        rw [nb, msh_81 (by omega) hak hE2 hE hbx, msh_81 (by omega) hak hE2 hE hbx]
        by_cases hl : l = 0 <;> simp only [hl, reduceIte]
      rw [hq56]
      unfold cbin P_Operators_binary_150 P_Operators_binary_354 P_Operators_shift
      rw [if_neg (by decide), if_neg (by rw [show (64 : Int32) = nI 64 from rfl, j_lt (by omega) (by omega)]; omega), if_neg (fun h9 => absurd h9.2.1 (by decide))]
      simp (decide := true) only [ct_n4 L7 c2 hbx, o5, o7, o11, o13, o14, ch_3 hC hk hb, ch_1 hC hk ha, hE, reduceIte]
      rcases id hbx with hx | hx
      · rw [if_pos hx]
        exact nf_k0 (by omega) (lsv_3 hE1 hE2 rfl hbx (fun h9 => absurd (hx.symm.trans h9) (by decide)))
      · rw [if_neg (by rw [hx]; decide)]
        obtain ⟨x1, x2⟩ := bx1 (ch_x ha) (ch_x hb) hx
        obtain ⟨n1, n2⟩ := ch_n hb x2 b2
        have b3 := i32_b (φ0 9 3 b)
        have hend : ∀ (sh : Int32) (w : Int64), sh.toInt64 = w → LK2 (κ 10) φ0 ψ F nu k (0, (P_Operators_shift_13 κ ((2147483647 - (0 : Int32).toInt).toNat + 1) (ct φ0 k 3 (nI E) (-1) 0 (bx (F 11 a) (F 11 b))) ψ (nI k) (nI a) sh (nI E) 0).1, (P_Operators_shift_13 κ ((2147483647 - (0 : Int32).toInt).toNat + 1) (ct φ0 k 3 (nI E) (-1) 0 (bx (F 11 a) (F 11 b))) ψ (nI k) (nI a) sh (nI E) 0).2) (kn κr τ σ (mt F k 3 (nI E) (bx (F 11 a) (F 11 b)) (-1) (fun j => if 0 ≤ j ∧ j < E then bw (sv (ee F a) E w j) else 0)) (vp_updL nu k 0) k) := by
          intro sh w hw
          obtain ⟨g', e1, e2, e3⟩ := csh_13 (κ := κ) (φ := ct φ0 k 3 (nI E) (-1) 0 (bx (F 11 a) (F 11 b))) (ψ := ψ) (k := k) (a := a) (E := E) (sh := sh) hC hk hak hE2
          rw [e1]
          refine nf_k (by omega) e2 (lsv_3 hE1 hE2 rfl hbx (fun _ j hj => ?_))
          rw [if_pos (show 0 ≤ j ∧ j < E from ⟨Nat.zero_le _, hj⟩), e3 j hj, hw]
          have hs : sv (rr (κ 10) (ψ 10) a) E w j = sv (ee F a) E w j ∧ ∃ m, m < 9 ∧ sv (ee F a) E w j = nI m := by
            unfold sv
            by_cases q1 : lg_cmp ((nI j).toInt64 - w) 0 < 0
            · rw [if_pos q1, if_pos q1]; exact ⟨rfl, 2, by decide, rfl⟩
            · rw [if_neg q1, if_neg q1]
              by_cases q2 : 0 ≤ lg_cmp ((nI j).toInt64 - w) ((nI E).toInt64)
              · rw [if_pos q2, if_pos q2]; exact ⟨rfl, 2, by decide, rfl⟩
              · rw [if_neg q2, if_neg q2]
                obtain ⟨q, hq, e⟩ := sv_ix hE2 q1 q2
                rw [e, nI_clamp (by omega)]
                exact ch_r ha x1 a3 hE hE2 hq
          rw [bw_n (m9 hs.2)]
          exact hs
        rcases ho with ⟨rfl, rfl⟩ | ⟨rfl, rfl⟩
        · simp (decide := true) only [reduceIte]
          exact hend _ _ (w_eq.mpr n1)
        · simp (decide := true) only [reduceIte]
          refine hend _ _ (w_eq.mpr ?_)
          rw [n_neg n2, l_neg (by omega), n1]
    · simp (decide := true) only [a3, b2, reduceIte] at hcl3 ⊢
      exact hcl3
  · simp (decide := true) only [a3, reduceIte, ite_self]
    exact hcl3
-- NAMES: the class's chains, the reference's row
def bk (x : Int32) : Nat := (x &&& 255).toNatClampNeg
def lB (f0 : Nat → Int32) (c : Nat) : Nat → Int32
  | 0 => -1
  | n + 1 => if bk (f0 n) = c then nI n else lB f0 c n
def lNm (f0 : Nat → Int32) (x : Int32) : Nat → Int32
  | 0 => -1
  | n + 1 => if f0 n = x then nI n else lNm f0 x n
def CHN (f : gf) (N : Nat) : Prop := (∀ c, c < 256 → f 5 c = lB (f 0) c N) ∧ ∀ e, e < N → f 4 e = lB (f 0) (bk (f 0 e)) e
theorem bk_lt (x : Int32) : bk x < 256 := by
  have h : vp_in (x &&& 255) 256 := pk_andIn x 8 (by decide) (by decide)
  exact Nat.not_le.mp (fun q => h (Or.inr q))
theorem lB_c (f0 : Nat → Int32) (c m : Nat) : (lB f0 c m = -1 ∧ ∀ e, e < m → ¬ bk (f0 e) = c) ∨ ∃ e, e < m ∧ lB f0 c m = nI e ∧ bk (f0 e) = c ∧ ∀ e', e < e' → e' < m → ¬ bk (f0 e') = c := by
  induction m with
  | zero => exact Or.inl ⟨rfl, fun e h => absurd h (Nat.not_lt_zero e)⟩
  | succ m ih =>
    unfold lB
    by_cases h : bk (f0 m) = c
    · rw [if_pos h]; exact Or.inr ⟨m, by omega, rfl, h, fun e' h1 h2 => by omega⟩
    · rw [if_neg h]
      rcases ih with ⟨h1, h2⟩ | ⟨e, h1, h2, h3, h4⟩
      · exact Or.inl ⟨h1, fun e he => by
          by_cases h9 : e = m
          · rw [h9]; exact h
          · exact h2 e (by omega)⟩
      · exact Or.inr ⟨e, by omega, h2, h3, fun e' h5 h6 => by
          by_cases h9 : e' = m
          · rw [h9]; exact h
          · exact h4 e' h5 (by omega)⟩
theorem lNm_no {f0 : Nat → Int32} {x : Int32} {m : Nat} (h : ∀ e, e < m → ¬ f0 e = x) : lNm f0 x m = -1 := by
  induction m with
  | zero => rfl
  | succ m ih =>
    unfold lNm
    rw [if_neg (h m (by omega))]
    exact ih (fun e he => h e (by omega))
theorem lNm_last {f0 : Nat → Int32} {x : Int32} {m e : Nat} (he : e < m) (h : ∀ e', e < e' → e' < m → ¬ f0 e' = x) : lNm f0 x m = if f0 e = x then nI e else lNm f0 x e := by
  induction m with
  | zero => omega
  | succ m ih =>
    by_cases h9 : e = m
    · subst h9; rfl
    · have e1 : lNm f0 x (m + 1) = lNm f0 x m := if_neg (h m (by omega) (by omega))
      rw [e1]
      exact ih (by omega) (fun e' h1 h2 => h e' h1 (by omega))
theorem lNm_c (f0 : Nat → Int32) (x : Int32) (m : Nat) : (lNm f0 x m = -1 ∧ ∀ e, e < m → ¬ f0 e = x) ∨ ∃ e, e < m ∧ lNm f0 x m = nI e ∧ f0 e = x ∧ ∀ e', e < e' → e' < m → ¬ f0 e' = x := by
  induction m with
  | zero => exact Or.inl ⟨rfl, fun e h => absurd h (Nat.not_lt_zero e)⟩
  | succ m ih =>
    unfold lNm
    by_cases h : f0 m = x
    · rw [if_pos h]; exact Or.inr ⟨m, by omega, rfl, h, fun e' h1 h2 => by omega⟩
    · rw [if_neg h]
      rcases ih with ⟨h1, h2⟩ | ⟨e, h1, h2, h3, h4⟩
      · exact Or.inl ⟨h1, fun e he => by
          by_cases h9 : e = m
          · rw [h9]; exact h
          · exact h2 e (by omega)⟩
      · exact Or.inr ⟨e, by omega, h2, h3, fun e' h5 h6 => by
          by_cases h9 : e' = m
          · rw [h9]; exact h
          · exact h4 e' h5 (by omega)⟩
theorem pn_has {N sc L k : Nat} {f : gf} (h : k < N) (hL : N ≤ 8192) : P_Names_has N sc L f (nI k) = 1 := by
  unfold P_Names_has
  rw [if_neg (nI_pos (by omega)), if_neg (by rw [j_le (by omega) (by omega)]; omega)]
theorem pn_hasn {N sc L : Nat} {f : gf} : P_Names_has N sc L f (-1) = 0 := by
  unfold P_Names_has
  rw [if_pos (by decide)]
theorem pn_13 {N sc L : Nat} {f : gf} {x : Int32} (hN : N ≤ 8192) (hC : CHN f N) : ∀ m i fuel, m ≤ N → i + m ≤ N → m < fuel → P_Names_find_13 N sc L f fuel x (lB (f 0) (bk x) m) (nI i) = lNm (f 0) x m := by
  intro m
  induction m using Nat.strongRecOn with
  | ind m ih =>
    intro i fuel hm hi hf
    obtain ⟨q, rfl⟩ : ∃ q, fuel = q + 1 := ⟨fuel - 1, by omega⟩
    unfold P_Names_find_13
    rcases lB_c (f 0) (bk x) m with ⟨h1, h2⟩ | ⟨e, h1, h2, h3, h4⟩
    · rw [h1, pn_hasn, if_pos rfl, lNm_no (fun e he h9 => h2 e he (by rw [h9]))]
      split <;> rfl
    · rw [h2, if_neg (by rw [j_le (by omega) (by omega)]; omega), pn_has (by omega) hN, if_neg (by decide), nI_clamp (by omega), lNm_last h1 (fun e' h5 h6 h9 => h4 e' h5 h6 (by rw [h9]))]
      by_cases hx : f 0 e = x
      · rw [if_pos hx, if_pos hx]
      · rw [if_neg hx, if_neg hx, hC.2 e (by omega), h3, ← nI_succ]
        exact ih e h1 (i + 1) q (by omega) (by omega) (by omega)
theorem pn_find {N sc L : Nat} {f : gf} {x : Int32} (hN : N ≤ 8192) (hC : CHN f N) : P_Names_find N sc L f x = lNm (f 0) x N := by
  unfold P_Names_find
  have h1 : f 5 (x &&& 255).toNatClampNeg = lB (f 0) (bk x) N := hC.1 _ (bk_lt x)
  have hf0 := fuel0
  rw [h1, show (0 : Int32) = nI 0 from rfl, show (nI 0).toInt = (0 : Int32).toInt from rfl]
  exact pn_13 hN hC N 0 _ (Nat.le_refl _) (by omega) (by omega)
theorem pn_1 {N sc L k : Nat} {f : gf} (h : k < N) (hL : N ≤ 8192) : P_Names_sortOf N sc L f (nI k) = f 1 k ∧ P_Names_numberOf N sc L f (nI k) = f 2 k ∧ P_Names_partOf N sc L f (nI k) = f 3 k := by
  unfold P_Names_sortOf P_Names_numberOf P_Names_partOf
  rw [pn_has h hL, nI_clamp (by omega)]
  exact ⟨rfl, rfl, rfl⟩
-- the reference
def d32 (x : Int32) : Int32 := if 5 ≤ x then (if x = 5 then 6 else if 8 ≤ x then (if 12 ≤ x then 5 else 4) else 3) else 0
def d33 (x : Int32) : Int32 := if x = 0 then 2 else if x = 1 then 3 else if x = 2 then 4 else if x = 3 then 1 else if x = 4 then 0 else x
def fnd (τ : gf) (x : Int32) : Nat → Int32 × Int32 × Int32
  | 0 => (d32 x, d33 x, 0)
  | n + 1 => if τ 25 n = x then (τ 26 n, τ 27 n, τ 28 n) else fnd τ x n
def sF (σ σ' : gs) (r : Int32 × Int32 × Int32) : Prop := σ' 32 = r.1 ∧ σ' 33 = r.2.1 ∧ σ' 34 = r.2.2 ∧ ∀ q, ¬ q = 32 → ¬ q = 33 → ¬ q = 34 → σ' q = σ q
theorem sF_up {σ σ1 : gs} {a b c : Int32} {r : Int32 × Int32 × Int32} (h : sF σ σ1 r) : sF σ (upd (upd (upd σ1 32 a) 33 b) 34 c) (a, b, c) := by
  refine ⟨by simp [upd], by simp [upd], by simp [upd], fun q h1 h2 h3 => ?_⟩
  simp only [upd, h1, h2, h3, if_false]
  exact h.2.2.2 q h1 h2 h3
theorem qf_100 {κ : Nat → Nat} {τ : gf} {σ : gs} {F : gf} {nu : gg} {x t1 t2 : Int32} (hN : κ 4 ≤ 3000) : ∀ d i fuel σ1, i + d = κ 4 → d < fuel → sF σ σ1 (fnd τ x i) → ∃ σ', Q_find_100 κ τ σ F nu x t1 t2 fuel σ1 (nI i) = (σ', F, nu) ∧ sF σ σ' (fnd τ x (κ 4)) := by
  intro d
  induction d with
  | zero =>
    intro i fuel σ1 hi hf hs
    obtain ⟨m, rfl⟩ : ∃ m, fuel = m + 1 := ⟨fuel - 1, by omega⟩
    unfold Q_find_100
    rw [if_pos (by rw [j_le (by omega) (by omega)]; omega)]
    obtain rfl : i = κ 4 := by omega
    exact ⟨σ1, rfl, hs⟩
  | succ d ih =>
    intro i fuel σ1 hi hf hs
    obtain ⟨m, rfl⟩ : ∃ m, fuel = m + 1 := ⟨fuel - 1, by omega⟩
    unfold Q_find_100 Q_find_148
    rw [if_neg (by rw [j_le (by omega) (by omega)]; omega), nI_clamp (by omega), ← nI_succ]
    by_cases h : τ 25 i = x
    · rw [if_pos h]
      refine ih (i + 1) m _ (by omega) (by omega) ?_
      have : fnd τ x (i + 1) = (τ 26 i, τ 27 i, τ 28 i) := if_pos h
      rw [this]
      exact sF_up hs
    · rw [if_neg h]
      refine ih (i + 1) m _ (by omega) (by omega) ?_
      have : fnd τ x (i + 1) = fnd τ x i := if_neg h
      rw [this]
      exact hs
theorem qf_find {κ : Nat → Nat} {τ : gf} {σ : gs} {F : gf} {nu : gg} {x : Int32} (hN : κ 4 ≤ 3000) : ∃ σ', Q_find κ τ σ F nu x = (σ', F, nu) ∧ sF σ σ' (fnd τ x (κ 4)) := by
  have hf0 := fuel0
  have h90 : ∀ t1 t2, t1 = d32 x → t2 = d33 x → ∃ σ', Q_find_90 κ τ σ F nu x t1 t2 = (σ', F, nu) ∧ sF σ σ' (fnd τ x (κ 4)) := by
    intro t1 t2 e1 e2
    unfold Q_find_90
    rw [show (0 : Int32) = nI 0 from rfl, show (nI 0).toInt = (0 : Int32).toInt from rfl]
    refine qf_100 hN (κ 4) 0 _ _ (by omega) (by omega) ?_
    show sF σ _ (d32 x, d33 x, 0)
    rw [e1, e2]
    exact sF_up (σ1 := σ) (r := (σ 32, σ 33, σ 34)) ⟨rfl, rfl, rfl, fun _ _ _ _ => rfl⟩
  have h41 : ∀ t1, t1 = d32 x → ∃ σ', Q_find_41 κ τ σ F nu x t1 = (σ', F, nu) ∧ sF σ σ' (fnd τ x (κ 4)) := by
    intro t1 e1
    unfold Q_find_41
    by_cases q0 : x = 0
    · rw [if_pos q0]; exact h90 _ _ e1 (by unfold d33; rw [if_pos q0])
    · by_cases q1 : x = 1
      · rw [if_neg q0, if_pos q1]; exact h90 _ _ e1 (by unfold d33; rw [if_neg q0, if_pos q1])
      · by_cases q2 : x = 2
        · rw [if_neg q0, if_neg q1, if_pos q2]; exact h90 _ _ e1 (by unfold d33; rw [if_neg q0, if_neg q1, if_pos q2])
        · by_cases q3 : x = 3
          · rw [if_neg q0, if_neg q1, if_neg q2, if_pos q3]; exact h90 _ _ e1 (by unfold d33; rw [if_neg q0, if_neg q1, if_neg q2, if_pos q3])
          · by_cases q4 : x = 4
            · rw [if_neg q0, if_neg q1, if_neg q2, if_neg q3, if_pos q4]; exact h90 _ _ e1 (by unfold d33; rw [if_neg q0, if_neg q1, if_neg q2, if_neg q3, if_pos q4])
            · rw [if_neg q0, if_neg q1, if_neg q2, if_neg q3, if_neg q4]; exact h90 _ _ e1 (by unfold d33; rw [if_neg q0, if_neg q1, if_neg q2, if_neg q3, if_neg q4])
  unfold Q_find
  by_cases q5 : 5 ≤ x
  · by_cases q6 : x = 5
    · rw [if_pos q5, if_pos q6]; exact h41 _ (by unfold d32; rw [if_pos q5, if_pos q6])
    · by_cases q8 : 8 ≤ x
      · by_cases q12 : 12 ≤ x
        · rw [if_pos q5, if_neg q6, if_pos q8, if_pos q12]; exact h41 _ (by unfold d32; rw [if_pos q5, if_neg q6, if_pos q8, if_pos q12])
        · rw [if_pos q5, if_neg q6, if_pos q8, if_neg q12]; exact h41 _ (by unfold d32; rw [if_pos q5, if_neg q6, if_pos q8, if_neg q12])
      · rw [if_pos q5, if_neg q6, if_neg q8]; exact h41 _ (by unfold d32; rw [if_pos q5, if_neg q6, if_neg q8])
  · rw [if_neg q5]; exact h41 _ (by unfold d32; rw [if_neg q5])
/-- a name's entry on both sides: sort, number, part; found, number, place -/
def NMr (s m p f n q : Int32) : Prop := (s = 1 ∧ f = 0 ∧ m = n) ∨ (s = 2 ∧ f = 1 ∧ m = n) ∨ (s = 3 ∧ f = 2 ∧ m = n ∧ p = q) ∨ (s = 4 ∧ f = 3) ∨ (s = 5 ∧ f = 4 ∧ m = n ∧ (n = 8 ∨ n = 9 ∨ n = 10 ∨ n = 11)) ∨ (s = 6 ∧ f = 6)
/-- names on both sides -/
def RN (κ : Nat → Nat) (f : gf) (κr : Nat → Nat) (τ : gf) : Prop :=
  κ 2 = 12 + κr 4 ∧ κ 3 = κr 5 ∧ κr 4 ≤ 3000 ∧ CHN f (κ 2) ∧ (∀ e, e < 12 → f 0 e = nI e ∧ NMr (f 1 e) (f 2 e) (f 3 e) (d32 (nI e)) (d33 (nI e)) 0) ∧
  (∀ i, i < κr 4 → f 0 (12 + i) = τ 25 i ∧ NMr (f 1 (12 + i)) (f 2 (12 + i)) (f 3 (12 + i)) (τ 26 i) (τ 27 i) (τ 28 i)) ∧
  (∀ i, i < κr 4 → ∃ d, 1 ≤ d ∧ d ≤ κr 5 ∧ τ 29 i = nI d ∧ ∀ s, s < κr 5 → ((f 6 s).toInt ≤ ((12 + i : Nat) : Int) ↔ s + 1 ≤ d)) ∧ (f 6 0 = nI 12) ∧ ∀ s, s < κr 5 → ∃ g, g ≤ κ 2 ∧ f 6 s = nI g
theorem nm_in {f0 : Nat → Int32} {τ : gf} {x : Int32} (h12 : ∀ e, e < 12 → f0 e = nI e) : ∀ n, (∀ i, i < n → f0 (12 + i) = τ 25 i) → (lNm f0 x (12 + n) = -1 ∧ (∀ e, e < 12 → ¬ x = nI e) ∧ fnd τ x n = (d32 x, d33 x, 0)) ∨ (∃ e, e < 12 ∧ x = nI e ∧ lNm f0 x (12 + n) = nI e ∧ fnd τ x n = (d32 x, d33 x, 0)) ∨ ∃ i, i < n ∧ lNm f0 x (12 + n) = nI (12 + i) ∧ fnd τ x n = (τ 26 i, τ 27 i, τ 28 i) := by
  intro n
  induction n with
  | zero =>
    intro _
    rcases lNm_c f0 x 12 with ⟨h1, h2⟩ | ⟨e, h1, h2, h3, h4⟩
    · exact Or.inl ⟨h1, fun e he h9 => h2 e he (by rw [h12 e he]; exact h9.symm), rfl⟩
    · exact Or.inr (Or.inl ⟨e, h1, by rw [← h12 e h1]; exact h3.symm, h2, rfl⟩)
  | succ n ih =>
    intro hn
    have e1 : 12 + (n + 1) = (12 + n) + 1 := by omega
    rw [e1]
    unfold lNm fnd
    rw [hn n (by omega)]
    by_cases h : τ 25 n = x
    · rw [if_pos h, if_pos h]
      exact Or.inr (Or.inr ⟨n, by omega, rfl, rfl⟩)
    · rw [if_neg h, if_neg h]
      rcases ih (fun i hi => hn i (by omega)) with h1 | h1 | ⟨i, h1, h2, h3⟩
      · exact Or.inl h1
      · exact Or.inr (Or.inl h1)
      · exact Or.inr (Or.inr ⟨i, by omega, h2, h3⟩)
/-- what a name means, on both sides -/
theorem nm_rel {κ κr : Nat → Nat} {f τ : gf} {v : Nat} (hN : κ 2 ≤ 8192) (h : RN κ f κr τ) (hv : v < 10000) :
    (P_Names_find (κ 2) (κ 3) (κ 12) f (nI v) = -1 ∧ (fnd τ (nI v) (κr 4)).1 = 5) ∨ ∃ e, e < κ 2 ∧ P_Names_find (κ 2) (κ 3) (κ 12) f (nI v) = nI e ∧ NMr (f 1 e) (f 2 e) (f 3 e) (fnd τ (nI v) (κr 4)).1 (fnd τ (nI v) (κr 4)).2.1 (fnd τ (nI v) (κr 4)).2.2 := by
  obtain ⟨h1, h2, h3, h4, h5, h6, h7⟩ := h
  rw [pn_find hN h4, h1]
  rcases nm_in (τ := τ) (x := nI v) (fun e he => (h5 e he).1) (κr 4) (fun i hi => (h6 i hi).1) with ⟨a1, a2, a3⟩ | ⟨e, a1, a2, a3, a4⟩ | ⟨i, a1, a2, a3⟩
  · refine Or.inl ⟨a1, ?_⟩
    rw [a3]
    show d32 (nI v) = 5
    have hv12 : 12 ≤ v := Nat.not_lt.mp (fun h9 => a2 v h9 rfl)
    unfold d32
    have g : ∀ n, n ≤ 12 → (nI n ≤ nI v) = True := fun n hn => by rw [j_le (by omega) (by omega)]; exact eq_true (by omega)
    rw [show (5 : Int32) = nI 5 from rfl, show (8 : Int32) = nI 8 from rfl, show (12 : Int32) = nI 12 from rfl, if_pos (by rw [g 5 (by decide)]; trivial), if_neg (by rw [j_eq (by omega) (by omega)]; omega), if_pos (by rw [g 8 (by decide)]; trivial), if_pos (by rw [g 12 (by decide)]; trivial)]
  · refine Or.inr ⟨e, by omega, a3, ?_⟩
    rw [a4, a2]
    exact (h5 e a1).2
  · refine Or.inr ⟨12 + i, by omega, a2, ?_⟩
    rw [a3]
    exact (h6 i a1).2
-- TYPES, OBJECTS, TREES on both sides; NAME
def ext (τ : gf) (t : Nat) : Int32 := if τ 16 t = 3 then τ 19 t else if τ 16 t = 4 then nI t else 0
def RTr (κ : Nat → Nat) (f : gf) (κr : Nat → Nat) (τ : gf) : Prop := κ 0 = κr 0 ∧ (∀ k, k < κ 0 → f 0 k = τ 2 k ∧ f 1 k = τ 3 k ∧ f 2 k = τ 4 k ∧ f 3 k = τ 5 k) ∧ ∀ k, k < κ 0 → (τ 2 k = 1 ∨ τ 2 k = 10 ∨ τ 2 k = 22 ∨ τ 2 k = 23 ∨ τ 2 k = 24 ∨ τ 2 k = 25 ∨ τ 2 k = 53) → ∃ v, v < 10000 ∧ τ 3 k = nI v
def RTy (κ : Nat → Nat) (f : gf) (κr : Nat → Nat) (τ : gf) : Prop := κ 4 = κr 2 ∧ 5 ≤ κr 2 ∧ κr 2 ≤ 1000 ∧ ∀ t, t < κ 4 → f 0 t = τ 16 t ∧ f 1 t = τ 17 t ∧ f 2 t = τ 18 t ∧ (if 0 ≤ f 3 t then f 3 t else 0 - f 3 t) = τ 19 t ∧ (if 0 ≤ f 3 t then 0 else 1) = τ 20 t ∧ (τ 16 t = 0 ∨ τ 16 t = 1 ∨ τ 16 t = 2 ∨ τ 16 t = 3 ∨ τ 16 t = 4) ∧
  (τ 16 t = 3 → ∃ l r n : Nat, τ 17 t = nI l ∧ τ 18 t = nI r ∧ τ 19 t = nI n ∧ l < 2 ^ 31 ∧ r < 2 ^ 31 ∧ 1 ≤ n ∧ n ≤ 64 ∧ ((τ 20 t = 0 ∧ r + 1 = l + n) ∨ (τ 20 t = 1 ∧ l + 1 = r + n)))
def RO (κ : Nat → Nat) (f : gf) (g : gg) (κr : Nat → Nat) (τ : gf) (F : gf) (nu : gg) : Prop := κ 5 = κr 3 ∧ κr 3 ≤ 2000 ∧ ∀ o, o < κ 5 → f 0 o = τ 22 o ∧ f 1 o = τ 23 o ∧ (τ 22 o = 0 ∨ τ 22 o = 1 ∨ τ 22 o = 2) ∧ ∃ t, t < κ 4 ∧ τ 23 o = nI t ∧
  (τ 22 o = 0 → F 9 (8000 + o) = τ 16 t ∧ F 10 (8000 + o) = ext τ t ∧ F 11 (8000 + o) = 1 ∧ LSv (τ 16 t) (ext τ t) 1 (f 2 o) (nu (8000 + o)) (rr (κ 8) g o) (ee F (8000 + o)))
def NW (κr : Nat → Nat) (τ : gf) : Prop := ∀ i, i < κr 4 → ((τ 26 i = 0 ∨ τ 26 i = 2) → ∃ t, t < κr 2 ∧ τ 27 i = nI t) ∧ (τ 26 i = 1 → ∃ o, o < κr 3 ∧ τ 27 i = nI o)
def RS (κ : Nat → Nat) (φ : gF) (ψ : gG) (κr : Nat → Nat) (τ : gf) (F : gf) (nu : gg) : Prop := κ 2 ≤ 8192 ∧ RTr κ (φ 2) κr τ ∧ RN κ (φ 3) κr τ ∧ NW κr τ ∧ RTy κ (φ 4) κr τ ∧ RO κ (φ 5) (ψ 6) κr τ F nu
theorem fnd_in {κr : Nat → Nat} {τ : gf} {v : Nat} (hv : v < 10000) (h5 : 5 ≤ κr 2) (hw : NW κr τ) : ∀ n, n ≤ κr 4 → (((fnd τ (nI v) n).1 = 0 ∨ (fnd τ (nI v) n).1 = 2) → ∃ t, t < κr 2 ∧ (fnd τ (nI v) n).2.1 = nI t) ∧ ((fnd τ (nI v) n).1 = 1 → ∃ o, o < κr 3 ∧ (fnd τ (nI v) n).2.1 = nI o) := by
  intro n
  induction n with
  | zero =>
    intro _
    show ((d32 (nI v) = 0 ∨ d32 (nI v) = 2) → ∃ t, t < κr 2 ∧ d33 (nI v) = nI t) ∧ (d32 (nI v) = 1 → _)
    have hd : d32 (nI v) = 0 → v < 5 := by
      intro h
      unfold d32 at h
      by_cases h9 : v < 5
      · exact h9
      · rw [if_pos (by rw [show (5 : Int32) = nI 5 from rfl, j_le (by omega) (by omega)]; omega)] at h
        split at h
        · exact absurd h (by decide)
        · split at h
          · split at h <;> exact absurd h (by decide)
          · exact absurd h (by decide)
    have hn : ∀ z : Int32, z = 1 ∨ z = 2 → ¬ d32 (nI v) = z := by
      intro z hz h
      unfold d32 at h
      rcases hz with rfl | rfl <;> (repeat' split at h) <;> exact absurd h (by decide)
    refine ⟨fun h => ?_, fun h => absurd h (hn 1 (Or.inl rfl))⟩
    rcases h with h | h
    · have := hd h
      rcases (show v = 0 ∨ v = 1 ∨ v = 2 ∨ v = 3 ∨ v = 4 by omega) with rfl | rfl | rfl | rfl | rfl
      · exact ⟨2, by omega, rfl⟩
      · exact ⟨3, by omega, rfl⟩
      · exact ⟨4, by omega, rfl⟩
      · exact ⟨1, by omega, rfl⟩
      · exact ⟨0, by omega, rfl⟩
    · exact absurd h (hn 2 (Or.inr rfl))
  | succ n ih =>
    intro hn
    unfold fnd
    by_cases h : τ 25 n = nI v
    · rw [if_pos h]; exact hw n (by omega)
    · rw [if_neg h]; exact ih (by omega)
section TYS
variable {κ κr : Nat → Nat} {f τ F : gf} {g : gg} {nu : gg} {t o N L : Nat}
theorem ty_has (h : t < N) (hN : N ≤ 1000) : P_Types_has N L f (nI t) = 1 := by
  unfold P_Types_has
  rw [if_neg (nI_pos (by omega)), if_neg (by rw [j_le (by omega) (by omega)]; omega)]
theorem ty_g (h : t < N) (hN : N ≤ 1000) : P_Types_classOf N L f (nI t) = f 0 t ∧ P_Types_leftOf N L f (nI t) = f 1 t ∧ P_Types_rightOf N L f (nI t) = f 2 t ∧ P_Types_countOf N L f (nI t) = (if 0 ≤ f 3 t then f 3 t else 0 - f 3 t) ∧ P_Types_goesDown N L f (nI t) = if 0 ≤ f 3 t then 0 else 1 := by
  unfold P_Types_classOf P_Types_leftOf P_Types_rightOf P_Types_countOf P_Types_goesDown
  rw [ty_has h hN, nI_clamp (by omega)]
  exact ⟨rfl, rfl, rfl, rfl, rfl⟩
theorem ty_r (hT : RTy κ f κr τ) (h : t < κ 4) : P_Types_classOf (κ 4) L f (nI t) = τ 16 t ∧ P_Types_leftOf (κ 4) L f (nI t) = τ 17 t ∧ P_Types_rightOf (κ 4) L f (nI t) = τ 18 t ∧ P_Types_countOf (κ 4) L f (nI t) = τ 19 t ∧ P_Types_goesDown (κ 4) L f (nI t) = τ 20 t ∧ P_Types_extentOf (κ 4) L f (nI t) = ext τ t := by
  obtain ⟨e1, e2, e3, e4, e5⟩ := ty_g (L := L) (f := f) h (by have := hT.1; have := hT.2.2.1; omega)
  obtain ⟨a1, a2, a3, a4, a5, a6, a7⟩ := hT.2.2.2 t h
  refine ⟨e1.trans a1, e2.trans a2, e3.trans a3, e4.trans a4, e5.trans a5, ?_⟩
  unfold P_Types_extentOf ext
  rw [e1, a1, e4, a4]
theorem ob_has (h : o < N) (hN : N ≤ 2000) : P_Objects_has N L f (nI o) = 1 := by
  unfold P_Objects_has
  rw [if_neg (nI_pos (by omega)), if_neg (by rw [j_le (by omega) (by omega)]; omega)]
theorem ob_r (hO : RO κ f g κr τ F nu) (h : o < κ 5) : P_Objects_whatOf (κ 5) L f (nI o) = τ 22 o ∧ P_Objects_typeOfObject (κ 5) L f (nI o) = τ 23 o ∧ P_Objects_numberOf (κ 5) L f (nI o) = f 2 o := by
  unfold P_Objects_whatOf P_Objects_typeOfObject P_Objects_numberOf
  have := hO.1; have := hO.2.1
  rw [ob_has h (by omega), nI_clamp (by omega)]
  exact ⟨(hO.2.2 o h).1, (hO.2.2 o h).2.1, rfl⟩
end TYS
/-- copy, fact of a type -/
theorem copy_t {κ : Nat → Nat} {τ : gf} {σ : Nat → Int32} {F : gf} {nu : gg} {s k : Nat} (hs : s < 10000) (hk : k < 10000) (hsk : ¬ s = k) (hx : F 11 s = 0 ∨ F 11 s = 1) : Q_copy κ τ σ F nu (nI s) (nI k) = (σ, mt F k (F 9 s) (F 10 s) (F 11 s) (F 12 s) (fun j => bw (ee F s j)), vp_updL nu k (nu s)) := by
  have eS : (nI s).toNatClampNeg = s := nI_clamp (by omega)
  have eK : (nI k).toNatClampNeg = k := nI_clamp (by omega)
  unfold Q_copy
  rw [eS, eK]
  have e0 : (Au (Au (Au (Au F 9 k (F 9 s)) 10 k ((Au F 9 k (F 9 s)) 10 s)) 11 k (vp_nar .boolean ((Au (Au F 9 k (F 9 s)) 10 k ((Au F 9 k (F 9 s)) 10 s)) 11 s))) 12 k ((Au (Au (Au F 9 k (F 9 s)) 10 k ((Au F 9 k (F 9 s)) 10 s)) 11 k (vp_nar .boolean ((Au (Au F 9 k (F 9 s)) 10 k ((Au F 9 k (F 9 s)) 10 s)) 11 s))) 12 s)) = mt F k (F 9 s) (F 10 s) (F 11 s) (F 12 s) (fun j => ee F k j) := by
    simp only [au_a, hsk, and_false, if_false]
    rw [bo_n hx]
    funext q i
    simp only [au_a]
    unfold mt ee
    by_cases h14 : q = 14
    · subst h14
      simp only [show ¬ (14 = 12) by decide, show ¬ (14 = 11) by decide, show ¬ (14 = 10) by decide, show ¬ (14 = 9) by decide, false_and, if_false, if_true]
      by_cases hi : i / 64 = k
      · rw [if_pos hi]; congr 1; omega
      · rw [if_neg hi]
    · rw [if_neg h14]
      by_cases hi : i = k
      · by_cases h9 : q = 9
        · simp [h9, hi]
        · by_cases h10 : q = 10
          · simp [h10, hi]
          · by_cases h11 : q = 11
            · simp [h11, hi]
            · by_cases h12 : q = 12 <;> simp [h9, h10, h11, h12, hi]
      · simp [hi]
  rw [e0]
  have h1 := eloop (k := k) (n := 64) (F0 := mt F k (F 9 s) (F 10 s) (F 11 s) (F 12 s) (fun j => ee F k j)) (h := fun j => bw (ee F s j)) (T := fun fuel F' i => Q_copy_62 κ τ σ F nu (nI s) (nI k) fuel F' (nI i)) (fin := fun F' => (σ, F', vp_updL nu k (nu s))) (Nat.le_refl _) (fun fuel F' i hi hF => by
      have hA := agr_mt (j := i) hF hsk
      show (if 64 ≤ nI i then _ else _) = _
      rw [if_neg (s64 hi), el_n (by omega) hi, hA.2 hi, se_w (by omega) hi, nI_succ]) (fun fuel F' hF => by
      show (if 64 ≤ nI 64 then _ else _) = _
      rw [if_pos s64e, eS, eK]) 64 0 ((2147483647 - (0 : Int32).toInt).toNat + 1) (mt F k (F 9 s) (F 10 s) (F 11 s) (F 12 s) (fun j => ee F k j)) rfl (Nat.lt_trans (by decide) fuel0) agr.rf
  refine Eq.trans h1 ?_
  rw [mt_se (Nat.le_refl _)]
  congr 2
  funext q i
  unfold mt
  by_cases h14 : q = 14
  · rw [if_pos h14, if_pos h14]
    by_cases hi : i / 64 = k
    · rw [if_pos hi, if_pos hi]
      show (if 0 ≤ i % 64 ∧ i % 64 < 64 then _ else _) = _
      rw [if_pos ⟨Nat.zero_le _, Nat.mod_lt _ (by decide)⟩]
    · rw [if_neg hi, if_neg hi]
  · rw [if_neg h14, if_neg h14]
theorem fot_t {κ : Nat → Nat} {τ : gf} {σ : Nat → Int32} {F : gf} {nu : gg} {t k : Nat} (ht : t < 1000) (hk : k < 10000) : Q_factOfType κ τ σ F nu (nI k) (nI t) = (σ, mt F k (τ 16 t) (ext τ t) 0 (-1) (fun _ => 0), vp_updL nu k 0) := by
  unfold Q_factOfType Q_factOfType_42 ext
  rw [nI_clamp (by omega)]
  by_cases h3 : τ 16 t = 3
  · rw [if_pos h3, if_pos h3, fact_t hk (Or.inl rfl)]
  · rw [if_neg h3, if_neg h3]
    by_cases h4 : τ 16 t = 4
    · rw [if_pos h4, if_pos h4, fact_t hk (Or.inl rfl)]
    · rw [if_neg h4, if_neg h4, fact_t hk (Or.inl rfl)]
theorem lsv_ty {κ κr : Nat → Nat} {f τ : gf} {t : Nat} {n : Int32} {v : Int64} {rc rm : Nat → Int32} (hT : RTy κ f κr τ) (h : t < κ 4) : LSv (τ 16 t) (ext τ t) 0 n v rc rm := by
  obtain ⟨a1, a2, a3, a4, a5, a6, a7⟩ := hT.2.2.2 t h
  refine ⟨a6, Or.inl rfl, fun h3 => ?_, fun h0 => ?_, fun h9 => absurd h9 (by decide)⟩
  · obtain ⟨l, r, n, b1, b2, b3, b4, b5, b6, b7, b8⟩ := a7 h3
    exact ⟨n, b6, b7, by unfold ext; rw [if_pos h3]; exact b3⟩
  · unfold ext
    rcases h0 with h0 | h0 | h0 <;> rw [if_neg (by rw [h0]; decide), if_neg (by rw [h0]; decide)]
theorem n8 {o : Nat} : (8000 : Int32) + nI o = nI (8000 + o) := nI_add 8000 o
theorem k_name {κ κr : Nat → Nat} {φ0 : gF} {ψ : gG} {τ : gf} {σ : Nat → Int32} {F : gf} {nu : gg} {k n : Nat} (hC : CK κ) (hR : RS κ φ0 ψ κr τ F nu) (hk : k < κ 0) (h1 : τ 2 k = 1) (hn : τ 4 k = nI n) (hn2 : n ≤ 4000) :
    LK2 (κ 10) φ0 ψ F nu k (P_Meanings_name κ (ct φ0 k (-1) 0 (-1) 0 0) ψ (nI k)) (if τ 4 k ≤ 0 then ((Q_lookName κr τ σ F nu (nI k)).1, ((Q_lookName κr τ σ F nu (nI k)).2.1), ((Q_lookName κr τ σ F nu (nI k)).2.2.1), ((Q_lookName κr τ σ F nu (nI k)).2.2.2)) else (11, σ, F, nu)) := by
  have hC' := hC
  obtain ⟨c0, c1, c2, c3, c4, c5, c6, c7, c8⟩ := hC'
  obtain ⟨hN, hTr, hNm, hW, hTy, hO⟩ := hR
  obtain ⟨t1, t2, t3, t4⟩ := hTr.2.1 k hk
  obtain ⟨v, hv, ev⟩ := hTr.2.2 k hk (Or.inl h1)
  have eN : (nI k).toNatClampNeg = k := nI_clamp (by omega)
  have L7 : k < κ 7 := by omega
  have gi : ∀ i c e m n x, ¬ i = 9 → ct φ0 k c e m n x i = φ0 i := fun i c e m n x h => ct_o h
  have heta : ∀ r : Int32 × gs × gf × gg, (r.1, r.2.1, r.2.2.1, r.2.2.2) = r := fun _ => rfl
  rw [heta]
  unfold P_Meanings_name
  rw [gi 2 _ _ _ _ _ (by decide), gi 3 _ _ _ _ _ (by decide), pt_2 hk (by omega), pt_1 hk (by omega), t3, hn, t2, ev]
  by_cases h0 : n = 0
  · subst h0
    rw [if_pos (show nI 0 = 0 from rfl), if_pos (show nI 0 ≤ 0 by decide)]
    obtain ⟨σ', hf, s1, s2, s3, s4⟩ := qf_find (κ := κr) (τ := τ) (σ := σ) (F := F) (nu := nu) (x := nI v) hNm.2.2.1
    have hin := fnd_in (κr := κr) (τ := τ) hv hTy.2.1 hW (κr 4) (Nat.le_refl _)
    have hQ : Q_lookName κr τ σ F nu (nI k) = if σ' 32 = 5 then (1, σ', F, nu) else if σ' 32 = 1 then (if τ 22 (σ' 33).toNatClampNeg = 0 then (0, σ', Au (Q_copy κr τ σ' F nu (8000 + σ' 33) (nI k)).2.1 12 k (σ' 33), (Q_copy κr τ σ' F nu (8000 + σ' 33) (nI k)).2.2) else (0, σ', Au (Q_factOfType κr τ σ' F nu (nI k) (τ 23 (σ' 33).toNatClampNeg)).2.1 12 k (σ' 33), (Q_factOfType κr τ σ' F nu (nI k) (τ 23 (σ' 33).toNatClampNeg)).2.2)) else if σ' 32 = 2 then (0, σ', Au (Q_fact κr τ σ' F nu (nI k) 4 (σ' 33) 1).2.1 12 k 2000, vp_updL (Q_fact κr τ σ' F nu (nI k) 4 (σ' 33) 1).2.2 k (σ' 34).toInt64) else if σ' 32 = 3 then (0, σ', Au (Q_fact κr τ σ' F nu (nI k) 1 0 1).2.1 12 k 2000, vp_updL (Q_fact κr τ σ' F nu (nI k) 1 0 1).2.2 k (if σ' 33 = 6 then 1 else 0)) else (2, σ', F, nu) := by
      unfold Q_lookName Q_lookName_66 Q_lookName_93 Q_lookName_108 Q_lookName_124 Q_lookName_163
      simp only [eN, ev, hf]
      by_cases q2 : σ' 32 = 2
      · simp (decide := true) only [q2, reduceIte]
      · by_cases q6 : σ' 33 = 6 <;> simp (decide := true) only [q2, q6, reduceIte]
    rw [hQ]
    rcases nm_rel (κ := κ) (κr := κr) (f := φ0 3) (τ := τ) (v := v) hN hNm hv with ⟨e1, e2⟩ | ⟨e, he, e1, e2⟩
    · rw [e1, if_pos rfl, if_pos (s1.trans e2)]
      exact nf_f ct_fr frM.rf (by decide) (by decide)
    · rw [e1, if_neg (by rw [show ((-1 : Int32)) = -1 from rfl]; intro h9; have := congrArg Int32.toInt h9; rw [nI_toInt (by omega)] at this; exact absurd this (by rw [show (-1 : Int32).toInt = -1 from rfl]; omega)), (pn_1 he hN).1, (pn_1 he hN).2.1, (pn_1 he hN).2.2]
      rw [← s1, ← s2, ← s3] at e2
      rw [← s1, ← s2] at hin
      rcases e2 with ⟨q1, q2, q3⟩ | ⟨q1, q2, q3⟩ | ⟨q1, q2, q3, q4⟩ | ⟨q1, q2⟩ | ⟨q1, q2, q3, q4⟩ | ⟨q1, q2⟩
      · rw [q1, q2]; simp (decide := true) only [reduceIte]
        exact nf_f ct_fr frM.rf (by decide) (by decide)
      · -- an object
        obtain ⟨o, ho, eo⟩ := hin.2 q2
        have ho5 : o < κ 5 := by rw [hO.1]; exact ho
        obtain ⟨b1, b2, b3, t, ht, et, b4⟩ := hO.2.2 o ho5
        rw [q1, q2, q3, eo]; simp (decide := true) only [reduceIte, nI_clamp (show o < 2 ^ 31 by have := hO.2.1; omega), et]
        obtain ⟨w1, w2, w3⟩ := ob_r (L := κ 14) hO ho5
        obtain ⟨y1, y2, y3, y4, y5, y6⟩ := ty_r (L := κ 13) hTy ht
        have hno : P_Meanings_noteObject κ (ct φ0 k (-1) 0 (-1) 0 0) ψ (nI k) (nI o) = (ct φ0 k (τ 16 t) (ext τ t) (nI o) (φ0 5 2 o) (if τ 22 o = 0 then 1 else 0), up ψ 10 (P_Rows_copy (κ 10) (κ 8) (ψ 10) (ψ 6) (nI k) (nI o))) := by
          unfold P_Meanings_noteObject P_Meanings_isConstant
          simp only [gi _ _ _ _ _ _ (show ¬ 5 = 9 by decide), gi _ _ _ _ _ _ (show ¬ 4 = 9 by decide), w1, w2, et, y1, y6, ct_note L7 c2, ct_sm L7 c2, ct_sn L7 c2, w3]
          by_cases h9 : τ 22 o = 0
          · simp (decide := true) only [h9, reduceIte]
          · simp (decide := true) only [h9, reduceIte]
        rw [hno]
        have hrag : ragr (κ 10) k (ψ 10) (P_Rows_copy (κ 10) (κ 8) (ψ 10) (ψ 6) (nI k) (nI o)) := fun s' j h5 h6 h7 => by rw [rr_copy c4 c6 (by omega) (by omega) h5 h6, if_neg h7]
        have ho2 := hO.2.1
        by_cases hw : τ 22 o = 0
        · obtain ⟨d1, d2, d3, d4⟩ := b4 hw
          rw [if_pos hw, if_pos hw, n8, copy_t (by omega) (by omega) (by omega) (Or.inr d3), d1, d2, d3]
          dsimp only
          rw [mt_mn]
          refine nf_d hrag ?_
          obtain ⟨z1, z2, z3, z4, z5⟩ := d4
          refine ⟨z1, z2, z3, z4, fun hx => ⟨(z5 hx).1, (z5 hx).2.1, fun h3 E j hE hE2 hj => ?_⟩⟩
          obtain ⟨r1, r2⟩ := (z5 hx).2.2 h3 E j hE hE2 hj
          show _ = bw (ee F (8000 + o) j) ∧ ∃ m, m < 9 ∧ bw (ee F (8000 + o) j) = nI m
          rw [rr_copy c4 c6 (by omega) (by omega) (by omega) (by omega), if_pos rfl, bw_n (m9 r2)]
          exact ⟨r1, r2⟩
        · rw [if_neg hw, if_neg hw, fot_t (by have := hTy.1; have := hTy.2.2.1; omega) (by omega)]
          dsimp only
          rw [mt_mn]
          exact nf_d hrag (lsv_ty hTy ht)
      · -- a place
        rw [q1, q2, q3, q4]; simp (decide := true) only [reduceIte]
        have hnv : P_Meanings_noteValue κ (ct φ0 k (-1) 0 (-1) 0 0) ψ (nI k) 4 (σ' 33) (σ' 34) = (ct φ0 k 4 (σ' 33) 2000 (σ' 34) 1, ψ) := by
          unfold P_Meanings_noteValue
          simp (decide := true) only [ct_note L7 c2, ct_sm L7 c2, ct_sn L7 c2, reduceIte]
        rw [hnv, fact_t (by omega) (Or.inr rfl)]
        dsimp only
        rw [mt_mn, ul2]
        exact nf_d0 (lsv_t (Or.inr rfl) (Or.inr rfl))
      · -- true, false
        rw [q1, q2]; simp (decide := true) only [reduceIte]
        have hnv : P_Meanings_noteValue κ (ct φ0 k (-1) 0 (-1) 0 0) ψ (nI k) 1 0 (φ0 3 2 e) = (ct φ0 k 1 0 2000 (φ0 3 2 e) 1, ψ) := by
          unfold P_Meanings_noteValue
          simp (decide := true) only [ct_note L7 c2, ct_sm L7 c2, ct_sn L7 c2, reduceIte]
        rw [hnv, fact_t (by omega) (Or.inr rfl)]
        dsimp only
        rw [mt_mn, ul2]
        exact nf_d0 (lsv_t (Or.inl ⟨rfl, rfl⟩) (Or.inr rfl))
      · rw [q1, q2]; simp (decide := true) only [reduceIte]
        exact nf_f ct_fr frM.rf (by decide) (by decide)
      · rw [q1, q2]; simp (decide := true) only [reduceIte]
        exact nf_f ct_fr frM.rf (by decide) (by decide)
  · rw [if_neg (show ¬ nI n = 0 by rw [show (0 : Int32) = nI 0 from rfl, j_eq (by omega) (by omega)]; exact h0), if_neg (show ¬ nI n ≤ 0 by rw [show (0 : Int32) = nI 0 from rfl, j_le (by omega) (by omega)]; omega)]
    exact nf_f ct_fr frM.rf (by decide) (by decide)
-- ATTRIBUTE
theorem neg1 {e : Nat} (h : e < 2 ^ 31) : ¬ nI e = -1 := by
  intro h9
  have := congrArg Int32.toInt h9
  rw [nI_toInt h] at this
  exact absurd this (by rw [show (-1 : Int32).toInt = -1 from rfl]; omega)
/-- what a node's name means on both sides, for objects -/
theorem obj_at {κ κr : Nat → Nat} {φ0 : gF} {ψ : gG} {τ : gf} {σ : Nat → Int32} {F : gf} {nu : gg} {k v : Nat} {c e m n x : Int32} (hC : CK κ) (hR : RS κ φ0 ψ κr τ F nu) (hk : k < κ 0) (hv : v < 10000) (ev : τ 3 k = nI v) :
    ∃ σ', Q_find κr τ σ F nu (nI v) = (σ', F, nu) ∧ (∀ q, ¬ q = 32 → ¬ q = 33 → ¬ q = 34 → σ' q = σ q) ∧
    ((P_Meanings_isUnknown κ (ct φ0 k c e m n x) ψ (nI k) = 1 ∧ σ' 32 = 5) ∨ (P_Meanings_isUnknown κ (ct φ0 k c e m n x) ψ (nI k) = 0 ∧ ¬ σ' 32 = 5 ∧ ¬ σ' 32 = 1 ∧ P_Meanings_objectAt κ (ct φ0 k c e m n x) ψ (nI k) = -1) ∨
     ∃ o t, o < κ 5 ∧ t < κ 4 ∧ P_Meanings_isUnknown κ (ct φ0 k c e m n x) ψ (nI k) = 0 ∧ σ' 32 = 1 ∧ σ' 33 = nI o ∧ P_Meanings_objectAt κ (ct φ0 k c e m n x) ψ (nI k) = nI o ∧ τ 23 o = nI t) := by
  have hC' := hC
  obtain ⟨c0, c1, c2, c3, c4, c5, c6, c7, c8⟩ := hC'
  obtain ⟨hN, hTr, hNm, hW, hTy, hO⟩ := hR
  obtain ⟨t1, t2, t3, t4⟩ := hTr.2.1 k hk
  obtain ⟨σ', hf, s1, s2, s3, s4⟩ := qf_find (κ := κr) (τ := τ) (σ := σ) (F := F) (nu := nu) (x := nI v) hNm.2.2.1
  have hin := fnd_in (κr := κr) (τ := τ) hv hTy.2.1 hW (κr 4) (Nat.le_refl _)
  refine ⟨σ', hf, s4, ?_⟩
  unfold P_Meanings_isUnknown P_Meanings_objectAt
  rw [ct_o (show ¬ 2 = 9 by decide), ct_o (show ¬ 3 = 9 by decide), pt_1 hk (by omega), t2, ev]
  rcases nm_rel (κ := κ) (κr := κr) (f := φ0 3) (τ := τ) (v := v) hN hNm hv with ⟨e1, e2⟩ | ⟨e, he, e1, e2⟩
  · exact Or.inl ⟨by rw [e1, if_pos rfl], s1.trans e2⟩
  · rw [e1, if_neg (neg1 (by omega)), (pn_1 he hN).1, (pn_1 he hN).2.1]
    rw [← s1, ← s2, ← s3] at e2
    rw [← s1, ← s2] at hin
    right
    rcases e2 with ⟨q1, q2, q3⟩ | ⟨q1, q2, q3⟩ | ⟨q1, q2, q3, q4⟩ | ⟨q1, q2⟩ | ⟨q1, q2, q3, q4⟩ | ⟨q1, q2⟩
    · rw [q1, q2]; exact Or.inl ⟨rfl, by decide, by decide, rfl⟩
    · right
      obtain ⟨o, ho, eo⟩ := hin.2 q2
      have ho5 : o < κ 5 := by rw [hO.1]; exact ho
      obtain ⟨b1, b2, b3, t, ht, et, b4⟩ := hO.2.2 o ho5
      exact ⟨o, t, ho5, ht, rfl, q2, eo, by rw [q1, if_pos rfl, q3, eo], et⟩
    · rw [q1, q2]; exact Or.inl ⟨rfl, by decide, by decide, rfl⟩
    · rw [q1, q2]; exact Or.inl ⟨rfl, by decide, by decide, rfl⟩
    · rw [q1, q2]; exact Or.inl ⟨rfl, by decide, by decide, rfl⟩
    · rw [q1, q2]; exact Or.inl ⟨rfl, by decide, by decide, rfl⟩
theorem k_attr {κ κr : Nat → Nat} {φ0 : gF} {ψ : gG} {τ : gf} {σ : Nat → Int32} {F : gf} {nu : gg} {k n n' : Nat} (hC : CK κ) (hR : RS κ φ0 ψ κr τ F nu) (hk : k < κ 0) (h1 : τ 2 k = 25) (hn : τ 4 k = nI n) (hn2 : n ≤ 4000) (hk1 : n = 1 → 1 ≤ k) (hn' : τ 4 (k - 1) = nI n') (hn2' : n' ≤ 4000) :
    LK2 (κ 10) φ0 ψ F nu k (P_Meanings_attribute κ (ct φ0 k (-1) 0 (-1) 0 0) ψ (nI k)) (Q_lookAttribute κr τ σ F nu (nI k)) := by
  have hC' := hC
  obtain ⟨c0, c1, c2, c3, c4, c5, c6, c7, c8⟩ := hC'
  have hR' := hR
  obtain ⟨hN, hTr, hNm, hW, hTy, hO⟩ := hR'
  obtain ⟨t1, t2, t3, t4⟩ := hTr.2.1 k hk
  obtain ⟨v, hv, ev⟩ := hTr.2.2 k hk (Or.inr (Or.inr (Or.inr (Or.inr (Or.inr (Or.inl h1))))))
  have eN : (nI k).toNatClampNeg = k := nI_clamp (by omega)
  have L7 : k < κ 7 := by omega
  have hft : ∀ (c m : Int32) (σ' : gs), ¬ c = 0 → 0 < m → LK2 (κ 10) φ0 ψ F nu k (c, ct φ0 k (-1) 0 (-1) 0 0, ψ) (m, σ', F, nu) := fun c m σ' h2 h3 => nf_f ct_fr frM.rf h2 h3
  obtain ⟨σ', hf, _, hob⟩ := obj_at (σ := σ) (c := -1) (e := 0) (m := -1) (n := 0) (x := 0) hC hR hk hv ev
  unfold P_Meanings_attribute Q_lookAttribute
  rw [ct_o (show ¬ 2 = 9 by decide), pt_2 hk (by omega), t3, hn, eN, hn, ev]
  by_cases hn1 : n = 1
  · subst hn1
    have hk1' := hk1 rfl
    obtain ⟨u1, u2, u3, u4⟩ := hTr.2.1 (k - 1) (by omega)
    have eP : nI k - 1 = nI (k - 1) := j_pred hk1'
    rw [if_pos (show nI 1 = 1 from rfl), if_pos (show nI 1 = 1 from rfl), eP, pt_0 (by omega) (by omega), pt_2 (by omega) (by omega), pt_1 (by omega) (by omega), u1, u3, u2, nI_clamp (by omega)]
    by_cases q1 : τ 2 (k - 1) = 1
    · rw [if_pos q1, if_pos q1, hn']
      by_cases q2 : n' = 0
      · subst q2
        rw [if_pos (show nI 0 = 0 from rfl), if_neg (show ¬ 0 < nI 0 by decide)]
        by_cases q3 : τ 3 (k - 1) < 15
        · rw [if_pos q3, if_pos q3]; exact hft _ _ _ (by decide) (by decide)
        · rw [if_neg q3, if_neg q3]
          by_cases q4 : τ 3 (k - 1) ≤ 22
          · rw [if_pos q4, if_pos q4, hf]
            dsimp only
            rcases hob with ⟨w1, w2⟩ | ⟨w1, w2, w3, w4⟩ | ⟨o, t, ho, ht, w1, w2, w3, w4, w5⟩
            · rw [w1, if_neg (by decide), if_pos w2]; exact hft _ _ _ (by decide) (by decide)
            · rw [w1, if_pos rfl, w4, if_pos rfl, if_neg w2, if_neg w3]; exact hft _ _ _ (by decide) (by decide)
            · have ho2 := hO.2.1
              have ho1 := hO.1
              have ht1 := hTy.1
              have ht2 := hTy.2.2.1
              obtain ⟨y1, y2, y3⟩ := ob_r (L := κ 14) hO ho
              obtain ⟨z1, z2, z3, z4, z5, z6⟩ := ty_r (L := κ 13) hTy ht
              obtain ⟨a1, a2, a3, a4, a5, a6, a7⟩ := hTy.2.2.2 t ht
              rw [w1, if_pos rfl, w4, if_neg (neg1 (by omega)), if_neg (show ¬ σ' 32 = 5 by rw [w2]; decide), if_pos w2]
              unfold P_Meanings_attribute_107 P_Meanings_attribute_124 P_Meanings_isRow P_Meanings_noteAttribute P_Meanings_boundOf Q_lookAttribute_278 Q_lookAttribute_279
              simp only [ct_o (show ¬ 5 = 9 by decide), ct_o (show ¬ 4 = 9 by decide), y1, y2, w5, z1, z2, z3, z4, z6, ct_note L7 c2, ct_sn L7 c2, ct_sm L7 c2, eN, ev, hf, w3, w5, nI_clamp (show o < 2 ^ 31 by omega), nI_clamp (show t < 2 ^ 31 by omega), fot_t (show t < 1000 by omega) (show k < 10000 by omega), fact_t (show k < 10000 by omega) (Or.inl rfl), fact_t (show k < 10000 by omega) (Or.inr rfl), mt_mn, ul2]
              by_cases q5 : 17 < τ 3 (k - 1)
              · have q6 : 18 ≤ τ 3 (k - 1) := by rw [Int32.lt_iff_toInt_lt] at q5; rw [Int32.le_iff_toInt_le]; have e1 : (17 : Int32).toInt = 17 := rfl; have e2 : (18 : Int32).toInt = 18 := rfl; omega
                have q7 : ¬ τ 3 (k - 1) < 18 := Int32.not_lt.mpr q6
                simp only [if_pos q5, if_neg q7, if_pos q6]
                by_cases q8 : τ 16 t = 3
                · simp (decide := true) only [q8, reduceIte]
                  obtain ⟨l, r, n, b1, b2, b3, b4, b5, b6, b7, b8⟩ := a7 q8
                  have hend : ∀ (z : Int32), -2147483648 < z.toInt → LK2 (κ 10) φ0 ψ F nu k (0, ct φ0 k 2 0 (nI o) z 1, ψ) (0, σ', mt F k 2 0 1 (nI o) (fun _ => 0), vp_updL nu k z.toInt64) := fun z hz => nf_d0 (lsv_2 (Or.inr rfl) (fun _ => ⟨(w_i z).symm, hz⟩))
                  have p17 : -2147483648 < (τ 17 t).toInt := by rw [b1, nI_toInt b4]; omega
                  have p18 : -2147483648 < (τ 18 t).toInt := by rw [b2, nI_toInt b5]; omega
                  have p19 : -2147483648 < (τ 19 t).toInt := by rw [b3, nI_toInt (by omega)]; omega
                  by_cases e18 : τ 3 (k - 1) = 18
                  · simp (decide := true) only [e18, reduceIte, ct_sm L7 c2]; exact hend _ p19
                  · by_cases e19 : τ 3 (k - 1) = 19
                    · simp (decide := true) only [e19, reduceIte, ct_sm L7 c2]; exact hend _ p17
                    · by_cases e20 : τ 3 (k - 1) = 20
                      · simp (decide := true) only [e20, reduceIte, ct_sm L7 c2]; exact hend _ p18
                      · by_cases e21 : τ 3 (k - 1) = 21
                        · simp (decide := true) only [e21, reduceIte, ct_sm L7 c2]
                          split <;> first | exact hend _ p18 | exact hend _ p17
                        · have e22 : τ 3 (k - 1) = 22 := by
                            apply Int32.toInt_inj.mp
                            rw [Int32.le_iff_toInt_le] at q4 q6
                            have g1 : ¬ (τ 3 (k - 1)).toInt = 18 := fun h => e18 (Int32.toInt_inj.mp h)
                            have g2 : ¬ (τ 3 (k - 1)).toInt = 19 := fun h => e19 (Int32.toInt_inj.mp h)
                            have g3 : ¬ (τ 3 (k - 1)).toInt = 20 := fun h => e20 (Int32.toInt_inj.mp h)
                            have g4 : ¬ (τ 3 (k - 1)).toInt = 21 := fun h => e21 (Int32.toInt_inj.mp h)
                            have r1 : (22 : Int32).toInt = 22 := rfl
                            have r2 : (18 : Int32).toInt = 18 := rfl
                            omega
                          simp (decide := true) only [e22, reduceIte, ct_sm L7 c2]
                          split <;> first | exact hend _ p18 | exact hend _ p17
                · simp (decide := true) only [q8, reduceIte]; exact hft _ _ _ (by decide) (by decide)
              · have q6 : ¬ 18 ≤ τ 3 (k - 1) := by intro h9; apply q5; rw [Int32.lt_iff_toInt_lt]; rw [Int32.le_iff_toInt_le] at h9; have e1 : (17 : Int32).toInt = 17 := rfl; have e2 : (18 : Int32).toInt = 18 := rfl; omega
                have q7 : τ 3 (k - 1) < 18 := Int32.not_le.mp q6
                simp only [if_neg q5, if_pos q7, if_neg q6]
                by_cases q8 : τ 22 o = 1
                · simp only [if_pos q8]
                  by_cases q9 : τ 3 (k - 1) = 17
                  · simp (decide := true) only [q9, reduceIte, ct_sm L7 c2]
                    exact nf_d0 (lsv_ty hTy ht)
                  · simp (decide := true) only [q9, reduceIte, ct_sm L7 c2]
                    exact nf_d0 (lsv_t (Or.inl ⟨rfl, rfl⟩) (Or.inl rfl))
                · simp only [if_neg q8]; exact hft _ _ _ (by decide) (by decide)
          · rw [if_neg q4, if_neg q4]; exact hft _ _ _ (by decide) (by decide)
      · rw [if_neg (show ¬ nI n' = 0 by rw [show (0 : Int32) = nI 0 from rfl, j_eq (by omega) (by omega)]; exact q2), if_pos (show 0 < nI n' by rw [show (0 : Int32) = nI 0 from rfl, j_lt (by omega) (by omega)]; omega)]
        exact hft _ _ _ (by decide) (by decide)
    · rw [if_neg q1, if_neg q1]; exact hft _ _ _ (by decide) (by decide)
  · have hne : ¬ nI n = 1 := by rw [show (1 : Int32) = nI 1 from rfl, j_eq (by omega) (by omega)]; exact hn1
    rw [if_neg hne, if_neg hne]; exact hft _ _ _ (by decide) (by decide)
-- places in rows; SLICE
theorem fr_t {κ κr : Nat → Nat} {f τ : gf} {t L l r n : Nat} {p : Int32} (hT : RTy κ f κr τ) (ht : t < κ 4) (h17 : τ 17 t = nI l) (h18 : τ 18 t = nI r) (h19 : τ 19 t = nI n) (hl : l < 2 ^ 31) (hr : r < 2 ^ 31) (hn : n ≤ 64) (hd : τ 20 t = 0 ∨ τ 20 t = 1) (hp : -2147483648 < p.toInt) :
    P_Types_fromRight (κ 4) L f (nI t) p = if 0 ≤ (if τ 20 t = 0 then (r : Int) - p.toInt else p.toInt - r) ∧ (if τ 20 t = 0 then (r : Int) - p.toInt else p.toInt - r) < n then nI (if τ 20 t = 0 then (r : Int) - p.toInt else p.toInt - r).toNat else -1 := by
  obtain ⟨z1, z2, z3, z4, z5, z6⟩ := ty_r (L := L) hT ht
  have hb := i32_b p
  have hd' : ∀ (w : Int64) (d : Int), w.toInt = d → -4294967296 ≤ d → d ≤ 4294967296 → P_Types_fromRight_29 (κ 4) L f (nI t) p w = if 0 ≤ d ∧ d < n then nI d.toNat else -1 := by
    intro w d hw h1 h2
    unfold P_Types_fromRight_29
    rw [z4, h19]
    have z0 : (0 : Int64).toInt = 0 := rfl
    by_cases q1 : lg_cmp w 0 < 0
    · rw [if_pos q1]; rw [lg_lt, z0] at q1
      rw [if_neg (by omega)]
    · rw [if_neg q1]; rw [lg_lt, z0] at q1
      by_cases q2 : 0 ≤ lg_cmp w ((nI n).toInt64)
      · rw [if_pos q2]; rw [lg_ge, w_i, nI_toInt (by omega)] at q2
        rw [if_neg (by omega)]
      · rw [if_neg q2]; rw [lg_ge, w_i, nI_toInt (by omega)] at q2
        rw [if_pos (by omega)]
        apply Int32.toInt_inj.mp
        rw [n32 (by omega), nI_toInt (by omega)]
        omega
  have hR : (nI r).toInt64.toInt = r := by rw [w_i, nI_toInt hr]
  have hP : p.toInt64.toInt = p.toInt := w_i p
  unfold P_Types_fromRight
  rw [z5, z3, h18]
  rcases hd with h | h
  · simp only [if_pos h]
    refine hd' _ _ ?_ (by omega) (by omega)
    rw [Int64.toInt_sub, hR, hP]
    exact Int.bmod_eq_of_le (by omega) (by omega)
  · have h' : ¬ τ 20 t = 0 := by rw [h]; decide
    simp only [if_neg h']
    refine hd' _ _ ?_ (by omega) (by omega)
    rw [Int64.toInt_sub, hR, hP]
    exact Int.bmod_eq_of_le (by omega) (by omega)
theorem wi_t {κ : Nat → Nat} {τ : gf} {σ : gs} {F : gf} {nu : gg} {t l r n : Nat} {w : Int64} (ht : t < 1000) (h17 : τ 17 t = nI l) (h18 : τ 18 t = nI r) (hl : l < 2 ^ 31) (hr : r < 2 ^ 31) (h1 : 1 ≤ n) (hd : (τ 20 t = 0 ∧ r + 1 = l + n) ∨ (τ 20 t = 1 ∧ l + 1 = r + n)) :
    (Q_within κ τ σ F nu (nI t) w = 0) = ¬ (0 ≤ (if τ 20 t = 0 then (r : Int) - w.toInt else w.toInt - r) ∧ (if τ 20 t = 0 then (r : Int) - w.toInt else w.toInt - r) < n) := by
  unfold Q_within
  rw [nI_clamp (by omega), h17, h18]
  have hlr : (nI r < nI l) = (r < l) := j_lt hr hl
  have hrl : (nI l < nI r) = (l < r) := j_lt hl hr
  have hL : (nI l).toInt64.toInt = l := by rw [w_i, nI_toInt hl]
  have hRr : (nI r).toInt64.toInt = r := by rw [w_i, nI_toInt hr]
  have key : ∀ (a b : Int), (0 : Int) ≤ 0 → ((if lg_cmp w (if nI r < nI l then nI r else nI l).toInt64 < 0 then (0 : Int32) else if 0 < lg_cmp w (if nI l < nI r then nI r else nI l).toInt64 then 0 else 1) = 0) = (w.toInt < (if r < l then (r : Int) else l) ∨ (if l < r then (r : Int) else l) < w.toInt) := by
    intro a b _
    have e1 : ((if nI r < nI l then nI r else nI l).toInt64).toInt = (if r < l then (r : Int) else l) := by
      by_cases h : r < l
      · rw [if_pos (by rw [hlr]; exact h), if_pos h]; exact hRr
      · rw [if_neg (by rw [hlr]; exact h), if_neg h]; exact hL
    have e2 : ((if nI l < nI r then nI r else nI l).toInt64).toInt = (if l < r then (r : Int) else l) := by
      by_cases h : l < r
      · rw [if_pos (by rw [hrl]; exact h), if_pos h]; exact hRr
      · rw [if_neg (by rw [hrl]; exact h), if_neg h]; exact hL
    apply propext
    by_cases q1 : lg_cmp w (if nI r < nI l then nI r else nI l).toInt64 < 0
    · rw [if_pos q1]; rw [lg_lt, e1] at q1; exact ⟨fun _ => Or.inl q1, fun _ => rfl⟩
    · rw [if_neg q1]; rw [lg_lt, e1] at q1
      by_cases q2 : 0 < lg_cmp w (if nI l < nI r then nI r else nI l).toInt64
      · rw [if_pos q2]; rw [lg_gt, e2] at q2; exact ⟨fun _ => Or.inr q2, fun _ => rfl⟩
      · rw [if_neg q2]; rw [lg_gt, e2] at q2
        exact ⟨fun h => absurd h (by decide), fun h => by omega⟩
  rw [key 0 0 (Int.le_refl _)]
  apply propext
  rcases hd with ⟨h20, h⟩ | ⟨h20, h⟩
  · simp only [if_pos h20]
    by_cases q : l < r
    · rw [if_neg (by omega), if_pos q]; omega
    · rw [if_neg (by omega), if_neg q]; omega
  · have h' : ¬ τ 20 t = 0 := by rw [h20]; decide
    simp only [if_neg h']
    by_cases q : r < l
    · rw [if_pos q, if_neg (by omega)]; omega
    · rw [if_neg q, if_neg (by omega)]; omega
theorem qc_0 {κ : Nat → Nat} {τ : gf} {σ : gs} {F : gf} {nu : gg} {k : Nat} (hk : 1 ≤ k) : Q_child κ τ σ F nu (nI k) 0 = nI (k - 1) := by
  unfold Q_child
  show (if (0 : Int32) ≤ 0 then _ else _) = _
  rw [if_pos (by decide)]
  exact j_pred hk
theorem qc_1 {κ : Nat → Nat} {τ : gf} {σ : gs} {F : gf} {nu : gg} {k : Nat} (hk : 1 ≤ k) (hk2 : k < 4000) : Q_child κ τ σ F nu (nI k) 1 = τ 5 (k - 1) - 1 := by
  unfold Q_child
  show (if (1 : Int32) ≤ 0 then _ else if (1 : Int32) ≤ 0 + 1 then _ else _) = _
  rw [if_neg (by decide), if_pos (by decide), j_pred hk, nI_clamp (by omega)]
theorem ro_t {κ : Nat → Nat} {τ : gf} {σ σ' : gs} {F : gf} {nu : gg} {x : Int32} (hf : Q_find κ τ σ F nu x = (σ', F, nu)) : Q_rowObject κ τ σ F nu x = if σ' 32 = 5 then (1, σ', F, nu) else if σ' 32 = 1 then (if τ 16 (τ 23 (σ' 33).toNatClampNeg).toNatClampNeg = 3 then (0, σ', F, nu) else (2, σ', F, nu)) else (2, σ', F, nu) := by
  unfold Q_rowObject; simp only [hf]
theorem cc_127 {κ : Nat → Nat} {φ : gF} {ψ : gG} {k o n q : Nat} {i3 i4 i5 i6 i8 : Int32} (hC : CK κ) (hk : k < κ 0) (ho : o < κ 5) (h64 : q + n ≤ 64) :
    ∃ g', P_Meanings_cut_127 κ ((2147483647 - (0 : Int32).toInt).toNat + 1) φ ψ (nI k) (nI o) i3 i4 i5 i6 (nI q) i8 (nI n) 0 = (0, φ, up ψ 10 g') ∧ ragr (κ 10) k (ψ 10) g' ∧ ∀ j, j < n → rr (κ 10) g' k j = rr (κ 8) (ψ 6) o (q + j) := by
  obtain ⟨c0, c1, c2, c3, c4, c5, c6, c7, c8⟩ := hC
  obtain ⟨g', e1, e2, e3, e4⟩ := rowloop (M := κ 10) (s := k) (n := n) (g0 := ψ 10) (h := fun j => rr (κ 8) (ψ 6) o (q + j)) (T := fun fuel g i => P_Meanings_cut_127 κ fuel φ (up ψ 10 g) (nI k) (nI o) i3 i4 i5 i6 (nI q) i8 (nI n) (nI i)) (fin := fun g => ((0 : Int32), φ, up ψ 10 g)) c4 (by omega) (by omega) (fun j hj => rr_lt c6 (by omega) (by omega))
    (fun fuel g i hi hg => by
      show (if nI n ≤ nI i then _ else P_Meanings_cut_127 κ fuel φ (up (up ψ 10 g) 10 (P_Rows_set (κ 10) ((up ψ 10 g) 10) (nI k) (nI i) (P_Rows_get (κ 8) ((up ψ 10 g) 6) (nI o) (nI q + nI i)))) (nI k) (nI o) i3 i4 i5 i6 (nI q) i8 (nI n) (nI i + 1)) = _
      rw [if_neg (by rw [j_le (by omega) (by omega)]; omega), up_up, up_s, up_n (by decide), ← nI_succ, nI_add]
      rfl)
    (fun fuel g hg => by
      show (if nI n ≤ nI n then _ else _) = _
      rw [if_pos (by rw [j_le (by omega) (by omega)]; exact Nat.le_refl _)]) n 0 ((2147483647 - (0 : Int32).toInt).toNat + 1) (ψ 10) (by omega) (Nat.lt_trans (by omega) fuel0) ragr.rf
  refine ⟨g', ?_, e2, fun j hj => e3 j (Nat.zero_le _) hj⟩
  rw [up_id ψ 10] at e1
  exact e1
-- SLICE on both sides
theorem msl_249 {κ : Nat → Nat} {τ : gf} {σ σ' : gs} {F : gf} {nu : gg} {k a b o n q : Nat} {d x : Int32} {w w2 : Int64} (hk : k < 4000) (ho : o < 2000) (hx : x = 0 ∨ x = 1) (hro : (Q_rowObject κ τ σ F nu (τ 3 k)).2.1 = σ') (h33 : σ' 33 = nI o) (hn : n ≤ 64) (hq : q + n ≤ 64) (hw : w.toInt = n) (hw2 : w2.toInt = q) :
    Q_lookSlice_249 κ τ σ F nu (nI k) (nI a) (nI b) d w x w2 = (0, σ', mt F k 3 (nI n) x (nI o) (fun j => if τ 22 o = 0 then (if 0 ≤ j ∧ j < n then bw (ee F (8000 + o) (q + j)) else 0) else 0), vp_updL nu k 0) := by
  have eN : (nI k).toNatClampNeg = k := nI_clamp (by omega)
  have eO : (nI o).toNatClampNeg = o := nI_clamp (by omega)
  have e32 : w.toInt32 = nI n := by
    apply Int32.toInt_inj.mp
    rw [n32 (by omega), nI_toInt (by omega)]; exact hw
  have e33 : w2.toInt32 = nI q := by
    apply Int32.toInt_inj.mp
    rw [n32 (by omega), nI_toInt (by omega)]; exact hw2
  have hft := fact_t (κ := κ) (τ := τ) (σ := σ') (F := F) (nu := nu) (k := k) (c := 3) (e := nI n) (x := x) (by omega) hx
  have h302 : ∀ F1 z, Q_lookSlice_302 κ τ σ F nu (nI k) (nI a) (nI b) d w x w2 F1 z = (0, σ', Au F1 12 k (nI o), vp_updL nu k 0) := by
    intro F1 z
    unfold Q_lookSlice_302
    rw [eN, hro, e32, hft, h33]
  have hf0 := fuel0
  unfold Q_lookSlice_249
  rw [eN, hro, e32, hft]
  by_cases h0 : τ 22 o = 0
  · simp only [if_pos h0]
    have h1 := eloop (k := k) (n := n) (F0 := mt F k 3 (nI n) x (-1) (fun _ => 0)) (h := fun j => bw (ee F (8000 + o) (q + j))) (T := fun fuel F' i => Q_lookSlice_255 κ τ σ F nu (nI k) (nI a) (nI b) d w x w2 fuel F' (nI i)) (fin := fun F' => ((0 : Int32), σ', Au F' 12 k (nI o), vp_updL nu k 0)) hn (fun fuel F' i hi hF => by
        have hA := agr_mt (j := q + i) hF (show ¬ 8000 + o = k by omega)
        show (if 0 ≤ lg_cmp ((nI i).toInt64) w then _ else if τ 22 (((Q_rowObject κ τ σ F nu (τ 3 (nI k).toNatClampNeg)).2.1) 33).toNatClampNeg = 0 then _ else _) = _
        rw [if_neg (by rw [lg_ge, w_i, nI_toInt (by omega), hw]; omega), eN, hro, h33, eO, if_pos h0, e32, e33, hft, n8, nI_add, el_n (by omega) (by omega), hA.2 (by omega), se_w (by omega) (by omega), ← nI_succ]) (fun fuel F' hF => by
        show (if 0 ≤ lg_cmp ((nI n).toInt64) w then _ else _) = _
        rw [if_pos (by rw [lg_ge, w_i, nI_toInt (by omega), hw]; omega), h302]) n 0 ((2147483647 - (0 : Int32).toInt).toNat + 1) (mt F k 3 (nI n) x (-1) (fun _ => 0)) (by omega) (by omega) agr.rf
    refine Eq.trans h1 ?_
    rw [mt_se hn, mt_mn]
  · simp only [if_neg h0]
    show (if _ then _ else if τ 22 (((Q_rowObject κ τ σ F nu (τ 3 (nI k).toNatClampNeg)).2.1) 33).toNatClampNeg = 0 then _ else _) = _
    rw [eN, hro, h33, eO, if_neg h0, h302, mt_mn]
    split <;> rfl
theorem k_slice {κ κr : Nat → Nat} {φ0 : gF} {ψ : gG} {τ : gf} {σ : Nat → Int32} {F : gf} {nu : gg} {k n : Nat} (hC : CK κ) (hR : RS κ φ0 ψ κr τ F nu) (hk : k < κ 0) (h1 : τ 2 k = 23 ∨ τ 2 k = 24) (hn : τ 4 k = nI n) (hn2 : n ≤ 4000) (hch : n = 2 → 1 ≤ k ∧ CH κ φ0 ψ F nu k (k - 1) ∧ ∃ a, τ 5 (k - 1) - 1 = nI a ∧ CH κ φ0 ψ F nu k a) :
    LK2 (κ 10) φ0 ψ F nu k (P_Meanings_slice κ (ct φ0 k (-1) 0 (-1) 0 0) ψ (nI k)) (if τ 4 k = 2 then Q_lookSlice κr τ σ F nu (nI k) (Q_child κr τ σ F nu (nI k) 1) (Q_child κr τ σ F nu (nI k) 0) else (11, σ, F, nu)) := by
  have hC' := hC
  obtain ⟨c0, c1, c2, c3, c4, c5, c6, c7, c8⟩ := hC'
  have hR' := hR
  obtain ⟨hN, hTr, hNm, hW, hTy, hO⟩ := hR'
  obtain ⟨t1, t2, t3, t4⟩ := hTr.2.1 k hk
  obtain ⟨v, hv, ev⟩ := hTr.2.2 k hk (by rcases h1 with h | h <;> simp [h])
  have eN : (nI k).toNatClampNeg = k := nI_clamp (by omega)
  have L7 : k < κ 7 := by omega
  have hft : ∀ (c m : Int32) (φ' : gF) (σ' : gs), FrC (κ 10) k φ0 ψ φ' ψ → ¬ c = 0 → 0 < m → LK2 (κ 10) φ0 ψ F nu k (c, φ', ψ) (m, σ', F, nu) := fun c m φ' σ' h0 h2 h3 => nf_f h0 frM.rf h2 h3
  obtain ⟨σ', hf, _, hob⟩ := obj_at (σ := σ) (c := -1) (e := 0) (m := -1) (n := 0) (x := 0) hC hR hk hv ev
  unfold P_Meanings_slice
  rw [ct_o (show ¬ 2 = 9 by decide), pt_2 hk (by omega), t3, hn]
  by_cases hn1 : n = 2
  · subst hn1
    obtain ⟨hk1, hb, a, ea, ha⟩ := hch rfl
    have hak := ha.1
    have hbk := hb.1
    obtain ⟨u1, u2, u3, u4⟩ := hTr.2.1 (k - 1) (by omega)
    have eP : nI k - 1 = nI (k - 1) := j_pred hk1
    have eL : P_Trees_leftOfTwo (κ 0) (κ 1) (κ 11) (φ0 2) (nI k) = nI a := by
      unfold P_Trees_leftOfTwo
      rw [eP, pt_3 (by omega) (by omega), u4, ea]
    have eA : (nI a).toNatClampNeg = a := nI_clamp (by omega)
    have eB : (nI (k - 1)).toNatClampNeg = k - 1 := nI_clamp (by omega)
    rw [if_pos (show nI 2 = 2 from rfl), if_pos (show nI 2 = 2 from rfl), qc_0 hk1, qc_1 hk1 (by omega), ea, eL, eP]
    have hro := ro_t (κ := κr) (τ := τ) (σ := σ) (F := F) (nu := nu) hf
    unfold Q_lookSlice
    rw [eN, ev, hro]
    rcases hob with ⟨w1, w2⟩ | ⟨w1, w2, w3, w4⟩ | ⟨o, t, ho, ht, w1, w2, w3, w4, w5⟩
    · rw [w1, if_neg (by decide)]; simp (decide := true) only [if_pos w2, reduceIte]; exact hft _ _ _ _ ct_fr (by decide) (by decide)
    · rw [w1, if_pos rfl, w4, if_pos rfl]; simp (decide := true) only [if_neg w2, if_neg w3, reduceIte]; exact hft _ _ _ _ ct_fr (by decide) (by decide)
    · have ho2 := hO.2.1
      have ho1 := hO.1
      have ht1 := hTy.1
      have ht2 := hTy.2.2.1
      obtain ⟨y1, y2, y3⟩ := ob_r (L := κ 14) hO ho
      obtain ⟨z1, z2, z3, z4, z5, z6⟩ := ty_r (L := κ 13) hTy ht
      obtain ⟨a1, a2, a3, a4, a5, a6, a7⟩ := hTy.2.2.2 t ht
      obtain ⟨b1, b2, b3, t', ht', et', b4⟩ := hO.2.2 o ho
      obtain rfl : t' = t := by rw [w5] at et'; exact ((j_eq (by omega) (by omega)).mp et').symm
      have eO : (nI o).toNatClampNeg = o := nI_clamp (by omega)
      have eT : (nI t').toNatClampNeg = t' := nI_clamp (by omega)
      rw [w1, if_pos rfl, w4, if_neg (neg1 (by omega))]
      have hir : ∀ φ', φ' 5 = φ0 5 → φ' 4 = φ0 4 → P_Meanings_isRow κ φ' ψ (nI o) = if τ 16 t' = 3 then 1 else 0 := by
        intro φ' h5 h4; unfold P_Meanings_isRow; rw [h5, h4, y2, w5, z1]
      have hic : ∀ φ', φ' 5 = φ0 5 → P_Meanings_isConstant κ φ' ψ (nI o) = if τ 22 o = 0 then 1 else 0 := by
        intro φ' h5; unfold P_Meanings_isConstant; rw [h5, y1]
      have hst : (if σ' 32 = 5 then ((1 : Int32), σ', F, nu) else if σ' 32 = 1 then (if τ 16 (τ 23 (σ' 33).toNatClampNeg).toNatClampNeg = 3 then (0, σ', F, nu) else (2, σ', F, nu)) else (2, σ', F, nu)) = if τ 16 t' = 3 then (0, σ', F, nu) else (2, σ', F, nu) := by
        simp (decide := true) only [w2, w3, eO, w5, eT, reduceIte]
      rw [hst, hir _ (ct_o (by decide)) (ct_o (by decide)), ch_0 hC hk ha, ch_0 hC hk hb, ch_4 hC hk ha, ch_4 hC hk hb, hic _ (ct_o (by decide)), eA, eB]
      by_cases q3 : τ 16 t' = 3
      · obtain ⟨l, r, m, d1, d2, d3, d4, d5, d6, d7, d8⟩ := a7 q3
        have hd01 : τ 20 t' = 0 ∨ τ 20 t' = 1 := by rcases d8 with d | d <;> simp [d.1]
        simp (decide := true) only [if_pos q3, reduceIte]
        by_cases ca : F 9 a = 2
        · by_cases cb : F 9 (k - 1) = 2
          · simp only [if_pos ca, if_pos cb]
            have hsl : (if (if τ 22 o = 0 then (1 : Int32) else 0) = 0 then P_Meanings_slice_129 κ (ct φ0 k (-1) 0 (-1) 0 0) ψ (nI k) (nI o) (nI (k - 1)) (nI a) 0 3 (nI k) else if F 11 a = 0 then P_Meanings_slice_129 κ (ct φ0 k (-1) 0 (-1) 0 0) ψ (nI k) (nI o) (nI (k - 1)) (nI a) 0 3 (nI k) else if F 11 (k - 1) = 0 then P_Meanings_slice_129 κ (ct φ0 k (-1) 0 (-1) 0 0) ψ (nI k) (nI o) (nI (k - 1)) (nI a) 0 3 (nI k) else P_Meanings_slice_130 κ (ct φ0 k (-1) 0 (-1) 0 0) ψ (nI k) (nI o) (nI (k - 1)) (nI a) 1 0 3 (nI k)) = P_Meanings_slice_130 κ (ct φ0 k (-1) 0 (-1) 0 0) ψ (nI k) (nI o) (nI (k - 1)) (nI a) (if τ 22 o = 0 then bx (F 11 a) (F 11 (k - 1)) else 0) 0 3 (nI k) := by
              unfold P_Meanings_slice_129 bx
              by_cases x0 : τ 22 o = 0
              · by_cases x1 : F 11 a = 0
                · simp (decide := true) only [x0, x1, reduceIte]
                · by_cases x2 : F 11 (k - 1) = 0 <;> simp (decide := true) only [x0, x1, x2, reduceIte]
              · simp (decide := true) only [x0, reduceIte]
            rw [hsl]
            unfold P_Meanings_slice_130
            simp only [ct_note L7 c2, ct_sm L7 c2, ch_4 hC hk ha, ch_4 hC hk hb, ch_3 hC hk ha, ch_3 hC hk hb]
            by_cases x1 : F 11 a = 0
            · simp only [if_pos x1]; exact hft _ _ _ _ ct_fr (by decide) (by decide)
            · simp only [if_neg x1]
              by_cases x2 : F 11 (k - 1) = 0
              · simp only [if_pos x2]; exact hft _ _ _ _ ct_fr (by decide) (by decide)
              · simp only [if_neg x2]
                have xa : F 11 a = 1 := (ch_x ha).resolve_left x1
                have xb : F 11 (k - 1) = 1 := (ch_x hb).resolve_left x2
                obtain ⟨n1, n2⟩ := ch_n ha xa ca
                obtain ⟨n3, n4⟩ := ch_n hb xb cb
                have bb1 := i32_b (φ0 9 3 a)
                have bb2 := i32_b (φ0 9 3 (k - 1))
                have frA := fr_t (L := κ 13) (p := φ0 9 3 a) hTy ht d1 d2 d3 d4 d5 d7 hd01 n2
                have frB := fr_t (L := κ 13) (p := φ0 9 3 (k - 1)) hTy ht d1 d2 d3 d4 d5 d7 hd01 n4
                have wA := wi_t (κ := κr) (σ := σ') (F := F) (nu := nu) (w := nu a) (show t' < 1000 by omega) d1 d2 d4 d5 d6 d8
                have wB := wi_t (κ := κr) (σ := σ') (F := F) (nu := nu) (w := nu (k - 1)) (show t' < 1000 by omega) d1 d2 d4 d5 d6 d8
                rw [← n1] at wA
                rw [← n3] at wB
                -- the class's cut
                have hk0 : P_Trees_kindOf (κ 0) (κ 1) (κ 11) (φ0 2) (nI k) = τ 2 k := (pt_0 hk (by omega)).trans t1
                unfold P_Meanings_cut
                simp only [ct_o (show ¬ 2 = 9 by decide), ct_o (show ¬ 5 = 9 by decide), ct_o (show ¬ 4 = 9 by decide), hk0, y2, w5, frA, frB, z5]
                generalize hDA : (if τ 20 t' = 0 then (r : Int) - (φ0 9 3 a).toInt else (φ0 9 3 a).toInt - r) = dA at *
                generalize hDB : (if τ 20 t' = 0 then (r : Int) - (φ0 9 3 (k - 1)).toInt else (φ0 9 3 (k - 1)).toInt - r) = dB at *
                have hro1 : (Q_rowObject κr τ σ F nu (τ 3 k)).2.1 = σ' := by
                  rw [ev, hro, hst, if_pos q3]
                have h22 : τ 22 (σ' 33).toNatClampNeg = τ 22 o := by rw [w3, eO]
                have h23 : τ 23 (σ' 33).toNatClampNeg = nI t' := by rw [w3, eO, w5]
                have hG : ∀ d : Int32, (d = 1 ∧ τ 2 k = 24) ∨ (d = 0 ∧ τ 2 k = 23) → Q_lookSlice_93 κr τ σ F nu (nI k) (nI a) (nI (k - 1)) d = if d = τ 20 t' then (if lg_cmp (if d = 0 then nu (k - 1) - nu a + 1 else nu a - nu (k - 1) + 1) 1 < 0 then (6, σ', F, nu) else if Q_within κr τ σ' F nu (nI t') (nu a) = 0 then (6, σ', F, nu) else if Q_within κr τ σ' F nu (nI t') (nu (k - 1)) = 0 then (6, σ', F, nu) else Q_lookSlice_249 κr τ σ F nu (nI k) (nI a) (nI (k - 1)) d (if d = 0 then nu (k - 1) - nu a + 1 else nu a - nu (k - 1) + 1) (if τ 22 o = 0 then 1 else 0) (if d = 0 then (nI r).toInt64 - nu (k - 1) else nu (k - 1) - (nI r).toInt64)) else (6, σ', F, nu) := by
                  intro d hd
                  have hnb : ∀ e x, x = 0 ∨ x = 1 → (Q_fact κr τ σ' F nu (nI k) 3 e x).2.2 (k - 1) = nu (k - 1) := by
                    intro e x hx'; rw [fact_t (by omega) hx']; exact (upl_a).trans (if_neg (by omega))
                  unfold Q_lookSlice_93 Q_lookSlice_133 Q_lookSlice_208
                  rw [eN, eA, eB, hro1]
                  simp only [h22, h23, eT, d2]
                  rcases hd with ⟨rfl, _⟩ | ⟨rfl, _⟩
                  · simp (decide := true) only [reduceIte, hnb _ 1 (Or.inr rfl), hnb _ 0 (Or.inl rfl)]
                    by_cases q : τ 22 o = 0 <;> simp only [q, reduceIte]
                  · simp (decide := true) only [reduceIte, hnb _ 1 (Or.inr rfl), hnb _ 0 (Or.inl rfl)]
                    by_cases q : τ 22 o = 0 <;> simp only [q, reduceIte]
                have hmain : ∀ (X0 d : Int32), (d = 1 ∧ τ 2 k = 24) ∨ (d = 0 ∧ τ 2 k = 23) → LK2 (κ 10) φ0 ψ F nu k (P_Meanings_cut_62 κ (ct φ0 k 3 0 (nI o) 0 X0) ψ (nI k) (nI o) (φ0 9 3 a) (φ0 9 3 (k - 1)) (nI t') (if 0 ≤ dA ∧ dA < m then nI dA.toNat else -1) (if 0 ≤ dB ∧ dB < m then nI dB.toNat else -1) d (τ 20 t')) (Q_lookSlice_93 κr τ σ F nu (nI k) (nI a) (nI (k - 1)) d) := by
                  intro X0 d hd
                  rw [hG d hd]
                  have hd1 : d = 0 ∨ d = 1 := by rcases hd with h | h <;> simp [h.1]
                  have hfr6 : LK2 (κ 10) φ0 ψ F nu k (6, ct φ0 k 3 0 (nI o) 0 X0, ψ) (6, σ', F, nu) := hft _ _ _ _ ct_fr (by decide) (by decide)
                  have hx : (if τ 22 o = 0 then (1 : Int32) else 0) = 0 ∨ (if τ 22 o = 0 then (1 : Int32) else 0) = 1 := by by_cases q : τ 22 o = 0 <;> simp [q]
                  have hx1' : (if τ 22 o = 0 then (1 : Int32) else 0) = 1 → τ 22 o = 0 := by
                    intro h9
                    by_cases q : τ 22 o = 0
                    · exact q
                    · rw [if_neg q] at h9; exact absurd h9 (by decide)
                  unfold P_Meanings_cut_62 P_Meanings_cut_70
                  simp only [ct_note L7 c2, hic _ (ct_o (show ¬ 5 = 9 by decide))]
                  generalize (if τ 22 o = 0 then (1 : Int32) else 0) = xo at hx hx1' ⊢
                  rw [fx1 hx]
                  have hlenG : d = τ 20 t' → (if d = 0 then nu (k - 1) - nu a + 1 else nu a - nu (k - 1) + 1).toInt = dA - dB + 1 := by
                    intro hdd
                    have e1 : (nu (k - 1) - nu a + 1).toInt = (nu (k - 1)).toInt - (nu a).toInt + 1 := by
                      have e0 : (nu (k - 1) - nu a).toInt = (nu (k - 1)).toInt - (nu a).toInt := by rw [Int64.toInt_sub]; exact Int.bmod_eq_of_le (by omega) (by omega)
                      rw [Int64.toInt_add, e0, show (1 : Int64).toInt = 1 from rfl]
                      exact Int.bmod_eq_of_le (by omega) (by omega)
                    have e2 : (nu a - nu (k - 1) + 1).toInt = (nu a).toInt - (nu (k - 1)).toInt + 1 := by
                      have e0 : (nu a - nu (k - 1)).toInt = (nu a).toInt - (nu (k - 1)).toInt := by rw [Int64.toInt_sub]; exact Int.bmod_eq_of_le (by omega) (by omega)
                      rw [Int64.toInt_add, e0, show (1 : Int64).toInt = 1 from rfl]
                      exact Int.bmod_eq_of_le (by omega) (by omega)
                    rcases hd1 with h | h
                    · rw [if_pos h, e1, ← hDA, ← hDB, if_pos (hdd.symm.trans h), if_pos (hdd.symm.trans h)]; omega
                    · rw [if_neg (by rw [h]; decide), e2, ← hDA, ← hDB, if_neg (by rw [← hdd, h]; decide), if_neg (by rw [← hdd, h]; decide)]; omega
                  have hlastG : d = τ 20 t' → (if d = 0 then (nI r).toInt64 - nu (k - 1) else nu (k - 1) - (nI r).toInt64).toInt = dB := by
                    intro hdd
                    have eR : (nI r).toInt64.toInt = r := by rw [w_i, nI_toInt d5]
                    rcases hd1 with h | h
                    · rw [if_pos h, Int64.toInt_sub, eR, ← hDB, if_pos (hdd.symm.trans h), n3]; exact Int.bmod_eq_of_le (by omega) (by omega)
                    · rw [if_neg (by rw [h]; decide), Int64.toInt_sub, eR, ← hDB, if_neg (by rw [← hdd, h]; decide), n3]; exact Int.bmod_eq_of_le (by omega) (by omega)
                  generalize (if d = 0 then nu (k - 1) - nu a + 1 else nu a - nu (k - 1) + 1) = LN at hlenG ⊢
                  generalize (if d = 0 then (nI r).toInt64 - nu (k - 1) else nu (k - 1) - (nI r).toInt64) = LL at hlastG ⊢
                  by_cases hdd : d = τ 20 t'
                  · rw [if_pos hdd.symm, if_neg (show ¬ (1 : Int32) = 0 by decide), if_pos hdd]
                    by_cases qA : 0 ≤ dA ∧ dA < m
                    · by_cases qB : 0 ≤ dB ∧ dB < m
                      · have nwA : ¬ Q_within κr τ σ' F nu (nI t') (nu a) = 0 := by rw [wA]; exact fun h9 => h9 qA
                        have nwB : ¬ Q_within κr τ σ' F nu (nI t') (nu (k - 1)) = 0 := by rw [wB]; exact fun h9 => h9 qB
                        rw [if_pos qA, if_pos qB, if_neg (neg1 (by omega)), if_neg (neg1 (by omega)), if_neg nwA, if_neg nwB]
                        -- lengths
                        have hlen := hlenG hdd
                        have hlast := hlastG hdd
                        by_cases qL : dB.toNat ≤ dA.toNat
                        · rw [if_pos (by rw [j_le (by omega) (by omega)]; exact qL), if_neg (show ¬ lg_cmp LN 1 < 0 by rw [lg_lt, hlen, show (1 : Int64).toInt = 1 from rfl]; omega)]
                          have eLn : nI dA.toNat - nI dB.toNat + 1 = nI (dA.toNat - dB.toNat + 1) := by
                            have e5 : nI dA.toNat - nI dB.toNat = nI (dA.toNat - dB.toNat) := by
                              have := nI_add (dA.toNat - dB.toNat) dB.toNat
                              rw [show dA.toNat - dB.toNat + dB.toNat = dA.toNat by omega] at this
                              rw [← this, Int32.add_sub_cancel]
                            rw [e5, ← nI_succ]
                          rw [msl_249 (n := dA.toNat - dB.toNat + 1) (q := dB.toNat) (by omega) (by omega) hx hro1 w3 (by omega) (by omega) (by rw [hlen]; omega) (by rw [hlast]; omega), eLn]
                          obtain ⟨g', e1, e2, e3⟩ := cc_127 (κ := κ) (φ := ct φ0 k 3 (nI (dA.toNat - dB.toNat + 1)) (nI o) 0 xo) (ψ := ψ) (k := k) (o := o) (n := dA.toNat - dB.toNat + 1) (q := dB.toNat) (i3 := φ0 9 3 a) (i4 := φ0 9 3 (k - 1)) (i5 := nI t') (i6 := nI dA.toNat) (i8 := 1) hC hk ho (by omega)
                          rw [e1]
                          refine nf_d e2 (lsv_3 (E := dA.toNat - dB.toNat + 1) (by omega) (by omega) rfl hx (fun hx1 j hj => ?_))
                          have h220 : τ 22 o = 0 := hx1' hx1
                          obtain ⟨p1, p2, p3, p4⟩ := b4 h220
                          have hel := (p4.2.2.2.2 rfl).2.2 q3 m (dB.toNat + j) (by unfold ext; rw [if_pos q3]; exact d3) d7 (by omega)
                          rw [if_pos h220, if_pos (show 0 ≤ j ∧ j < dA.toNat - dB.toNat + 1 from ⟨Nat.zero_le _, hj⟩), e3 j hj, bw_n (m9 hel.2)]
                          exact hel
                        · rw [if_neg (by rw [j_le (by omega) (by omega)]; exact qL), if_pos (show lg_cmp LN 1 < 0 by rw [lg_lt, hlen, show (1 : Int64).toInt = 1 from rfl]; omega)]
                          exact hfr6
                      · have nwB : Q_within κr τ σ' F nu (nI t') (nu (k - 1)) = 0 := by rw [wB]; exact qB
                        rw [if_pos qA, if_neg qB, if_neg (neg1 (by omega)), if_pos rfl, if_pos nwB]
                        split
                        · exact hfr6
                        · split <;> exact hfr6
                    · have nwA : Q_within κr τ σ' F nu (nI t') (nu a) = 0 := by rw [wA]; exact qA
                      rw [if_neg qA, if_pos rfl, if_pos nwA]
                      split <;> exact hfr6
                  · rw [if_neg (fun h => hdd h.symm), if_pos trivial, if_neg hdd]
                    exact hfr6
                rcases h1 with h | h
                · have := hmain (if (if τ 22 o = 0 then bx (F 11 a) (F 11 (k - 1)) else 0) = 0 then 0 else 1) 0 (Or.inr ⟨rfl, h⟩)
                  simp (decide := true) only [h, reduceIte] at this ⊢
                  exact this
                · have := hmain (if (if τ 22 o = 0 then bx (F 11 a) (F 11 (k - 1)) else 0) = 0 then 0 else 1) 1 (Or.inl ⟨rfl, h⟩)
                  simp (decide := true) only [h, reduceIte] at this ⊢
                  exact this
          · simp only [if_pos ca, if_neg cb]; exact hft _ _ _ _ ct_fr (by decide) (by decide)
        · simp only [if_neg ca]; exact hft _ _ _ _ ct_fr (by decide) (by decide)
      · simp (decide := true) only [if_neg q3, reduceIte]; exact hft _ _ _ _ ct_fr (by decide) (by decide)
  · have hne : ¬ nI n = 2 := by rw [show (2 : Int32) = nI 2 from rfl, j_eq (by omega) (by omega)]; exact hn1
    rw [if_neg hne, if_neg hne]; exact hft _ _ _ _ ct_fr (by decide) (by decide)
-- APPLY of functions
theorem fun_at {κ κr : Nat → Nat} {φ0 : gF} {ψ : gG} {τ : gf} {σ : Nat → Int32} {F : gf} {nu : gg} {v : Nat} (hC : CK κ) (hR : RS κ φ0 ψ κr τ F nu) (hv : v < 10000) :
    ∃ σ', Q_find κr τ σ F nu (nI v) = (σ', F, nu) ∧
    ((P_Names_find (κ 2) (κ 3) (κ 12) (φ0 3) (nI v) = -1 ∧ σ' 32 = 5) ∨ ∃ e, P_Names_find (κ 2) (κ 3) (κ 12) (φ0 3) (nI v) = nI e ∧ e < κ 2 ∧
     ((P_Names_sortOf (κ 2) (κ 3) (κ 12) (φ0 3) (nI e) = 5 ∧ σ' 32 = 4 ∧ P_Names_numberOf (κ 2) (κ 3) (κ 12) (φ0 3) (nI e) = σ' 33 ∧ (σ' 33 = 8 ∨ σ' 33 = 9 ∨ σ' 33 = 10 ∨ σ' 33 = 11)) ∨ (¬ P_Names_sortOf (κ 2) (κ 3) (κ 12) (φ0 3) (nI e) = 5 ∧ ¬ σ' 32 = 4 ∧ ¬ σ' 32 = 5))) := by
  obtain ⟨hN, hTr, hNm, hW, hTy, hO⟩ := hR
  obtain ⟨σ', hf, s1, s2, s3, s4⟩ := qf_find (κ := κr) (τ := τ) (σ := σ) (F := F) (nu := nu) (x := nI v) hNm.2.2.1
  refine ⟨σ', hf, ?_⟩
  rcases nm_rel (κ := κ) (κr := κr) (f := φ0 3) (τ := τ) (v := v) hN hNm hv with ⟨e1, e2⟩ | ⟨e, he, e1, e2⟩
  · exact Or.inl ⟨e1, s1.trans e2⟩
  · right
    refine ⟨e, e1, he, ?_⟩
    rw [(pn_1 he hN).1, (pn_1 he hN).2.1]
    rw [← s1, ← s2, ← s3] at e2
    rcases e2 with ⟨q1, q2, q3⟩ | ⟨q1, q2, q3⟩ | ⟨q1, q2, q3, q4⟩ | ⟨q1, q2⟩ | ⟨q1, q2, q3, q4⟩ | ⟨q1, q2⟩
    · rw [q1, q2]; exact Or.inr ⟨by decide, by decide, by decide⟩
    · rw [q1, q2]; exact Or.inr ⟨by decide, by decide, by decide⟩
    · rw [q1, q2]; exact Or.inr ⟨by decide, by decide, by decide⟩
    · rw [q1, q2]; exact Or.inr ⟨by decide, by decide, by decide⟩
    · exact Or.inl ⟨q1, q2, q3, q4⟩
    · rw [q1, q2]; exact Or.inr ⟨by decide, by decide, by decide⟩
theorem k_func {κ κr : Nat → Nat} {φ0 : gF} {ψ : gG} {τ : gf} {σ : Nat → Int32} {F : gf} {nu : gg} {k n : Nat} {x : Int32} (hC : CK κ) (hR : RS κ φ0 ψ κr τ F nu) (hWS : ∀ o, κ 5 ≤ o → o < 2000 → ¬ τ 22 o = 1) (hk : k < κ 0) (hx : x = 8 ∨ x = 9 ∨ x = 10 ∨ x = 11) (hn : τ 4 k = nI n) (hn2 : n ≤ 4000) (hch1 : n = 1 ∨ n = 2 → 1 ≤ k ∧ CH κ φ0 ψ F nu k (k - 1)) (hch2 : n = 2 → ∃ a, τ 5 (k - 1) - 1 = nI a ∧ CH κ φ0 ψ F nu k a) :
    LK2 (κ 10) φ0 ψ F nu k (P_Meanings_applyFunction κ (ct φ0 k (-1) 0 (-1) 0 0) ψ (nI k) x) (Q_lookFunction κr τ σ F nu (nI k) x) := by
  have hC' := hC
  obtain ⟨c0, c1, c2, c3, c4, c5, c6, c7, c8⟩ := hC'
  have hR' := hR
  obtain ⟨hN, hTr, hNm, hW, hTy, hO⟩ := hR'
  obtain ⟨t1, t2, t3, t4⟩ := hTr.2.1 k hk
  have eN : (nI k).toNatClampNeg = k := nI_clamp (by omega)
  have L7 : k < κ 7 := by omega
  have hft : ∀ (c m : Int32) (φ' : gF) (σ' : gs), FrC (κ 10) k φ0 ψ φ' ψ → ¬ c = 0 → 0 < m → LK2 (κ 10) φ0 ψ F nu k (c, φ', ψ) (m, σ', F, nu) := fun c m φ' σ' h0 h2 h3 => nf_f h0 frM.rf h2 h3
  have hco : P_Trees_countOf (κ 0) (κ 1) (κ 11) (φ0 2) (nI k) = nI n := (pt_2 hk (by omega)).trans (t3.trans hn)
  have heta : ∀ r : Int32 × gF × gG, (r.1, r.2.1, r.2.2) = r := fun _ => rfl
  unfold P_Meanings_applyFunction P_Meanings_applyFunction_30 Q_lookFunction Q_lookFunction_17
  simp only [ct_sm L7 c2, ct_o (show ¬ 2 = 9 by decide), hco, eN, hn, heta]
  by_cases h11 : x = 11
  · -- bits
    subst h11
    simp (decide := true) only [reduceIte]
    by_cases hn1 : n = 2
    · subst hn1
      obtain ⟨hk1, hb⟩ := hch1 (Or.inr rfl)
      obtain ⟨a, ea, ha⟩ := hch2 rfl
      have hak := ha.1
      have hbk := hb.1
      obtain ⟨u1, u2, u3, u4⟩ := hTr.2.1 (k - 1) (by omega)
      have eP : nI k - 1 = nI (k - 1) := j_pred hk1
      have eL : P_Trees_leftOfTwo (κ 0) (κ 1) (κ 11) (φ0 2) (nI k) = nI a := by
        unfold P_Trees_leftOfTwo
        rw [eP, pt_3 (by omega) (by omega), u4, ea]
      have eA : (nI a).toNatClampNeg = a := nI_clamp (by omega)
      have eB : (nI (k - 1)).toNatClampNeg = k - 1 := nI_clamp (by omega)
      have xa := ch_x ha
      unfold P_Meanings_bits P_Meanings_bits_64 P_Meanings_bits_65 P_Meanings_bits_84
      simp (decide := true) only [reduceIte, show nI 2 = (2 : Int32) from rfl, eL, eP, qc_0 hk1, qc_1 hk1 (show k < 4000 by omega), ea, eA, eB, ch_0 hC hk ha, ch_0 hC hk hb, ch_4 hC hk hb, ch_4 hC hk ha, ch_3 hC hk hb, ch_3 hC hk ha, ct_note L7 c2]
      by_cases ca : F 9 a = 2
      · by_cases cb : F 9 (k - 1) = 2
        · simp only [if_pos ca, if_pos cb]
          by_cases xb : F 11 (k - 1) = 0
          · unfold Q_lookFunction_278
            rw [qc_0 hk1, eB]
            simp only [if_pos xb]; exact hft _ _ _ _ ct_fr (by decide) (by decide)
          · simp only [if_neg xb]
            have xb1 : F 11 (k - 1) = 1 := (ch_x hb).resolve_left xb
            obtain ⟨n3, n4⟩ := ch_n hb xb1 cb
            have bb := i32_b (φ0 9 3 (k - 1))
            have z1 : (1 : Int64).toInt = 1 := rfl
            have z64 : (64 : Int64).toInt = 64 := rfl
            have y1 : (1 : Int32).toInt = 1 := rfl
            have y64 : (64 : Int32).toInt = 64 := rfl
            by_cases q1 : φ0 9 3 (k - 1) < 1
            · have q1' : lg_cmp (nu (k - 1)) 1 < 0 := by rw [lg_lt, z1]; rw [Int32.lt_iff_toInt_lt, y1] at q1; omega
              simp only [if_pos q1, if_pos q1']; exact hft _ _ _ _ ct_fr (by decide) (by decide)
            · have q1' : ¬ lg_cmp (nu (k - 1)) 1 < 0 := by rw [lg_lt, z1]; rw [Int32.lt_iff_toInt_lt, y1] at q1; omega
              simp only [if_neg q1, if_neg q1']
              by_cases q2 : 64 < φ0 9 3 (k - 1)
              · have q2' : ¬ lg_cmp (nu (k - 1)) 64 ≤ 0 := by rw [lg_le, z64]; rw [Int32.lt_iff_toInt_lt, y64] at q2; omega
                simp only [if_pos q2, if_neg q2']; exact hft _ _ _ _ ct_fr (by decide) (by decide)
              · have q2' : lg_cmp (nu (k - 1)) 64 ≤ 0 := by rw [lg_le, z64]; rw [Int32.lt_iff_toInt_lt, y64] at q2; omega
                simp only [if_neg q2, if_pos q2']
                have hE : ∃ E, 1 ≤ E ∧ E ≤ 64 ∧ φ0 9 3 (k - 1) = nI E ∧ (nu (k - 1)).toInt32 = nI E := by
                  rw [Int32.lt_iff_toInt_lt] at q1 q2
                  refine ⟨(φ0 9 3 (k - 1)).toInt.toNat, by omega, by omega, ?_, ?_⟩
                  · apply Int32.toInt_inj.mp; rw [nI_toInt (by omega)]; omega
                  · apply Int32.toInt_inj.mp; rw [n32 (by omega), nI_toInt (by omega)]; omega
                obtain ⟨E, hE1, hE2, hE3, hE4⟩ := hE
                unfold Q_lookFunction_278 Q_lookFunction_331
                simp (decide := true) only [qc_0 hk1, qc_1 hk1 (show k < 4000 by omega), ea, eA, eB, eN, hE3, hE4, if_neg xb, fact_t (κ := κr) (τ := τ) (σ := σ) (F := F) (nu := nu) (k := k) (c := 3) (e := nI E) (show k < 10000 by omega) xa, fx1 xa, reduceIte]
                have h11a : (mt F k 3 (nI E) (F 11 a) (-1) (fun _ => 0)) 11 a = F 11 a := mt_a (q := 11) (i := a) (r := fun _ => 0) (by decide) (by omega)
                have hna : vp_updL nu k 0 a = nu a := by rw [upl_a, if_neg (by omega)]
                rw [h11a, mb_bits (by omega) hE2 mt_k.2.1, hna]
                dsimp only
                rw [mt_se hE2, mt_mn, mt_mn]
                by_cases xa0 : F 11 a = 0
                · rw [if_pos xa0, if_pos xa0]
                  exact nf_d0 (lsv_3 hE1 hE2 rfl xa (fun h9 => absurd (xa0.symm.trans h9) (by decide)))
                · rw [if_neg xa0, if_neg xa0]
                  have xa1 : F 11 a = 1 := xa.resolve_left xa0
                  obtain ⟨n1, n2⟩ := ch_n ha xa1 ca
                  rw [w_eq.mpr n1]
                  have hB := sb_row (M := κ 10) (s := k) (E := E) (g := ψ 10) (v := nu a) c4 (by omega) hE2
                  refine nf_d hB.1 (lsv_3 hE1 hE2 rfl xa (fun _ j hj => ?_))
                  rw [if_pos (show 0 ≤ j ∧ j < E from ⟨Nat.zero_le _, hj⟩)]
                  exact ⟨hB.2 j hj, n239 _⟩
        · simp only [if_pos ca, if_neg cb]; exact hft _ _ _ _ ct_fr (by decide) (by decide)
      · simp only [if_neg ca]; exact hft _ _ _ _ ct_fr (by decide) (by decide)
    · have hne : ¬ nI n = 2 := by rw [show (2 : Int32) = nI 2 from rfl, j_eq (by omega) (by omega)]; exact hn1
      simp only [if_neg hne]; exact hft _ _ _ _ ct_fr (by decide) (by decide)
  · simp (decide := true) only [if_neg h11]
    by_cases hn1 : n = 1
    · subst hn1
      obtain ⟨hk1, hb⟩ := hch1 (Or.inl rfl)
      have hbk := hb.1
      obtain ⟨u1, u2, u3, u4⟩ := hTr.2.1 (k - 1) (by omega)
      have eP : nI k - 1 = nI (k - 1) := j_pred hk1
      have eB : (nI (k - 1)).toNatClampNeg = k - 1 := nI_clamp (by omega)
      have xb := ch_x hb
      simp (decide := true) only [reduceIte, show nI 1 = (1 : Int32) from rfl, eP, qc_0 hk1, eB]
      by_cases h10 : x = 10
      · -- number
        subst h10
        simp (decide := true) only [reduceIte]
        unfold P_Meanings_numberOfRow
        simp only [ch_0 hC hk hb, ch_4 hC hk hb, ch_1 hC hk hb, ct_note L7 c2, fx1 xb]
        by_cases cb : F 9 (k - 1) = 3
        · obtain ⟨E, hE1, hE2, hE⟩ := ch_E hb cb
          simp only [if_pos cb, hE, fact_t (κ := κr) (τ := τ) (σ := σ) (F := F) (nu := nu) (k := k) (c := 2) (e := 0) (show k < 10000 by omega) xb, mt_mn, ul2]
          have h11b : (mt F k 2 0 (F 11 (k - 1)) 3000 (fun _ => 0)) 11 (k - 1) = F 11 (k - 1) := mt_a (q := 11) (i := k - 1) (r := fun _ => 0) (by decide) (by omega)
          rw [h11b]
          by_cases xb0 : F 11 (k - 1) = 0
          · rw [if_pos xb0, if_pos xb0]
            exact nf_d0 (lsv_2 xb (fun h9 => absurd (xb0.symm.trans h9) (by decide)))
          · rw [if_neg xb0, if_neg xb0]
            have xb1 : F 11 (k - 1) = 1 := xb.resolve_left xb0
            have hr : ∀ j, j < E → rr (κ 10) (ψ 10) (k - 1) j = ee (mt F k 2 0 (F 11 (k - 1)) 3000 (fun _ => 0)) (k - 1) j := fun j hj => by rw [mt_ea (by omega) (by omega)]; exact (ch_r hb xb1 cb hE hE2 hj).1
            have h10b : (mt F k 2 0 (F 11 (k - 1)) 3000 (fun _ => 0)) 10 (k - 1) = nI E := by rw [mt_a (by decide) (by omega)]; exact hE
            have e2 := bits_same (κ := κr) (τ := τ) (σ := σ) (nu := vp_updL nu k 0) (M := κ 10) (a := k - 1) (g := ψ 10) (by omega) hE1 hE2 h10b hr
            have e1 := clear_same (κ := κr) (τ := τ) (σ := σ) (nu := vp_updL nu k (Q_numberOf κr τ σ (mt F k 2 0 (F 11 (k - 1)) 3000 (fun _ => 0)) (vp_updL nu k 0) (nI (k - 1)))) (M := κ 10) (a := k - 1) (g := ψ 10) (by omega) hE2 h10b hr
            rw [e2]
            unfold Q_lookFunction_205
            simp only [qc_0 hk1, eB, eN, fact_t (κ := κr) (τ := τ) (σ := σ) (F := F) (nu := nu) (k := k) (c := 2) (e := 0) (show k < 10000 by omega) xb, mt_mn, ul2]
            have h9 : ∀ v, LK2 (κ 10) φ0 ψ F nu k (9, ct φ0 k 2 0 3000 0 (F 11 (k - 1)), ψ) (9, σ, mt F k 2 0 (F 11 (k - 1)) 3000 (fun _ => 0), vp_updL nu k v) := fun v => nf_f ct_fr mt_fr (by decide) (by decide)
            generalize hV : Q_numberOf κr τ σ (mt F k 2 0 (F 11 (k - 1)) 3000 (fun _ => 0)) (vp_updL nu k 0) (nI (k - 1)) = V at *
            by_cases q1 : P_Rows_isClear (κ 10) (ψ 10) (nI (k - 1)) (nI E) = 0
            · rw [if_pos q1]; rw [e1] at q1; rw [if_pos q1]; exact h9 _
            · rw [if_neg q1]; rw [e1] at q1; rw [if_neg q1]
              by_cases q2 : lg_cmp V 0 < 0
              · rw [if_pos q2, if_pos q2]; exact h9 _
              · rw [if_neg q2, if_neg q2]
                by_cases q3 : lg_cmp V 2147483647 ≤ 0
                · rw [if_pos q3, if_pos q3, ct_sn L7 c2]
                  rw [lg_lt] at q2
                  rw [lg_le] at q3
                  have z0 : (0 : Int64).toInt = 0 := rfl
                  have zm : (2147483647 : Int64).toInt = 2147483647 := rfl
                  exact nf_d0 (lsv_2 xb (fun _ => ⟨n32 (by omega), by rw [n32 (by omega)]; omega⟩))
                · rw [if_neg q3, if_neg q3]; exact h9 _
        · simp only [if_neg cb]; exact hft _ _ _ _ ct_fr (by decide) (by decide)
      · -- rising, falling
        have hle : ¬ 10 ≤ x := by rcases hx with h | h | h | h <;> subst h <;> first | decide | exact absurd rfl h10 | exact absurd rfl h11
        simp (decide := true) only [if_neg h10, if_neg hle, reduceIte]
        unfold P_Meanings_edge
        have hkb : P_Trees_kindOf (κ 0) (κ 1) (κ 11) (φ0 2) (nI (k - 1)) = τ 2 (k - 1) := (pt_0 (by omega) (by omega)).trans u1
        simp only [ct_o (show ¬ 2 = 9 by decide), ct_o (show ¬ 5 = 9 by decide), hkb, ch_2 hC hk hb, ch_0 hC hk hb, ct_note L7 c2, fact_t (κ := κr) (τ := τ) (σ := σ) (F := F) (nu := nu) (k := k) (c := 1) (e := 0) (show k < 10000 by omega) (Or.inl rfl), mt_mn]
        by_cases q1 : τ 2 (k - 1) = 1
        · simp only [if_pos q1]
          have h9a : (mt F k 1 0 0 3000 (fun _ => 0)) 9 (k - 1) = F 9 (k - 1) := mt_a (q := 9) (i := k - 1) (r := fun _ => 0) (by decide) (by omega)
          rw [h9a]
          by_cases q2 : F 12 (k - 1) < 0
          · have : ¬ P_Objects_whatOf (κ 5) (κ 14) (φ0 5) (F 12 (k - 1)) = 1 := by
              unfold P_Objects_whatOf P_Objects_has; rw [if_pos q2, if_pos rfl]; decide
            rw [if_neg this, if_pos q2]; exact hft _ _ _ _ ct_fr (by decide) (by decide)
          · rw [if_neg q2]
            obtain ⟨o, ho⟩ : ∃ o, F 12 (k - 1) = nI o ∧ o < 2 ^ 31 := by
              have hb := i32_b (F 12 (k - 1))
              rw [Int32.lt_iff_toInt_lt, show (0 : Int32).toInt = 0 from rfl] at q2
              exact ⟨(F 12 (k - 1)).toInt.toNat, by apply Int32.toInt_inj.mp; rw [nI_toInt (by omega)]; omega, by omega⟩
            rw [ho.1]
            by_cases q3 : 2000 ≤ o
            · have : ¬ P_Objects_whatOf (κ 5) (κ 14) (φ0 5) (nI o) = 1 := by
                have hz : P_Objects_has (κ 5) (κ 14) (φ0 5) (nI o) = 0 := by
                  unfold P_Objects_has; rw [if_neg (nI_pos ho.2), if_pos (show nI (κ 5) ≤ nI o by rw [j_le (by omega) ho.2]; omega)]
                unfold P_Objects_whatOf; rw [if_pos hz]; decide
              rw [if_neg this, if_pos (by rw [show (2000 : Int32) = nI 2000 from rfl, j_le (by omega) ho.2]; exact q3)]; exact hft _ _ _ _ ct_fr (by decide) (by decide)
            · rw [if_neg (show ¬ 2000 ≤ nI o by rw [show (2000 : Int32) = nI 2000 from rfl, j_le (by omega) ho.2]; exact q3), nI_clamp ho.2]
              by_cases q4 : o < κ 5
              · obtain ⟨y1, y2, y3⟩ := ob_r (L := κ 14) hO q4
                rw [y1]
                by_cases q5 : τ 22 o = 1
                · simp only [if_pos q5]
                  by_cases q6 : F 9 (k - 1) = 0
                  · simp (decide := true) only [if_pos q6, reduceIte]
                    exact nf_d0 (lsv_t (Or.inl ⟨rfl, rfl⟩) (Or.inl rfl))
                  · simp only [if_neg q6]
                    exact nf_f ct_fr mt_fr (by decide) (by decide)
                · simp only [if_neg q5]; exact hft _ _ _ _ ct_fr (by decide) (by decide)
              · have : ¬ P_Objects_whatOf (κ 5) (κ 14) (φ0 5) (nI o) = 1 := by
                  have hz : P_Objects_has (κ 5) (κ 14) (φ0 5) (nI o) = 0 := by
                    unfold P_Objects_has; rw [if_neg (nI_pos ho.2), if_pos (show nI (κ 5) ≤ nI o by rw [j_le (by omega) ho.2]; omega)]
                  unfold P_Objects_whatOf; rw [if_pos hz]; decide
                rw [if_neg this, if_neg (hWS o (by omega) (by omega))]; exact hft _ _ _ _ ct_fr (by decide) (by decide)
        · simp only [if_neg q1]; exact hft _ _ _ _ ct_fr (by decide) (by decide)
    · have hne : ¬ nI n = 1 := by rw [show (1 : Int32) = nI 1 from rfl, j_eq (by omega) (by omega)]; exact hn1
      simp only [if_neg hne]; exact hft _ _ _ _ ct_fr (by decide) (by decide)
-- APPLY
theorem k_apply {κ κr : Nat → Nat} {φ0 : gF} {ψ : gG} {τ : gf} {σ : Nat → Int32} {F : gf} {nu : gg} {k n : Nat} (hC : CK κ) (hR : RS κ φ0 ψ κr τ F nu) (hWS : ∀ o, κ 5 ≤ o → o < 2000 → ¬ τ 22 o = 1) (hk : k < κ 0) (h1 : τ 2 k = 22) (hn : τ 4 k = nI n) (hn2 : n ≤ 4000) (hch1 : n = 1 ∨ n = 2 → 1 ≤ k ∧ CH κ φ0 ψ F nu k (k - 1)) (hch2 : n = 2 → ∃ a, τ 5 (k - 1) - 1 = nI a ∧ CH κ φ0 ψ F nu k a) :
    LK2 (κ 10) φ0 ψ F nu k (P_Meanings_apply κ (ct φ0 k (-1) 0 (-1) 0 0) ψ (nI k)) (Q_lookApply κr τ σ F nu (nI k)) := by
  have hC' := hC
  obtain ⟨c0, c1, c2, c3, c4, c5, c6, c7, c8⟩ := hC'
  have hR' := hR
  obtain ⟨hN, hTr, hNm, hW, hTy, hO⟩ := hR'
  obtain ⟨t1, t2, t3, t4⟩ := hTr.2.1 k hk
  obtain ⟨v, hv, ev⟩ := hTr.2.2 k hk (by simp [h1])
  have eN : (nI k).toNatClampNeg = k := nI_clamp (by omega)
  have L7 : k < κ 7 := by omega
  have hft : ∀ (c m : Int32) (φ' : gF) (σ' : gs), FrC (κ 10) k φ0 ψ φ' ψ → ¬ c = 0 → 0 < m → LK2 (κ 10) φ0 ψ F nu k (c, φ', ψ) (m, σ', F, nu) := fun c m φ' σ' h0 h2 h3 => nf_f h0 frM.rf h2 h3
  have hco : P_Trees_countOf (κ 0) (κ 1) (κ 11) (φ0 2) (nI k) = nI n := (pt_2 hk (by omega)).trans (t3.trans hn)
  have hva : P_Trees_valueOf (κ 0) (κ 1) (κ 11) (φ0 2) (nI k) = nI v := (pt_1 hk (by omega)).trans (t2.trans ev)
  have heta : ∀ r : Int32 × gF × gG, (r.1, r.2.1, r.2.2) = r := fun _ => rfl
  have heta2 : ∀ r : Int32 × gs × gf × gg, (r.1, r.2.1, r.2.2.1, r.2.2.2) = r := fun _ => rfl
  obtain ⟨σf, hf, hfn⟩ := fun_at (σ := σ) hC hR hv
  obtain ⟨σ', hf', _, hob⟩ := obj_at (σ := σf) (c := -1) (e := 0) (m := -1) (n := 0) (x := 0) hC hR hk hv ev
  have hro := ro_t (κ := κr) (τ := τ) (σ := σf) (F := F) (nu := nu) hf'
  have hF1 : (Q_find κr τ σ F nu (τ 3 k)).1 = σf := by rw [ev, hf]
  -- both finds tell the same
  have hsame : σ' 32 = σf 32 := by
    obtain ⟨s1, e1, a1, _⟩ := qf_find (κ := κr) (τ := τ) (σ := σ) (F := F) (nu := nu) (x := nI v) hNm.2.2.1
    obtain ⟨s2, e2, a2, _⟩ := qf_find (κ := κr) (τ := τ) (σ := σf) (F := F) (nu := nu) (x := nI v) hNm.2.2.1
    rw [hf] at e1; rw [hf'] at e2
    have g1 : σf = s1 := congrArg Prod.fst e1
    have g2 : σ' = s2 := congrArg Prod.fst e2
    rw [g2, a2, ← a1, ← g1]
  unfold P_Meanings_apply Q_lookApply
  rw [eN, hF1, ct_o (show ¬ 2 = 9 by decide), ct_o (show ¬ 3 = 9 by decide), hva, hco]
  simp only [heta, heta2]
  rcases hfn with ⟨e1, e2⟩ | ⟨e, e1, he, hfn⟩
  · -- unknown
    rw [e1, if_pos rfl, if_neg (by rw [e2]; decide)]
    have : Q_rowObject κr τ σf F nu (τ 3 k) = (1, σ', F, nu) := by rw [ev, hro, if_pos (hsame.trans e2)]
    rw [this]
    simp (decide := true) only [reduceIte]
    exact hft _ _ _ _ ct_fr (by decide) (by decide)
  · rw [e1, if_neg (neg1 (by omega))]
    rcases hfn with ⟨g1, g2, g3, g4⟩ | ⟨g1, g2, g3⟩
    · rw [if_pos g1, if_pos g2, g3]
      exact k_func hC hR hWS hk g4 hn hn2 hch1 hch2
    · rw [if_neg g1, if_neg g2]
      rcases hob with ⟨w1, w2⟩ | ⟨w1, w2, w3, w4⟩ | ⟨o, t, ho, ht, w1, w2, w3, w4, w5⟩
      · exact absurd (hsame.symm.trans w2) g3
      · have : Q_rowObject κr τ σf F nu (τ 3 k) = (2, σ', F, nu) := by rw [ev, hro, if_neg w2, if_neg w3]
        rw [this, w4, if_pos rfl]
        simp (decide := true) only [reduceIte]
        exact hft _ _ _ _ ct_fr (by decide) (by decide)
      · have ho2 := hO.2.1
        have ho1 := hO.1
        have ht1 := hTy.1
        have ht2 := hTy.2.2.1
        obtain ⟨y1, y2, y3⟩ := ob_r (L := κ 14) hO ho
        obtain ⟨z1, z2, z3, z4, z5, z6⟩ := ty_r (L := κ 13) hTy ht
        obtain ⟨a1, a2, a3, a4, a5, a6, a7⟩ := hTy.2.2.2 t ht
        obtain ⟨b1, b2, b3, t', ht', et', b4⟩ := hO.2.2 o ho
        obtain rfl : t' = t := by rw [w5] at et'; exact ((j_eq (by omega) (by omega)).mp et').symm
        have eO : (nI o).toNatClampNeg = o := nI_clamp (by omega)
        have eT : (nI t').toNatClampNeg = t' := nI_clamp (by omega)
        have hir : ∀ φ', φ' 5 = φ0 5 → φ' 4 = φ0 4 → P_Meanings_isRow κ φ' ψ (nI o) = if τ 16 t' = 3 then 1 else 0 := by
          intro φ' h5 h4; unfold P_Meanings_isRow; rw [h5, h4, y2, w5, z1]
        have hic : ∀ φ', φ' 5 = φ0 5 → P_Meanings_isConstant κ φ' ψ (nI o) = if τ 22 o = 0 then 1 else 0 := by
          intro φ' h5; unfold P_Meanings_isConstant; rw [h5, y1]
        have hst : Q_rowObject κr τ σf F nu (τ 3 k) = if τ 16 t' = 3 then (0, σ', F, nu) else (2, σ', F, nu) := by
          rw [ev, hro]
          simp (decide := true) only [w2, w3, eO, w5, eT, reduceIte]
        rw [w4, if_neg (neg1 (by omega)), hir _ (ct_o (by decide)) (ct_o (by decide)), hst]
        by_cases q3 : τ 16 t' = 3
        · have hst1 : Q_rowObject κr τ σf F nu (τ 3 k) = (0, σ', F, nu) := by rw [hst, if_pos q3]
          obtain ⟨l, r, m, d1, d2, d3, d4, d5, d6, d7, d8⟩ := a7 q3
          have hd01 : τ 20 t' = 0 ∨ τ 20 t' = 1 := by rcases d8 with d | d <;> simp [d.1]
          simp (decide := true) only [if_pos q3, reduceIte, hn]
          by_cases hn1 : n = 1
          · subst hn1
            obtain ⟨hk1, hb⟩ := hch1 (Or.inl rfl)
            have hbk := hb.1
            have eP : nI k - 1 = nI (k - 1) := j_pred hk1
            have eB : (nI (k - 1)).toNatClampNeg = k - 1 := nI_clamp (by omega)
            rw [if_pos (show nI 1 = 1 from rfl), if_pos (show nI 1 = 1 from rfl), qc_0 hk1, eB, eP]
            unfold P_Meanings_element P_Meanings_element_44
            rw [ch_0 hC hk hb, hic _ (ct_o (by decide)), ch_4 hC hk hb]
            by_cases cb : F 9 (k - 1) = 2
            · simp only [if_pos cb]
              have hcl : (if (if τ 22 o = 0 then (1 : Int32) else 0) = 0 then P_Meanings_element_45 κ (ct φ0 k (-1) 0 (-1) 0 0) ψ (nI k) (nI o) (nI (k - 1)) 0 0 0 (nI k) else if F 11 (k - 1) = 0 then P_Meanings_element_45 κ (ct φ0 k (-1) 0 (-1) 0 0) ψ (nI k) (nI o) (nI (k - 1)) 0 0 0 (nI k) else P_Meanings_element_45 κ (ct φ0 k (-1) 0 (-1) 0 0) ψ (nI k) (nI o) (nI (k - 1)) 1 0 0 (nI k)) = P_Meanings_element_45 κ (ct φ0 k (-1) 0 (-1) 0 0) ψ (nI k) (nI o) (nI (k - 1)) (if τ 22 o = 0 then F 11 (k - 1) else 0) 0 0 (nI k) := by
                by_cases x0 : τ 22 o = 0
                · rcases ch_x hb with x1 | x1 <;> simp (decide := true) only [x0, x1, reduceIte]
                · simp (decide := true) only [x0, reduceIte]
              rw [hcl]
              have hX : (if τ 22 o = 0 then F 11 (k - 1) else 0) = 0 ∨ (if τ 22 o = 0 then F 11 (k - 1) else 0) = 1 := by
                by_cases x0 : τ 22 o = 0
                · rw [if_pos x0]; exact ch_x hb
                · rw [if_neg x0]; exact Or.inl rfl
              -- the reference's end
              have hfk : ∀ x, x = 0 ∨ x = 1 → Q_fact κr τ σ' F nu (nI k) 0 0 x = (σ', mt F k 0 0 x (-1) (fun _ => 0), vp_updL nu k 0) := fun x hx => fact_t (by omega) hx
              have h228 : ∀ x nu1, x = 0 ∨ x = 1 → Q_lookApply_228 κr τ σ F nu (nI k) x nu1 = (0, σ', mt F k 0 0 x (nI o) (fun _ => 0), nu1) := by
                intro x nu1 hx
                unfold Q_lookApply_228
                rw [eN, hF1, hst1]
                dsimp only
                rw [hfk x hx, w3]
                dsimp only
                rw [mt_mn]
              have h147 : Q_lookApply_147 κr τ σ F nu (nI k) 0 = (0, σ', mt F k 0 0 0 (nI o) (fun _ => 0), vp_updL nu k 0) := by
                unfold Q_lookApply_147
                rw [eN, hF1, hst1]
                dsimp only
                rw [hfk 0 (Or.inl rfl)]
                dsimp only
                rw [if_pos (mt_k (F := F) (k := k) (c := 0) (e := 0) (x := 0) (m := -1) (r := fun _ => 0)).2.2.1, h228 0 _ (Or.inl rfl)]
              unfold P_Meanings_element_45
              simp only [ct_note L7 c2, ct_sm L7 c2, ct_sn L7 c2, ch_4 hC hk hb, ch_3 hC hk hb, ct_o (show ¬ 4 = 9 by decide), ct_o (show ¬ 5 = 9 by decide), y2, w5, fx1 hX]
              by_cases xb0 : F 11 (k - 1) = 0
              · simp only [if_pos xb0]
                unfold Q_lookApply_119 Q_lookApply_146
                rw [eN, hF1, hst1, qc_0 hk1, eB, if_pos xb0, h147]
                have : (if τ 22 o = 0 then F 11 (k - 1) else 0) = 0 := by rw [xb0]; split <;> rfl
                simp only [xb0, ite_self]
                exact nf_d0 (lsv_l (Or.inl rfl) (fun h9 => absurd h9 (by decide)))
              · simp only [if_neg xb0]
                have xb1 : F 11 (k - 1) = 1 := (ch_x hb).resolve_left xb0
                obtain ⟨n3, n4⟩ := ch_n hb xb1 cb
                have bb2 := i32_b (φ0 9 3 (k - 1))
                have frB := fr_t (L := κ 13) (p := φ0 9 3 (k - 1)) hTy ht d1 d2 d3 d4 d5 d7 hd01 n4
                have wB := wi_t (κ := κr) (σ := σ') (F := F) (nu := nu) (w := nu (k - 1)) (show t' < 1000 by omega) d1 d2 d4 d5 d6 d8
                rw [← n3] at wB
                rw [w3, eO, w5]
                generalize hDB : (if τ 20 t' = 0 then (r : Int) - (φ0 9 3 (k - 1)).toInt else (φ0 9 3 (k - 1)).toInt - r) = dB at *
                rw [frB]
                by_cases qB : 0 ≤ dB ∧ dB < m
                · have nwB : ¬ Q_within κr τ σ' F nu (nI t') (nu (k - 1)) = 0 := by rw [wB]; exact fun h9 => h9 qB
                  rw [if_pos qB, if_neg (neg1 (by omega)), if_neg nwB]
                  unfold Q_lookApply_119 Q_lookApply_146
                  rw [eN, hF1, hst1, qc_0 hk1, eB, if_neg xb0]
                  simp only [w3, eO, xb1, h147]
                  by_cases x0 : τ 22 o = 0
                  · simp only [if_pos x0]
                    unfold Q_lookApply_147
                    rw [eN, hF1, hst1]
                    dsimp only
                    rw [hfk 1 (Or.inr rfl)]
                    dsimp only
                    rw [if_neg (by rw [(mt_k (F := F) (k := k) (c := 0) (e := 0) (x := 1) (m := -1) (r := fun _ => 0)).2.2.1]; decide), qc_0 hk1, eB]
                    have hnb : vp_updL nu k 0 (k - 1) = nu (k - 1) := by rw [upl_a, if_neg (by omega)]
                    simp only [w3, eO, w5, eT, d2, hnb]
                    have eR : (nI r).toInt64.toInt = r := by rw [w_i, nI_toInt d5]
                    have h222 : ∀ w : Int64, w.toInt = dB → Q_lookApply_222 κr τ σ F nu (nI k) 1 w = (0, σ', mt F k 0 0 1 (nI o) (fun _ => 0), vp_updL nu k (ee F (8000 + o) dB.toNat).toInt64) := by
                      intro w hw
                      have e32 : w.toInt32 = nI dB.toNat := by
                        apply Int32.toInt_inj.mp
                        rw [n32 (by omega), nI_toInt (by omega)]; omega
                      unfold Q_lookApply_222
                      rw [eN, hF1, hst1]
                      dsimp only
                      rw [hfk 1 (Or.inr rfl)]
                      dsimp only
                      rw [w3, n8, e32, el_n (by omega) (by omega), mt_ea (by omega) (by omega), ul2, h228 1 _ (Or.inr rfl)]
                    have hQ : (if lg_cmp (nI r).toInt64 (nu (k - 1)) ≤ 0 then Q_lookApply_222 κr τ σ F nu (nI k) 1 (nu (k - 1) - (nI r).toInt64) else Q_lookApply_222 κr τ σ F nu (nI k) 1 ((nI r).toInt64 - nu (k - 1))) = (0, σ', mt F k 0 0 1 (nI o) (fun _ => 0), vp_updL nu k (ee F (8000 + o) dB.toNat).toInt64) := by
                      have s1 : (nu (k - 1) - (nI r).toInt64).toInt = (nu (k - 1)).toInt - r := by rw [Int64.toInt_sub, eR]; exact Int.bmod_eq_of_le (by omega) (by omega)
                      have s2 : ((nI r).toInt64 - nu (k - 1)).toInt = r - (nu (k - 1)).toInt := by rw [Int64.toInt_sub, eR]; exact Int.bmod_eq_of_le (by omega) (by omega)
                      by_cases q : lg_cmp (nI r).toInt64 (nu (k - 1)) ≤ 0
                      · rw [if_pos q]; rw [lg_le, eR] at q
                        refine h222 _ ?_
                        rw [s1]
                        rcases hd01 with h | h
                        · rw [if_pos h] at hDB; omega
                        · rw [if_neg (by rw [h]; decide)] at hDB; omega
                      · rw [if_neg q]; rw [lg_le, eR] at q
                        refine h222 _ ?_
                        rw [s2]
                        rcases hd01 with h | h
                        · rw [if_pos h] at hDB; omega
                        · rw [if_neg (by rw [h]; decide)] at hDB; omega
                    rw [hQ]
                    obtain ⟨p1, p2, p3, p4⟩ := b4 x0
                    have hel := (p4.2.2.2.2 rfl).2.2 q3 m dB.toNat (by unfold ext; rw [if_pos q3]; exact d3) d7 (by omega)
                    refine nf_d0 (lsv_l (Or.inr rfl) (fun _ => ?_))
                    have : P_Rows_get (κ 8) (ψ 6) (nI o) (nI dB.toNat) = ee F (8000 + o) dB.toNat := hel.1
                    rw [this]
                    exact ⟨rfl, hel.2⟩
                  · simp only [if_neg x0]
                    exact nf_d0 (lsv_l (Or.inl rfl) (fun h9 => absurd h9 (by decide)))
                · have nwB : Q_within κr τ σ' F nu (nI t') (nu (k - 1)) = 0 := by rw [wB]; exact qB
                  rw [if_neg qB, if_pos rfl, if_pos nwB]
                  exact hft _ _ _ _ ct_fr (by decide) (by decide)
            · simp only [if_neg cb]; exact hft _ _ _ _ ct_fr (by decide) (by decide)
          · have hne : ¬ nI n = 1 := by rw [show (1 : Int32) = nI 1 from rfl, j_eq (by omega) (by omega)]; exact hn1
            rw [if_neg hne, if_neg hne]; exact hft _ _ _ _ ct_fr (by decide) (by decide)
        · simp (decide := true) only [if_neg q3, reduceIte]; exact hft _ _ _ _ ct_fr (by decide) (by decide)
-- children in their order, the last first; LEAF, ROW
def chn (τ : gf) (k : Nat) : Nat → Int32
  | 0 => nI k - 1
  | i + 1 => τ 5 (chn τ k i).toNatClampNeg - 1
theorem qc_n {κ : Nat → Nat} {τ : gf} {σ : gs} {F : gf} {nu : gg} {k i : Nat} (hi : i ≤ 4000) : Q_child κ τ σ F nu (nI k) (nI i) = chn τ k i := by
  have h : ∀ d j fuel, j + d = i → d < fuel → Q_child_7 κ τ σ F nu (nI k) (nI i) fuel (nI j) (chn τ k j) = chn τ k i := by
    intro d
    induction d with
    | zero =>
      intro j fuel hj hf
      obtain ⟨m, rfl⟩ : ∃ m, fuel = m + 1 := ⟨fuel - 1, by omega⟩
      obtain rfl : j = i := by omega
      show (if nI j ≤ nI j then _ else _) = _
      rw [if_pos (by rw [j_le (by omega) (by omega)]; exact Nat.le_refl _)]
    | succ d ih =>
      intro j fuel hj hf
      obtain ⟨m, rfl⟩ : ∃ m, fuel = m + 1 := ⟨fuel - 1, by omega⟩
      show (if nI i ≤ nI j then _ else Q_child_7 κ τ σ F nu (nI k) (nI i) m (nI j + 1) (τ 5 (chn τ k j).toNatClampNeg - 1)) = _
      rw [if_neg (by rw [j_le (by omega) (by omega)]; omega), ← nI_succ]
      exact ih (j + 1) m (by omega) (by omega)
  have hf0 := fuel0
  unfold Q_child
  exact h i 0 _ (by omega) (by omega)
theorem ch_a0 {τ : gf} {k a : Nat} (hk : k < 4000) (hak : a < k) (h : chn τ k 0 = nI a) : a = k - 1 := by
  have h1 : nI k - 1 = nI a := h
  rw [j_pred (by omega), j_eq (by omega) (by omega)] at h1
  exact h1.symm
theorem ch_a1 {τ : gf} {k : Nat} (hk : k < 4000) (h1 : 1 ≤ k) : chn τ k 1 = τ 5 (k - 1) - 1 := by
  show τ 5 (nI k - 1).toNatClampNeg - 1 = _
  rw [j_pred h1, nI_clamp (by omega)]
theorem k_leaf {κ κr : Nat → Nat} {φ0 : gF} {ψ : gG} {τ : gf} {σ : Nat → Int32} {F : gf} {nu : gg} {k n : Nat} (hC : CK κ) (hT : RTr κ (φ0 2) κr τ) (hk : k < κ 0) (hn : τ 4 k = nI n) (hn2 : n ≤ 4000) :
    LK2 (κ 10) φ0 ψ F nu k (P_Looker_leaf κ (ct φ0 k (-1) 0 (-1) 0 0) ψ (nI k) 2 2147483647) (if 0 < τ 4 k then Q_look_177 κr τ σ F nu (nI k) else if 0 ≤ τ 3 k then (0, σ, (Q_fact κr τ σ F nu (nI k) 2 0 1).2.1, vp_updL (Q_fact κr τ σ F nu (nI k) 2 0 1).2.2 k (τ 3 k).toInt64) else Q_look_177 κr τ σ F nu (nI k)) ∧
    LK2 (κ 10) φ0 ψ F nu k (P_Looker_leaf κ (ct φ0 k (-1) 0 (-1) 0 0) ψ (nI k) 0 8) (if 0 < τ 4 k then Q_look_229 κr τ σ F nu (nI k) else if τ 3 k < 0 then Q_look_229 κr τ σ F nu (nI k) else if τ 3 k ≤ 8 then (0, σ, (Q_fact κr τ σ F nu (nI k) 0 0 1).2.1, vp_updL (Q_fact κr τ σ F nu (nI k) 0 0 1).2.2 k (τ 3 k).toInt64) else Q_look_229 κr τ σ F nu (nI k)) := by
  have hC' := hC
  obtain ⟨c0, c1, c2, _⟩ := hC'
  obtain ⟨t1, t2, t3, t4⟩ := hT.2.1 k hk
  have eN : (nI k).toNatClampNeg = k := nI_clamp (by omega)
  have L7 : k < κ 7 := by omega
  have hco : P_Trees_countOf (κ 0) (κ 1) (κ 11) (φ0 2) (nI k) = nI n := (pt_2 hk (by omega)).trans (t3.trans hn)
  have hva : P_Trees_valueOf (κ 0) (κ 1) (κ 11) (φ0 2) (nI k) = τ 3 k := (pt_1 hk (by omega)).trans t2
  have h0 : (nI n = 0) = (n = 0) := j_eq (b := 0) (by omega) (by omega)
  have h0' : (0 < nI n) = (0 < n) := j_lt (a := 0) (by omega) (by omega)
  constructor
  · unfold P_Looker_leaf Q_look_177
    simp (decide := true) only [ct_o (show ¬ 2 = 9 by decide), hco, hva, hn, h0, h0', ct_note L7 c2, ct_sn L7 c2, eN, fact_t (κ := κr) (τ := τ) (σ := σ) (F := F) (nu := nu) (k := k) (c := 2) (e := 0) (x := 1) (show k < 10000 by omega) (Or.inr rfl), ul2, reduceIte]
    by_cases q0 : n = 0
    · rw [if_pos q0, if_neg (show ¬ 0 < n by omega)]
      by_cases q1 : τ 3 k < 0
      · rw [if_pos q1, if_neg (show ¬ 0 ≤ τ 3 k from Int32.not_le.mpr q1)]
        exact nf_f ct_fr mt_fr (by decide) (by decide)
      · rw [if_neg q1, if_pos (show 0 ≤ τ 3 k from Int32.not_lt.mp q1), if_pos (by rw [Int32.le_iff_toInt_le]; exact (i32_b _).2)]
        refine nf_d0 (lsv_2 (Or.inr rfl) (fun _ => ⟨(w_i _).symm, ?_⟩))
        have := Int32.not_lt.mp q1
        rw [Int32.le_iff_toInt_le] at this
        have z0 : (0 : Int32).toInt = 0 := rfl
        omega
    · rw [if_neg q0, if_pos (show 0 < n by omega)]
      exact nf_f ct_fr mt_fr (by decide) (by decide)
  · unfold P_Looker_leaf Q_look_229
    simp (decide := true) only [ct_o (show ¬ 2 = 9 by decide), hco, hva, hn, h0, h0', ct_note L7 c2, ct_sn L7 c2, eN, fact_t (κ := κr) (τ := τ) (σ := σ) (F := F) (nu := nu) (k := k) (c := 0) (e := 0) (x := 1) (show k < 10000 by omega) (Or.inr rfl), ul2, reduceIte]
    by_cases q0 : n = 0
    · rw [if_pos q0, if_neg (show ¬ 0 < n by omega)]
      by_cases q1 : τ 3 k < 0
      · rw [if_pos q1, if_pos q1]; exact nf_f ct_fr mt_fr (by decide) (by decide)
      · rw [if_neg q1, if_neg q1]
        by_cases q2 : τ 3 k ≤ 8
        · rw [if_pos q2, if_pos q2]
          refine nf_d0 (lsv_l (Or.inr rfl) (fun _ => ⟨rfl, (τ 3 k).toInt.toNat, ?_, ?_⟩))
          · rw [Int32.le_iff_toInt_le] at q2; rw [Int32.lt_iff_toInt_lt] at q1
            have z0 : (0 : Int32).toInt = 0 := rfl
            have z8 : (8 : Int32).toInt = 8 := rfl
            omega
          · rw [Int32.le_iff_toInt_le] at q2; rw [Int32.lt_iff_toInt_lt] at q1
            have z0 : (0 : Int32).toInt = 0 := rfl
            have z8 : (8 : Int32).toInt = 8 := rfl
            apply Int32.toInt_inj.mp; rw [nI_toInt (by omega)]; omega
        · rw [if_neg q2, if_neg q2]; exact nf_f ct_fr mt_fr (by decide) (by decide)
    · rw [if_neg q0, if_pos (show 0 < n by omega)]
      exact nf_f ct_fr mt_fr (by decide) (by decide)
/-- a child that may stand in a row of signs -/
def SG (τ : gf) (a : Nat) : Prop := τ 2 a = 3 → τ 4 a = 0 ∧ ∃ m, m < 9 ∧ τ 3 a = nI m
theorem k_row {κ κr : Nat → Nat} {φ0 : gF} {ψ : gG} {τ : gf} {σ : Nat → Int32} {F : gf} {nu : gg} {k n : Nat} (hC : CK κ) (hT : RTr κ (φ0 2) κr τ) (hk : k < κ 0) (hn : τ 4 k = nI n) (hn2 : n ≤ 4000) (hch : ∀ i, i < n → ∃ a, chn τ k i = nI a ∧ a < k ∧ SG τ a) :
    LK2 (κ 10) φ0 ψ F nu k (P_Looker_signs κ (ct φ0 k (-1) 0 (-1) 0 0) ψ (nI k)) (Q_lookRow κr τ σ F nu (nI k)) := by
  have hC' := hC
  obtain ⟨c0, c1, c2, c3, c4, c5, c6, c7, c8⟩ := hC'
  obtain ⟨t1, t2, t3, t4⟩ := hT.2.1 k hk
  have hf0 := fuel0
  have eN : (nI k).toNatClampNeg = k := nI_clamp (by omega)
  have L7 : k < κ 7 := by omega
  have hco : P_Trees_countOf (κ 0) (κ 1) (κ 11) (φ0 2) (nI k) = nI n := (pt_2 hk (by omega)).trans (t3.trans hn)
  have h1n : (nI n < 1) = (n < 1) := j_lt (b := 1) (by omega) (by omega)
  have h64 : (64 < nI n) = (64 < n) := j_lt (a := 64) (by omega) (by omega)
  have h64' : (nI n ≤ 64) = (n ≤ 64) := j_le (b := 64) (by omega) (by omega)
  have hft : ∀ (ψ' : gG) (φ' : gF), FrC (κ 10) k φ0 ψ φ' ψ' → LK2 (κ 10) φ0 ψ F nu k (11, φ', ψ') (11, σ, F, nu) := fun ψ' φ' h => nf_f h frM.rf (by decide) (by decide)
  have h80 : ∀ t i, Q_lookRow_80 κr τ σ F nu (nI k) t i 0 = (11, σ, F, nu) := by
    intro t i; unfold Q_lookRow_80; rw [if_pos rfl]
  have hbad0 : Q_lookRow_22 κr τ σ F nu (nI k) = (11, σ, F, nu) := by
    unfold Q_lookRow_22 Q_lookRow_23
    obtain ⟨m, hm⟩ : ∃ m, (2147483647 - (0 : Int32).toInt).toNat + 1 = m + 1 := ⟨_, rfl⟩
    rw [hm]
    show (if τ 4 (nI k).toNatClampNeg ≤ 0 then _ else if (0 : Int32) = 0 then _ else _) = _
    rw [if_pos (show (0 : Int32) = 0 from rfl), h80]
    split <;> rfl
  unfold P_Looker_signs Q_lookRow
  rw [ct_o (show ¬ 2 = 9 by decide), hco, eN, hn]
  simp only [h1n, h64, h64']
  by_cases q1 : n < 1
  · rw [if_pos q1, if_pos q1, hbad0]; exact hft _ _ ct_fr
  · rw [if_neg q1, if_neg q1]
    by_cases q2 : n ≤ 64
    · rw [if_pos q2, if_neg (show ¬ 64 < n by omega)]
      -- each step of the reference's first loop
      have hs27 : ∀ fuel i, i < n → Q_lookRow_27 κr τ σ F nu (nI k) 1 (fuel + 1) (nI i) 1 = Q_lookRow_27 κr τ σ F nu (nI k) 1 fuel (nI (i + 1)) (if τ 2 (chn τ k i).toNatClampNeg = 3 then 1 else 0) := by
        intro fuel i hi
        obtain ⟨a, ea, hak, hsg⟩ := hch i hi
        show (if τ 4 (nI k).toNatClampNeg ≤ nI i then _ else if (1 : Int32) = 0 then _ else if τ 2 (Q_child κr τ σ F nu (nI k) (nI i)).toNatClampNeg = 3 then (if τ 4 (Q_child κr τ σ F nu (nI k) (nI i)).toNatClampNeg = 0 then Q_lookRow_27 κr τ σ F nu (nI k) 1 fuel (nI i + 1) 1 else Q_lookRow_27 κr τ σ F nu (nI k) 1 fuel (nI i + 1) 0) else Q_lookRow_27 κr τ σ F nu (nI k) 1 fuel (nI i + 1) 0) = _
        rw [eN, hn, if_neg (by rw [j_le (by omega) (by omega)]; omega), if_neg (show ¬ (1 : Int32) = 0 by decide), qc_n (by omega), ea, nI_clamp (by omega), ← nI_succ]
        by_cases q : τ 2 a = 3
        · rw [if_pos q, if_pos q, if_pos (hsg q).1]
        · rw [if_neg q, if_neg q]
      have hz27 : ∀ fuel i, Q_lookRow_27 κr τ σ F nu (nI k) 1 (fuel + 1) i 0 = (11, σ, F, nu) := by
        intro fuel i
        show (if τ 4 (nI k).toNatClampNeg ≤ i then _ else if (0 : Int32) = 0 then _ else _) = _
        rw [if_pos (show (0 : Int32) = 0 from rfl), h80]
        split <;> rfl
      have hkd : ∀ i, i < n → P_Trees_kindOf (κ 0) (κ 1) (κ 11) (φ0 2) (chn τ k i) = τ 2 (chn τ k i).toNatClampNeg ∧ P_Trees_valueOf (κ 0) (κ 1) (κ 11) (φ0 2) (chn τ k i) = τ 3 (chn τ k i).toNatClampNeg ∧ P_Trees_firstOf (κ 0) (κ 1) (κ 11) (φ0 2) (chn τ k i) - 1 = chn τ k (i + 1) := by
        intro i hi
        obtain ⟨a, ea, hak, hsg⟩ := hch i hi
        obtain ⟨u1, u2, u3, u4⟩ := hT.2.1 a (by omega)
        rw [ea, nI_clamp (by omega), pt_0 (by omega) (by omega), pt_1 (by omega) (by omega), pt_3 (by omega) (by omega)]
        refine ⟨u1, u2, ?_⟩
        show _ = τ 5 (chn τ k i).toNatClampNeg - 1
        rw [ea, nI_clamp (by omega), u4]
      -- the class's step
      have hs30 : ∀ fuel g i, i < n → P_Looker_signs_30 κ (fuel + 1) (ct φ0 k (-1) 0 (-1) 0 0) (up ψ 10 g) (nI k) (nI n) (chn τ k i) (nI i) = if τ 2 (chn τ k i).toNatClampNeg = 3 then P_Looker_signs_30 κ fuel (ct φ0 k (-1) 0 (-1) 0 0) (up ψ 10 (P_Rows_set (κ 10) g (nI k) (nI i) (τ 3 (chn τ k i).toNatClampNeg))) (nI k) (nI n) (chn τ k (i + 1)) (nI (i + 1)) else (11, ct φ0 k (-1) 0 (-1) 0 0, up ψ 10 g) := by
        intro fuel g i hi
        obtain ⟨w1, w2, w3⟩ := hkd i hi
        show (if nI n ≤ nI i then _ else if P_Trees_kindOf (κ 0) (κ 1) (κ 11) ((ct φ0 k (-1) 0 (-1) 0 0) 2) (chn τ k i) = 3 then P_Looker_signs_30 κ fuel (ct φ0 k (-1) 0 (-1) 0 0) (up (up ψ 10 g) 10 (P_Rows_set (κ 10) ((up ψ 10 g) 10) (nI k) (nI i) (P_Trees_valueOf (κ 0) (κ 1) (κ 11) ((ct φ0 k (-1) 0 (-1) 0 0) 2) (chn τ k i)))) (nI k) (nI n) (P_Trees_firstOf (κ 0) (κ 1) (κ 11) ((ct φ0 k (-1) 0 (-1) 0 0) 2) (chn τ k i) - 1) (nI i + 1) else _) = _
        rw [if_neg (by rw [j_le (by omega) (by omega)]; omega), ct_o (show ¬ 2 = 9 by decide), w1, w2, w3, up_up, up_s, ← nI_succ]
      by_cases hall : ∀ i, i < n → τ 2 (chn τ k i).toNatClampNeg = 3
      · have hval : ∀ j, j < n → ∃ m, m < 9 ∧ τ 3 (chn τ k j).toNatClampNeg = nI m := by
          intro j hj
          obtain ⟨a, ea, hak, hsg⟩ := hch j hj
          have := hall j hj
          rw [ea, nI_clamp (by omega)] at this ⊢
          exact (hsg this).2
        obtain ⟨g', e1, e2, e3, e4⟩ := rowloop (M := κ 10) (s := k) (n := n) (g0 := ψ 10) (h := fun j => τ 3 (chn τ k j).toNatClampNeg) (T := fun fuel g i => P_Looker_signs_30 κ fuel (ct φ0 k (-1) 0 (-1) 0 0) (up ψ 10 g) (nI k) (nI n) (chn τ k i) (nI i)) (fin := fun g => ((0 : Int32), ct φ0 k 3 (nI n) (-1) 0 1, up ψ 10 g)) c4 (by omega) q2 (fun j hj => m9 (hval j hj))
          (fun fuel g i hi hg => by
            show P_Looker_signs_30 κ (fuel + 1) (ct φ0 k (-1) 0 (-1) 0 0) (up ψ 10 g) (nI k) (nI n) (chn τ k i) (nI i) = _
            rw [hs30 fuel g i hi, if_pos (hall i hi)])
          (fun fuel g hg => by
            show (if nI n ≤ nI n then (0, up (ct φ0 k (-1) 0 (-1) 0 0) 9 (P_Looks_note (κ 7) ((ct φ0 k (-1) 0 (-1) 0 0) 9) (nI k) 3 (nI n) 1), up ψ 10 g) else _) = _
            rw [if_pos (by rw [j_le (by omega) (by omega)]; exact Nat.le_refl _), ct_note L7 c2]
            rfl) n 0 ((2147483647 - (0 : Int32).toInt).toNat + 1) (ψ 10) (by omega) (by omega) ragr.rf
        rw [up_id ψ 10] at e1
        have e1' : P_Looker_signs_30 κ ((2147483647 - (0 : Int32).toInt).toNat + 1) (ct φ0 k (-1) 0 (-1) 0 0) ψ (nI k) (nI n) (nI k - 1) 0 = ((0 : Int32), ct φ0 k 3 (nI n) (-1) 0 1, up ψ 10 g') := e1
        rw [e1']
        -- the reference's
        have hl27 : ∀ d i fuel, i + d = n → d < fuel → Q_lookRow_27 κr τ σ F nu (nI k) 1 fuel (nI i) 1 = Q_lookRow_80 κr τ σ F nu (nI k) 1 (nI n) 1 := by
          intro d
          induction d with
          | zero =>
            intro i fuel hi hf
            obtain ⟨m, rfl⟩ : ∃ m, fuel = m + 1 := ⟨fuel - 1, by omega⟩
            obtain rfl : i = n := by omega
            show (if τ 4 (nI k).toNatClampNeg ≤ nI i then _ else _) = _
            rw [eN, hn, if_pos (by rw [j_le (by omega) (by omega)]; exact Nat.le_refl _)]
          | succ d ih =>
            intro i fuel hi hf
            obtain ⟨m, rfl⟩ : ∃ m, fuel = m + 1 := ⟨fuel - 1, by omega⟩
            rw [hs27 m i (by omega), if_pos (hall i (by omega))]
            exact ih (i + 1) m (by omega) (by omega)
        have h23 : Q_lookRow_23 κr τ σ F nu (nI k) 1 = Q_lookRow_80 κr τ σ F nu (nI k) 1 (nI n) 1 := by
          unfold Q_lookRow_23
          exact hl27 n 0 _ (by omega) (by omega)
        rw [h23]
        unfold Q_lookRow_80
        rw [if_neg (show ¬ (1 : Int32) = 0 by decide), eN, hn]
        have hfk := fact_t (κ := κr) (τ := τ) (σ := σ) (F := F) (nu := nu) (k := k) (c := 3) (e := nI n) (x := 1) (show k < 10000 by omega) (Or.inr rfl)
        rw [hfk]
        have h1 := eloop (k := k) (n := n) (F0 := mt F k 3 (nI n) 1 (-1) (fun _ => 0)) (h := fun j => bw (τ 3 (chn τ k j).toNatClampNeg)) (T := fun fuel F' i => Q_lookRow_98 κr τ σ F nu (nI k) 1 (nI n) 1 fuel F' (nI i)) (fin := fun F' => ((0 : Int32), σ, F', vp_updL nu k 0)) q2 (fun fuel F' i hi hF => by
            show (if τ 4 (nI k).toNatClampNeg ≤ nI i then _ else Q_lookRow_98 κr τ σ F nu (nI k) 1 (nI n) 1 fuel ((Q_setElement κr τ σ F' ((Q_fact κr τ σ F nu (nI k) 3 (τ 4 (nI k).toNatClampNeg) 1).2.2) (nI k) (nI i) (τ 3 (Q_child κr τ σ F' ((Q_fact κr τ σ F nu (nI k) 3 (τ 4 (nI k).toNatClampNeg) 1).2.2) (nI k) (nI i)).toNatClampNeg)).2.1) (nI i + 1)) = _
            rw [eN, hn, if_neg (by rw [j_le (by omega) (by omega)]; omega), qc_n (by omega), se_w (by omega) (by omega), ← nI_succ]) (fun fuel F' hF => by
            show (if τ 4 (nI k).toNatClampNeg ≤ nI n then (0, σ, F', (Q_fact κr τ σ F nu (nI k) 3 (τ 4 (nI k).toNatClampNeg) 1).2.2) else _) = _
            rw [eN, hn, if_pos (by rw [j_le (by omega) (by omega)]; exact Nat.le_refl _), hfk]) n 0 ((2147483647 - (0 : Int32).toInt).toNat + 1) (mt F k 3 (nI n) 1 (-1) (fun _ => 0)) (by omega) (by omega) agr.rf
        have h1' : Q_lookRow_98 κr τ σ F nu (nI k) 1 (nI n) 1 ((2147483647 - (0 : Int32).toInt).toNat + 1) (mt F k 3 (nI n) 1 (-1) (fun _ => 0)) 0 = _ := h1
        dsimp only
        rw [h1', mt_se q2]
        refine nf_d e2 (lsv_3 (E := n) (by omega) q2 rfl (Or.inr rfl) (fun _ j hj => ?_))
        rw [e3 j (Nat.zero_le _) hj]
        show _ = (if 0 ≤ j ∧ j < n then bw (τ 3 (chn τ k j).toNatClampNeg) else 0) ∧ ∃ m, m < 9 ∧ (if 0 ≤ j ∧ j < n then bw (τ 3 (chn τ k j).toNatClampNeg) else 0) = nI m
        rw [if_pos ⟨Nat.zero_le _, hj⟩, bw_n (m9 (hval j hj))]
        exact ⟨rfl, hval j hj⟩
      · -- some child is no sign
        have hex : ∃ j, 0 ≤ j ∧ j < n ∧ ¬ τ 2 (chn τ k j).toNatClampNeg = 3 := by
          apply Classical.byContradiction
          intro h9
          exact hall (fun i hi => Classical.byContradiction (fun h8 => h9 ⟨i, Nat.zero_le _, hi, h8⟩))
        have hcb : ∀ d i fuel g, i + d = n → d < fuel → ragr (κ 10) k (ψ 10) g → (∃ j, i ≤ j ∧ j < n ∧ ¬ τ 2 (chn τ k j).toNatClampNeg = 3) → ∃ g', P_Looker_signs_30 κ fuel (ct φ0 k (-1) 0 (-1) 0 0) (up ψ 10 g) (nI k) (nI n) (chn τ k i) (nI i) = (11, ct φ0 k (-1) 0 (-1) 0 0, up ψ 10 g') ∧ ragr (κ 10) k (ψ 10) g' := by
          intro d
          induction d with
          | zero => intro i fuel g hi hf hg ⟨j, h1, h2, h3⟩; omega
          | succ d ih =>
            intro i fuel g hi hf hg ⟨j, h1, h2, h3⟩
            obtain ⟨m, rfl⟩ : ∃ m, fuel = m + 1 := ⟨fuel - 1, by omega⟩
            rw [hs30 m g i (by omega)]
            by_cases q : τ 2 (chn τ k i).toNatClampNeg = 3
            · rw [if_pos q]
              have hv : ∃ m, m < 9 ∧ τ 3 (chn τ k i).toNatClampNeg = nI m := by
                obtain ⟨a, ea, hak, hsg⟩ := hch i (by omega)
                rw [ea, nI_clamp (by omega)] at q ⊢
                exact (hsg q).2
              obtain ⟨v, hv1, hv2⟩ := hv
              exact ih (i + 1) m _ (by omega) (by omega) (hg.st (m := v) c4 (by omega) (by omega) (by omega) hv2) ⟨j, by
                by_cases h : j = i
                · rw [h] at h3; exact absurd q h3
                · omega, h2, h3⟩
            · rw [if_neg q]; exact ⟨g, rfl, hg⟩
        have hmb : ∀ d i fuel, i + d = n → d + 1 < fuel → (∃ j, i ≤ j ∧ j < n ∧ ¬ τ 2 (chn τ k j).toNatClampNeg = 3) → Q_lookRow_27 κr τ σ F nu (nI k) 1 fuel (nI i) 1 = (11, σ, F, nu) := by
          intro d
          induction d with
          | zero => intro i fuel hi hf ⟨j, h1, h2, h3⟩; omega
          | succ d ih =>
            intro i fuel hi hf ⟨j, h1, h2, h3⟩
            obtain ⟨m, rfl⟩ : ∃ m, fuel = m + 1 := ⟨fuel - 1, by omega⟩
            rw [hs27 m i (by omega)]
            by_cases q : τ 2 (chn τ k i).toNatClampNeg = 3
            · rw [if_pos q]
              exact ih (i + 1) m (by omega) (by omega) ⟨j, by
                by_cases h : j = i
                · rw [h] at h3; exact absurd q h3
                · omega, h2, h3⟩
            · rw [if_neg q]
              obtain ⟨m', rfl⟩ : ∃ m', m = m' + 1 := ⟨m - 1, by omega⟩
              exact hz27 m' _
        obtain ⟨g', e1, e2⟩ := hcb n 0 ((2147483647 - (0 : Int32).toInt).toNat + 1) (ψ 10) (by omega) (by omega) ragr.rf hex
        rw [up_id ψ 10] at e1
        have e1' : P_Looker_signs_30 κ ((2147483647 - (0 : Int32).toInt).toNat + 1) (ct φ0 k (-1) 0 (-1) 0 0) ψ (nI k) (nI n) (nI k - 1) 0 = (11, ct φ0 k (-1) 0 (-1) 0 0, up ψ 10 g') := e1
        rw [e1']
        have h23 : Q_lookRow_23 κr τ σ F nu (nI k) 1 = (11, σ, F, nu) := by
          unfold Q_lookRow_23
          exact hmb n 0 _ (by omega) (by omega) hex
        rw [h23]
        exact hft _ _ (ct_fr.tr (FrC.g e2))
    · rw [if_neg q2, if_pos (show 64 < n by omega), hbad0]; exact hft _ _ ct_fr
