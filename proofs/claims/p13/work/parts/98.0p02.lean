-- elements in words
theorem sh_u : ∀ k : Fin 64, (((nI k - nI k / 16 * 16) * 4).toInt64.toUInt64 &&& Int64.toUInt64 63) = UInt64.ofNat (4 * ((k : Nat) % 16)) := by decide
theorem sh_i : ∀ k : Fin 64, (((nI k - nI k / 16 * 16) * 4).toInt64 &&& 63) = Int64.ofNat (4 * ((k : Nat) % 16)) := by decide
theorem dv_i : ∀ k : Fin 64, nI k / 16 = nI ((k : Nat) / 16) := by decide
theorem ix_w {s k : Nat} (hs : s < 8192) (hk : k < 64) : ((nI s * 4) + (nI k / 16)).toNatClampNeg = 4 * s + k / 16 := by
  have h1 : nI k / 16 = nI (k / 16) := dv_i ⟨k, hk⟩
  have h2 : nI s * 4 = nI (s * 4) := pk_mul s 4
  rw [h1, h2, nI_add, nI_clamp (by omega)]
  omega
theorem q4 {M s : Nat} (hM : M ≤ 8192) : nI (4 * M) / 4 = nI M := (rows_q (M := M) (by omega))
def nbw (w : Int64) (b : Nat) : Nat := ((w.toBitVec >>> (4 * b)) &&& 15#64).toNat
theorem nbw_lt (w : Int64) (b : Nat) : nbw w b < 16 := by
  unfold nbw
  rw [BitVec.toNat_and]
  exact Nat.lt_of_le_of_lt Nat.and_le_right (by decide)
theorem get_w (w : Int64) (b : Nat) (hb : b < 16) : (((w.toUInt64 >>> UInt64.ofNat (4 * b)).toInt64).toInt32 &&& 15) = nI (nbw w b) := by
  apply Int32.toBitVec_inj.mp
  apply BitVec.eq_of_getLsbD_eq
  intro i hi
  have h15 : ∀ j, (15#32).getLsbD j = decide (j < 4) := by
    intro j
    by_cases hj : j < 32
    · have : ∀ j : Fin 32, (15#32).getLsbD j = decide ((j : Nat) < 4) := by decide
      exact this ⟨j, hj⟩
    · rw [BitVec.getLsbD_of_ge _ _ (by omega)]; simp; omega
  have h16 : ∀ j, (15#64).getLsbD j = decide (j < 4) := by
    intro j
    by_cases hj : j < 64
    · have : ∀ j : Fin 64, (15#64).getLsbD j = decide ((j : Nat) < 4) := by decide
      exact this ⟨j, hj⟩
    · rw [BitVec.getLsbD_of_ge _ _ (by omega)]; simp; omega
  have e1 : (nI (nbw w b)).toBitVec.getLsbD i = ((w.toBitVec >>> (4 * b)) &&& 15#64).getLsbD i := by
    show (BitVec.ofNat 32 (nbw w b)).getLsbD i = _
    rw [BitVec.getLsbD_ofNat]
    simp [hi, nbw, BitVec.getLsbD]
  rw [e1]
  have e2 : ((((w.toUInt64 >>> UInt64.ofNat (4 * b)).toInt64).toInt32 &&& 15).toBitVec) = ((w.toBitVec >>> (4 * b)).setWidth 32 &&& 15#32) := by
    rw [Int32.toBitVec_and]
    congr 1
    show BitVec.signExtend 32 (w.toBitVec >>> ((BitVec.ofNat 64 (4 * b)).umod 64#64)) = _
    have : ((BitVec.ofNat 64 (4 * b)).umod 64#64).toNat = 4 * b := by
      simp; omega
    rw [BitVec.ushiftRight_eq', this]
    exact BitVec.signExtend_eq_setWidth_of_le _ (by decide)
  rw [e2]
  simp only [BitVec.getLsbD_and, BitVec.getLsbD_setWidth, BitVec.getLsbD_ushiftRight, h15, h16, hi, decide_true, Bool.true_and]
theorem set_w (w : Int64) (a : Nat) (ha : a < 16) (m : Nat) (hm : m < 16) : ((w &&& ((15 <<< Int64.ofNat (4 * a)) ^^^ (-1))) ||| ((nI m).toInt64 <<< Int64.ofNat (4 * a))).toBitVec = (w.toBitVec &&& ~~~((15#64) <<< (4 * a))) ||| ((BitVec.ofNat 64 m) <<< (4 * a)) := by
  have hs : ∀ a : Fin 16, ((BitVec.ofNat 64 (4 * (a : Nat))).smod 64#64).toNat = 4 * a := by decide
  have hs := hs ⟨a, ha⟩
  rw [Int64.toBitVec_or, Int64.toBitVec_and, Int64.toBitVec_xor]
  have e1 : (((15 : Int64) <<< Int64.ofNat (4 * a))).toBitVec = (15#64) <<< (4 * a) := by
    show (15#64) <<< ((BitVec.ofNat 64 (4 * a)).smod 64#64) = _
    rw [BitVec.shiftLeft_eq', hs]
  have e2 : ((nI m).toInt64 <<< Int64.ofNat (4 * a)).toBitVec = (BitVec.ofNat 64 m) <<< (4 * a) := by
    have e3 : ((nI m).toInt64).toBitVec = BitVec.ofNat 64 m := by
      have : ∀ m : Fin 16, ((nI m).toInt64).toBitVec = BitVec.ofNat 64 m := by decide
      exact this ⟨m, hm⟩
    show ((nI m).toInt64).toBitVec <<< ((BitVec.ofNat 64 (4 * a)).smod 64#64) = _
    rw [BitVec.shiftLeft_eq', hs, e3]
  rw [e1, e2]
  have e4 : ∀ x : BitVec 64, x ^^^ (-1 : Int64).toBitVec = ~~~x := by
    intro x
    show x ^^^ BitVec.allOnes 64 = _
    exact BitVec.xor_allOnes
  rw [e4]
theorem nbw_set (w : Int64) (a b m : Nat) (ha : a < 16) (hb : b < 16) (hm : m < 16) : nbw ((w &&& ((15 <<< Int64.ofNat (4 * a)) ^^^ (-1))) ||| ((nI m).toInt64 <<< Int64.ofNat (4 * a))) b = if a = b then m else nbw w b := by
  unfold nbw
  have hv : (BitVec.ofNat 64 m).toNat = m := by simp; omega
  rw [set_w w a ha m hm, nib _ _ a b ha hb (by rw [hv]; exact hm)]
  by_cases h : a = b
  · rw [if_pos h, if_pos h, hv]
  · rw [if_neg h, if_neg h]
theorem rr_eq {M s k : Nat} {g : gg} (hM : M ≤ 8192) (hs : s < M) (hk : k < 64) : rr M g s k = nI (nbw (g (4 * s + k / 16)) (k % 16)) := by
  unfold rr P_Rows_get
  rw [if_neg (nI_pos (by omega)), q4 (s := s) hM, if_neg (by rw [j_le (by omega) (by omega)]; omega), if_neg (nI_pos (by omega)), if_pos (show nI k < 64 from by rw [show (64 : Int32) = nI 64 from rfl, j_lt (by omega) (by omega)]; exact hk), ix_w (by omega) hk]
  have h := sh_u ⟨k, hk⟩
  simp only at h
  rw [h]
  exact get_w _ _ (Nat.mod_lt _ (by decide))
theorem rr_lt {M s k : Nat} {g : gg} (hM : M ≤ 8192) (hs : s < M) (hk : k < 64) : ∃ m, m < 16 ∧ rr M g s k = nI m := ⟨_, nbw_lt _ _, rr_eq hM hs hk⟩
theorem rr_set {M s k s' k' m : Nat} {g : gg} (hM : M ≤ 8192) (hs : s < M) (hk : k < 64) (hs' : s' < M) (hk' : k' < 64) (hm : m < 16) : rr M (P_Rows_set M g (nI s) (nI k) (nI m)) s' k' = if s' = s ∧ k' = k then nI m else rr M g s' k' := by
  have e : P_Rows_set M g (nI s) (nI k) (nI m) = vp_updL g (4 * s + k / 16) ((g (4 * s + k / 16) &&& ((15 <<< Int64.ofNat (4 * (k % 16))) ^^^ (-1))) ||| ((nI m).toInt64 <<< Int64.ofNat (4 * (k % 16)))) := by
    unfold P_Rows_set
    rw [if_neg (nI_pos (by omega)), q4 (s := s) hM, if_neg (by rw [j_le (by omega) (by omega)]; omega), if_neg (nI_pos (by omega)), if_neg (show ¬ 64 ≤ nI k from by rw [show (64 : Int32) = nI 64 from rfl, j_le (by omega) (by omega)]; omega), ix_w (by omega) hk]
    have h := sh_i ⟨k, hk⟩
    simp only at h
    rw [h]
  rw [rr_eq hM hs' hk', e, upl_a]
  by_cases h : 4 * s' + k' / 16 = 4 * s + k / 16
  · have h1 : s' = s := by omega
    have h2 : k' / 16 = k / 16 := by omega
    rw [if_pos h, nbw_set _ _ _ _ (Nat.mod_lt _ (by decide)) (Nat.mod_lt _ (by decide)) hm]
    by_cases h3 : k % 16 = k' % 16
    · rw [if_pos h3, if_pos ⟨h1, by omega⟩]
    · rw [if_neg h3, if_neg (fun h9 => h3 (by rw [h9.2])), rr_eq hM hs' hk', h]
  · rw [if_neg h, if_neg (fun h9 => h (by rw [h9.1, h9.2])), rr_eq hM hs' hk']
theorem rr_copy {M M0 s s0 s' k' : Nat} {g g0 : gg} (hM : M ≤ 8192) (hM0 : M0 ≤ 8192) (hs : s < M) (hs0 : s0 < M0) (hs' : s' < M) (hk' : k' < 64) : rr M (P_Rows_copy M M0 g g0 (nI s) (nI s0)) s' k' = if s' = s then rr M0 g0 s0 k' else rr M g s' k' := by
  have hh : ∀ {M s : Nat} {g : gg}, M ≤ 8192 → s < M → ¬ P_Rows_has M g (nI s) = 0 := by
    intro M s g h1 h2
    unfold P_Rows_has
    rw [if_neg (nI_pos (by omega)), q4 (s := s) h1, if_neg (by rw [j_le (by omega) (by omega)]; omega)]
    decide
  unfold P_Rows_copy
  rw [if_neg (hh hM hs), if_neg (hh hM0 hs0), rr_eq hM hs' hk']
  have e1 : nI s0 * 4 = nI (s0 * 4) := pk_mul s0 4
  have e2 : nI s * 4 = nI (s * 4) := pk_mul s 4
  rw [e1, e2, nI_clamp (by omega), nI_clamp (by omega), show (4 : Int32).toNatClampNeg = 4 from rfl]
  unfold va_cpy
  by_cases h : s' = s
  · subst h
    rw [if_pos rfl, rr_eq hM0 hs0 hk', if_pos (by omega)]
    congr 3
    omega
  · rw [if_neg h, rr_eq hM hs' hk', if_neg (by omega)]
-- the reference's slots: closed forms of fact, known, element loops
def ee (F : gf) (k j : Nat) : Int32 := F 14 (64 * k + j)
def SE (F : gf) (k : Nat) (h : Nat → Int32) (a b : Nat) : gf := fun q i => if q = 14 ∧ 64 * k + a ≤ i ∧ i < 64 * k + b then h (i - 64 * k) else F q i
def agr (k : Nat) (F0 F : gf) : Prop := ∀ q i, ¬ (q = 14 ∧ i / 64 = k) → F q i = F0 q i
theorem agr.rf {k : Nat} {F : gf} : agr k F F := fun _ _ _ => rfl
theorem agr.st {k i : Nat} {F0 F : gf} {v : Int32} (h : agr k F0 F) (hi : i < 64) : agr k F0 (Au F 14 (64 * k + i) v) := by
  intro q j hq
  rw [au_a, if_neg (fun h9 => hq ⟨h9.1, by rw [h9.2]; omega⟩)]
  exact h q j hq
theorem SE_e {F : gf} {k n : Nat} {h : Nat → Int32} : SE F k h n n = F := by
  funext q i; unfold SE; rw [if_neg (by omega)]
theorem SE_s {F : gf} {k i n : Nat} {h : Nat → Int32} (hi : i < n) : SE (Au F 14 (64 * k + i) (h i)) k h (i + 1) n = SE F k h i n := by
  funext q j
  unfold SE
  by_cases h1 : q = 14 ∧ 64 * k + (i + 1) ≤ j ∧ j < 64 * k + n
  · rw [if_pos h1, if_pos ⟨h1.1, by omega, h1.2.2⟩]
  · rw [if_neg h1, au_a]
    by_cases h2 : q = 14 ∧ j = 64 * k + i
    · rw [if_pos h2, if_pos ⟨h2.1, by omega, by omega⟩, h2.2]
      congr 1; omega
    · rw [if_neg h2, if_neg (fun h9 => h1 ⟨h9.1, by have := h9.2; have : ¬ j = 64 * k + i := fun e => h2 ⟨h9.1, e⟩; omega, h9.2.2⟩)]
theorem SE_agr {F F0 : gf} {k a b : Nat} {h : Nat → Int32} (hb : b ≤ 64) (hF : agr k F0 F) : agr k F0 (SE F k h a b) := by
  intro q i hq
  unfold SE
  rw [if_neg (fun h9 => hq ⟨h9.1, by omega⟩)]
  exact hF q i hq
theorem eloop {R : Type} {k n : Nat} {F0 : gf} {h : Nat → Int32} {T : Nat → gf → Nat → R} {fin : gf → R} (hn : n ≤ 64)
    (hT : ∀ fuel F i, i < n → agr k F0 F → T (fuel + 1) F i = T fuel (Au F 14 (64 * k + i) (h i)) (i + 1)) (hE : ∀ fuel F, agr k F0 F → T (fuel + 1) F n = fin F) :
    ∀ d i fuel F, i + d = n → d < fuel → agr k F0 F → T fuel F i = fin (SE F k h i n) := by
  intro d
  induction d with
  | zero =>
    intro i fuel F hi hf hF
    obtain ⟨m, rfl⟩ : ∃ m, fuel = m + 1 := ⟨fuel - 1, by omega⟩
    obtain rfl : i = n := by omega
    rw [hE m F hF, SE_e]
  | succ d ih =>
    intro i fuel F hi hf hF
    obtain ⟨m, rfl⟩ : ∃ m, fuel = m + 1 := ⟨fuel - 1, by omega⟩
    rw [hT m F i (by omega) hF, ih (i + 1) m _ (by omega) (by omega) (hF.st (by omega)), SE_s (by omega)]
theorem fuel0 : 100000 < (2147483647 - (0 : Int32).toInt).toNat + 1 := by
  have : (0 : Int32).toInt = 0 := rfl
  rw [this]; decide
theorem el_ix {k i : Nat} (hk : k < 10000) (hi : i < 64) : ((64 * nI k) + nI i).toNatClampNeg = 64 * k + i := by
  have h2 : (64 : Int32) * nI k = nI (64 * k) := pk_mul 64 k
  rw [h2, nI_add, nI_clamp (by omega)]
theorem by_n : ∀ m : Fin 16, vp_nar .byte ((nI m).toInt8.toInt32) = nI m := by decide
theorem se_n {κ : Nat → Nat} {τ : gf} {σ : Nat → Int32} {F : gf} {nu : gg} {k i m : Nat} {v : Int32} (hk : k < 10000) (hi : i < 64) (hm : m < 16) (hv : v = nI m) : Q_setElement κ τ σ F nu (nI k) (nI i) v = (σ, Au F 14 (64 * k + i) v, nu) := by
  subst hv
  unfold Q_setElement
  have h := by_n ⟨m, hm⟩
  simp only at h
  rw [el_ix hk hi, h]
theorem el_n {κ : Nat → Nat} {τ : gf} {σ : Nat → Int32} {F : gf} {nu : gg} {k i : Nat} (hk : k < 10000) (hi : i < 64) : Q_element κ τ σ F nu (nI k) (nI i) = ee F k i := by
  unfold Q_element ee
  rw [el_ix hk hi]
theorem s64 {i : Nat} (hi : i < 64) : ¬ (64 : Int32) ≤ nI i := by rw [show (64 : Int32) = nI 64 from rfl, j_le (by omega) (by omega)]; omega
theorem s64e : (64 : Int32) ≤ nI 64 := by decide
/-- a slot set anew -/
def FK (F : gf) (k : Nat) (c e x : Int32) : gf := SE (Au (Au (Au (Au F 9 k c) 10 k e) 11 k x) 12 k (-1)) k (fun _ => 0) 0 64
theorem bo_n {x : Int32} (h : x = 0 ∨ x = 1) : vp_nar .boolean x = x := by rcases h with h | h <;> subst h <;> decide
theorem fact_n {κ : Nat → Nat} {τ : gf} {σ : Nat → Int32} {F : gf} {nu : gg} {k : Nat} {c e x : Int32} (hk : k < 10000) (hx : x = 0 ∨ x = 1) : Q_fact κ τ σ F nu (nI k) c e x = (σ, FK F k c e x, vp_updL nu k 0) := by
  unfold Q_fact FK
  rw [nI_clamp (by omega), bo_n hx]
  refine eloop (k := k) (n := 64) (F0 := Au (Au (Au (Au F 9 k c) 10 k e) 11 k x) 12 k (-1)) (h := fun _ => 0) (T := fun fuel F' i => Q_fact_39 κ τ σ F nu (nI k) c e x fuel F' (nI i)) (fin := fun F' => (σ, F', vp_updL nu k 0)) (Nat.le_refl _) ?_ ?_ 64 0 _ _ rfl (Nat.lt_trans (by decide) fuel0) agr.rf
  · intro fuel F' i hi _
    show (if 64 ≤ nI i then _ else _) = _
    rw [if_neg (s64 hi), se_n (v := 0) (m := 0) hk hi (by decide) rfl, nI_succ]
  · intro fuel F' _
    show (if 64 ≤ nI 64 then _ else _) = _
    rw [if_pos s64e, nI_clamp (by omega)]
/-- what known leaves: of a constant all, else classes, sizes, meanings -/
theorem known_n {κ : Nat → Nat} {τ : gf} {σ : Nat → Int32} {F : gf} {nu : gg} {k : Nat} (hk : k < 10000) : ∃ F' nu', Q_known κ τ σ F nu (nI k) = (0, σ, F', nu') ∧ agr k F F' ∧ (∀ i, i ≠ k → nu' i = nu i) ∧ (¬ F 11 k = 0 → F' = F ∧ nu' = nu) := by
  unfold Q_known
  rw [nI_clamp (by omega)]
  by_cases h : F 11 k = 0
  · rw [if_pos h]
    refine ⟨SE F k (fun _ => 0) 0 64, vp_updL nu k 0, ?_, SE_agr (Nat.le_refl _) agr.rf, fun i hi => by rw [upl_a, if_neg hi], fun h9 => absurd h h9⟩
    refine eloop (k := k) (n := 64) (F0 := F) (h := fun _ => 0) (T := fun fuel F' i => Q_known_18 κ τ σ F nu (nI k) fuel F' (nI i)) (fin := fun F' => (0, σ, F', vp_updL nu k 0)) (Nat.le_refl _) ?_ ?_ 64 0 _ _ rfl (Nat.lt_trans (by decide) fuel0) agr.rf
    · intro fuel F' i hi _
      show (if 64 ≤ nI i then _ else _) = _
      rw [if_neg (s64 hi), se_n (v := 0) (m := 0) hk hi (by decide) rfl, nI_succ]
    · intro fuel F' _
      show (if 64 ≤ nI 64 then _ else _) = _
      rw [if_pos s64e, nI_clamp (by omega)]
  · rw [if_neg h]
    exact ⟨F, nu, rfl, agr.rf, fun _ _ => rfl, fun _ => ⟨rfl, rfl⟩⟩
theorem SE_q {F : gf} {k a b q : Nat} {h : Nat → Int32} (hq : ¬ q = 14) : SE F k h a b q = F q := by
  funext i; unfold SE; rw [if_neg (fun h9 => hq h9.1)]
theorem FK_q {F : gf} {k q i : Nat} {c e x : Int32} (hq : ¬ q = 14) : FK F k c e x q i = if i = k then (if q = 9 then c else if q = 10 then e else if q = 11 then x else if q = 12 then -1 else F q i) else F q i := by
  unfold FK
  rw [SE_q hq, au_a, au_a, au_a, au_a]
  by_cases hi : i = k
  · by_cases h9 : q = 9
    · simp [h9, hi]
    · by_cases h10 : q = 10
      · simp [h10, hi]
      · by_cases h11 : q = 11
        · simp [h11, hi]
        · by_cases h12 : q = 12 <;> simp [h9, h10, h11, h12, hi]
  · simp [hi]
/-- off slot k all is as it was -/
def frM (k : Nat) (F : gf) (nu : gg) (F' : gf) (nu' : gg) : Prop := (∀ q, ¬ q = 9 → ¬ q = 10 → ¬ q = 11 → ¬ q = 12 → ¬ q = 14 → F' q = F q) ∧ (∀ q i, ¬ q = 14 → i ≠ k → F' q i = F q i) ∧ (∀ i, ¬ i / 64 = k → F' 14 i = F 14 i) ∧ ∀ i, i ≠ k → nu' i = nu i
theorem frM.rf {k : Nat} {F : gf} {nu : gg} : frM k F nu F nu := ⟨fun _ _ _ _ _ _ => rfl, fun _ _ _ _ => rfl, fun _ _ => rfl, fun _ _ => rfl⟩
theorem frM.tr {k : Nat} {F F1 F2 : gf} {nu n1 n2 : gg} (h1 : frM k F nu F1 n1) (h2 : frM k F1 n1 F2 n2) : frM k F nu F2 n2 :=
  ⟨fun q a b c d e => (h2.1 q a b c d e).trans (h1.1 q a b c d e), fun q i a b => (h2.2.1 q i a b).trans (h1.2.1 q i a b), fun i a => (h2.2.2.1 i a).trans (h1.2.2.1 i a), fun i a => (h2.2.2.2 i a).trans (h1.2.2.2 i a)⟩
theorem frM.agr {k : Nat} {F F' : gf} {nu nu' : gg} (h : agr k F F') (h2 : ∀ i, i ≠ k → nu' i = nu i) : frM k F nu F' nu' :=
  ⟨fun q _ _ _ _ e => by funext i; exact h q i (fun h9 => e h9.1), fun q i a b => h q i (fun h9 => a h9.1), fun i a => h 14 i (fun h9 => a h9.2), h2⟩
theorem frM.num {k : Nat} {F : gf} {nu : gg} {v : Int64} : frM k F nu F (vp_updL nu k v) := frM.agr agr.rf (fun i hi => by rw [upl_a, if_neg hi])
theorem frM.mn {k : Nat} {F : gf} {nu : gg} {v : Int32} : frM k F nu (Au F 12 k v) nu :=
  ⟨fun q _ _ _ d _ => by funext i; rw [au_a, if_neg (fun h9 => d h9.1)], fun q i _ b => by rw [au_a, if_neg (fun h9 => b h9.2)], fun i _ => by rw [au_a, if_neg (fun h9 => absurd h9.1 (by decide))], fun _ _ => rfl⟩
-- row loops of the class; the same look on both sides
def ragr (M s : Nat) (g0 g : gg) : Prop := ∀ s' j, s' < M → j < 64 → s' ≠ s → rr M g s' j = rr M g0 s' j
theorem ragr.rf {M s : Nat} {g : gg} : ragr M s g g := fun _ _ _ _ _ => rfl
theorem ragr.tr {M s : Nat} {g g1 g2 : gg} (h1 : ragr M s g g1) (h2 : ragr M s g1 g2) : ragr M s g g2 := fun a b c d e => (h2 a b c d e).trans (h1 a b c d e)
theorem ragr.st {M s i m : Nat} {g0 g : gg} {v : Int32} (hM : M ≤ 8192) (hs : s < M) (hi : i < 64) (hm : m < 16) (hv : v = nI m) (h : ragr M s g0 g) : ragr M s g0 (P_Rows_set M g (nI s) (nI i) v) := by
  intro s' j h1 h2 h3
  rw [hv, rr_set hM hs hi h1 h2 hm, if_neg (fun h9 => h3 h9.1)]
  exact h s' j h1 h2 h3
theorem rowloop {R : Type} {M s n : Nat} {g0 : gg} {h : Nat → Int32} {T : Nat → gg → Nat → R} {fin : gg → R} (hM : M ≤ 8192) (hs : s < M) (hn : n ≤ 64) (hh : ∀ j, j < n → ∃ m, m < 16 ∧ h j = nI m)
    (hT : ∀ fuel g i, i < n → ragr M s g0 g → T (fuel + 1) g i = T fuel (P_Rows_set M g (nI s) (nI i) (h i)) (i + 1)) (hE : ∀ fuel g, ragr M s g0 g → T (fuel + 1) g n = fin g) :
    ∀ d i fuel g, i + d = n → d < fuel → ragr M s g0 g → ∃ g', T fuel g i = fin g' ∧ ragr M s g0 g' ∧ (∀ j, i ≤ j → j < n → rr M g' s j = h j) ∧ ∀ j, j < i → rr M g' s j = rr M g s j := by
  intro d
  induction d with
  | zero =>
    intro i fuel g hi hf hg
    obtain ⟨m, rfl⟩ : ∃ m, fuel = m + 1 := ⟨fuel - 1, by omega⟩
    obtain rfl : i = n := by omega
    exact ⟨g, hE m g hg, hg, fun j h1 h2 => by omega, fun _ _ => rfl⟩
  | succ d ih =>
    intro i fuel g hi hf hg
    obtain ⟨m, rfl⟩ : ∃ m, fuel = m + 1 := ⟨fuel - 1, by omega⟩
    obtain ⟨v, hv, ev⟩ := hh i (by omega)
    obtain ⟨g', e1, e2, e3, e4⟩ := ih (i + 1) m _ (by omega) (by omega) (hg.st (i := i) hM hs (by omega) hv ev)
    refine ⟨g', (hT m g i (by omega) hg).trans e1, e2, fun j h1 h2 => ?_, fun j h1 => ?_⟩
    · by_cases hj : j = i
      · subst hj
        rw [e4 j (by omega), ev, rr_set hM hs (by omega) hs (by omega) hv, if_pos ⟨rfl, rfl⟩]
      · exact e3 j (by omega) h2
    · rw [e4 j (by omega), ev, rr_set hM hs (by omega) hs (by omega) hv, if_neg (by omega)]
/-- values of one look on both sides: class, extent, constancy; the class's number and row, the reference's -/
def LSv (c e x n : Int32) (v : Int64) (rc rm : Nat → Int32) : Prop :=
  (c = 0 ∨ c = 1 ∨ c = 2 ∨ c = 3 ∨ c = 4) ∧ (x = 0 ∨ x = 1) ∧ (c = 3 → ∃ E, 1 ≤ E ∧ E ≤ 64 ∧ e = nI E) ∧ (c = 0 ∨ c = 1 ∨ c = 2 → e = 0) ∧
  (x = 1 → (c = 2 → n.toInt64 = v ∧ -2147483648 < n.toInt) ∧ (c = 0 → n.toInt64 = v ∧ ∃ m, m < 9 ∧ n = nI m) ∧ (c = 3 → ∀ E j, e = nI E → E ≤ 64 → j < E → rc j = rm j ∧ ∃ m, m < 9 ∧ rm j = nI m))
def LsK (M : Nat) (f : gf) (g : gg) (F : gf) (nu : gg) (k : Nat) : Prop :=
  f 0 k = F 9 k ∧ f 1 k = F 10 k ∧ f 2 k = F 12 k ∧ f 4 k = F 11 k ∧ LSv (F 9 k) (F 10 k) (F 11 k) (f 3 k) (nu k) (rr M g k) (ee F k)
def FrC (M : Nat) (k : Nat) (φ : gF) (ψ : gG) (φ' : gF) (ψ' : gG) : Prop := ∃ f g, φ' = up φ 9 f ∧ ψ' = up ψ 10 g ∧ (∀ j q, q ≠ k → f j q = φ 9 j q) ∧ ragr M k (ψ 10) g
theorem up_at {α : Type} {f : Nat → α} {i : Nat} {x : α} : up f i x i = x := up_s
theorem FrC.rf {M k : Nat} {φ : gF} {ψ : gG} : FrC M k φ ψ φ ψ := ⟨φ 9, ψ 10, (up_id φ 9).symm, (up_id ψ 10).symm, fun _ _ _ => rfl, ragr.rf⟩
theorem FrC.tr {M k : Nat} {φ φ1 φ2 : gF} {ψ ψ1 ψ2 : gG} (h1 : FrC M k φ ψ φ1 ψ1) (h2 : FrC M k φ1 ψ1 φ2 ψ2) : FrC M k φ ψ φ2 ψ2 := by
  obtain ⟨f1, g1, rfl, rfl, a1, b1⟩ := h1
  obtain ⟨f2, g2, rfl, rfl, a2, b2⟩ := h2
  refine ⟨f2, g2, up_up, up_up, fun j q hq => ?_, ?_⟩
  · rw [a2 j q hq, up_at]; exact a1 j q hq
  · rw [up_at] at b2; exact b1.tr b2
theorem FrC.f {M k : Nat} {φ : gF} {ψ : gG} {f : gf} (h : ∀ j q, q ≠ k → f j q = φ 9 j q) : FrC M k φ ψ (up φ 9 f) ψ := ⟨f, ψ 10, rfl, (up_id ψ 10).symm, h, ragr.rf⟩
theorem FrC.g {M k : Nat} {φ : gF} {ψ : gG} {g : gg} (h2 : ragr M k (ψ 10) g) : FrC M k φ ψ φ (up ψ 10 g) := ⟨φ 9, g, (up_id φ 9).symm, rfl, fun _ _ _ => rfl, h2⟩
/-- a node was looked at on both sides: a fault on both, or the same look -/
def LK2 (M : Nat) (φ : gF) (ψ : gG) (F : gf) (nu : gg) (k : Nat) (oc : Int32 × gF × gG) (om : Int32 × gs × gf × gg) : Prop :=
  FrC M k φ ψ oc.2.1 oc.2.2 ∧ frM k F nu om.2.2.1 om.2.2.2 ∧ ((¬ oc.1 = 0 ∧ 0 < om.1) ∨ (oc.1 = 0 ∧ om.1 = 0 ∧ LsK M (oc.2.1 9) (oc.2.2 10) om.2.2.1 om.2.2.2 k))
def CK (κ : Nat → Nat) : Prop := κ 0 ≤ 4000 ∧ κ 0 ≤ κ 7 ∧ κ 7 ≤ 8192 ∧ κ 0 ≤ κ 10 ∧ κ 10 ≤ 8192 ∧ κ 5 ≤ κ 8 ∧ κ 8 ≤ 8192 ∧ κ 4 ≤ 1000 ∧ κ 5 ≤ 2000
-- Logic
theorem lo_not (a : Int32) : P_Logic_not a = Q_not a := rfl
theorem no_lt : ∀ m : Fin 9, ∃ q : Fin 9, Q_not (nI m) = nI q := by decide
theorem lo_sg : ∀ o : Fin 6, ∀ a b : Fin 9, P_Logic_ofSigns (nI o) (nI a) (nI b) = Q_logic (nI o) (nI a) (nI b) := by decide
theorem lo_lt : ∀ o : Fin 6, ∀ a b : Fin 9, ∃ q : Fin 9, Q_logic (nI o) (nI a) (nI b) = nI q := by decide
-- ints of both widths
theorem w_i (n : Int32) : n.toInt64.toInt = n.toInt := Int32.toInt_toInt64 n
theorem w_eq {n : Int32} {v : Int64} : n.toInt64 = v ↔ n.toInt = v.toInt := ⟨fun h => by rw [← h, w_i], fun h => Int64.toInt_inj.mp (by rw [w_i]; exact h)⟩
theorem w_back (n : Int32) : n.toInt64.toInt32 = n := by simp
theorem i32_b (n : Int32) : -2147483648 ≤ n.toInt ∧ n.toInt ≤ 2147483647 := by
  have h1 := Int32.le_toInt n; have h2 := Int32.toInt_le n
  rw [show Int32.maxValue.toInt = 2147483647 by decide] at h2
  exact ⟨by omega, h2⟩
theorem n_neg {n : Int32} (h : -2147483648 < n.toInt) : (-n).toInt = -n.toInt := by
  have := i32_b n
  rw [Int32.toInt_neg]
  exact Int.bmod_eq_of_le (by omega) (by omega)
theorem l_neg {v : Int64} (h : -2147483648 ≤ v.toInt ∧ v.toInt ≤ 2147483647) : (-v).toInt = -v.toInt := by
  rw [Int64.toInt_neg]
  exact Int.bmod_eq_of_le (by omega) (by omega)
theorem n_abs {n : Int32} (h : -2147483648 < n.toInt) : (if 0 ≤ n then n else 0 - n).toInt = if 0 ≤ n.toInt then n.toInt else -n.toInt := by
  have hb := i32_b n
  by_cases h0 : 0 ≤ n
  · rw [if_pos h0, if_pos (by rw [Int32.le_iff_toInt_le] at h0; exact h0)]
  · rw [if_neg h0, if_neg (by rw [Int32.le_iff_toInt_le] at h0; exact h0), Int32.toInt_sub]
    have : (0 : Int32).toInt = 0 := rfl
    rw [this]
    have : ¬ 0 ≤ n.toInt := by rw [Int32.le_iff_toInt_le] at h0; exact h0
    rw [Int.bmod_eq_of_le (by omega) (by omega)]
    omega
theorem lg_lt (x y : Int64) : (lg_cmp x y < 0) = (x.toInt < y.toInt) := by
  unfold lg_cmp
  apply propext
  by_cases h1 : y < x
  · rw [if_pos h1]; rw [Int64.lt_iff_toInt_lt] at h1; exact ⟨fun h => absurd h (by decide), fun h => by omega⟩
  · rw [if_neg h1]
    by_cases h2 : x = y
    · rw [if_pos h2, h2]; exact ⟨fun h => absurd h (by decide), fun h => by omega⟩
    · rw [if_neg h2]; rw [Int64.lt_iff_toInt_lt] at h1
      exact ⟨fun _ => by have : ¬ x.toInt = y.toInt := fun e => h2 (Int64.toInt_inj.mp e); omega, fun _ => by decide⟩
theorem lg_ge (x y : Int64) : (0 ≤ lg_cmp x y) = (y.toInt ≤ x.toInt) := by
  have h := lg_lt x y
  apply propext
  rw [show (0 ≤ lg_cmp x y) ↔ ¬ lg_cmp x y < 0 from Int32.not_lt.symm, h]; omega
theorem lg_gt (x y : Int64) : (0 < lg_cmp x y) = (y.toInt < x.toInt) := by
  unfold lg_cmp
  apply propext
  by_cases h1 : y < x
  · rw [if_pos h1]; rw [Int64.lt_iff_toInt_lt] at h1; exact ⟨fun _ => h1, fun _ => by decide⟩
  · rw [if_neg h1]; rw [Int64.lt_iff_toInt_lt] at h1
    by_cases h2 : x = y
    · rw [if_pos h2]; exact ⟨fun h => absurd h (by decide), fun h => by omega⟩
    · rw [if_neg h2]; exact ⟨fun h => absurd h (by decide), fun h => by omega⟩
theorem lg_le (x y : Int64) : (lg_cmp x y ≤ 0) = (x.toInt ≤ y.toInt) := by
  have h := lg_gt x y
  apply propext
  rw [show (lg_cmp x y ≤ 0) ↔ ¬ 0 < lg_cmp x y from Int32.not_lt.symm, h]; omega
theorem lg_eq (x y : Int64) : (lg_cmp x y = 0) = (x.toInt = y.toInt) := by
  unfold lg_cmp
  apply propext
  by_cases h1 : y < x
  · rw [if_pos h1]; rw [Int64.lt_iff_toInt_lt] at h1; exact ⟨fun h => absurd h (by decide), fun h => by omega⟩
  · rw [if_neg h1]
    by_cases h2 : x = y
    · rw [if_pos h2, h2]; exact ⟨fun _ => rfl, fun _ => rfl⟩
    · rw [if_neg h2]; exact ⟨fun h => absurd h (by decide), fun h => absurd (Int64.toInt_inj.mp h) h2⟩
def kn (κ : Nat → Nat) (τ : gf) (σ : Nat → Int32) (F : gf) (nu : gg) (k : Nat) : Int32 × gs × gf × gg := ((Q_known κ τ σ F nu (nI k)).1, σ, (Q_known κ τ σ F nu (nI k)).2.2.1, (Q_known κ τ σ F nu (nI k)).2.2.2)
theorem fin_di {M k : Nat} {φ φ' : gF} {ψ ψ' : gG} {F F1 : gf} {nu nu1 : gg} {σ' : gs} (h1 : FrC M k φ ψ φ' ψ') (h2 : frM k F nu F1 nu1) (h3 : LsK M (φ' 9) (ψ' 10) F1 nu1 k) : LK2 M φ ψ F nu k (0, φ', ψ') (0, σ', F1, nu1) := ⟨h1, h2, Or.inr ⟨rfl, rfl, h3⟩⟩
theorem fin_kn {M k : Nat} {κ : Nat → Nat} {τ : gf} {σ : Nat → Int32} {φ φ' : gF} {ψ ψ' : gG} {F F1 : gf} {nu nu1 : gg} (hk : k < 4000) (h1 : FrC M k φ ψ φ' ψ') (h2 : frM k F nu F1 nu1) (h3 : LsK M (φ' 9) (ψ' 10) F1 nu1 k) : LK2 M φ ψ F nu k (0, φ', ψ') (kn κ τ σ F1 nu1 k) := by
  obtain ⟨F', nu', e, a1, a2, a3⟩ := known_n (κ := κ) (τ := τ) (σ := σ) (F := F1) (nu := nu1) (k := k) (by omega)
  unfold kn
  rw [e]
  show LK2 M φ ψ F nu k (0, φ', ψ') (0, σ, F', nu')
  refine fin_di h1 (h2.tr (frM.agr a1 a2)) ?_
  by_cases hx : F1 11 k = 0
  · obtain ⟨b1, b2, b3, b4, b5, b6, b7, b8, b9⟩ := h3
    have g9 : F' 9 k = F1 9 k := a1 9 k (by omega)
    have g10 : F' 10 k = F1 10 k := a1 10 k (by omega)
    have g11 : F' 11 k = F1 11 k := a1 11 k (by omega)
    have g12 : F' 12 k = F1 12 k := a1 12 k (by omega)
    refine ⟨by rw [g9]; exact b1, by rw [g10]; exact b2, by rw [g12]; exact b3, by rw [g11]; exact b4, by rw [g9]; exact b5, by rw [g11]; exact b6, by rw [g9, g10]; exact b7, by rw [g9, g10]; exact b8, fun h => ?_⟩
    rw [g11, hx] at h
    exact absurd h (by decide)
  · obtain ⟨rfl, rfl⟩ := a3 hx
    exact h3
theorem fin_ft {M k : Nat} {φ φ' : gF} {ψ ψ' : gG} {F F1 : gf} {nu nu1 : gg} {σ' : gs} {c m : Int32} (h1 : FrC M k φ ψ φ' ψ') (h2 : frM k F nu F1 nu1) (hc : ¬ c = 0) (hm : 0 < m) : LK2 M φ ψ F nu k (c, φ', ψ') (m, σ', F1, nu1) := ⟨h1, h2, Or.inl ⟨hc, hm⟩⟩
theorem fx0 {x : Int32} (h : x = 0 ∨ x = 1) : (if x = 1 then (1 : Int32) else 0) = x := by rcases h with h | h <;> subst h <;> rfl
theorem fx1 {x : Int32} (h : x = 0 ∨ x = 1) : (if x = 0 then (0 : Int32) else 1) = x := by rcases h with h | h <;> subst h <;> rfl
/-- a look whose values don't matter: not constant, or of TRUTH, or a place -/
theorem lsv_t {c e x n : Int32} {v : Int64} {rc rm : Nat → Int32} (hc : c = 1 ∧ e = 0 ∨ c = 4) (hx : x = 0 ∨ x = 1) : LSv c e x n v rc rm := by
  refine ⟨?_, hx, ?_, ?_, fun _ => ⟨?_, ?_, ?_⟩⟩
  · rcases hc with h | h
    · exact Or.inr (Or.inl h.1)
    · exact Or.inr (Or.inr (Or.inr (Or.inr h)))
  · intro h; rcases hc with ⟨h2, _⟩ | h2 <;> rw [h] at h2 <;> exact absurd h2 (by decide)
  · intro h; rcases hc with ⟨_, h2⟩ | h2
    · exact h2
    · rw [h2] at h; exact absurd h (by decide)
  · intro h; rcases hc with ⟨h2, _⟩ | h2 <;> rw [h] at h2 <;> exact absurd h2 (by decide)
  · intro h; rcases hc with ⟨h2, _⟩ | h2 <;> rw [h] at h2 <;> exact absurd h2 (by decide)
  · intro h; rcases hc with ⟨h2, _⟩ | h2 <;> rw [h] at h2 <;> exact absurd h2 (by decide)
theorem lsv_2 {x n : Int32} {v : Int64} {rc rm : Nat → Int32} (hx : x = 0 ∨ x = 1) (h : x = 1 → n.toInt = v.toInt ∧ -2147483648 < n.toInt) : LSv 2 0 x n v rc rm :=
  ⟨by decide, hx, fun h9 => absurd h9 (by decide), fun _ => rfl, fun h1 => ⟨fun _ => ⟨w_eq.mpr (h h1).1, (h h1).2⟩, fun h9 => absurd h9 (by decide), fun h9 => absurd h9 (by decide)⟩⟩
theorem lsv_l {x n : Int32} {v : Int64} {rc rm : Nat → Int32} (hx : x = 0 ∨ x = 1) (h : x = 1 → n.toInt64 = v ∧ ∃ m, m < 9 ∧ n = nI m) : LSv 0 0 x n v rc rm :=
  ⟨by decide, hx, fun h9 => absurd h9 (by decide), fun _ => rfl, fun h1 => ⟨fun h9 => absurd h9 (by decide), fun _ => h h1, fun h9 => absurd h9 (by decide)⟩⟩
theorem lsv_3 {x n e : Int32} {v : Int64} {rc rm : Nat → Int32} {E : Nat} (h1 : 1 ≤ E) (h2 : E ≤ 64) (he : e = nI E) (hx : x = 0 ∨ x = 1) (h : x = 1 → ∀ j, j < E → rc j = rm j ∧ ∃ m, m < 9 ∧ rm j = nI m) : LSv 3 e x n v rc rm :=
  ⟨by decide, hx, fun _ => ⟨E, h1, h2, he⟩, fun h9 => absurd h9 (by decide), fun hx1 => ⟨fun h9 => absurd h9 (by decide), fun h9 => absurd h9 (by decide), fun _ E' j e' hE' hj => h hx1 j (by
    have : E' = E := by rw [e'] at he; exact (j_eq (by omega) (by omega)).mp he
    omega)⟩⟩
-- NORMAL FORMS: a node's slot set, on the class's side and on the reference's
def cs (f : gf) (k : Nat) (c e m n x : Int32) : gf := fun j i => if i = k then (if j = 0 then c else if j = 1 then e else if j = 2 then m else if j = 3 then n else if j = 4 then x else f j i) else f j i
def ct (φ : gF) (k : Nat) (c e m n x : Int32) : gF := up φ 9 (cs (φ 9) k c e m n x)
theorem ct_9 {φ : gF} {k : Nat} {c e m n x : Int32} : ct φ k c e m n x 9 = cs (φ 9) k c e m n x := up_s
theorem ct_o {φ : gF} {k i : Nat} {c e m n x : Int32} (h : ¬ i = 9) : ct φ k c e m n x i = φ i := up_n h
theorem cs_a {f : gf} {k j q : Nat} {c e m n x : Int32} (h : ¬ q = k) : cs f k c e m n x j q = f j q := if_neg h
theorem cs_k {f : gf} {k j : Nat} {c e m n x : Int32} : cs f k c e m n x j k = if j = 0 then c else if j = 1 then e else if j = 2 then m else if j = 3 then n else if j = 4 then x else f j k := if_pos rfl
theorem ct_fr {M k : Nat} {φ : gF} {ψ : gG} {c e m n x : Int32} : FrC M k φ ψ (ct φ k c e m n x) ψ := FrC.f (fun _ _ hq => cs_a hq)
theorem cs_au {f : gf} {k j0 : Nat} {c e m n x v : Int32} (h : j0 < 5) : Au (cs f k c e m n x) j0 k v = cs f k (if j0 = 0 then v else c) (if j0 = 1 then v else e) (if j0 = 2 then v else m) (if j0 = 3 then v else n) (if j0 = 4 then v else x) := by
  funext j i
  rw [au_a]
  by_cases hi : i = k
  · subst hi
    rw [cs_k, cs_k]
    by_cases hj : j = j0
    · subst hj
      rcases (show j = 0 ∨ j = 1 ∨ j = 2 ∨ j = 3 ∨ j = 4 by omega) with h | h | h | h | h <;> subst h <;> simp
    · rw [if_neg (fun h9 => hj h9.1)]
      by_cases h0 : j = 0
      · subst h0; simp [hj]; intro e9; exact absurd e9.symm hj
      · by_cases h1 : j = 1
        · subst h1; simp; intro e9; exact absurd e9.symm hj
        · by_cases h2 : j = 2
          · subst h2; simp; intro e9; exact absurd e9.symm hj
          · by_cases h3 : j = 3
            · subst h3; simp; intro e9; exact absurd e9.symm hj
            · by_cases h4 : j = 4
              · subst h4; simp; intro e9; exact absurd e9.symm hj
              · simp [h0, h1, h2, h3, h4]
  · rw [if_neg (fun h9 => hi h9.2), cs_a hi, cs_a hi]
theorem cs_id {f : gf} {k : Nat} : f = cs f k (f 0 k) (f 1 k) (f 2 k) (f 3 k) (f 4 k) := by
  funext j i
  by_cases hi : i = k
  · subst hi; rw [cs_k]; by_cases h0 : j = 0
    · simp [h0]
    · by_cases h1 : j = 1
      · simp [h1]
      · by_cases h2 : j = 2
        · simp [h2]
        · by_cases h3 : j = 3
          · simp [h3]
          · by_cases h4 : j = 4 <;> simp [h0, h1, h2, h3, h4]
  · rw [cs_a hi]
theorem au5 {f : gf} {k j0 : Nat} {v : Int32} (h : j0 < 5) : Au f j0 k v = cs f k (if j0 = 0 then v else f 0 k) (if j0 = 1 then v else f 1 k) (if j0 = 2 then v else f 2 k) (if j0 = 3 then v else f 3 k) (if j0 = 4 then v else f 4 k) := by
  have h1 := cs_au (f := f) (k := k) (c := f 0 k) (e := f 1 k) (m := f 2 k) (n := f 3 k) (x := f 4 k) (v := v) h
  rw [← cs_id] at h1
  exact h1
-- notes, numbers, meanings of a slot in normal form
section CT
variable {κ : Nat → Nat} {φ : gF} {k : Nat} {c e m n x : Int32}
theorem ct_note {c' e' y : Int32} (h : k < κ 7) (hL : κ 7 ≤ 8192) : up (ct φ k c e m n x) 9 (P_Looks_note (κ 7) ((ct φ k c e m n x) 9) (nI k) c' e' y) = ct φ k c' e' m n (if y = 0 then 0 else 1) := by
  rw [pl_note h hL, ct_9, cs_au (by decide), cs_au (by decide), cs_au (by decide)]
  unfold ct
  rw [up_up]
  rfl
theorem ct_sn {v : Int32} (h : k < κ 7) (hL : κ 7 ≤ 8192) : up (ct φ k c e m n x) 9 (P_Looks_setNumber (κ 7) ((ct φ k c e m n x) 9) (nI k) v) = ct φ k c e m v x := by
  rw [pl_sn h hL, ct_9, cs_au (by decide)]; unfold ct; rw [up_up]; rfl
theorem ct_sm {v : Int32} (h : k < κ 7) (hL : κ 7 ≤ 8192) : up (ct φ k c e m n x) 9 (P_Looks_setMeaning (κ 7) ((ct φ k c e m n x) 9) (nI k) v) = ct φ k c e v n x := by
  rw [pl_sm h hL, ct_9, cs_au (by decide)]; unfold ct; rw [up_up]; rfl
theorem ct_fg (h : k < κ 7) (hL : κ 7 ≤ 8192) : up φ 9 (P_Looks_forget (κ 7) (φ 9) (nI k)) = ct φ k (-1) 0 (-1) 0 0 := by
  rw [pl_fg h hL, au5 (f := φ 9) (by decide), cs_au (by decide), cs_au (by decide), cs_au (by decide), cs_au (by decide)]
  rfl
end CT
/-- the reference's slot k: class, size, constancy, meaning, elements -/
def mt (F : gf) (k : Nat) (c e x m : Int32) (r : Nat → Int32) : gf := fun q i => if q = 14 then (if i / 64 = k then r (i % 64) else F 14 i) else if i = k then (if q = 9 then c else if q = 10 then e else if q = 11 then x else if q = 12 then m else F q i) else F q i
theorem mt_fk {F : gf} {k : Nat} {c e x : Int32} : FK F k c e x = mt F k c e x (-1) (fun _ => 0) := by
  funext q i
  unfold mt
  by_cases hq : q = 14
  · subst hq
    rw [if_pos rfl]
    unfold FK SE
    by_cases hi : i / 64 = k
    · rw [if_pos hi, if_pos ⟨rfl, by omega, by omega⟩]
    · rw [if_neg hi, if_neg (by omega)]
      simp [au_a]
  · rw [if_neg hq, FK_q hq]
theorem mt_se {F : gf} {k a b : Nat} {c e x m : Int32} {r h : Nat → Int32} (hb : b ≤ 64) : SE (mt F k c e x m r) k h a b = mt F k c e x m (fun j => if a ≤ j ∧ j < b then h j else r j) := by
  funext q i
  unfold SE
  by_cases hq : q = 14
  · subst hq
    by_cases hc : 64 * k + a ≤ i ∧ i < 64 * k + b
    · rw [if_pos ⟨rfl, hc⟩]
      unfold mt
      rw [if_pos rfl, if_pos (by omega)]
      show _ = if _ then _ else _
      rw [if_pos (by omega)]
      congr 1; omega
    · rw [if_neg (fun h9 => hc h9.2)]
      unfold mt
      rw [if_pos rfl, if_pos rfl]
      by_cases hi : i / 64 = k
      · rw [if_pos hi, if_pos hi]
        show _ = if _ then _ else _
        rw [if_neg (by omega)]
      · rw [if_neg hi, if_neg hi]
  · rw [if_neg (fun h9 => hq h9.1)]
    unfold mt
    rw [if_neg hq, if_neg hq]
theorem mt_mn {F : gf} {k : Nat} {c e x m m' : Int32} {r : Nat → Int32} : Au (mt F k c e x m r) 12 k m' = mt F k c e x m' r := by
  funext q i
  rw [au_a]
  unfold mt
  by_cases hq : q = 12
  · subst hq
    by_cases hi : i = k
    · simp [hi]
    · simp [hi]
  · simp [hq]
theorem ul2 {nu : gg} {k : Nat} {a b : Int64} : vp_updL (vp_updL nu k a) k b = vp_updL nu k b := by
  funext i; rw [upl_a, upl_a, upl_a]; by_cases h : i = k <;> simp [h]
theorem mt_a {F : gf} {k q i : Nat} {c e x m : Int32} {r : Nat → Int32} (hq : ¬ q = 14) (hi : ¬ i = k) : mt F k c e x m r q i = F q i := by
  unfold mt; rw [if_neg hq, if_neg hi]
theorem mt_ea {F : gf} {k i j : Nat} {c e x m : Int32} {r : Nat → Int32} (hi : ¬ i = k) (hj : j < 64) : ee (mt F k c e x m r) i j = ee F i j := by
  unfold ee mt; rw [if_pos rfl, if_neg (by omega)]
theorem mt_k {F : gf} {k : Nat} {c e x m : Int32} {r : Nat → Int32} : mt F k c e x m r 9 k = c ∧ mt F k c e x m r 10 k = e ∧ mt F k c e x m r 11 k = x ∧ mt F k c e x m r 12 k = m ∧ ∀ j, j < 64 → ee (mt F k c e x m r) k j = r j := by
  refine ⟨by simp [mt], by simp [mt], by simp [mt], by simp [mt], fun j hj => ?_⟩
  unfold ee mt
  rw [if_pos rfl, if_pos (by omega)]
  congr 1; omega
theorem mt_fr {F : gf} {nu : gg} {k : Nat} {c e x m : Int32} {v : Int64} {r : Nat → Int32} : frM k F nu (mt F k c e x m r) (vp_updL nu k v) := by
  refine ⟨fun q a b c d e => ?_, fun q i a b => mt_a a b, fun i a => ?_, fun i hi => by rw [upl_a, if_neg hi]⟩
  · funext i; unfold mt; rw [if_neg e]; by_cases hi : i = k <;> simp [hi, a, b, c, d]
  · unfold mt; rw [if_pos rfl, if_neg a]
theorem nf_ls {M k : Nat} {φ : gF} {ψ : gG} {F : gf} {nu : gg} {c e m n x : Int32} {v : Int64} {r : Nat → Int32} (h : LSv c e x n v (rr M (ψ 10) k) r) : LsK M (ct φ k c e m n x 9) (ψ 10) (mt F k c e x m r) (vp_updL nu k v) k := by
  obtain ⟨e1, e2, e3, e4, e5⟩ := mt_k (F := F) (k := k) (c := c) (e := e) (x := x) (m := m) (r := r)
  refine ⟨?_, ?_, ?_, ?_, ?_⟩
  · rw [ct_9, cs_k, e1]; rfl
  · rw [ct_9, cs_k, e2]; rfl
  · rw [ct_9, cs_k, e4]; rfl
  · rw [ct_9, cs_k, e3]; rfl
  · rw [e1, e2, e3, ct_9, cs_k, upl_a, if_pos (rfl : k = k)]
    show LSv c e x n v _ _
    obtain ⟨a1, a2, a3, a4, a5⟩ := h
    refine ⟨a1, a2, a3, a4, fun hx => ⟨(a5 hx).1, (a5 hx).2.1, fun hc E j hE hE2 hj => ?_⟩⟩
    rw [e5 j (by omega)]
    exact (a5 hx).2.2 hc E j hE hE2 hj
theorem nf_k {M k : Nat} {κ : Nat → Nat} {τ : gf} {σ : gs} {φ : gF} {ψ : gG} {F : gf} {nu : gg} {g : gg} {c e m n x : Int32} {v : Int64} {r : Nat → Int32} (hk : k < 4000) (hg : ragr M k (ψ 10) g) (h : LSv c e x n v (rr M g k) r) : LK2 M φ ψ F nu k (0, ct φ k c e m n x, up ψ 10 g) (kn κ τ σ (mt F k c e x m r) (vp_updL nu k v) k) :=
  fin_kn hk (ct_fr.tr (FrC.g hg)) mt_fr (nf_ls (by rw [up_s]; exact h))
theorem nf_k0 {M k : Nat} {κ : Nat → Nat} {τ : gf} {σ : gs} {φ : gF} {ψ : gG} {F : gf} {nu : gg} {c e m n x : Int32} {v : Int64} {r : Nat → Int32} (hk : k < 4000) (h : LSv c e x n v (rr M (ψ 10) k) r) : LK2 M φ ψ F nu k (0, ct φ k c e m n x, ψ) (kn κ τ σ (mt F k c e x m r) (vp_updL nu k v) k) :=
  fin_kn hk ct_fr mt_fr (nf_ls h)
theorem nf_d {M k : Nat} {σ' : gs} {φ : gF} {ψ : gG} {F : gf} {nu : gg} {g : gg} {c e m n x : Int32} {v : Int64} {r : Nat → Int32} (hg : ragr M k (ψ 10) g) (h : LSv c e x n v (rr M g k) r) : LK2 M φ ψ F nu k (0, ct φ k c e m n x, up ψ 10 g) (0, σ', mt F k c e x m r, vp_updL nu k v) :=
  fin_di (ct_fr.tr (FrC.g hg)) mt_fr (nf_ls (by rw [up_s]; exact h))
theorem nf_d0 {M k : Nat} {σ' : gs} {φ : gF} {ψ : gG} {F : gf} {nu : gg} {c e m n x : Int32} {v : Int64} {r : Nat → Int32} (h : LSv c e x n v (rr M (ψ 10) k) r) : LK2 M φ ψ F nu k (0, ct φ k c e m n x, ψ) (0, σ', mt F k c e x m r, vp_updL nu k v) :=
  fin_di ct_fr mt_fr (nf_ls h)
theorem nf_f {M k : Nat} {σ' : gs} {φ φ' : gF} {ψ ψ' : gG} {F F1 : gf} {nu nu1 : gg} {c m : Int32} (h1 : FrC M k φ ψ φ' ψ') (h2 : frM k F nu F1 nu1) (hc : ¬ c = 0) (hm : 0 < m) : LK2 M φ ψ F nu k (c, φ', ψ') (m, σ', F1, nu1) := fin_ft h1 h2 hc hm
theorem fact_t {κ : Nat → Nat} {τ : gf} {σ : Nat → Int32} {F : gf} {nu : gg} {k : Nat} {c e x : Int32} (hk : k < 10000) (hx : x = 0 ∨ x = 1) : Q_fact κ τ σ F nu (nI k) c e x = (σ, mt F k c e x (-1) (fun _ => 0), vp_updL nu k 0) := by rw [fact_n hk hx, mt_fk]
/-- a byte's width -/
def bw (v : Int32) : Int32 := vp_nar .byte (v.toInt8.toInt32)
theorem bw_n {v : Int32} (h : ∃ m, m < 16 ∧ v = nI m) : bw v = v := by obtain ⟨m, hm, rfl⟩ := h; exact by_n ⟨m, hm⟩
theorem se_w {κ : Nat → Nat} {τ : gf} {σ : Nat → Int32} {F : gf} {nu : gg} {k i : Nat} {v : Int32} (hk : k < 10000) (hi : i < 64) : Q_setElement κ τ σ F nu (nI k) (nI i) v = (σ, Au F 14 (64 * k + i) (bw v), nu) := by
  unfold Q_setElement bw; rw [el_ix hk hi]
theorem m9 {v : Int32} (h : ∃ m, m < 9 ∧ v = nI m) : ∃ m, m < 16 ∧ v = nI m := by obtain ⟨m, h1, h2⟩ := h; exact ⟨m, by omega, h2⟩
theorem agr_mt {F F' : gf} {k i j : Nat} {c e x m : Int32} {r : Nat → Int32} (h : agr k (mt F k c e x m r) F') (hi : ¬ i = k) : (∀ q, ¬ q = 14 → F' q i = F q i) ∧ (j < 64 → ee F' i j = ee F i j) := by
  refine ⟨fun q hq => ?_, fun hj => ?_⟩
  · rw [h q i (fun h9 => hq h9.1), mt_a hq hi]
  · have : ee F' i j = ee (mt F k c e x m r) i j := h 14 (64 * i + j) (by omega)
    rw [this, mt_ea hi hj]
theorem cu_82 {κ : Nat → Nat} {φ : gF} {ψ : gG} {k a o E : Nat} {n : Int32} (hC : CK κ) (hk : k < κ 0) (ha : a < k) (hE : φ 9 1 a = nI E) (hE64 : E ≤ 64) :
    ∃ g', P_Operators_computeUnary_82 κ ((2147483647 - (0 : Int32).toInt).toNat + 1) φ ψ (nI k) (nI o) (nI a) n 0 = (φ, up ψ 10 g') ∧ ragr (κ 10) k (ψ 10) g' ∧ ∀ j, j < E → rr (κ 10) g' k j = P_Logic_not (rr (κ 10) (ψ 10) a j) := by
  obtain ⟨c0, c1, c2, c3, c4, c5, c6, c7, c8⟩ := hC
  have hh : ∀ j, j < E → ∃ m, m < 16 ∧ P_Logic_not (rr (κ 10) (ψ 10) a j) = nI m := by
    intro j _
    rcases (show P_Logic_not (rr (κ 10) (ψ 10) a j) = 0 ∨ P_Logic_not (rr (κ 10) (ψ 10) a j) = 1 ∨ P_Logic_not (rr (κ 10) (ψ 10) a j) = 2 ∨ P_Logic_not (rr (κ 10) (ψ 10) a j) = 3 by
      unfold P_Logic_not; repeat' split
      all_goals simp) with h | h | h | h
    · exact ⟨0, by decide, h⟩
    · exact ⟨1, by decide, h⟩
    · exact ⟨2, by decide, h⟩
    · exact ⟨3, by decide, h⟩
  obtain ⟨g', e1, e2, e3, e4⟩ := rowloop (M := κ 10) (s := k) (n := E) (g0 := ψ 10) (h := fun j => P_Logic_not (rr (κ 10) (ψ 10) a j)) (T := fun fuel g i => P_Operators_computeUnary_82 κ fuel φ (up ψ 10 g) (nI k) (nI o) (nI a) n (nI i)) (fin := fun g => (φ, up ψ 10 g)) c4 (by omega) hE64 hh
    (fun fuel g i hi hg => by
      show (if P_Looks_extentOf (κ 7) (φ 9) (nI a) ≤ nI i then _ else P_Operators_computeUnary_82 κ fuel φ (up (up ψ 10 g) 10 (P_Rows_set (κ 10) ((up ψ 10 g) 10) (nI k) (nI i) (P_Logic_not (P_Rows_get (κ 10) ((up ψ 10 g) 10) (nI a) (nI i))))) (nI k) (nI o) (nI a) n (nI i + 1)) = _
      rw [pl_1 (by omega) c2, hE, if_neg (by rw [j_le (by omega) (by omega)]; omega), up_up, up_s, ← nI_succ]
      have := hg a i (by omega) (by omega) (by omega)
      unfold rr at this ⊢
      rw [this])
    (fun fuel g hg => by
      show (if P_Looks_extentOf (κ 7) (φ 9) (nI a) ≤ nI E then _ else _) = _
      rw [pl_1 (by omega) c2, hE, if_pos (by rw [j_le (by omega) (by omega)]; exact Nat.le_refl _)]) E 0 ((2147483647 - (0 : Int32).toInt).toNat + 1) (ψ 10) (by omega) (Nat.lt_trans (by omega) fuel0) ragr.rf
  refine ⟨g', ?_, e2, fun j hj => e3 j (Nat.zero_le _) hj⟩
  rw [up_id ψ 10] at e1
  exact e1
-- UNARY
theorem um_173 {κ : Nat → Nat} {τ : gf} {σ : Nat → Int32} {F : gf} {nu : gg} {k a : Nat} {t : Int64} (hk : k < 4000) (ha : a < k) (hx : F 11 a = 0 ∨ F 11 a = 1) :
    (¬ F 9 a = 3 → Q_lookUnary_169 κ τ σ F nu (nI k) (nI a) t = kn κ τ σ (mt F k (F 9 a) (F 10 a) (F 11 a) (-1) (fun _ => 0)) (vp_updL nu k t) k) ∧
    (∀ E, F 9 a = 3 → F 10 a = nI E → E ≤ 64 → Q_lookUnary_169 κ τ σ F nu (nI k) (nI a) t = kn κ τ σ (mt F k (F 9 a) (F 10 a) (F 11 a) (-1) (fun j => if 0 ≤ j ∧ j < E then bw (Q_not (ee F a j)) else 0)) (vp_updL nu k t) k) := by
  have eN : (nI k).toNatClampNeg = k := nI_clamp (by omega)
  have eA : (nI a).toNatClampNeg = a := nI_clamp (by omega)
  have hak : ¬ a = k := by omega
  have hfin : ∀ F' z, Q_lookUnary_217 κ τ σ F nu (nI k) (nI a) t F' z = kn κ τ σ F' (vp_updL nu k t) k := by
    intro F' z
    unfold Q_lookUnary_217 kn
    rw [eA, eN, fact_t (by omega) hx]
    simp only [ul2]
  constructor
  · intro h3
    unfold Q_lookUnary_169
    rw [eA, fact_t (by omega) hx]
    show (if _ then _ else if _ then _ else _) = _
    simp only [eA, mt_a (show ¬ 9 = 14 by decide) hak]
    rw [if_neg h3, hfin]
    by_cases h : mt F k (F 9 a) (F 10 a) (F 11 a) (-1) (fun _ => 0) 10 a ≤ 0
    · rw [if_pos h]
    · rw [if_neg h]
  · intro E h3 hE hE64
    unfold Q_lookUnary_169
    rw [eA, fact_t (by omega) hx, ← mt_se hE64]
    refine eloop (k := k) (n := E) (F0 := mt F k (F 9 a) (F 10 a) (F 11 a) (-1) (fun _ => 0)) (h := fun j => bw (Q_not (ee F a j))) (T := fun fuel F' i => Q_lookUnary_173 κ τ σ F nu (nI k) (nI a) t fuel F' (nI i)) (fin := fun F' => kn κ τ σ F' (vp_updL nu k t) k) hE64 ?_ ?_ E 0 _ _ (by omega) (Nat.lt_trans (by omega) fuel0) agr.rf
    · intro fuel F' i hi hF
      have hA := agr_mt (j := i) hF hak
      show (if F' 10 (nI a).toNatClampNeg ≤ nI i then _ else if F' 9 (nI a).toNatClampNeg = 3 then _ else _) = _
      rw [eA, hA.1 10 (by decide), hE, if_neg (by rw [j_le (by omega) (by omega)]; omega), hA.1 9 (by decide), if_pos h3, el_n (by omega) (by omega), hA.2 (by omega), se_w (by omega) (by omega), nI_succ]
    · intro fuel F' hF
      have hA := agr_mt (j := 0) hF hak
      show (if F' 10 (nI a).toNatClampNeg ≤ nI E then _ else if F' 9 (nI a).toNatClampNeg = 3 then _ else _) = _
      rw [eA, hA.1 10 (by decide), hE, if_pos (by rw [j_le (by omega) (by omega)]; exact Nat.le_refl _), hfin]
theorem um_60 {κ : Nat → Nat} {τ : gf} {σ : Nat → Int32} {F : gf} {nu : gg} {k a : Nat} (hk : k < 4000) (ha : a < k) (hx : F 11 a = 0 ∨ F 11 a = 1) :
    Q_lookUnary_60 κ τ σ F nu (nI k) (nI a) = (if F 9 a = 2 then kn κ τ σ (mt F k (F 9 a) (F 10 a) (F 11 a) (-1) (fun _ => 0)) (vp_updL nu k (-(nu a))) k else (3, σ, mt F k (F 9 a) (F 10 a) (F 11 a) (-1) (fun _ => 0), vp_updL nu k (-(nu a)))) ∧
    Q_lookUnary_70 κ τ σ F nu (nI k) (nI a) = (if F 9 a = 2 then kn κ τ σ (mt F k (F 9 a) (F 10 a) (F 11 a) (-1) (fun _ => 0)) (vp_updL nu k (nu a)) k else (3, σ, mt F k (F 9 a) (F 10 a) (F 11 a) (-1) (fun _ => 0), vp_updL nu k (nu a))) := by
  have eN : (nI k).toNatClampNeg = k := nI_clamp (by omega)
  have eA : (nI a).toNatClampNeg = a := nI_clamp (by omega)
  have hak : ¬ a = k := by omega
  have hn : vp_updL nu k 0 a = nu a := by rw [upl_a, if_neg hak]
  constructor
  · unfold Q_lookUnary_60 kn
    simp only [eA, eN, fact_t (κ := κ) (τ := τ) (σ := σ) (F := F) (nu := nu) (c := F 9 a) (e := F 10 a) (show k < 10000 by omega) hx, mt_a (show ¬ 9 = 14 by decide) hak, ul2, hn]
  · unfold Q_lookUnary_70 kn
    simp only [eA, eN, fact_t (κ := κ) (τ := τ) (σ := σ) (F := F) (nu := nu) (c := F 9 a) (e := F 10 a) (show k < 10000 by omega) hx, mt_a (show ¬ 9 = 14 by decide) hak, ul2, hn]
/-- what is known of a child's look -/
theorem k_unary {κ κr : Nat → Nat} {φ0 : gF} {ψ : gG} {τ : gf} {σ : Nat → Int32} {F : gf} {nu : gg} {k a o : Nat} (hC : CK κ) (hk : k < κ 0) (ha : a < k) (hS : LsK (κ 10) (φ0 9) (ψ 10) F nu a) (ho : τ 3 k = nI o) (ho4 : o < 4) :
    LK2 (κ 10) φ0 ψ F nu k (P_Operators_unary κ (ct φ0 k (-1) 0 (-1) 0 0) ψ (nI k) (nI o) (nI a)) (Q_lookUnary κr τ σ F nu (nI k) (nI a)) := by
  have hC' := hC
  obtain ⟨c0, c1, c2, c3, c4, c5, c6, c7, c8⟩ := hC'
  obtain ⟨s0, s1, s2, s4, v1, v2, v3, v4, v5⟩ := hS
  have eN : (nI k).toNatClampNeg = k := nI_clamp (by omega)
  have eA : (nI a).toNatClampNeg = a := nI_clamp (by omega)
  have hak : ¬ a = k := by omega
  have g0 : ∀ c e m n x, P_Looks_classOf (κ 7) ((ct φ0 k c e m n x) 9) (nI a) = F 9 a := fun _ _ _ _ _ => by rw [pl_0 (by omega) c2, ct_9, cs_a hak]; exact s0
  have g1 : ∀ c e m n x, P_Looks_extentOf (κ 7) ((ct φ0 k c e m n x) 9) (nI a) = F 10 a := fun _ _ _ _ _ => by rw [pl_1 (by omega) c2, ct_9, cs_a hak]; exact s1
  have g3 : ∀ c e m n x, P_Looks_numberOf (κ 7) ((ct φ0 k c e m n x) 9) (nI a) = φ0 9 3 a := fun _ _ _ _ _ => by rw [pl_3 (by omega) c2, ct_9, cs_a hak]
  have g4 : ∀ c e m n x, P_Looks_isFixed (κ 7) ((ct φ0 k c e m n x) 9) (nI a) = F 11 a := fun _ _ _ _ _ => by rw [pl_4 (by omega) c2, ct_9, cs_a hak, s4]; exact fx0 v2
  have hnote : ∀ c' e' m n c e x, up (ct φ0 k c e m n x) 9 (P_Looks_note (κ 7) ((ct φ0 k c e m n x) 9) (nI k) c' e' (F 11 a)) = ct φ0 k c' e' m n (F 11 a) := fun _ _ _ _ _ _ _ => by rw [ct_note (by omega) c2, fx1 v2]
  have hsn : ∀ c e m n x v, up (ct φ0 k c e m n x) 9 (P_Looks_setNumber (κ 7) ((ct φ0 k c e m n x) 9) (nI k) v) = ct φ0 k c e m v x := fun _ _ _ _ _ _ => ct_sn (by omega) c2
  have hum := fun t => um_173 (κ := κr) (τ := τ) (σ := σ) (F := F) (nu := nu) (k := k) (a := a) (t := t) (by omega) ha v2
  have h60 := um_60 (κ := κr) (τ := τ) (σ := σ) (F := F) (nu := nu) (k := k) (a := a) (by omega) ha v2
  have hnk : (vp_updL nu k 0) a = nu a := by rw [upl_a, if_neg hak]
  have hft : ∀ (m : Int32) (F1 : gf) (nu1 : gg), 0 < m → frM k F nu F1 nu1 → LK2 (κ 10) φ0 ψ F nu k (3, ct φ0 k (-1) 0 (-1) 0 0, ψ) (m, σ, F1, nu1) := fun m F1 nu1 h1 h2 => nf_f ct_fr h2 (by decide) h1
  have hb3 := i32_b (φ0 9 3 a)
  unfold P_Operators_unary Q_lookUnary P_Operators_unary_31 P_Operators_unary_50 P_Operators_computeUnary P_Operators_computeUnary_164
  simp only [g0, g1, g3, g4, hnote, hsn, eN, eA, ho, fact_t (κ := κr) (τ := τ) (σ := σ) (F := F) (nu := nu) (c := F 9 a) (e := F 10 a) (show k < 10000 by omega) v2, mt_a (show ¬ 9 = 14 by decide) hak, hnk, h60.1, h60.2]
  rcases v1 with h | h | h | h | h
  · -- LOGIC
    have he : F 10 a = 0 := v4 (Or.inl h)
    have h1 := (hum ((Q_not ((nu a).toInt32)).toInt64)).1 (by rw [h]; decide)
    simp (decide := true) only [h, he, reduceIte] at h1 ⊢
    by_cases ho0 : o = 0
    · subst ho0
      simp (decide := true) only [reduceIte, h1]
      have hx := v2
      rcases hx with hx | hx
      · rw [if_pos hx]
        exact nf_k0 (by omega) (lsv_l v2 (fun h9 => absurd (hx.symm.trans h9) (by decide)))
      · rw [if_neg (by rw [hx]; decide)]
        refine nf_k0 (by omega) (lsv_l v2 (fun _ => ?_))
        obtain ⟨e1, m, hm9, em⟩ := (v5 hx).2.1 h
        obtain ⟨q, hq⟩ := no_lt ⟨m, hm9⟩
        rw [← e1, w_back, lo_not]
        exact ⟨rfl, q, q.2, by rw [em]; exact hq⟩
    · rcases (show o = 1 ∨ o = 2 ∨ o = 3 by omega) with ho' | ho' | ho' <;> subst ho' <;> simp (decide := true) only [reduceIte]
      · exact hft _ _ _ (by decide) mt_fr
      · exact hft _ _ _ (by decide) mt_fr
      · by_cases hc : 0 ≤ lg_cmp (nu a) 0
        · rw [if_pos hc]; exact hft _ _ _ (by decide) mt_fr
        · rw [if_neg hc]; exact hft _ _ _ (by decide) mt_fr
  · -- TRUTH
    have he : F 10 a = 0 := v4 (Or.inr (Or.inl h))
    have h1 := (hum (1 - nu a)).1 (by rw [h]; decide)
    simp (decide := true) only [h, he, reduceIte] at h1 ⊢
    by_cases ho0 : o = 0
    · subst ho0
      simp (decide := true) only [reduceIte, h1]
      have hx := v2
      rcases hx with hx | hx
      · rw [if_pos hx]; exact nf_k0 (by omega) (lsv_t (Or.inl ⟨rfl, rfl⟩) v2)
      · rw [if_neg (by rw [hx]; decide)]; exact nf_k0 (by omega) (lsv_t (Or.inl ⟨rfl, rfl⟩) v2)
    · rcases (show o = 1 ∨ o = 2 ∨ o = 3 by omega) with ho' | ho' | ho' <;> subst ho' <;> simp (decide := true) only [reduceIte]
      · exact hft _ _ _ (by decide) mt_fr
      · exact hft _ _ _ (by decide) mt_fr
      · by_cases hc : 0 ≤ lg_cmp (nu a) 0
        · rw [if_pos hc]; exact hft _ _ _ (by decide) mt_fr
        · rw [if_neg hc]; exact hft _ _ _ (by decide) mt_fr
  · -- INTEGER
    have he : F 10 a = 0 := v4 (Or.inr (Or.inr h))
    have hnum : F 11 a = 1 → (φ0 9 3 a).toInt = (nu a).toInt ∧ -2147483648 < (φ0 9 3 a).toInt := fun hx => ⟨w_eq.mp ((v5 hx).1 h).1, ((v5 hx).1 h).2⟩
    simp (decide := true) only [h, he, reduceIte]
    by_cases ho0 : o = 0
    · subst ho0
      simp (decide := true) only [reduceIte]
      exact hft _ _ _ (by decide) mt_fr
    · have hx := v2
      rcases hx with hx | hx
      · simp only [if_pos hx]
        have hend : ∀ t : Int64, LK2 (κ 10) φ0 ψ F nu k (0, ct φ0 k 2 0 (-1) 0 (F 11 a), ψ) (kn κr τ σ (mt F k 2 0 (F 11 a) (-1) (fun _ => 0)) (vp_updL nu k t) k) := fun t => nf_k0 (by omega) (lsv_2 v2 (fun h9 => absurd (hx.symm.trans h9) (by decide)))
        rcases (show o = 1 ∨ o = 2 ∨ o = 3 by omega) with ho' | ho' | ho' <;> subst ho' <;> simp (decide := true) only [reduceIte]
        · exact hend _
        · exact hend _
        · by_cases hc : 0 ≤ lg_cmp (nu a) 0
          · rw [if_pos hc]; exact hend _
          · rw [if_neg hc]; exact hend _
      · simp only [if_neg (show ¬ F 11 a = 0 by rw [hx]; decide)]
        obtain ⟨n1, n2⟩ := hnum hx
        have hend : ∀ (n : Int32) (t : Int64), n.toInt = t.toInt → -2147483648 < n.toInt → LK2 (κ 10) φ0 ψ F nu k (0, ct φ0 k 2 0 (-1) n (F 11 a), ψ) (kn κr τ σ (mt F k 2 0 (F 11 a) (-1) (fun _ => 0)) (vp_updL nu k t) k) := fun n t h1 h2 => nf_k0 (by omega) (lsv_2 v2 (fun _ => ⟨h1, h2⟩))
        have hln : (-(nu a)).toInt = -(nu a).toInt := l_neg (by omega)
        rcases (show o = 1 ∨ o = 2 ∨ o = 3 by omega) with ho' | ho' | ho' <;> subst ho' <;> simp (decide := true) only [reduceIte]
        · exact hend _ _ (by rw [n_neg n2, hln, n1]) (by rw [n_neg n2]; omega)
        · exact hend _ _ n1 n2
        · by_cases hc : 0 ≤ lg_cmp (nu a) 0
          · rw [if_pos hc]
            rw [lg_ge] at hc
            have h0 : (0 : Int64).toInt = 0 := rfl
            exact hend _ _ (by rw [n_abs n2, if_pos (by omega)]; exact n1) (by rw [n_abs n2, if_pos (by omega)]; exact n2)
          · rw [if_neg hc]
            rw [lg_ge] at hc
            have h0 : (0 : Int64).toInt = 0 := rfl
            exact hend _ _ (by rw [n_abs n2, if_neg (by omega), hln, n1]) (by rw [n_abs n2, if_neg (by omega)]; omega)
  · -- a row
    obtain ⟨E, hE1, hE2, hE⟩ := v3 h
    have h1 := (hum 0).2 E h hE hE2
    by_cases ho0 : o = 0
    · subst ho0
      simp (decide := true) only [h, reduceIte] at h1 ⊢
      rw [h1]
      have hx := v2
      rcases hx with hx | hx
      · rw [if_pos hx]
        exact nf_k0 (by omega) (lsv_3 hE1 hE2 hE v2 (fun h9 => absurd (hx.symm.trans h9) (by decide)))
      · rw [if_neg (by rw [hx]; decide)]
        obtain ⟨g', e1, e2, e3⟩ := cu_82 (κ := κ) (φ := ct φ0 k 3 (F 10 a) (-1) 0 (F 11 a)) (ψ := ψ) (k := k) (a := a) (o := 0) (E := E) (n := φ0 9 3 a) hC hk ha (by rw [ct_9, cs_a hak, s1]; exact hE) hE2
        rw [e1]
        refine nf_k (by omega) e2 (lsv_3 hE1 hE2 hE v2 (fun _ j hj => ?_))
        obtain ⟨q1, m, hm9, em⟩ := (v5 hx).2.2 h E j hE hE2 hj
        obtain ⟨q, hq⟩ := no_lt ⟨m, hm9⟩
        have hq2 : Q_not (ee F a j) = nI q := by rw [em]; exact hq
        show rr (κ 10) g' k j = (if 0 ≤ j ∧ j < E then bw (Q_not (ee F a j)) else 0) ∧ ∃ m, m < 9 ∧ (if 0 ≤ j ∧ j < E then bw (Q_not (ee F a j)) else 0) = nI m
        rw [if_pos ⟨Nat.zero_le _, hj⟩, bw_n ⟨q, by omega, hq2⟩, e3 j hj, q1, lo_not]
        exact ⟨rfl, q, q.2, hq2⟩
    · rcases (show o = 1 ∨ o = 2 ∨ o = 3 by omega) with ho' | ho' | ho' <;> subst ho' <;> simp (decide := true) only [h, reduceIte]
      · exact hft _ _ _ (by decide) mt_fr
      · exact hft _ _ _ (by decide) mt_fr
      · by_cases hc : 0 ≤ lg_cmp (nu a) 0
        · rw [if_pos hc]; exact hft _ _ _ (by decide) mt_fr
        · rw [if_neg hc]; exact hft _ _ _ (by decide) mt_fr
  · -- a place
    by_cases ho0 : o = 0
    · subst ho0
      simp (decide := true) only [h, reduceIte]
      exact hft _ _ _ (by decide) mt_fr
    · rcases (show o = 1 ∨ o = 2 ∨ o = 3 by omega) with ho' | ho' | ho' <;> subst ho' <;> simp (decide := true) only [h, reduceIte]
      · exact hft _ _ _ (by decide) mt_fr
      · exact hft _ _ _ (by decide) mt_fr
      · by_cases hc : 0 ≤ lg_cmp (nu a) 0
        · rw [if_pos hc]; exact hft _ _ _ (by decide) mt_fr
        · rw [if_neg hc]; exact hft _ _ _ (by decide) mt_fr
-- BINARY: children's looks, the class's frame
def CH (κ : Nat → Nat) (φ0 : gF) (ψ : gG) (F : gf) (nu : gg) (k a : Nat) : Prop := a < k ∧ LsK (κ 10) (φ0 9) (ψ 10) F nu a
section CHS
variable {κ : Nat → Nat} {φ0 : gF} {ψ : gG} {F : gf} {nu : gg} {k a b : Nat} {c e m n x : Int32}
theorem ch_0 (hC : CK κ) (hk : k < κ 0) (h : CH κ φ0 ψ F nu k a) : P_Looks_classOf (κ 7) ((ct φ0 k c e m n x) 9) (nI a) = F 9 a := by
  obtain ⟨c0, c1, c2, _⟩ := hC; have := h.1
  rw [pl_0 (by omega) c2, ct_9, cs_a (by omega)]; exact h.2.1
theorem ch_1 (hC : CK κ) (hk : k < κ 0) (h : CH κ φ0 ψ F nu k a) : P_Looks_extentOf (κ 7) ((ct φ0 k c e m n x) 9) (nI a) = F 10 a := by
  obtain ⟨c0, c1, c2, _⟩ := hC; have := h.1
  rw [pl_1 (by omega) c2, ct_9, cs_a (by omega)]; exact h.2.2.1
theorem ch_2 (hC : CK κ) (hk : k < κ 0) (h : CH κ φ0 ψ F nu k a) : P_Looks_meaningOf (κ 7) ((ct φ0 k c e m n x) 9) (nI a) = F 12 a := by
  obtain ⟨c0, c1, c2, _⟩ := hC; have := h.1
  rw [pl_2 (by omega) c2, ct_9, cs_a (by omega)]; exact h.2.2.2.1
theorem ch_3 (hC : CK κ) (hk : k < κ 0) (h : CH κ φ0 ψ F nu k a) : P_Looks_numberOf (κ 7) ((ct φ0 k c e m n x) 9) (nI a) = φ0 9 3 a := by
  obtain ⟨c0, c1, c2, _⟩ := hC; have := h.1
  rw [pl_3 (by omega) c2, ct_9, cs_a (by omega)]
theorem ch_4 (hC : CK κ) (hk : k < κ 0) (h : CH κ φ0 ψ F nu k a) : P_Looks_isFixed (κ 7) ((ct φ0 k c e m n x) 9) (nI a) = F 11 a := by
  obtain ⟨c0, c1, c2, _⟩ := hC; have := h.1
  rw [pl_4 (by omega) c2, ct_9, cs_a (by omega), h.2.2.2.2.1]; exact fx0 h.2.2.2.2.2.2.1
theorem ch_x (h : CH κ φ0 ψ F nu k a) : F 11 a = 0 ∨ F 11 a = 1 := h.2.2.2.2.2.2.1
theorem ch_c (h : CH κ φ0 ψ F nu k a) : F 9 a = 0 ∨ F 9 a = 1 ∨ F 9 a = 2 ∨ F 9 a = 3 ∨ F 9 a = 4 := h.2.2.2.2.2.1
theorem ch_E (h : CH κ φ0 ψ F nu k a) (h3 : F 9 a = 3) : ∃ E, 1 ≤ E ∧ E ≤ 64 ∧ F 10 a = nI E := h.2.2.2.2.2.2.2.1 h3
theorem ch_e0 (h : CH κ φ0 ψ F nu k a) (h3 : F 9 a = 0 ∨ F 9 a = 1 ∨ F 9 a = 2) : F 10 a = 0 := h.2.2.2.2.2.2.2.2.1 h3
theorem ch_n (h : CH κ φ0 ψ F nu k a) (hx : F 11 a = 1) (h3 : F 9 a = 2) : (φ0 9 3 a).toInt = (nu a).toInt ∧ -2147483648 < (φ0 9 3 a).toInt := ⟨w_eq.mp ((h.2.2.2.2.2.2.2.2.2 hx).1 h3).1, ((h.2.2.2.2.2.2.2.2.2 hx).1 h3).2⟩
theorem ch_l (h : CH κ φ0 ψ F nu k a) (hx : F 11 a = 1) (h3 : F 9 a = 0) : (φ0 9 3 a).toInt64 = nu a ∧ ∃ m, m < 9 ∧ φ0 9 3 a = nI m := (h.2.2.2.2.2.2.2.2.2 hx).2.1 h3
theorem ch_r (h : CH κ φ0 ψ F nu k a) (hx : F 11 a = 1) (h3 : F 9 a = 3) {E j : Nat} (hE : F 10 a = nI E) (hE2 : E ≤ 64) (hj : j < E) : rr (κ 10) (ψ 10) a j = ee F a j ∧ ∃ m, m < 9 ∧ ee F a j = nI m := (h.2.2.2.2.2.2.2.2.2 hx).2.2 h3 E j hE hE2 hj
theorem ct_n4 {κ : Nat → Nat} (h : k < κ 7) (hL : κ 7 ≤ 8192) (hx : x = 0 ∨ x = 1) : P_Looks_isFixed (κ 7) ((ct φ0 k c e m n x) 9) (nI k) = x := by
  rw [pl_4 h hL, ct_9, cs_k]; exact fx0 hx
theorem ct_n1 {κ : Nat → Nat} (h : k < κ 7) (hL : κ 7 ≤ 8192) : P_Looks_extentOf (κ 7) ((ct φ0 k c e m n x) 9) (nI k) = e := by
  rw [pl_1 h hL, ct_9, cs_k]; rfl
theorem ct_n0 {κ : Nat → Nat} (h : k < κ 7) (hL : κ 7 ≤ 8192) : P_Looks_classOf (κ 7) ((ct φ0 k c e m n x) 9) (nI k) = c := by
  rw [pl_0 h hL, ct_9, cs_k]; rfl
/-- both constant -/
def bx (x y : Int32) : Int32 := if x = 0 then 0 else if y = 0 then 0 else 1
theorem bx01 (x y : Int32) : bx x y = 0 ∨ bx x y = 1 := by
  unfold bx; by_cases h : x = 0
  · simp [h]
  · by_cases h2 : y = 0 <;> simp [h, h2]
theorem bx1 {x y : Int32} (hx : x = 0 ∨ x = 1) (hy : y = 0 ∨ y = 1) (h : bx x y = 1) : x = 1 ∧ y = 1 := by
  unfold bx at h
  rcases hx with hx | hx <;> rcases hy with hy | hy <;> subst hx <;> subst hy <;> first | exact ⟨rfl, rfl⟩ | exact absurd h (by decide)
/-- the class's binary, but for its values -/
def cbin (κ : Nat → Nat) (φ0 : gF) (ψ : gG) (k a b : Nat) (o c L X ca cb ea eb : Int32) : Int32 × gF × gG :=
  if c = -1 then (3, ct φ0 k (-1) 0 (-1) 0 0, ψ) else if 64 < L then (4, ct φ0 k c L (-1) 0 X, ψ) else if ca = 3 ∧ cb = 3 ∧ ¬ o = 14 ∧ ¬ ea = eb then (4, ct φ0 k c L (-1) 0 X, ψ) else P_Operators_binary_150 κ (ct φ0 k c L (-1) 0 X) ψ (nI k) o (nI a) (nI b) c L 0
theorem cb_form {o : Int32} (hC : CK κ) (hk : k < κ 0) (ha : CH κ φ0 ψ F nu k a) (hb : CH κ φ0 ψ F nu k b) :
    P_Operators_binary κ (ct φ0 k (-1) 0 (-1) 0 0) ψ (nI k) o (nI a) (nI b) = cbin κ φ0 ψ k a b o (P_Operators_resultClass κ (ct φ0 k (-1) 0 (-1) 0 0) ψ o (nI a) (nI b)) (if P_Operators_resultClass κ (ct φ0 k (-1) 0 (-1) 0 0) ψ o (nI a) (nI b) = 3 then P_Operators_resultLength κ (ct φ0 k (-1) 0 (-1) 0 0) ψ o (nI a) (nI b) else 0) (bx (F 11 a) (F 11 b)) (F 9 a) (F 9 b) (F 10 a) (F 10 b) := by
  have hC' := hC
  obtain ⟨c0, c1, c2, _⟩ := hC'
  unfold P_Operators_binary P_Operators_binary_36 P_Operators_binary_74 P_Operators_binary_75 P_Operators_binary_107 P_Operators_binary_108 cbin
  generalize P_Operators_resultClass κ (ct φ0 k (-1) 0 (-1) 0 0) ψ o (nI a) (nI b) = c
  generalize P_Operators_resultLength κ (ct φ0 k (-1) 0 (-1) 0 0) ψ o (nI a) (nI b) = L
  have hnote : ∀ c' e' y, up (ct φ0 k (-1) 0 (-1) 0 0) 9 (P_Looks_note (κ 7) ((ct φ0 k (-1) 0 (-1) 0 0) 9) (nI k) c' e' y) = ct φ0 k c' e' (-1) 0 (if y = 0 then 0 else 1) := fun _ _ _ => ct_note (by omega) c2
  have h7 : ∀ φ L t, P_Operators_binary_150 κ φ ψ (nI k) o (nI a) (nI b) c L t = P_Operators_binary_150 κ φ ψ (nI k) o (nI a) (nI b) c L 0 := fun _ _ _ => rfl
  simp only [ch_0 hC hk ha, ch_0 hC hk hb, ch_1 hC hk ha, ch_1 hC hk hb, ch_4 hC hk ha, ch_4 hC hk hb, hnote, h7]
  have hend : ∀ (L X : Int32), (if F 9 a = 3 then (if F 9 b = 3 then (if 64 < L then ((4 : Int32), ct φ0 k c L (-1) 0 X, ψ) else if (1 : Int32) = 0 then P_Operators_binary_150 κ (ct φ0 k c L (-1) 0 X) ψ (nI k) o (nI a) (nI b) c L 0 else if o = 14 then P_Operators_binary_150 κ (ct φ0 k c L (-1) 0 X) ψ (nI k) o (nI a) (nI b) c L 0 else if F 10 a = F 10 b then P_Operators_binary_150 κ (ct φ0 k c L (-1) 0 X) ψ (nI k) o (nI a) (nI b) c L 0 else (4, ct φ0 k c L (-1) 0 X, ψ)) else (if 64 < L then (4, ct φ0 k c L (-1) 0 X, ψ) else if (0 : Int32) = 0 then P_Operators_binary_150 κ (ct φ0 k c L (-1) 0 X) ψ (nI k) o (nI a) (nI b) c L 0 else if o = 14 then P_Operators_binary_150 κ (ct φ0 k c L (-1) 0 X) ψ (nI k) o (nI a) (nI b) c L 0 else if F 10 a = F 10 b then P_Operators_binary_150 κ (ct φ0 k c L (-1) 0 X) ψ (nI k) o (nI a) (nI b) c L 0 else (4, ct φ0 k c L (-1) 0 X, ψ))) else (if 64 < L then (4, ct φ0 k c L (-1) 0 X, ψ) else if (0 : Int32) = 0 then P_Operators_binary_150 κ (ct φ0 k c L (-1) 0 X) ψ (nI k) o (nI a) (nI b) c L 0 else if o = 14 then P_Operators_binary_150 κ (ct φ0 k c L (-1) 0 X) ψ (nI k) o (nI a) (nI b) c L 0 else if F 10 a = F 10 b then P_Operators_binary_150 κ (ct φ0 k c L (-1) 0 X) ψ (nI k) o (nI a) (nI b) c L 0 else (4, ct φ0 k c L (-1) 0 X, ψ))) = if 64 < L then (4, ct φ0 k c L (-1) 0 X, ψ) else if F 9 a = 3 ∧ F 9 b = 3 ∧ ¬ o = 14 ∧ ¬ F 10 a = F 10 b then (4, ct φ0 k c L (-1) 0 X, ψ) else P_Operators_binary_150 κ (ct φ0 k c L (-1) 0 X) ψ (nI k) o (nI a) (nI b) c L 0 := by
    intro L X
    by_cases q1 : F 9 a = 3 <;> by_cases q2 : F 9 b = 3 <;> by_cases q3 : 64 < L <;> by_cases q4 : o = 14 <;> by_cases q5 : F 10 a = F 10 b <;> simp [q1, q2, q3, q4, q5]
  by_cases hc : c = -1
  · rw [if_pos hc, if_pos hc]
  · rw [if_neg hc, if_neg hc]
    by_cases hc3 : c = 3
    · rw [if_pos hc3, if_pos hc3, ← hend L]
      unfold bx
      by_cases x1 : F 11 a = 0
      · simp (decide := true) only [x1, reduceIte]
      · by_cases x2 : F 11 b = 0
        · simp (decide := true) only [x1, x2, reduceIte]
        · simp (decide := true) only [x1, x2, reduceIte]
    · rw [if_neg hc3, if_neg hc3, ← hend 0]
      unfold bx
      by_cases x1 : F 11 a = 0
      · simp (decide := true) only [x1, reduceIte]
      · by_cases x2 : F 11 b = 0
        · simp (decide := true) only [x1, x2, reduceIte]
        · simp (decide := true) only [x1, x2, reduceIte]
end CHS
-- BINARY 0 to 5
theorem n4 {v : Int32} (h : v = 0 ∨ v = 1 ∨ v = 2 ∨ v = 3) : ∃ m, m < 16 ∧ v = nI m := by
  rcases h with h | h | h | h
  · exact ⟨0, by decide, h⟩
  · exact ⟨1, by decide, h⟩
  · exact ⟨2, by decide, h⟩
  · exact ⟨3, by decide, h⟩
theorem no4 (a : Int32) : P_Logic_not a = 0 ∨ P_Logic_not a = 1 ∨ P_Logic_not a = 2 ∨ P_Logic_not a = 3 := by
  unfold P_Logic_not; repeat' split
  all_goals simp
theorem and4 (a b : Int32) : P_Logic_and a b = 0 ∨ P_Logic_and a b = 1 ∨ P_Logic_and a b = 2 ∨ P_Logic_and a b = 3 := by
  unfold P_Logic_and P_Logic_and_24; repeat' split
  all_goals simp
theorem or4 (a b : Int32) : P_Logic_or a b = 0 ∨ P_Logic_or a b = 1 ∨ P_Logic_or a b = 2 ∨ P_Logic_or a b = 3 := by
  unfold P_Logic_or P_Logic_or_24; repeat' split
  all_goals simp
theorem ot4 (a b : Int32) : P_Logic_other a b = 0 ∨ P_Logic_other a b = 1 ∨ P_Logic_other a b = 2 ∨ P_Logic_other a b = 3 := by
  unfold P_Logic_other P_Logic_other_24; repeat' split
  all_goals simp
theorem sg4 (o a b : Int32) : P_Logic_ofSigns o a b = 0 ∨ P_Logic_ofSigns o a b = 1 ∨ P_Logic_ofSigns o a b = 2 ∨ P_Logic_ofSigns o a b = 3 := by
  unfold P_Logic_ofSigns
  repeat' split
  · exact and4 a b
  · exact or4 a b
  · exact no4 _
  · exact no4 _
  · exact ot4 a b
  · exact no4 _
theorem lo_sgn {o : Nat} {a b : Int32} (ho : o < 6) (ha : ∃ m, m < 9 ∧ a = nI m) (hb : ∃ m, m < 9 ∧ b = nI m) : P_Logic_ofSigns (nI o) a b = Q_logic (nI o) a b ∧ ∃ m, m < 9 ∧ Q_logic (nI o) a b = nI m := by
  obtain ⟨m, hm, rfl⟩ := ha
  obtain ⟨n, hn, rfl⟩ := hb
  refine ⟨lo_sg ⟨o, ho⟩ ⟨m, hm⟩ ⟨n, hn⟩, ?_⟩
  obtain ⟨q, hq⟩ := lo_lt ⟨o, ho⟩ ⟨m, hm⟩ ⟨n, hn⟩
  exact ⟨q, q.2, hq⟩
theorem cc_129 {κ : Nat → Nat} {φ : gF} {ψ : gG} {k a b E : Nat} {o : Int32} (hC : CK κ) (hk : k < κ 0) (ha : a < k) (hb : b < k) (hE : P_Looks_extentOf (κ 7) (φ 9) (nI k) = nI E) (hE64 : E ≤ 64) :
    ∃ g', P_Operators_combine_129 κ ((2147483647 - (0 : Int32).toInt).toNat + 1) φ ψ (nI k) o (nI a) (nI b) 0 = (φ, up ψ 10 g') ∧ ragr (κ 10) k (ψ 10) g' ∧ ∀ j, j < E → rr (κ 10) g' k j = P_Logic_ofSigns o (rr (κ 10) (ψ 10) a j) (rr (κ 10) (ψ 10) b j) := by
  obtain ⟨c0, c1, c2, c3, c4, c5, c6, c7, c8⟩ := hC
  obtain ⟨g', e1, e2, e3, e4⟩ := rowloop (M := κ 10) (s := k) (n := E) (g0 := ψ 10) (h := fun j => P_Logic_ofSigns o (rr (κ 10) (ψ 10) a j) (rr (κ 10) (ψ 10) b j)) (T := fun fuel g i => P_Operators_combine_129 κ fuel φ (up ψ 10 g) (nI k) o (nI a) (nI b) (nI i)) (fin := fun g => (φ, up ψ 10 g)) c4 (by omega) hE64 (fun j _ => n4 (sg4 _ _ _))
    (fun fuel g i hi hg => by
      show (if P_Looks_extentOf (κ 7) (φ 9) (nI k) ≤ nI i then _ else P_Operators_combine_129 κ fuel φ (up (up ψ 10 g) 10 (P_Rows_set (κ 10) ((up ψ 10 g) 10) (nI k) (nI i) (P_Logic_ofSigns o (P_Rows_get (κ 10) ((up ψ 10 g) 10) (nI a) (nI i)) (P_Rows_get (κ 10) ((up ψ 10 g) 10) (nI b) (nI i))))) (nI k) o (nI a) (nI b) (nI i + 1)) = _
      rw [hE, if_neg (by rw [j_le (by omega) (by omega)]; omega), up_up, up_s, ← nI_succ]
      have h1 := hg a i (by omega) (by omega) (by omega)
      have h2 := hg b i (by omega) (by omega) (by omega)
      unfold rr at h1 h2 ⊢
      rw [h1, h2])
    (fun fuel g hg => by
      show (if P_Looks_extentOf (κ 7) (φ 9) (nI k) ≤ nI E then _ else _) = _
      rw [hE, if_pos (by rw [j_le (by omega) (by omega)]; exact Nat.le_refl _)]) E 0 ((2147483647 - (0 : Int32).toInt).toNat + 1) (ψ 10) (by omega) (Nat.lt_trans (by omega) fuel0) ragr.rf
  refine ⟨g', ?_, e2, fun j hj => e3 j (Nat.zero_le _) hj⟩
  rw [up_id ψ 10] at e1
  exact e1
theorem ml_94 {κ : Nat → Nat} {τ : gf} {σ : Nat → Int32} {F : gf} {nu : gg} {k a b : Nat} {o x : Int32} (hk : k < 4000) (ha : a < k) (hb : b < k) (hx : x = 0 ∨ x = 1) :
    (F 9 a = 1 → ∃ v, Q_lookLogic_94 κ τ σ F nu (nI k) o (nI a) (nI b) x = kn κ τ σ (mt F k (F 9 a) (F 10 a) x (-1) (fun _ => 0)) (vp_updL nu k v) k) ∧
    (F 9 a = 0 → Q_lookLogic_94 κ τ σ F nu (nI k) o (nI a) (nI b) x = kn κ τ σ (mt F k (F 9 a) (F 10 a) x (-1) (fun _ => 0)) (vp_updL nu k (Q_logic o ((nu a).toInt32) ((nu b).toInt32)).toInt64) k) ∧
    (∀ E, F 9 a = 3 → F 10 a = nI E → E ≤ 64 → Q_lookLogic_94 κ τ σ F nu (nI k) o (nI a) (nI b) x = kn κ τ σ (mt F k (F 9 a) (F 10 a) x (-1) (fun j => if 0 ≤ j ∧ j < E then bw (Q_logic o (ee F a j) (ee F b j)) else 0)) (vp_updL nu k 0) k) := by
  have eN : (nI k).toNatClampNeg = k := nI_clamp (by omega)
  have eA : (nI a).toNatClampNeg = a := nI_clamp (by omega)
  have eB : (nI b).toNatClampNeg = b := nI_clamp (by omega)
  have hak : ¬ a = k := by omega
  have hbk : ¬ b = k := by omega
  have na : vp_updL nu k 0 a = nu a := by rw [upl_a, if_neg hak]
  have nb : vp_updL nu k 0 b = nu b := by rw [upl_a, if_neg hbk]
  have hft := fact_t (κ := κ) (τ := τ) (σ := σ) (F := F) (nu := nu) (k := k) (c := F 9 a) (e := F 10 a) (x := x) (by omega) hx
  have h245 : ∀ F1 nu1, Q_lookLogic_245 κ τ σ F nu (nI k) o (nI a) (nI b) x F1 nu1 = kn κ τ σ F1 nu1 k := fun _ _ => rfl
  refine ⟨fun h => ?_, fun h => ?_, fun E h hE hE64 => ?_⟩
  · have h157 : ∀ t t' v, Q_lookLogic_157 κ τ σ F nu (nI k) o (nI a) (nI b) x t t' v = kn κ τ σ (mt F k (F 9 a) (F 10 a) x (-1) (fun _ => 0)) (vp_updL nu k v) k := by
      intro t t' v; unfold Q_lookLogic_157; rw [h245, eA, eN, hft]; simp only [ul2]
    unfold Q_lookLogic_94 Q_lookLogic_129 Q_lookLogic_146
    simp only [eA, eN, eB, hft, mt_a (show ¬ 9 = 14 by decide) hak, h157]
    rw [if_pos h]
    by_cases q1 : lg_cmp (vp_updL nu k 0 a) 1 = 0
    · rw [if_pos q1]
      by_cases q2 : lg_cmp (vp_updL nu k 0 b) 1 = 0
      · rw [if_pos q2]; split <;> exact ⟨_, rfl⟩
      · rw [if_neg q2]; split <;> exact ⟨_, rfl⟩
    · rw [if_neg q1]
      by_cases q2 : lg_cmp (vp_updL nu k 0 b) 1 = 0
      · rw [if_pos q2]; split <;> exact ⟨_, rfl⟩
      · rw [if_neg q2]; split <;> exact ⟨_, rfl⟩
  · unfold Q_lookLogic_94
    simp only [eA, eN, eB, hft, mt_a (show ¬ 9 = 14 by decide) hak, h245, ul2, na, nb]
    simp (decide := true) only [h, reduceIte]
  · unfold Q_lookLogic_94
    simp (decide := true) only [eA, eN, eB, mt_a (show ¬ 9 = 14 by decide) hak, hft]
    simp (decide := true) only [h, reduceIte]
    rw [← mt_se hE64]
    refine eloop (k := k) (n := E) (F0 := mt F k 3 (F 10 a) x (-1) (fun _ => 0)) (h := fun j => bw (Q_logic o (ee F a j) (ee F b j))) (T := fun fuel F' i => Q_lookLogic_202 κ τ σ F nu (nI k) o (nI a) (nI b) x fuel F' (nI i)) (fin := fun F' => kn κ τ σ F' (vp_updL nu k 0) k) hE64 ?_ ?_ E 0 _ _ (by omega) (Nat.lt_trans (by omega) fuel0) agr.rf
    · intro fuel F' i hi hF
      have hA := agr_mt (j := i) hF hak
      have hB := agr_mt (j := i) hF hbk
      show (if F' 10 (nI a).toNatClampNeg ≤ nI i then _ else _) = _
      rw [eA, hA.1 10 (by decide), hE, if_neg (by rw [j_le (by omega) (by omega)]; omega), el_n (by omega) (by omega), el_n (by omega) (by omega), hA.2 (by omega), hB.2 (by omega), se_w (by omega) (by omega), nI_succ]
    · intro fuel F' hF
      have hA := agr_mt (j := 0) hF hak
      show (if F' 10 (nI a).toNatClampNeg ≤ nI E then _ else _) = _
      rw [eA, hA.1 10 (by decide), hE, if_pos (by rw [j_le (by omega) (by omega)]; exact Nat.le_refl _), h245, ← hE, hft]
theorem k_logic {κ κr : Nat → Nat} {φ0 : gF} {ψ : gG} {τ : gf} {σ : Nat → Int32} {F : gf} {nu : gg} {k a b o : Nat} (hC : CK κ) (hk : k < κ 0) (ha : CH κ φ0 ψ F nu k a) (hb : CH κ φ0 ψ F nu k b) (ho : o < 6) :
    LK2 (κ 10) φ0 ψ F nu k (P_Operators_binary κ (ct φ0 k (-1) 0 (-1) 0 0) ψ (nI k) (nI o) (nI a) (nI b)) (Q_lookLogic κr τ σ F nu (nI k) (nI o) (nI a) (nI b)) := by
  have hC' := hC
  obtain ⟨c0, c1, c2, c3, c4, c5, c6, c7, c8⟩ := hC'
  have hak := ha.1
  have hbk := hb.1
  have eA : (nI a).toNatClampNeg = a := nI_clamp (by omega)
  have eB : (nI b).toNatClampNeg = b := nI_clamp (by omega)
  have o5 : ¬ (5 : Int32) < nI o := by rw [show (5 : Int32) = nI 5 from rfl, j_lt (by omega) (by omega)]; omega
  have o14 : ¬ nI o = 14 := by rw [show (14 : Int32) = nI 14 from rfl, j_eq (by omega) (by omega)]; omega
  have hbx := bx01 (F 11 a) (F 11 b)
  have hml := ml_94 (κ := κr) (τ := τ) (σ := σ) (F := F) (nu := nu) (k := k) (a := a) (b := b) (o := nI o) (x := bx (F 11 a) (F 11 b)) (by omega) hak hbk hbx
  have hft : ∀ (c m : Int32) (φ' : gF), FrC (κ 10) k φ0 ψ φ' ψ → ¬ c = 0 → 0 < m → LK2 (κ 10) φ0 ψ F nu k (c, φ', ψ) (m, σ, F, nu) := fun c m φ' h1 h2 h3 => nf_f h1 frM.rf h2 h3
  rw [cb_form hC hk ha hb]
  have hq : Q_lookLogic κr τ σ F nu (nI k) (nI o) (nI a) (nI b) = if F 9 a = F 9 b then (if F 9 a = 2 then (3, σ, F, nu) else if F 9 a = 4 then (3, σ, F, nu) else if F 10 a = F 10 b then Q_lookLogic_94 κr τ σ F nu (nI k) (nI o) (nI a) (nI b) (bx (F 11 a) (F 11 b)) else (4, σ, F, nu)) else (3, σ, F, nu) := by
    unfold Q_lookLogic Q_lookLogic_93 bx
    rw [eA, eB]
    by_cases x1 : F 11 a = 0
    · simp only [x1, reduceIte]
    · by_cases x2 : F 11 b = 0 <;> simp only [x1, x2, reduceIte]
  rw [hq]
  unfold P_Operators_resultClass P_Operators_resultClass_49 P_Operators_resultLength
  simp only [ch_0 hC hk ha, ch_0 hC hk hb, ch_1 hC hk ha, ch_1 hC hk hb, if_neg o5, if_neg o14]
  by_cases hab : F 9 a = F 9 b
  · rw [if_pos hab, if_pos hab]
    rcases ch_c ha with h | h | h | h | h
    · -- LOGIC
      have hea := ch_e0 ha (Or.inl h)
      have heb := ch_e0 hb (by rw [← hab]; exact Or.inl h)
      have h1 := hml.2.1 h
      simp (decide := true) only [h, hea, heb, reduceIte] at h1 ⊢
      rw [h1]
      unfold cbin P_Operators_binary_150 P_Operators_combine
      simp (decide := true) only [reduceIte, false_and, ct_n4 (show k < κ 7 by omega) c2 hbx, o5, ct_n0 (show k < κ 7 by omega) c2, ch_3 hC hk ha, ch_3 hC hk hb, ct_sn (show k < κ 7 by omega) c2]
      rcases id hbx with hx | hx
      · rw [if_pos hx]
        exact nf_k0 (by omega) (lsv_l hbx (fun h9 => absurd (hx.symm.trans h9) (by decide)))
      · rw [if_neg (by rw [hx]; decide)]
        obtain ⟨x1, x2⟩ := bx1 (ch_x ha) (ch_x hb) hx
        refine nf_k0 (by omega) (lsv_l hbx (fun _ => ?_))
        have l1 := ch_l ha x1 h
        have l2 := ch_l hb x2 (by rw [← hab]; exact h)
        obtain ⟨q1, q2⟩ := lo_sgn ho l1.2 l2.2
        rw [← l1.1, ← l2.1, w_back, w_back, q1]
        exact ⟨rfl, q2⟩
    · -- TRUTH
      have hea := ch_e0 ha (Or.inr (Or.inl h))
      have heb := ch_e0 hb (by rw [← hab]; exact Or.inr (Or.inl h))
      obtain ⟨v, h1⟩ := hml.1 h
      simp (decide := true) only [h, hea, heb, reduceIte] at h1 ⊢
      rw [h1]
      unfold cbin P_Operators_binary_150 P_Operators_combine P_Operators_combine_59 P_Operators_combine_77 P_Operators_combine_88
      simp (decide := true) only [reduceIte, false_and, ct_n4 (show k < κ 7 by omega) c2 hbx, o5, ct_n0 (show k < κ 7 by omega) c2, ch_3 hC hk ha, ch_3 hC hk hb, ct_sn (show k < κ 7 by omega) c2]
      have hend : ∀ n, LK2 (κ 10) φ0 ψ F nu k (0, ct φ0 k 1 0 (-1) n (bx (F 11 a) (F 11 b)), ψ) (kn κr τ σ (mt F k 1 0 (bx (F 11 a) (F 11 b)) (-1) (fun _ => 0)) (vp_updL nu k v) k) := fun n => nf_k0 (by omega) (lsv_t (Or.inl ⟨rfl, rfl⟩) hbx)
      rcases id hbx with hx | hx
      · rw [if_pos hx]; exact hend _
      · rw [if_neg (by rw [hx]; decide)]
        by_cases q1 : φ0 9 3 a = 1 <;> by_cases q2 : φ0 9 3 b = 1 <;> simp only [q1, q2, reduceIte] <;> split <;> exact hend _
    · simp (decide := true) only [h, reduceIte]
      unfold cbin
      rw [if_pos rfl]
      exact hft _ _ _ ct_fr (by decide) (by decide)
    · -- rows
      obtain ⟨E, hE1, hE2, hE⟩ := ch_E ha h
      obtain ⟨E', hE1', hE2', hE'⟩ := ch_E hb (by rw [← hab]; exact h)
      have hb3 : F 9 b = 3 := by rw [← hab]; exact h
      have h1 := hml.2.2 E h hE hE2
      have h64 : ¬ (64 : Int32) < F 10 a := by rw [hE, show (64 : Int32) = nI 64 from rfl, j_lt (by omega) (by omega)]; omega
      simp (decide := true) only [h, reduceIte] at h1 ⊢
      unfold cbin
      simp (decide := true) only [reduceIte, h64, true_and, hb3, o14, not_false_eq_true]
      by_cases heq : F 10 a = F 10 b
      · simp only [heq, not_true, reduceIte]
        rw [← heq, h1]
        unfold P_Operators_binary_150 P_Operators_combine
        simp (decide := true) only [reduceIte, ct_n4 (show k < κ 7 by omega) c2 hbx, o5, ct_n0 (show k < κ 7 by omega) c2]
        rcases id hbx with hx | hx
        · rw [if_pos hx]
          exact nf_k0 (by omega) (lsv_3 hE1 hE2 hE hbx (fun h9 => absurd (hx.symm.trans h9) (by decide)))
        · rw [if_neg (by rw [hx]; decide)]
          obtain ⟨x1, x2⟩ := bx1 (ch_x ha) (ch_x hb) hx
          obtain ⟨g', e1, e2, e3⟩ := cc_129 (κ := κ) (φ := ct φ0 k 3 (F 10 a) (-1) 0 (bx (F 11 a) (F 11 b))) (ψ := ψ) (k := k) (a := a) (b := b) (o := nI o) (E := E) hC hk hak hbk (by rw [ct_n1 (by omega) c2]; exact hE) hE2
          rw [e1]
          refine nf_k (by omega) e2 (lsv_3 hE1 hE2 hE hbx (fun _ j hj => ?_))
          obtain ⟨q1, w1⟩ := ch_r ha x1 h hE hE2 hj
          obtain ⟨q2, w2⟩ := ch_r hb x2 hb3 (heq.symm.trans hE) hE2 hj
          obtain ⟨q3, q4⟩ := lo_sgn ho w1 w2
          show rr (κ 10) g' k j = (if 0 ≤ j ∧ j < E then bw (Q_logic (nI o) (ee F a j) (ee F b j)) else 0) ∧ ∃ m, m < 9 ∧ (if 0 ≤ j ∧ j < E then bw (Q_logic (nI o) (ee F a j) (ee F b j)) else 0) = nI m
          rw [if_pos ⟨Nat.zero_le _, hj⟩, bw_n (m9 q4), e3 j hj, q1, q2, q3]
          exact ⟨rfl, q4⟩
      · simp only [heq, not_false_eq_true, reduceIte]
        exact hft _ _ _ ct_fr (by decide) (by decide)
    · simp (decide := true) only [h, reduceIte]
      unfold cbin
      rw [if_pos rfl]
      exact hft _ _ _ ct_fr (by decide) (by decide)
  · rw [if_neg hab, if_neg hab]
    unfold cbin
    rw [if_pos rfl]
    exact hft _ _ _ ct_fr (by decide) (by decide)
-- BINARY 6 to 11: only that it is of TRUTH counts
section ORD
variable {κ : Nat → Nat} {τ : gf} {σ : Nat → Int32} {F : gf} {nu : gg} {k a b : Nat} {o : Int32}
def isT (κ : Nat → Nat) (τ : gf) (σ : gs) (F : gf) (nu : gg) (k : Nat) (x : Int32) (r : Int32 × gs × gf × gg) : Prop := ∃ v, r = kn κ τ σ (mt F k 1 0 x (-1) (fun _ => 0)) (vp_updL nu k v) k
theorem o_468 (hk : k < 4000) {x : Int32} (hx : x = 0 ∨ x = 1) {t1 t2 t3 t4 t6 t7 : Int32} {v : Int64} : isT κ τ σ F nu k x (Q_lookOrder_468 κ τ σ F nu (nI k) o (nI a) (nI b) t1 t2 t3 t4 x t6 t7 v) := by
  refine ⟨v, ?_⟩
  unfold Q_lookOrder_468 kn
  rw [fact_t (by omega) hx, nI_clamp (by omega)]
  simp only [ul2]
theorem o_453 (hk : k < 4000) {x : Int32} (hx : x = 0 ∨ x = 1) {t1 t2 t3 t4 t6 t7 : Int32} : isT κ τ σ F nu k x (Q_lookOrder_453 κ τ σ F nu (nI k) o (nI a) (nI b) t1 t2 t3 t4 x t6 t7) := by
  unfold Q_lookOrder_453
  split <;> exact o_468 hk hx
theorem o_390 (hk : k < 4000) {x : Int32} (hx : x = 0 ∨ x = 1) {t1 t2 t3 t4 t6 t7 t8 t9 t0 : Int32} : isT κ τ σ F nu k x (Q_lookOrder_390 κ τ σ F nu (nI k) o (nI a) (nI b) t1 t2 t3 t4 x t6 t7 t8 t9 t0) := by
  unfold Q_lookOrder_390 Q_lookOrder_450 Q_lookOrder_446 Q_lookOrder_451
  repeat' split
  all_goals exact o_453 hk hx
theorem o_363 (hk : k < 4000) {x : Int32} (hx : x = 0 ∨ x = 1) {t1 t2 t3 t4 t6 t7 t8 t9 : Int32} : isT κ τ σ F nu k x (Q_lookOrder_363 κ τ σ F nu (nI k) o (nI a) (nI b) t1 t2 t3 t4 x t6 t7 t8 t9) := by
  unfold Q_lookOrder_363 Q_lookOrder_385 Q_lookOrder_389
  repeat' split
  all_goals exact o_390 hk hx
theorem o_291 (hk : k < 4000) (ha : a < k) {x : Int32} (hx : x = 0 ∨ x = 1) {t1 t2 t3 t4 t6 t7 : Int32} (hE : t1 = 0 ∨ ∃ E, E ≤ 64 ∧ F 10 a = nI E) : ∀ d i fuel i8, (∀ E, E ≤ 64 → F 10 a = nI E → E ≤ i + d) → d + 100 < fuel + i + 100 → d < fuel → i ≤ 64 → isT κ τ σ F nu k x (Q_lookOrder_291 κ τ σ F nu (nI k) o (nI a) (nI b) t1 t2 t3 t4 x t6 t7 fuel (nI i) i8) := by
  intro d
  induction d with
  | zero =>
    intro i fuel i8 hd _ hf hi
    obtain ⟨m, rfl⟩ : ∃ m, fuel = m + 1 := ⟨fuel - 1, by omega⟩
    unfold Q_lookOrder_291
    by_cases h : ((Q_fact κ τ σ F nu (nI k) 1 0 x).2.1) 10 (nI a).toNatClampNeg ≤ nI i
    · rw [if_pos h]; exact o_363 hk hx
    · rw [if_neg h]
      have hz : (Q_fact κ τ σ F nu (nI k) 1 0 x).2.1 10 a = F 10 a := by rw [fact_t (by omega) hx]; exact mt_a (q := 10) (i := a) (r := fun _ => 0) (by decide) (by omega)
      rw [nI_clamp (by omega), hz] at h
      by_cases ht : t1 = 0
      · rw [if_pos ht]; exact o_363 hk hx
      · obtain ⟨E, hE1, hE2⟩ := hE.resolve_left ht
        have := hd E hE1 hE2
        rw [hE2, j_le (by omega) (by omega)] at h
        omega
  | succ d ih =>
    intro i fuel i8 hd _ hf hi
    obtain ⟨m, rfl⟩ : ∃ m, fuel = m + 1 := ⟨fuel - 1, by omega⟩
    unfold Q_lookOrder_291
    by_cases h : ((Q_fact κ τ σ F nu (nI k) 1 0 x).2.1) 10 (nI a).toNatClampNeg ≤ nI i
    · rw [if_pos h]; exact o_363 hk hx
    · rw [if_neg h]
      have hz : (Q_fact κ τ σ F nu (nI k) 1 0 x).2.1 10 a = F 10 a := by rw [fact_t (by omega) hx]; exact mt_a (q := 10) (i := a) (r := fun _ => 0) (by decide) (by omega)
      rw [nI_clamp (by omega), hz] at h
      by_cases ht : t1 = 0
      · rw [if_pos ht]; exact o_363 hk hx
      · rw [if_neg ht]
        obtain ⟨E, hE1, hE2⟩ := hE.resolve_left ht
        rw [hE2, j_le (by omega) (by omega)] at h
        have hi2 : i + 1 ≤ 64 := by omega
        have hn : ∀ i8', isT κ τ σ F nu k x (Q_lookOrder_291 κ τ σ F nu (nI k) o (nI a) (nI b) t1 t2 t3 t4 x t6 t7 m (nI i + 1) i8') := fun i8' => by
          rw [← nI_succ]; exact ih (i + 1) m i8' (fun E' h1 h2 => by have := hd E' h1 h2; omega) (by omega) (by omega) hi2
        unfold Q_lookOrder_355
        repeat' split
        all_goals exact hn _
theorem o_235 (hk : k < 4000) (ha : a < k) {x : Int32} (hx : x = 0 ∨ x = 1) {t1 t2 t3 t4 t6 : Int32} (hE : t1 = 0 ∨ ∃ E, E ≤ 64 ∧ F 10 a = nI E) : isT κ τ σ F nu k x (Q_lookOrder_235 κ τ σ F nu (nI k) o (nI a) (nI b) t1 t2 t3 t4 x t6) := by
  have h286 : ∀ t7, isT κ τ σ F nu k x (Q_lookOrder_286 κ τ σ F nu (nI k) o (nI a) (nI b) t1 t2 t3 t4 x t6 t7) := fun t7 => by
    have hf0 := fuel0
    exact o_291 hk ha hx hE 64 0 _ t7 (fun E h1 _ => by omega) (by omega) (by omega) (by omega)
  unfold Q_lookOrder_235
  split
  · exact o_453 hk hx
  · split
    · split
      · exact h286 _
      · exact h286 _
    · exact h286 _
theorem o_183 (hk : k < 4000) (ha : a < k) (hb : b < k) {t1 t2 t3 t4 : Int32} (hE : t1 = 0 ∨ ∃ E, E ≤ 64 ∧ F 10 a = nI E) : isT κ τ σ F nu k (bx (F 11 a) (F 11 b)) (Q_lookOrder_183 κ τ σ F nu (nI k) o (nI a) (nI b) t1 t2 t3 t4) := by
  have h211 : ∀ x, x = 0 ∨ x = 1 → isT κ τ σ F nu k x (Q_lookOrder_211 κ τ σ F nu (nI k) o (nI a) (nI b) t1 t2 t3 t4 x) := fun x hx => by
    unfold Q_lookOrder_211
    repeat' split
    all_goals exact o_235 hk ha hx hE
  unfold Q_lookOrder_183 Q_lookOrder_210 bx
  rw [nI_clamp (by omega), nI_clamp (by omega)]
  by_cases x1 : F 11 a = 0
  · rw [if_pos x1, if_pos x1]; exact h211 0 (Or.inl rfl)
  · rw [if_neg x1, if_neg x1]
    by_cases x2 : F 11 b = 0
    · rw [if_pos x2, if_pos x2]; exact h211 0 (Or.inl rfl)
    · rw [if_neg x2, if_neg x2]; exact h211 1 (Or.inr rfl)
theorem o_131 (hk : k < 4000) (ha : a < k) (hb : b < k) {t1 t2 : Int32} (hE : t1 = 0 ∨ ∃ E, E ≤ 64 ∧ F 10 a = nI E) : ∀ d i fuel i6, (∀ E, E ≤ 64 → F 10 a = nI E → E ≤ i + d) → d < fuel → i ≤ 64 → isT κ τ σ F nu k (bx (F 11 a) (F 11 b)) (Q_lookOrder_131 κ τ σ F nu (nI k) o (nI a) (nI b) t1 t2 fuel (nI i) i6) := by
  intro d
  induction d with
  | zero =>
    intro i fuel i6 hd hf hi
    obtain ⟨m, rfl⟩ : ∃ m, fuel = m + 1 := ⟨fuel - 1, by omega⟩
    unfold Q_lookOrder_131
    by_cases h : F 10 (nI a).toNatClampNeg ≤ nI i
    · rw [if_pos h]; exact o_183 hk ha hb hE
    · rw [if_neg h]
      rw [nI_clamp (by omega)] at h
      by_cases ht : t1 = 0
      · rw [if_pos ht]; exact o_183 hk ha hb hE
      · obtain ⟨E, hE1, hE2⟩ := hE.resolve_left ht
        have := hd E hE1 hE2
        rw [hE2, j_le (by omega) (by omega)] at h
        omega
  | succ d ih =>
    intro i fuel i6 hd hf hi
    obtain ⟨m, rfl⟩ : ∃ m, fuel = m + 1 := ⟨fuel - 1, by omega⟩
    unfold Q_lookOrder_131
    by_cases h : F 10 (nI a).toNatClampNeg ≤ nI i
    · rw [if_pos h]; exact o_183 hk ha hb hE
    · rw [if_neg h]
      rw [nI_clamp (by omega)] at h
      by_cases ht : t1 = 0
      · rw [if_pos ht]; exact o_183 hk ha hb hE
      · rw [if_neg ht]
        obtain ⟨E, hE1, hE2⟩ := hE.resolve_left ht
        rw [hE2, j_le (by omega) (by omega)] at h
        have hn : ∀ i6', isT κ τ σ F nu k (bx (F 11 a) (F 11 b)) (Q_lookOrder_131 κ τ σ F nu (nI k) o (nI a) (nI b) t1 t2 m (nI i + 1) i6') := fun i6' => by
          rw [← nI_succ]; exact ih (i + 1) m i6' (fun E' h1 h2 => by have := hd E' h1 h2; omega) (by omega) (by omega)
        unfold Q_lookOrder_174 Q_lookOrder_175
        repeat' split
        all_goals exact hn _
theorem o_102 (hk : k < 4000) (ha : a < k) (hb : b < k) {t1 : Int32} (hE : t1 = 0 ∨ ∃ E, E ≤ 64 ∧ F 10 a = nI E) : isT κ τ σ F nu k (bx (F 11 a) (F 11 b)) (Q_lookOrder_102 κ τ σ F nu (nI k) o (nI a) (nI b) t1) := by
  have h126 : ∀ t2, isT κ τ σ F nu k (bx (F 11 a) (F 11 b)) (Q_lookOrder_126 κ τ σ F nu (nI k) o (nI a) (nI b) t1 t2) := fun t2 => by
    have hf0 := fuel0
    exact o_131 hk ha hb hE 64 0 _ t2 (fun E h1 _ => by omega) (by omega) (by omega)
  unfold Q_lookOrder_102
  split
  · exact h126 _
  · exact h126 _
end ORD
theorem k_order {κ κr : Nat → Nat} {φ0 : gF} {ψ : gG} {τ : gf} {σ : Nat → Int32} {F : gf} {nu : gg} {k a b o : Nat} (hC : CK κ) (hk : k < κ 0) (ha : CH κ φ0 ψ F nu k a) (hb : CH κ φ0 ψ F nu k b) (ho : 6 ≤ o) (ho2 : o < 12) :
    LK2 (κ 10) φ0 ψ F nu k (P_Operators_binary κ (ct φ0 k (-1) 0 (-1) 0 0) ψ (nI k) (nI o) (nI a) (nI b)) (Q_lookOrder κr τ σ F nu (nI k) (nI o) (nI a) (nI b)) := by
  have hC' := hC
  obtain ⟨c0, c1, c2, c3, c4, c5, c6, c7, c8⟩ := hC'
  have hak := ha.1
  have hbk := hb.1
  have eA : (nI a).toNatClampNeg = a := nI_clamp (by omega)
  have eB : (nI b).toNatClampNeg = b := nI_clamp (by omega)
  have o5 : (5 : Int32) < nI o := by rw [show (5 : Int32) = nI 5 from rfl, j_lt (by omega) (by omega)]; omega
  have o11 : ¬ (11 : Int32) < nI o := by rw [show (11 : Int32) = nI 11 from rfl, j_lt (by omega) (by omega)]; omega
  have o14 : ¬ nI o = 14 := by rw [show (14 : Int32) = nI 14 from rfl, j_eq (by omega) (by omega)]; omega
  have o7 : (nI o ≤ 7) = ¬ (7 : Int32) < nI o := propext (by rw [show (7 : Int32) = nI 7 from rfl, j_lt (by omega) (by omega), j_le (by omega) (by omega)]; omega)
  have hbx := bx01 (F 11 a) (F 11 b)
  have hft : ∀ (c m : Int32) (φ' : gF), FrC (κ 10) k φ0 ψ φ' ψ → ¬ c = 0 → 0 < m → LK2 (κ 10) φ0 ψ F nu k (c, φ', ψ) (m, σ, F, nu) := fun c m φ' h1 h2 h3 => nf_f h1 frM.rf h2 h3
  -- the class, when of one class
  have hcl : (F 9 a = 3 ∧ F 9 b = 3 ∧ ¬ F 10 a = F 10 b → cbin κ φ0 ψ k a b (nI o) 1 0 (bx (F 11 a) (F 11 b)) (F 9 a) (F 9 b) (F 10 a) (F 10 b) = (4, ct φ0 k 1 0 (-1) 0 (bx (F 11 a) (F 11 b)), ψ)) ∧ (¬ (F 9 a = 3 ∧ F 9 b = 3 ∧ ¬ F 10 a = F 10 b) → ∃ n, cbin κ φ0 ψ k a b (nI o) 1 0 (bx (F 11 a) (F 11 b)) (F 9 a) (F 9 b) (F 10 a) (F 10 b) = (0, ct φ0 k 1 0 (-1) n (bx (F 11 a) (F 11 b)), ψ)) := by
    refine ⟨fun h => ?_, fun h => ?_⟩
    · unfold cbin
      rw [if_neg (by decide), if_neg (by decide), if_pos ⟨h.1, h.2.1, o14, h.2.2⟩]
    · unfold cbin
      rw [if_neg (by decide), if_neg (by decide), if_neg (fun h9 => h ⟨h9.1, h9.2.1, h9.2.2.2⟩)]
      unfold P_Operators_binary_150 P_Operators_binary_241 P_Operators_binary_249 P_Operators_binary_282
      simp (decide := true) only [ct_n4 (show k < κ 7 by omega) c2 hbx, reduceIte, o5, o11, ct_sn (show k < κ 7 by omega) c2]
      repeat' split
      all_goals exact ⟨_, rfl⟩
  have hT : ∀ (n : Int32) (r : Int32 × gs × gf × gg), isT κr τ σ F nu k (bx (F 11 a) (F 11 b)) r → LK2 (κ 10) φ0 ψ F nu k (0, ct φ0 k 1 0 (-1) n (bx (F 11 a) (F 11 b)), ψ) r := by
    rintro n r ⟨v, rfl⟩
    exact nf_k0 (by omega) (lsv_t (Or.inl ⟨rfl, rfl⟩) hbx)
  have h102 : ∀ t, t = 0 ∨ F 9 a = 3 → isT κr τ σ F nu k (bx (F 11 a) (F 11 b)) (Q_lookOrder_102 κr τ σ F nu (nI k) (nI o) (nI a) (nI b) t) := fun t ht => o_102 (by omega) hak hbk (ht.elim Or.inl (fun h3 => Or.inr (by obtain ⟨E, _, h1, h2⟩ := ch_E ha h3; exact ⟨E, h1, h2⟩)))
  rw [cb_form hC hk ha hb]
  unfold Q_lookOrder Q_lookOrder_42 Q_lookOrder_69 P_Operators_resultClass P_Operators_areOfOneClass P_Operators_areOfOneClass_45
  simp (decide := true) only [ch_0 hC hk ha, ch_0 hC hk hb, ch_1 hC hk ha, ch_1 hC hk hb, eA, eB, o5, o11, o7, reduceIte]
  have hcl3 : LK2 (κ 10) φ0 ψ F nu k (cbin κ φ0 ψ k a b (nI o) (-1) 0 (bx (F 11 a) (F 11 b)) (F 9 a) (F 9 b) (F 10 a) (F 10 b)) (3, σ, F, nu) := by
    unfold cbin; rw [if_pos rfl]; exact hft _ _ _ ct_fr (by decide) (by decide)
  by_cases hab : F 9 a = F 9 b
  · have hne : ¬ F 9 a = 3 → ¬ (F 9 a = 3 ∧ F 9 b = 3 ∧ ¬ F 10 a = F 10 b) := fun h h9 => h h9.1
    have hb3 : F 9 a = 3 → F 9 b = 3 := fun h => by rw [← hab]; exact h
    rcases ch_c ha with h | h | h | h | h
    · have heq : F 10 a = F 10 b := by rw [ch_e0 ha (Or.inl h), ch_e0 hb (by rw [← hab]; exact Or.inl h)]
      obtain ⟨n, hn⟩ := hcl.2 (hne (by rw [h]; decide))
      by_cases q : (7 : Int32) < nI o
      · simp (decide := true) only [← hab, h, q, reduceIte] at hcl3 ⊢
        exact hcl3
      · simp (decide := true) only [← hab, h, q, heq, reduceIte] at hn ⊢
        rw [hn]
        exact hT _ _ (h102 0 (Or.inl rfl))
    · have heq : F 10 a = F 10 b := by rw [ch_e0 ha (Or.inr (Or.inl h)), ch_e0 hb (by rw [← hab]; exact Or.inr (Or.inl h))]
      obtain ⟨n, hn⟩ := hcl.2 (hne (by rw [h]; decide))
      by_cases q : (7 : Int32) < nI o
      · simp (decide := true) only [← hab, h, q, reduceIte] at hcl3 ⊢
        exact hcl3
      · simp (decide := true) only [← hab, h, q, heq, reduceIte] at hn ⊢
        rw [hn]
        exact hT _ _ (h102 0 (Or.inl rfl))
    · have heq : F 10 a = F 10 b := by rw [ch_e0 ha (Or.inr (Or.inr h)), ch_e0 hb (by rw [← hab]; exact Or.inr (Or.inr h))]
      obtain ⟨n, hn⟩ := hcl.2 (hne (by rw [h]; decide))
      by_cases q : (7 : Int32) < nI o <;> simp (decide := true) only [← hab, h, q, heq, reduceIte] at hn ⊢ <;> rw [hn] <;> exact hT _ _ (h102 0 (Or.inl rfl))
    · by_cases heq : F 10 a = F 10 b
      · obtain ⟨n, hn⟩ := hcl.2 (fun h9 => h9.2.2 heq)
        by_cases q : (7 : Int32) < nI o <;> simp (decide := true) only [← hab, h, q, heq, reduceIte] at hn ⊢ <;> rw [hn] <;> exact hT _ _ (h102 1 (Or.inr h))
      · have hn := hcl.1 ⟨h, hb3 h, heq⟩
        by_cases q : (7 : Int32) < nI o <;> simp (decide := true) only [← hab, h, q, heq, reduceIte] at hn ⊢ <;> rw [hn] <;> exact hft _ _ _ ct_fr (by decide) (by decide)
    · by_cases heq : F 10 a = F 10 b
      · obtain ⟨n, hn⟩ := hcl.2 (fun h9 => h9.2.2 heq)
        by_cases q : (7 : Int32) < nI o <;> simp (decide := true) only [← hab, h, q, heq, reduceIte] at hn ⊢ <;> rw [hn] <;> exact hT _ _ (h102 0 (Or.inl rfl))
      · by_cases q : (7 : Int32) < nI o <;> simp (decide := true) only [← hab, h, q, heq, reduceIte] at hcl3 ⊢ <;> exact hcl3
  · simp (decide := true) only [hab, reduceIte]
    split <;> exact hcl3
-- BINARY 15 to 18: INTEGERs
theorem mint {κ : Nat → Nat} {τ : gf} {σ : Nat → Int32} {F : gf} {nu : gg} {k : Nat} {x : Int32} {v : Int64} (hk : k < 4000) (hx : x = 0 ∨ x = 1) :
    Q_integer κ τ σ F nu (nI k) x v = if x = 0 then (0, σ, mt F k 2 0 x (-1) (fun _ => 0), vp_updL nu k 0) else if 2147483647 < v.toInt ∨ v.toInt < -2147483647 then (9, σ, mt F k 2 0 x (-1) (fun _ => 0), vp_updL nu k 0) else (0, σ, mt F k 2 0 x (-1) (fun _ => 0), vp_updL nu k v) := by
  unfold Q_integer
  rw [fact_t (by omega) hx, nI_clamp (by omega)]
  simp only [ul2]
  by_cases h : x = 0
  · simp only [h, reduceIte]
  · simp only [h, reduceIte]
    by_cases h1 : 0 < lg_cmp v 2147483647
    · rw [if_pos h1]; rw [lg_gt] at h1
      rw [if_pos (Or.inl (by have z9 : (2147483647 : Int64).toInt = 2147483647 := rfl; omega))]
    · rw [if_neg h1]; rw [lg_gt] at h1
      by_cases h2 : 0 ≤ lg_cmp v (-2147483647)
      · rw [if_pos h2]; rw [lg_ge] at h2
        rw [if_neg (fun h9 => h9.elim (fun h7 => h1 (by have z9 : (2147483647 : Int64).toInt = 2147483647 := rfl; omega)) (fun h8 => by have : (-2147483647 : Int64).toInt = -2147483647 := rfl; omega))]
      · rw [if_neg h2]; rw [lg_ge] at h2
        rw [if_pos (Or.inr (by have : (-2147483647 : Int64).toInt = -2147483647 := rfl; omega))]
theorem cc_79 {κ : Nat → Nat} {φ0 : gF} {ψ : gG} {k : Nat} {o c e m x i7 : Int32} {j3 j5 t : Int64} (hL : k < κ 7) (hL2 : κ 7 ≤ 8192) :
    P_Operators_calculate_79 κ (ct φ0 k c e m 0 x) ψ (nI k) o j3 j5 i7 t = if 2147483647 < t.toInt ∨ t.toInt < -2147483647 then (9, ct φ0 k c e m 0 x, ψ) else (0, ct φ0 k c e m t.toInt32 x, ψ) := by
  unfold P_Operators_calculate_79
  rw [ct_sn hL hL2]
  by_cases h1 : 0 < lg_cmp t 2147483647
  · rw [if_pos h1]; rw [lg_gt] at h1; rw [if_pos (Or.inl (by have z9 : (2147483647 : Int64).toInt = 2147483647 := rfl; omega))]
  · rw [if_neg h1]; rw [lg_gt] at h1
    by_cases h2 : 0 ≤ lg_cmp t (-2147483647)
    · rw [if_pos h2]; rw [lg_ge] at h2
      rw [if_neg (fun h9 => h9.elim (fun h7 => h1 (by have z9 : (2147483647 : Int64).toInt = 2147483647 := rfl; omega)) (fun h8 => by have : (-2147483647 : Int64).toInt = -2147483647 := rfl; omega))]
    · rw [if_neg h2]; rw [lg_ge] at h2
      rw [if_pos (Or.inr (by have : (-2147483647 : Int64).toInt = -2147483647 := rfl; omega))]
theorem n32 {t : Int64} (h : ¬ (2147483647 < t.toInt ∨ t.toInt < -2147483647)) : (t.toInt32).toInt = t.toInt := by
  rw [Int64.toInt_toInt32]
  exact Int.bmod_eq_of_le (by omega) (by omega)
theorem l_div {x y : Int64} (hx : -2147483648 ≤ x.toInt ∧ x.toInt ≤ 2147483647) (hy : ¬ y.toInt = 0) : (x / y).toInt = x.toInt.tdiv y.toInt := by
  rw [Int64.toInt_div]
  have h1 : (x.toInt.tdiv y.toInt).natAbs ≤ x.toInt.natAbs := Int.natAbs_tdiv_le_natAbs _ _
  exact Int.bmod_eq_of_le (by omega) (by omega)
theorem l_rem {x y : Int64} (hx : -2147483648 ≤ x.toInt ∧ x.toInt ≤ 2147483647) (hy : -2147483648 ≤ y.toInt ∧ y.toInt ≤ 2147483647) (h0 : ¬ y.toInt = 0) : (x - x / y * y).toInt = x.toInt.tmod y.toInt := by
  have e1 := l_div hx h0
  have h1 : (x.toInt.tdiv y.toInt * y.toInt).natAbs ≤ x.toInt.natAbs := by
    rw [Int.natAbs_mul, Int.natAbs_tdiv]
    exact Nat.div_mul_le_self _ _
  have e2 : (x / y * y).toInt = x.toInt.tdiv y.toInt * y.toInt := by
    rw [Int64.toInt_mul, e1]
    exact Int.bmod_eq_of_le (by omega) (by omega)
  rw [Int64.toInt_sub, e2]
  have e3 : x.toInt - x.toInt.tdiv y.toInt * y.toInt = x.toInt.tmod y.toInt := by
    rw [Int.tmod_def, Int.mul_comm]
  rw [e3]
  have h4 : (x.toInt.tmod y.toInt).natAbs ≤ x.toInt.natAbs := by rw [Int.natAbs_tmod]; exact Nat.mod_le _ _
  exact Int.bmod_eq_of_le (by omega) (by omega)
theorem x_neg (x y : Int64) : ((x ^^^ y).toInt < 0) ↔ ((x.toInt < 0) ≠ (y.toInt < 0)) := by
  have h : ∀ z : Int64, (z.toInt < 0) ↔ z.toBitVec.msb = true := fun z => by
    rw [BitVec.msb_eq_toInt]; simp
  rw [h, Int64.toBitVec_xor, BitVec.msb_xor, ne_eq, propext (h x), propext (h y)]
  cases x.toBitVec.msb <;> cases y.toBitVec.msb <;> simp
theorem fl_mod {x y : Int64} (hx : -2147483648 ≤ x.toInt ∧ x.toInt ≤ 2147483647) (hy : -2147483648 ≤ y.toInt ∧ y.toInt ≤ 2147483647) (h0 : ¬ y.toInt = 0) :
    P_jMath_floorMod x y = if (x - x / y * y).toInt = 0 then x - x / y * y else if ((x - x / y * y).toInt < 0) = (y.toInt < 0) then x - x / y * y else x - x / y * y + y := by
  have hr := l_rem hx hy h0
  unfold P_jMath_floorMod
  have z0 : (0 : Int64).toInt = 0 := rfl
  by_cases hz : (x - x / y * y).toInt = 0
  · rw [if_pos hz]
    have : lg_cmp (x - x / y * y) 0 = 0 := by rw [lg_eq, z0]; exact hz
    rw [if_pos this]
    split <;> rfl
  · rw [if_neg hz]
    have hz2 : ¬ lg_cmp (x - x / y * y) 0 = 0 := by rw [lg_eq, z0]; exact hz
    rw [if_neg hz2]
    have hs : ((x - x / y * y).toInt < 0) = (x.toInt < 0) := by
      rw [hr] at hz ⊢
      apply propext
      constructor
      · intro h
        by_cases h9 : x.toInt < 0
        · exact h9
        · have := Int.tmod_nonneg y.toInt (show 0 ≤ x.toInt by omega); omega
      · intro h
        have h8 := Int.tmod_nonneg y.toInt (show 0 ≤ -x.toInt by omega)
        rw [Int.neg_tmod] at h8
        omega
    have hs2 : (((x - x / y * y).toInt < 0) = (y.toInt < 0)) ↔ ((x.toInt < 0) = (y.toInt < 0)) := by rw [hs]
    have hxn := x_neg x y
    by_cases hc : 0 ≤ lg_cmp (x ^^^ y) 0
    · rw [if_pos hc]
      rw [lg_ge, z0] at hc
      have : (x.toInt < 0) = (y.toInt < 0) := by
        by_cases h9 : (x.toInt < 0) = (y.toInt < 0)
        · exact h9
        · have := hxn.mpr h9; omega
      rw [if_pos (hs2.mpr this)]
    · rw [if_neg hc]
      rw [lg_ge, z0] at hc
      rw [if_neg (fun h9 => hxn.mp (by omega) (hs2.mp h9))]
theorem k_numbers {κ κr : Nat → Nat} {φ0 : gF} {ψ : gG} {τ : gf} {σ : Nat → Int32} {F : gf} {nu : gg} {k a b o : Nat} (hC : CK κ) (hk : k < κ 0) (ha : CH κ φ0 ψ F nu k a) (hb : CH κ φ0 ψ F nu k b) (ho : 15 ≤ o) (ho2 : o < 19) :
    LK2 (κ 10) φ0 ψ F nu k (P_Operators_binary κ (ct φ0 k (-1) 0 (-1) 0 0) ψ (nI k) (nI o) (nI a) (nI b)) (Q_lookNumbers κr τ σ F nu (nI k) (nI o) (nI a) (nI b)) := by
  have hC' := hC
  obtain ⟨c0, c1, c2, c3, c4, c5, c6, c7, c8⟩ := hC'
  have hak := ha.1
  have hbk := hb.1
  have eA : (nI a).toNatClampNeg = a := nI_clamp (by omega)
  have eB : (nI b).toNatClampNeg = b := nI_clamp (by omega)
  have L7 : k < κ 7 := by omega
  have hbx := bx01 (F 11 a) (F 11 b)
  have hft : ∀ (c m : Int32) (φ' : gF), FrC (κ 10) k φ0 ψ φ' ψ → ¬ c = 0 → 0 < m → LK2 (κ 10) φ0 ψ F nu k (c, φ', ψ) (m, σ, F, nu) := fun c m φ' h1 h2 h3 => nf_f h1 frM.rf h2 h3
  rw [cb_form hC hk ha hb]
  have o5 : (5 : Int32) < nI o := by rw [show (5 : Int32) = nI 5 from rfl, j_lt (by omega) (by omega)]; omega
  have o7 : (7 : Int32) < nI o := by rw [show (7 : Int32) = nI 7 from rfl, j_lt (by omega) (by omega)]; omega
  have o11 : (11 : Int32) < nI o := by rw [show (11 : Int32) = nI 11 from rfl, j_lt (by omega) (by omega)]; omega
  have o13 : (13 : Int32) < nI o := by rw [show (13 : Int32) = nI 13 from rfl, j_lt (by omega) (by omega)]; omega
  have o18 : ¬ (18 : Int32) < nI o := by rw [show (18 : Int32) = nI 18 from rfl, j_lt (by omega) (by omega)]; omega
  have o14 : ¬ nI o = 14 := by rw [show (14 : Int32) = nI 14 from rfl, j_eq (by omega) (by omega)]; omega
  unfold P_Operators_resultClass P_Operators_resultClass_125 P_Operators_resultClass_126 Q_lookNumbers
  simp (decide := true) only [ch_0 hC hk ha, ch_0 hC hk hb, eA, eB, o5, o7, o11, o13, o18, o14, reduceIte]
  have hcl3 : LK2 (κ 10) φ0 ψ F nu k (cbin κ φ0 ψ k a b (nI o) (-1) 0 (bx (F 11 a) (F 11 b)) (F 9 a) (F 9 b) (F 10 a) (F 10 b)) (3, σ, F, nu) := by
    unfold cbin; rw [if_pos rfl]; exact hft _ _ _ ct_fr (by decide) (by decide)
  by_cases h1 : F 9 a = 2
  · by_cases h2 : F 9 b = 2
    · simp (decide := true) only [h1, h2, reduceIte]
      have hcb : cbin κ φ0 ψ k a b (nI o) 2 0 (bx (F 11 a) (F 11 b)) 2 2 (F 10 a) (F 10 b) = if bx (F 11 a) (F 11 b) = 0 then (0, ct φ0 k 2 0 (-1) 0 (bx (F 11 a) (F 11 b)), ψ) else P_Operators_calculate κ (ct φ0 k 2 0 (-1) 0 (bx (F 11 a) (F 11 b))) ψ (nI k) (nI o) (φ0 9 3 a).toInt64 (φ0 9 3 b).toInt64 := by
        unfold cbin P_Operators_binary_150
        simp (decide := true) only [ct_n4 L7 c2 hbx, reduceIte, ch_3 hC hk ha, ch_3 hC hk hb, false_and]
      rw [hcb]
      have hQ : (if F 11 a = 0 then Q_lookNumbers_46 κr τ σ F nu (nI k) (nI o) (nI a) (nI b) else if F 11 b = 0 then Q_lookNumbers_46 κr τ σ F nu (nI k) (nI o) (nI a) (nI b) else Q_lookNumbers_47 κr τ σ F nu (nI k) (nI o) (nI a) (nI b) 1) = Q_lookNumbers_47 κr τ σ F nu (nI k) (nI o) (nI a) (nI b) (bx (F 11 a) (F 11 b)) := by
        unfold Q_lookNumbers_46 bx
        by_cases x1 : F 11 a = 0
        · simp only [x1, reduceIte]
        · by_cases x2 : F 11 b = 0 <;> simp only [x1, x2, reduceIte]
      rw [hQ]
      have h77 : Q_lookNumbers_77 κr τ σ F nu (nI k) (nI o) (nI a) (nI b) (bx (F 11 a) (F 11 b)) = Q_integer κr τ σ F nu (nI k) (bx (F 11 a) (F 11 b)) (nu a * nu b) := by unfold Q_lookNumbers_77; rw [eA, eB]
      rcases id hbx with hx | hx
      · rw [if_pos hx]
        have : Q_lookNumbers_47 κr τ σ F nu (nI k) (nI o) (nI a) (nI b) (bx (F 11 a) (F 11 b)) = (0, σ, mt F k 2 0 (bx (F 11 a) (F 11 b)) (-1) (fun _ => 0), vp_updL nu k 0) := by
          unfold Q_lookNumbers_47
          rw [h77, mint (by omega) hbx, if_pos hx, if_pos hx]
          split <;> rfl
        rw [this]
        exact nf_d0 (lsv_2 hbx (fun h9 => absurd (hx.symm.trans h9) (by decide)))
      · have hx0 : ¬ bx (F 11 a) (F 11 b) = 0 := by rw [hx]; decide
        rw [if_neg hx0]
        obtain ⟨x1, x2⟩ := bx1 (ch_x ha) (ch_x hb) hx
        obtain ⟨n1, n2⟩ := ch_n ha x1 h1
        obtain ⟨n3, n4⟩ := ch_n hb x2 h2
        have b1 := i32_b (φ0 9 3 a)
        have b2 := i32_b (φ0 9 3 b)
        have e1 : (φ0 9 3 a).toInt64 = nu a := w_eq.mpr n1
        have e2 : (φ0 9 3 b).toInt64 = nu b := w_eq.mpr n3
        rw [e1, e2]
        have hint : ∀ t : Int64, LK2 (κ 10) φ0 ψ F nu k (if 2147483647 < t.toInt ∨ t.toInt < -2147483647 then (9, ct φ0 k 2 0 (-1) 0 (bx (F 11 a) (F 11 b)), ψ) else (0, ct φ0 k 2 0 (-1) t.toInt32 (bx (F 11 a) (F 11 b)), ψ)) (Q_integer κr τ σ F nu (nI k) (bx (F 11 a) (F 11 b)) t) := by
          intro t
          rw [mint (by omega) hbx, if_neg hx0]
          by_cases ht : 2147483647 < t.toInt ∨ t.toInt < -2147483647
          · rw [if_pos ht, if_pos ht]; exact nf_f ct_fr mt_fr (by decide) (by decide)
          · rw [if_neg ht, if_neg ht]
            exact nf_d0 (lsv_2 hbx (fun _ => ⟨n32 ht, by rw [n32 ht]; omega⟩))
        by_cases h15 : o = 15
        · subst h15
          unfold Q_lookNumbers_47 P_Operators_calculate P_Operators_calculate_16 P_Operators_calculate_17 P_Operators_calculate_34
          simp (decide := true) only [reduceIte, h77, cc_79 L7 c2]
          exact hint _
        · have o16 : ¬ nI o < 16 := by rw [show (16 : Int32) = nI 16 from rfl, j_lt (by omega) (by omega)]; omega
          have oe15 : ¬ nI o = 15 := by rw [show (15 : Int32) = nI 15 from rfl, j_eq (by omega) (by omega)]; omega
          have z0 : (0 : Int64).toInt = 0 := rfl
          unfold P_Operators_calculate P_Operators_calculate_17 P_Operators_calculate_34
          simp (decide := true) only [o16, o18, reduceIte, cc_79 L7 c2]
          by_cases hy : (nu b).toInt = 0
          · have hy2 : lg_cmp (nu b) 0 = 0 := by rw [lg_eq, z0]; exact hy
            unfold Q_lookNumbers_47
            rw [if_neg oe15, if_neg hx0, eB, if_pos hy2, if_pos hy2]
            exact hft _ _ _ ct_fr (by decide) (by decide)
          · have hy2 : ¬ lg_cmp (nu b) 0 = 0 := by rw [lg_eq, z0]; exact hy
            have hfm := fl_mod (x := nu a) (y := nu b) (by omega) (by omega) hy
            have h161 : ∀ t, Q_lookNumbers_161 κr τ σ F nu (nI k) (nI o) (nI a) (nI b) (bx (F 11 a) (F 11 b)) t = Q_integer κr τ σ F nu (nI k) 1 (if nI o = 16 then nu a / nu b else if nI o = 17 then t else nu a - nu a / nu b * nu b) := by
              intro t
              unfold Q_lookNumbers_161 Q_lookNumbers_190
              rw [eA, eB]
              repeat' split
              all_goals rfl
            have hq2 : Q_lookNumbers_47 κr τ σ F nu (nI k) (nI o) (nI a) (nI b) (bx (F 11 a) (F 11 b)) = Q_integer κr τ σ F nu (nI k) 1 (if nI o = 16 then nu a / nu b else if nI o = 17 then P_jMath_floorMod (nu a) (nu b) else nu a - nu a / nu b * nu b) := by
              unfold Q_lookNumbers_47 Q_lookNumbers_136 Q_lookNumbers_148 Q_lookNumbers_159
              rw [if_neg oe15, if_neg hx0, eA, eB, if_neg hy2, hfm]
              simp only [h161]
              have hl : ∀ z w : Int64, (0 ≤ lg_cmp z w) = (w.toInt ≤ z.toInt) := lg_ge
              by_cases hr : (nu a - nu a / nu b * nu b).toInt = 0
              · rw [if_pos (by rw [lg_eq, z0]; exact hr), if_pos hr]
              · rw [if_neg (by rw [lg_eq, z0]; exact hr), if_neg hr]
                by_cases r0 : 0 ≤ (nu a - nu a / nu b * nu b).toInt
                · rw [if_pos (by rw [lg_ge, z0]; exact r0)]
                  by_cases y0 : 0 ≤ (nu b).toInt
                  · rw [if_pos (by rw [lg_ge, z0]; exact y0), if_pos trivial, if_pos (propext ⟨fun h9 => by omega, fun h9 => by omega⟩)]
                  · rw [if_neg (by rw [lg_ge, z0]; exact y0), if_neg (by decide), if_neg (show ¬ (((nu a - nu a / nu b * nu b).toInt < 0) = ((nu b).toInt < 0)) from fun h9 => by have := h9.mpr (by omega); omega)]
                · rw [if_neg (by rw [lg_ge, z0]; exact r0)]
                  by_cases y0 : 0 ≤ (nu b).toInt
                  · rw [if_pos (by rw [lg_ge, z0]; exact y0), if_neg (by decide), if_neg (show ¬ (((nu a - nu a / nu b * nu b).toInt < 0) = ((nu b).toInt < 0)) from fun h9 => by have := h9.mp (by omega); omega)]
                  · rw [if_neg (by rw [lg_ge, z0]; exact y0), if_pos trivial, if_pos (propext ⟨fun h9 => by omega, fun h9 => by omega⟩)]
            rw [hq2, if_neg hy2]
            unfold P_Operators_divided
            rw [if_neg hy2]
            have := hint (if nI o = 16 then nu a / nu b else if nI o = 17 then P_jMath_floorMod (nu a) (nu b) else nu a - nu a / nu b * nu b)
            rw [hx] at this ⊢
            exact this
    · simp (decide := true) only [h1, h2, reduceIte]
      simp (decide := true) only [h1, reduceIte] at hcl3
      exact hcl3
  · simp (decide := true) only [h1, reduceIte]
    exact hcl3
-- clear rows, numbers of rows, bits
def isC (v : Int32) : Prop := ¬ P_Logic_isClear v = 0
theorem isc_q (v : Int32) : isC v ↔ ¬ (Q_isLow v = 0 ∧ Q_isHigh v = 0) := by
  unfold isC P_Logic_isClear P_Logic_isClear_22 Q_isLow Q_isLow_11 Q_isHigh Q_isHigh_11
  by_cases h2 : v = 2
  · subst h2; decide
  · by_cases h3 : v = 3
    · subst h3; decide
    · by_cases h6 : v = 6
      · subst h6; decide
      · by_cases h7 : v = 7
        · subst h7; decide
        · simp [h2, h3, h6, h7]
theorem pc_clear {M s E : Nat} {g : gg} (hE : E ≤ 64) : ∀ d i fuel, i + d = E → d < fuel → (P_Rows_isClear_2 M g fuel (nI s) (nI E) (nI i) = 0 ↔ ¬ ∀ j, i ≤ j → j < E → isC (rr M g s j)) := by
  intro d
  induction d with
  | zero =>
    intro i fuel hi hf
    obtain ⟨m, rfl⟩ : ∃ m, fuel = m + 1 := ⟨fuel - 1, by omega⟩
    unfold P_Rows_isClear_2
    rw [if_pos (by rw [j_le (by omega) (by omega)]; omega)]
    exact ⟨fun h => absurd h (by decide), fun h => absurd (fun j h1 h2 => by omega) h⟩
  | succ d ih =>
    intro i fuel hi hf
    obtain ⟨m, rfl⟩ : ∃ m, fuel = m + 1 := ⟨fuel - 1, by omega⟩
    unfold P_Rows_isClear_2
    rw [if_neg (by rw [j_le (by omega) (by omega)]; omega), if_neg (s64 (by omega))]
    by_cases hc : P_Logic_isClear (P_Rows_get M g (nI s) (nI i)) = 0
    · rw [if_pos hc]
      exact ⟨fun _ h => h i (Nat.le_refl _) (by omega) hc, fun _ => rfl⟩
    · rw [if_neg hc, ← nI_succ, ih (i + 1) m (by omega) (by omega)]
      refine not_congr ⟨fun h j h1 h2 => ?_, fun h j h1 h2 => h j (by omega) h2⟩
      by_cases hj : j = i
      · subst hj; exact hc
      · exact h j (by omega) h2
theorem qc_clear {κ : Nat → Nat} {τ : gf} {σ : Nat → Int32} {F : gf} {nu : gg} {a E : Nat} (ha : a < 10000) (hE : E ≤ 64) (h10 : F 10 a = nI E) : ∀ d i fuel f, i + d = E → d < fuel → (f = 0 ∨ f = 1) → (Q_isClear_4 κ τ σ F nu (nI a) fuel (nI i) f = 0 ↔ ¬ (f = 1 ∧ ∀ j, i ≤ j → j < E → isC (ee F a j))) := by
  intro d
  have eA : (nI a).toNatClampNeg = a := nI_clamp (by omega)
  induction d with
  | zero =>
    intro i fuel f hi hf hb
    obtain ⟨m, rfl⟩ : ∃ m, fuel = m + 1 := ⟨fuel - 1, by omega⟩
    unfold Q_isClear_4
    rw [eA, h10, if_pos (by rw [j_le (by omega) (by omega)]; omega)]
    rcases hb with rfl | rfl
    · exact ⟨fun _ h => absurd h.1 (by decide), fun _ => rfl⟩
    · exact ⟨fun h => absurd h (by decide), fun h => absurd ⟨rfl, fun j h1 h2 => by omega⟩ h⟩
  | succ d ih =>
    intro i fuel f hi hf hb
    obtain ⟨m, rfl⟩ : ∃ m, fuel = m + 1 := ⟨fuel - 1, by omega⟩
    unfold Q_isClear_4 Q_isClear_46 Q_isClear_42 Q_isClear_47
    rw [eA, h10, if_neg (by rw [j_le (by omega) (by omega)]; omega), el_n (by omega) (by omega), ← nI_succ]
    simp only []
    have h0 := ih (i + 1) m 0 (by omega) (by omega) (Or.inl rfl)
    have h1 := ih (i + 1) m 1 (by omega) (by omega) (Or.inr rfl)
    have hz : Q_isClear_4 κ τ σ F nu (nI a) m (nI (i + 1)) 0 = 0 := h0.mpr (fun h9 => absurd h9.1 (by decide))
    rcases hb with rfl | rfl
    · rw [if_pos rfl, hz]
      exact ⟨fun _ h => absurd h.1 (by decide), fun _ => rfl⟩
    · rw [if_neg (by decide)]
      have hi' := isc_q (ee F a i)
      by_cases q1 : Q_isLow (ee F a i) = 0
      · by_cases q2 : Q_isHigh (ee F a i) = 0
        · rw [if_pos q1, if_pos q2, hz]
          exact ⟨fun _ h => (hi'.mp (h.2 i (Nat.le_refl _) (by omega))) ⟨q1, q2⟩, fun _ => rfl⟩
        · rw [if_pos q1, if_neg q2, h1]
          refine not_congr ⟨fun h => ⟨rfl, fun j h3 h4 => ?_⟩, fun h => ⟨rfl, fun j h3 h4 => h.2 j (by omega) h4⟩⟩
          by_cases hj : j = i
          · subst hj; exact hi'.mpr (fun h9 => q2 h9.2)
          · exact h.2 j (by omega) h4
      · rw [if_neg q1, h1]
        refine not_congr ⟨fun h => ⟨rfl, fun j h3 h4 => ?_⟩, fun h => ⟨rfl, fun j h3 h4 => h.2 j (by omega) h4⟩⟩
        by_cases hj : j = i
        · subst hj; exact hi'.mpr (fun h9 => q1 h9.1)
        · exact h.2 j (by omega) h4
theorem clear_same {κ : Nat → Nat} {τ : gf} {σ : Nat → Int32} {F : gf} {nu : gg} {M a E : Nat} {g : gg} (ha : a < 10000) (hE : E ≤ 64) (h10 : F 10 a = nI E) (hr : ∀ j, j < E → rr M g a j = ee F a j) : (P_Rows_isClear M g (nI a) (nI E) = 0) = (Q_isClear κ τ σ F nu (nI a) = 0) := by
  have hf0 := fuel0
  apply propext
  unfold P_Rows_isClear Q_isClear
  rw [show (0 : Int32) = nI 0 from rfl, show (nI 0).toInt = (0 : Int32).toInt from rfl]
  have h1 := pc_clear (M := M) (s := a) (g := g) hE E 0 ((2147483647 - (0 : Int32).toInt).toNat + 1) (by omega) (by omega)
  have h2 := qc_clear (κ := κ) (τ := τ) (σ := σ) (nu := nu) ha hE h10 E 0 ((2147483647 - (0 : Int32).toInt).toNat + 1) 1 (by omega) (by omega) (Or.inr rfl)
  rw [show (0 : Int32) = nI 0 from rfl, show (nI 0).toInt = (0 : Int32).toInt from rfl] at h1 h2
  rw [h1, h2]
  refine not_congr ⟨fun h => ⟨rfl, fun j h3 h4 => by rw [← hr j h4]; exact h j h3 h4⟩, fun h j h3 h4 => by rw [hr j h4]; exact h.2 j h3 h4⟩
def hi (r : Nat → Int32) (j : Nat) : Bool := decide (¬ Q_isHigh (r j) = 0)
/-- bits of a long -/
def lb (v : Int64) (t : Nat) : Bool := v.toBitVec.getLsbD t
theorem lb_ext {u v : Int64} (h : ∀ t, t < 64 → lb u t = lb v t) : u = v := Int64.toBitVec_inj.mp (BitVec.eq_of_getLsbD_eq (fun t ht => h t ht))
theorem lb_1 (t : Nat) : lb 1 t = decide (t = 0) := by
  unfold lb
  show (1#64).getLsbD t = _
  rw [BitVec.getLsbD_one]; simp
theorem lb_0 (t : Nat) : lb 0 t = false := by
  unfold lb
  show (0#64).getLsbD t = _
  simp
theorem lb_one {i t : Nat} (hi : i < 64) (ht : t < 64) : lb ((1 : Int64) <<< ((nI i).toInt64 &&& 63)) t = decide (t = i) := by
  have h : ∀ i : Fin 64, ((nI i).toInt64 &&& 63) = Int64.ofNat i := by decide
  have h := h ⟨i, hi⟩
  simp only at h
  rw [h]
  have hs : ∀ a : Fin 64, ((BitVec.ofNat 64 (a : Nat)).smod 64#64).toNat = a := by decide
  have hs := hs ⟨i, hi⟩
  unfold lb
  show ((1#64) <<< ((BitVec.ofNat 64 i).smod 64#64)).getLsbD t = _
  rw [BitVec.shiftLeft_eq', hs, BitVec.getLsbD_shiftLeft, BitVec.getLsbD_one]
  by_cases h1 : t = i
  · subst h1; simp [ht]
  · by_cases h2 : t < i
    · simp [h1, h2]
    · have : ¬ (t - i = 0) := by omega
      simp [h1, h2, this]
theorem pb_bits {M s E : Nat} {g : gg} (hE : E ≤ 64) : ∀ d i fuel v, i + d = E → d < fuel → (∀ t, t < 64 → lb v t = (decide (t < i) && hi (rr M g s) t)) → ∀ t, t < 64 → lb (P_Rows_bitsOf_5 M g fuel (nI s) (nI E) v (nI i)) t = (decide (t < E) && hi (rr M g s) t) := by
  intro d
  induction d with
  | zero =>
    intro i fuel v hi' hf hv t ht
    obtain ⟨m, rfl⟩ : ∃ m, fuel = m + 1 := ⟨fuel - 1, by omega⟩
    unfold P_Rows_bitsOf_5
    rw [if_pos (by rw [j_le (by omega) (by omega)]; omega), hv t ht]
    obtain rfl : i = E := by omega
    rfl
  | succ d ih =>
    intro i fuel v hi' hf hv t ht
    obtain ⟨m, rfl⟩ : ∃ m, fuel = m + 1 := ⟨fuel - 1, by omega⟩
    unfold P_Rows_bitsOf_5 P_Rows_bitsOf_38
    rw [if_neg (by rw [j_le (by omega) (by omega)]; omega), if_neg (s64 (by omega)), ← nI_succ]
    have hh : hi (rr M g s) i = decide (¬ P_Logic_isHigh (P_Rows_get M g (nI s) (nI i)) = 0) := rfl
    by_cases hc : P_Logic_isHigh (P_Rows_get M g (nI s) (nI i)) = 0
    · rw [if_pos hc]
      refine ih (i + 1) m v (by omega) (by omega) (fun u hu => ?_) t ht
      rw [hv u hu]
      by_cases h1 : u = i
      · subst h1; simp [hh, hc]
      · have : (u < i) = (u < i + 1) := by apply propext; omega
        simp [this]
    · rw [if_neg hc]
      refine ih (i + 1) m _ (by omega) (by omega) (fun u hu => ?_) t ht
      have e1 : lb (v ||| ((1 : Int64) <<< ((nI i).toInt64 &&& 63))) u = (lb v u || lb ((1 : Int64) <<< ((nI i).toInt64 &&& 63)) u) := by unfold lb; rw [Int64.toBitVec_or, BitVec.getLsbD_or]
      rw [e1, lb_one (by omega) hu, hv u hu]
      by_cases h1 : u = i
      · subst h1; simp [hh, hc]
      · have : (u < i) = (u < i + 1) := by apply propext; omega
        simp [this, h1]
theorem lb_dbl (v w : Int64) (h : w = 0 ∨ w = 1) (t : Nat) (ht : t < 64) : lb (2 * v + w) t = if t = 0 then decide (w = 1) else lb v (t - 1) := by
  have e : (2 * v + w).toBitVec = (v.toBitVec <<< 1) ||| w.toBitVec := by
    rw [Int64.toBitVec_add, Int64.toBitVec_mul]
    show 2#64 * v.toBitVec + w.toBitVec = _
    have e1 : 2#64 * v.toBitVec = v.toBitVec <<< 1 := by
      rw [BitVec.mul_comm, BitVec.shiftLeft_eq_mul_twoPow]; rfl
    rw [e1]
    apply BitVec.add_eq_or_of_and_eq_zero
    apply BitVec.eq_of_getLsbD_eq
    intro i hi
    rw [BitVec.getLsbD_and, BitVec.getLsbD_shiftLeft]
    by_cases h0 : i = 0
    · simp [h0]
    · have : w.toBitVec.getLsbD i = false := by
        rcases h with rfl | rfl
        · simp
        · show (1#64).getLsbD i = false
          rw [BitVec.getLsbD_one]; simp [h0]
      simp [this]
  unfold lb
  rw [e, BitVec.getLsbD_or, BitVec.getLsbD_shiftLeft]
  by_cases h0 : t = 0
  · subst h0
    rcases h with rfl | rfl <;> simp
  · have hw : w.toBitVec.getLsbD t = false := by
      rcases h with rfl | rfl
      · simp
      · show (1#64).getLsbD t = false
        rw [BitVec.getLsbD_one]; simp [h0]
    have h1 : ¬ t < 1 := by omega
    rw [hw, if_neg h0]
    simp [ht, h1]
theorem qn_bits {κ : Nat → Nat} {τ : gf} {σ : Nat → Int32} {F : gf} {nu : gg} {a E : Nat} (ha : a < 10000) (hE : E ≤ 64) : ∀ i fuel v, i ≤ E → i < fuel → (∀ t, t < 64 → lb v t = (decide (t + i < E) && hi (ee F a) (t + i))) → ∀ t, t < 64 → lb (Q_numberOf_12 κ τ σ F nu (nI a) fuel (nI i - 1) v) t = (decide (t < E) && hi (ee F a) t) := by
  intro i
  induction i with
  | zero =>
    intro fuel v hi' hf hv t ht
    obtain ⟨m, rfl⟩ : ∃ m, fuel = m + 1 := ⟨fuel - 1, by omega⟩
    unfold Q_numberOf_12
    rw [if_pos (by decide)]
    exact hv t ht
  | succ i ih =>
    intro fuel v hi' hf hv t ht
    obtain ⟨m, rfl⟩ : ∃ m, fuel = m + 1 := ⟨fuel - 1, by omega⟩
    unfold Q_numberOf_12 Q_numberOf_40
    rw [nI_pred, if_neg (nI_pos (by omega)), el_n (by omega) (by omega), show nI i + (-1) = nI i - 1 from (Int32.sub_eq_add_neg _ _).symm]
    have hh : hi (ee F a) i = decide (¬ Q_isHigh (ee F a i) = 0) := rfl
    by_cases hc : Q_isHigh (ee F a i) = 0
    · rw [if_pos hc]
      refine ih m _ (by omega) (by omega) (fun u hu => ?_) t ht
      rw [lb_dbl v 0 (Or.inl rfl) u hu]
      by_cases h0 : u = 0
      · subst h0; simp [hh, hc]
      · rw [if_neg h0, hv (u - 1) (by omega)]
        have : u - 1 + (i + 1) = u + i := by omega
        rw [this]
    · rw [if_neg hc]
      refine ih m _ (by omega) (by omega) (fun u hu => ?_) t ht
      rw [lb_dbl v 1 (Or.inr rfl) u hu]
      by_cases h0 : u = 0
      · subst h0
        have : i < E := by omega
        simp [hh, hc, this]
      · rw [if_neg h0, hv (u - 1) (by omega)]
        have : u - 1 + (i + 1) = u + i := by omega
        rw [this]
theorem bits_same {κ : Nat → Nat} {τ : gf} {σ : Nat → Int32} {F : gf} {nu : gg} {M a E : Nat} {g : gg} (ha : a < 10000) (hE1 : 1 ≤ E) (hE : E ≤ 64) (h10 : F 10 a = nI E) (hr : ∀ j, j < E → rr M g a j = ee F a j) : P_Rows_bitsOf M g (nI a) (nI E) = Q_numberOf κ τ σ F nu (nI a) := by
  have hf0 := fuel0
  apply lb_ext
  intro t ht
  unfold P_Rows_bitsOf Q_numberOf
  rw [show (0 : Int32) = nI 0 from rfl, show (nI 0).toInt = (0 : Int32).toInt from rfl, nI_clamp (by omega), h10]
  rw [pb_bits hE E 0 ((2147483647 - (0 : Int32).toInt).toNat + 1) 0 (by omega) (by omega) (fun t ht => by simp [lb]) t ht]
  rw [qn_bits ha hE E (((nI E - 1).toInt + 2147483648).toNat + 1) 0 (Nat.le_refl _) (by
      obtain ⟨m, rfl⟩ : ∃ m, E = m + 1 := ⟨E - 1, by omega⟩
      rw [nI_pred, nI_toInt (by omega)]; omega) (fun t ht => by
        have : ¬ (t + E < E) := by omega
        rw [lb_0]; simp only [this, decide_false, Bool.false_and]) t ht]
  by_cases h : t < E
  · unfold hi; rw [hr t h]
  · simp [h]
theorem bit_p (v : Int64) {k : Nat} (hk : k < 64) : (lg_cmp (((v.toUInt64 >>> ((nI k).toInt64.toUInt64 &&& Int64.toUInt64 63)).toInt64) &&& 1) 1 = 0) = (lb v k = true) := by
  rw [lg_eq]
  have h : ∀ k : Fin 64, ((nI k).toInt64.toUInt64 &&& Int64.toUInt64 63) = UInt64.ofNat k := by decide
  have h := h ⟨k, hk⟩
  simp only at h
  rw [h]
  have e : (((v.toUInt64 >>> UInt64.ofNat k).toInt64) &&& 1) = if lb v k then 1 else 0 := by
    apply lb_ext
    intro t ht
    have e1 : lb (((v.toUInt64 >>> UInt64.ofNat k).toInt64) &&& 1) t = (lb v (k + t) && decide (t = 0)) := by
      unfold lb
      rw [Int64.toBitVec_and, BitVec.getLsbD_and]
      show ((v.toBitVec >>> ((BitVec.ofNat 64 k).umod 64#64)).getLsbD t && (1#64).getLsbD t) = _
      have : ((BitVec.ofNat 64 k).umod 64#64).toNat = k := by simp; omega
      rw [BitVec.ushiftRight_eq', this, BitVec.getLsbD_ushiftRight, BitVec.getLsbD_one]
      simp
    rw [e1]
    by_cases hv : lb v k = true
    · rw [if_pos hv, lb_1]
      by_cases h0 : t = 0
      · subst h0; simp [hv]
      · simp [h0]
    · rw [if_neg hv, lb_0]
      by_cases h0 : t = 0
      · subst h0; simp [hv]
      · simp [h0]
  rw [e]
  by_cases hv : lb v k = true
  · rw [if_pos hv]; simp [hv]
  · rw [if_neg hv]
    exact propext ⟨fun h9 => absurd h9 (by decide), fun h9 => absurd h9 hv⟩
theorem bit_q (v : Int64) {k : Nat} (hk : k < 64) : (lg_cmp ((v >>> ((nI k).toInt64 &&& 63)) &&& 1) 1 = 0) = (lb v k = true) := by
  rw [lg_eq]
  have h : ∀ k : Fin 64, ((nI k).toInt64 &&& 63) = Int64.ofNat k := by decide
  have h := h ⟨k, hk⟩
  simp only at h
  rw [h]
  have hs : ∀ a : Fin 64, ((BitVec.ofNat 64 (a : Nat)).smod 64#64).toNat = a := by decide
  have hs := hs ⟨k, hk⟩
  have e : ((v >>> Int64.ofNat k) &&& 1) = if lb v k then 1 else 0 := by
    apply lb_ext
    intro t ht
    have e1 : lb ((v >>> Int64.ofNat k) &&& 1) t = (lb v k && decide (t = 0)) := by
      unfold lb
      rw [Int64.toBitVec_and, BitVec.getLsbD_and]
      show ((v.toBitVec.sshiftRight' ((BitVec.ofNat 64 k).smod 64#64)).getLsbD t && (1#64).getLsbD t) = _
      rw [BitVec.sshiftRight_eq', hs, BitVec.getLsbD_sshiftRight, BitVec.getLsbD_one]
      by_cases h0 : t = 0
      · subst h0; simp [hk]
      · simp [h0]
    rw [e1]
    by_cases hv : lb v k = true
    · rw [if_pos hv, lb_1]
      by_cases h0 : t = 0
      · subst h0; simp [hv]
      · simp [h0]
    · rw [if_neg hv, lb_0]
      by_cases h0 : t = 0
      · subst h0; simp [hv]
      · simp [h0]
  rw [e]
  by_cases hv : lb v k = true
  · rw [if_pos hv]; simp [hv]
  · rw [if_neg hv]
    exact propext ⟨fun h9 => absurd h9 (by decide), fun h9 => absurd h9 hv⟩
-- rows from bits; BINARY 12, 13
theorem n23 (b : Bool) : ∃ m, m < 16 ∧ (if b = true then (3 : Int32) else 2) = nI m := by cases b <;> first | exact ⟨2, by decide, rfl⟩ | exact ⟨3, by decide, rfl⟩
theorem n239 (b : Bool) : ∃ m, m < 9 ∧ (if b = true then (3 : Int32) else 2) = nI m := by cases b <;> first | exact ⟨2, by decide, rfl⟩ | exact ⟨3, by decide, rfl⟩
theorem sb_row {M s E : Nat} {g : gg} {v : Int64} (hM : M ≤ 8192) (hs : s < M) (hE : E ≤ 64) : ragr M s g (P_Rows_setBits M g (nI s) (nI E) v) ∧ ∀ j, j < E → rr M (P_Rows_setBits M g (nI s) (nI E) v) s j = if lb v j = true then 3 else 2 := by
  obtain ⟨g', e1, e2, e3, e4⟩ := rowloop (M := M) (s := s) (n := E) (g0 := g) (h := fun j => if lb v j = true then 3 else 2) (T := fun fuel g i => P_Rows_setBits_3 M fuel g (nI s) (nI E) v (nI i)) (fin := fun g => g) hM hs hE (fun j _ => n23 _)
    (fun fuel g i hi _ => by
      show (if nI E ≤ nI i then _ else _) = _
      rw [if_neg (by rw [j_le (by omega) (by omega)]; omega), if_neg (s64 (by omega))]
      unfold P_Rows_setBits_36
      by_cases h : lg_cmp (((v.toUInt64 >>> ((nI i).toInt64.toUInt64 &&& Int64.toUInt64 63)).toInt64) &&& 1) 1 = 0
      · rw [if_pos h, ← nI_succ]; rw [bit_p v (by omega)] at h; simp only [h, reduceIte]
      · rw [if_neg h, ← nI_succ]; rw [bit_p v (by omega)] at h; simp only [h, reduceIte]; rfl)
    (fun fuel g _ => by
      show (if nI E ≤ nI E then _ else _) = _
      rw [if_pos (by rw [j_le (by omega) (by omega)]; exact Nat.le_refl _)]) E 0 ((2147483647 - (0 : Int32).toInt).toNat + 1) g (by omega) (Nat.lt_trans (by omega) fuel0) ragr.rf
  have : P_Rows_setBits M g (nI s) (nI E) v = g' := e1
  rw [this]
  exact ⟨e2, fun j hj => e3 j (Nat.zero_le _) hj⟩
theorem sa_row {M s E m : Nat} {g : gg} (hM : M ≤ 8192) (hs : s < M) (hE : E ≤ 64) (hm : m < 16) : ragr M s g (P_Rows_setAll M g (nI s) (nI E) (nI m)) ∧ ∀ j, j < E → rr M (P_Rows_setAll M g (nI s) (nI E) (nI m)) s j = nI m := by
  obtain ⟨g', e1, e2, e3, e4⟩ := rowloop (M := M) (s := s) (n := E) (g0 := g) (h := fun _ => nI m) (T := fun fuel g i => P_Rows_setAll_3 M fuel g (nI s) (nI E) (nI m) (nI i)) (fin := fun g => g) hM hs hE (fun j _ => ⟨m, hm, rfl⟩)
    (fun fuel g i hi _ => by
      show (if nI E ≤ nI i then _ else _) = _
      rw [if_neg (by rw [j_le (by omega) (by omega)]; omega), if_neg (s64 (by omega)), ← nI_succ])
    (fun fuel g _ => by
      show (if nI E ≤ nI E then _ else _) = _
      rw [if_pos (by rw [j_le (by omega) (by omega)]; exact Nat.le_refl _)]) E 0 ((2147483647 - (0 : Int32).toInt).toNat + 1) g (by omega) (Nat.lt_trans (by omega) fuel0) ragr.rf
  have : P_Rows_setAll M g (nI s) (nI E) (nI m) = g' := e1
  rw [this]
  exact ⟨e2, fun j hj => e3 j (Nat.zero_le _) hj⟩
theorem mb_bits {κ : Nat → Nat} {τ : gf} {σ : Nat → Int32} {F : gf} {nu : gg} {k E : Nat} {v : Int64} (hk : k < 4000) (hE : E ≤ 64) (h10 : F 10 k = nI E) : Q_bits κ τ σ F nu (nI k) v = (σ, SE F k (fun j => if lb v j = true then 3 else 2) 0 E, nu) := by
  have eN : (nI k).toNatClampNeg = k := nI_clamp (by omega)
  unfold Q_bits
  refine eloop (k := k) (n := E) (F0 := F) (h := fun j => if lb v j = true then 3 else 2) (T := fun fuel F' i => Q_bits_3 κ τ σ F nu (nI k) v fuel F' (nI i)) (fin := fun F' => (σ, F', nu)) hE ?_ ?_ E 0 _ _ (by omega) (Nat.lt_trans (by omega) fuel0) agr.rf
  · intro fuel F' i hi hF
    have h10' : F' 10 k = nI E := by rw [hF 10 k (by omega)]; exact h10
    show (if F' 10 (nI k).toNatClampNeg ≤ nI i then _ else _) = _
    rw [eN, h10', if_neg (by rw [j_le (by omega) (by omega)]; omega)]
    unfold Q_bits_34
    have hb := bit_q v (k := i) (by omega)
    by_cases h : lg_cmp ((v >>> ((nI i).toInt64 &&& 63)) &&& 1) 1 = 0
    · rw [if_pos h, se_w (by omega) (by omega), ← nI_succ]; rw [hb] at h; simp only [h, reduceIte]; rfl
    · rw [if_neg h, se_w (by omega) (by omega), ← nI_succ]; rw [hb] at h; simp only [h, reduceIte]; rfl
  · intro fuel F' hF
    have h10' : F' 10 k = nI E := by rw [hF 10 k (by omega)]; exact h10
    show (if F' 10 (nI k).toNatClampNeg ≤ nI E then _ else _) = _
    rw [eN, h10', if_pos (by rw [j_le (by omega) (by omega)]; exact Nat.le_refl _)]
theorem ms_320 {κ : Nat → Nat} {τ : gf} {σ : Nat → Int32} {F : gf} {nu : gg} {k a b E : Nat} {l t1 t2 x : Int32} {u w : Int64} {r : Nat → Int32} (hk : k < 4000) (hE : E ≤ 64) (hx : x = 0 ∨ x = 1) :
    Q_lookSum_320 κ τ σ F nu (nI k) l (nI a) (nI b) t1 t2 x (nI E) u w 1 (mt F k 3 (nI E) x (-1) r) = kn κ τ σ (mt F k 3 (nI E) x (-1) r) (vp_updL nu k 0) k ∧
    Q_lookSum_320 κ τ σ F nu (nI k) l (nI a) (nI b) t1 t2 x (nI E) u w 0 (mt F k 3 (nI E) x (-1) r) = kn κ τ σ (mt F k 3 (nI E) x (-1) (fun j => if 0 ≤ j ∧ j < E then 1 else r j)) (vp_updL nu k 0) k := by
  have eN : (nI k).toNatClampNeg = k := nI_clamp (by omega)
  have h353 : ∀ F0 F1 t i, Q_lookSum_353 κ τ σ F nu (nI k) l (nI a) (nI b) t1 t2 x (nI E) u w t F0 F1 i = kn κ τ σ F1 (vp_updL nu k 0) k := by
    intro F0 F1 t i; unfold Q_lookSum_353 kn; rw [fact_t (by omega) hx]
  constructor
  · unfold Q_lookSum_320
    show (if _ then _ else if _ then _ else _) = _
    rw [if_neg (show ¬ (1 : Int32) = 0 by decide), h353]
    split <;> rfl
  · unfold Q_lookSum_320
    rw [← mt_se hE]
    refine eloop (k := k) (n := E) (F0 := mt F k 3 (nI E) x (-1) r) (h := fun _ => 1) (T := fun fuel F' i => Q_lookSum_323 κ τ σ F nu (nI k) l (nI a) (nI b) t1 t2 x (nI E) u w 0 (mt F k 3 (nI E) x (-1) r) fuel F' (nI i)) (fin := fun F' => kn κ τ σ F' (vp_updL nu k 0) k) hE ?_ ?_ E 0 _ _ (by omega) (Nat.lt_trans (by omega) fuel0) agr.rf
    · intro fuel F' i hi hF
      have h10' : F' 10 k = nI E := by rw [hF 10 k (by omega)]; exact mt_k.2.1
      show (if F' 10 (nI k).toNatClampNeg ≤ nI i then _ else if (0 : Int32) = 0 then _ else _) = _
      rw [eN, h10', if_neg (by rw [j_le (by omega) (by omega)]; omega), if_pos rfl, se_w (by omega) (by omega), ← nI_succ]
      rfl
    · intro fuel F' hF
      have h10' : F' 10 k = nI E := by rw [hF 10 k (by omega)]; exact mt_k.2.1
      show (if F' 10 (nI k).toNatClampNeg ≤ nI E then _ else _) = _
      rw [eN, h10', if_pos (by rw [j_le (by omega) (by omega)]; exact Nat.le_refl _), h353]
/-- the reference's row of a sum -/
theorem ms_210 {κ : Nat → Nat} {τ : gf} {σ : Nat → Int32} {F : gf} {nu : gg} {k a b E : Nat} {l t1 t2 x : Int32} (hk : k < 4000) (ha : a < k) (hb : b < k) (hE : E ≤ 64) (hx : x = 0 ∨ x = 1) :
    Q_lookSum_210 κ τ σ F nu (nI k) l (nI a) (nI b) t1 t2 x (nI E) = kn κ τ σ (mt F k 3 (nI E) x (-1) (fun j => if 0 ≤ j ∧ j < E then
      (if (¬ t1 = 0 ∧ Q_isClear κ τ σ (mt F k 3 (nI E) x (-1) (fun _ => 0)) (vp_updL nu k 0) (nI a) = 0) ∨ (¬ t2 = 0 ∧ Q_isClear κ τ σ (mt F k 3 (nI E) x (-1) (fun _ => 0)) (vp_updL nu k 0) (nI b) = 0) then 1 else
       if lb (if l = 0 then (if t1 = 0 then nu a else Q_numberOf κ τ σ (mt F k 3 (nI E) x (-1) (fun _ => 0)) (vp_updL nu k 0) (nI a)) + (if t2 = 0 then nu b else Q_numberOf κ τ σ (mt F k 3 (nI E) x (-1) (fun _ => 0)) (vp_updL nu k 0) (nI b)) else (if t1 = 0 then nu a else Q_numberOf κ τ σ (mt F k 3 (nI E) x (-1) (fun _ => 0)) (vp_updL nu k 0) (nI a)) - (if t2 = 0 then nu b else Q_numberOf κ τ σ (mt F k 3 (nI E) x (-1) (fun _ => 0)) (vp_updL nu k 0) (nI b))) j = true then 3 else 2) else 0)) (vp_updL nu k 0) k := by
  have eA : (nI a).toNatClampNeg = a := nI_clamp (by omega)
  have eB : (nI b).toNatClampNeg = b := nI_clamp (by omega)
  have na : vp_updL nu k 0 a = nu a := by rw [upl_a, if_neg (by omega)]
  have nb : vp_updL nu k 0 b = nu b := by rw [upl_a, if_neg (by omega)]
  have h320 := fun u w r => ms_320 (κ := κ) (τ := τ) (σ := σ) (F := F) (nu := nu) (k := k) (a := a) (b := b) (E := E) (l := l) (t1 := t1) (t2 := t2) (x := x) (u := u) (w := w) (r := r) hk hE hx
  have h291 : ∀ u w, Q_lookSum_291 κ τ σ F nu (nI k) l (nI a) (nI b) t1 t2 x (nI E) u w 1 = kn κ τ σ (mt F k 3 (nI E) x (-1) (fun j => if 0 ≤ j ∧ j < E then (if lb (if l = 0 then u + w else u - w) j = true then 3 else 2) else 0)) (vp_updL nu k 0) k := by
    intro u w
    unfold Q_lookSum_291 Q_lookSum_317
    have e1 := fun r => (h320 u w r).1
    rw [if_neg (show ¬ (1 : Int32) = 0 by decide), fact_t (by omega) hx]
    by_cases hl : l = 0
    · rw [if_pos hl, mb_bits hk hE mt_k.2.1]
      dsimp only
      rw [mt_se hE, e1]
      simp only [hl, reduceIte]
    · rw [if_neg hl, mb_bits hk hE mt_k.2.1]
      dsimp only
      rw [mt_se hE, e1]
      simp only [hl, reduceIte]
  have h291' : ∀ u w, Q_lookSum_291 κ τ σ F nu (nI k) l (nI a) (nI b) t1 t2 x (nI E) u w 0 = kn κ τ σ (mt F k 3 (nI E) x (-1) (fun j => if 0 ≤ j ∧ j < E then 1 else 0)) (vp_updL nu k 0) k := by
    intro u w
    unfold Q_lookSum_291
    rw [if_pos rfl, fact_t (by omega) hx]
    dsimp only
    rw [(h320 u w (fun _ => 0)).2]
  unfold Q_lookSum_210 Q_lookSum_234 Q_lookSum_257 Q_lookSum_272 Q_lookSum_286 Q_lookSum_290
  simp only [fact_t (κ := κ) (τ := τ) (σ := σ) (F := F) (nu := nu) (k := k) (c := 3) (e := nI E) (x := x) (by omega) hx, eA, eB, na, nb, h291, h291']
  by_cases q1 : t1 = 0
  · by_cases q2 : t2 = 0
    · simp only [q1, q2, reduceIte, not_true, false_and, or_self]
    · by_cases q4 : Q_isClear κ τ σ (mt F k 3 (nI E) x (-1) (fun _ => 0)) (vp_updL nu k 0) (nI b) = 0
      · simp only [q1, q2, q4, reduceIte, not_true, not_false_eq_true, false_and, true_and, or_true]
      · simp only [q1, q2, q4, reduceIte, not_true, not_false_eq_true, false_and, and_false, or_self]
  · by_cases q3 : Q_isClear κ τ σ (mt F k 3 (nI E) x (-1) (fun _ => 0)) (vp_updL nu k 0) (nI a) = 0
    · by_cases q2 : t2 = 0
      · simp only [q1, q2, q3, reduceIte, not_true, not_false_eq_true, true_and, true_or]
      · simp only [q1, q2, q3, reduceIte, not_false_eq_true, true_and, true_or]
    · by_cases q2 : t2 = 0
      · simp only [q1, q2, q3, reduceIte, not_true, not_false_eq_true, false_and, and_false, or_self]
      · by_cases q4 : Q_isClear κ τ σ (mt F k 3 (nI E) x (-1) (fun _ => 0)) (vp_updL nu k 0) (nI b) = 0
        · simp only [q1, q2, q3, q4, reduceIte, not_false_eq_true, and_false, true_and, or_true]
        · simp only [q1, q2, q3, q4, reduceIte, not_false_eq_true, and_false, or_self]
-- BINARY 12, 13 on both sides
theorem sum_one {κ κr : Nat → Nat} {φ0 : gF} {ψ : gG} {τ : gf} {σ : Nat → Int32} {F : gf} {nu : gg} {k a E : Nat} {x t c e m n y : Int32} (hC : CK κ) (hk : k < κ 0) (ha : CH κ φ0 ψ F nu k a) (hx : F 11 a = 1) (hE1 : 1 ≤ E) (hE : E ≤ 64) (h : (t = 1 ∧ F 9 a = 3 ∧ F 10 a = nI E) ∨ (t = 0 ∧ F 9 a = 2)) :
    (P_Operators_isClear κ (ct φ0 k c e m n y) ψ (nI a) = 0 ↔ (¬ t = 0 ∧ Q_isClear κr τ σ (mt F k 3 (nI E) x (-1) (fun _ => 0)) (vp_updL nu k 0) (nI a) = 0)) ∧
    P_Operators_countsAs κ (ct φ0 k c e m n y) ψ (nI a) = (if t = 0 then nu a else Q_numberOf κr τ σ (mt F k 3 (nI E) x (-1) (fun _ => 0)) (vp_updL nu k 0) (nI a)) := by
  have hC' := hC
  obtain ⟨c0, c1, c2, c3, c4, c5, c6, c7, c8⟩ := hC'
  have hak := ha.1
  unfold P_Operators_isClear P_Operators_isClear_34 P_Operators_countsAs
  rw [ch_0 hC hk ha, ch_1 hC hk ha, ch_3 hC hk ha]
  rcases h with ⟨ht, h3, hEa⟩ | ⟨ht, h2⟩
  · have hr : ∀ j, j < E → rr (κ 10) (ψ 10) a j = ee (mt F k 3 (nI E) x (-1) (fun _ => 0)) a j := fun j hj => by rw [mt_ea (by omega) (by omega)]; exact (ch_r ha hx h3 hEa hE hj).1
    have h10 : (mt F k 3 (nI E) x (-1) (fun _ => 0)) 10 a = nI E := by rw [mt_a (by decide) (by omega)]; exact hEa
    have e1 := clear_same (κ := κr) (τ := τ) (σ := σ) (nu := vp_updL nu k 0) (M := κ 10) (a := a) (g := ψ 10) (by omega) hE h10 hr
    have e2 := bits_same (κ := κr) (τ := τ) (σ := σ) (nu := vp_updL nu k 0) (M := κ 10) (a := a) (g := ψ 10) (by omega) hE1 hE h10 hr
    rw [ht, if_pos h3, if_pos h3, hEa, if_neg (show ¬ (1 : Int32) = 0 by decide)]
    refine ⟨?_, e2⟩
    by_cases q : P_Rows_isClear (κ 10) (ψ 10) (nI a) (nI E) = 0
    · rw [if_pos q]; rw [e1] at q; exact ⟨fun _ => ⟨by decide, q⟩, fun _ => rfl⟩
    · rw [if_neg q]; rw [e1] at q; exact ⟨fun h9 => absurd h9 (by decide), fun h9 => absurd h9.2 q⟩
  · rw [ht, h2, if_neg (show ¬ (2 : Int32) = 3 by decide), if_neg (show ¬ (2 : Int32) = 3 by decide), if_pos rfl]
    exact ⟨⟨fun h9 => absurd h9 (by decide), fun h9 => absurd rfl h9.1⟩, w_eq.mpr (ch_n ha hx h2).1⟩
theorem sum_row {κ κr : Nat → Nat} {φ0 : gF} {ψ : gG} {τ : gf} {σ : Nat → Int32} {F : gf} {nu : gg} {k a b E o : Nat} {t1 t2 l : Int32} (hC : CK κ) (hk : k < κ 0) (ha : CH κ φ0 ψ F nu k a) (hb : CH κ φ0 ψ F nu k b) (hE1 : 1 ≤ E) (hE : E ≤ 64) (h1 : (t1 = 1 ∧ F 9 a = 3 ∧ F 10 a = nI E) ∨ (t1 = 0 ∧ F 9 a = 2)) (h2 : (t2 = 1 ∧ F 9 b = 3 ∧ F 10 b = nI E) ∨ (t2 = 0 ∧ F 9 b = 2)) (ho : (o = 12 ∧ l = 0) ∨ (o = 13 ∧ l = 1)) :
    LK2 (κ 10) φ0 ψ F nu k (cbin κ φ0 ψ k a b (nI o) 3 (nI E) (bx (F 11 a) (F 11 b)) (F 9 a) (F 9 b) (F 10 a) (F 10 b)) (Q_lookSum_210 κr τ σ F nu (nI k) l (nI a) (nI b) t1 t2 (bx (F 11 a) (F 11 b)) (nI E)) := by
  have hC' := hC
  obtain ⟨c0, c1, c2, c3, c4, c5, c6, c7, c8⟩ := hC'
  have hak := ha.1
  have hbk := hb.1
  have L7 : k < κ 7 := by omega
  have hbx := bx01 (F 11 a) (F 11 b)
  rw [ms_210 (by omega) hak hbk hE hbx]
  have hcb : cbin κ φ0 ψ k a b (nI o) 3 (nI E) (bx (F 11 a) (F 11 b)) (F 9 a) (F 9 b) (F 10 a) (F 10 b) = if bx (F 11 a) (F 11 b) = 0 then (0, ct φ0 k 3 (nI E) (-1) 0 (bx (F 11 a) (F 11 b)), ψ) else (0, (P_Operators_sumRows κ (ct φ0 k 3 (nI E) (-1) 0 (bx (F 11 a) (F 11 b))) ψ (nI k) (nI o) (nI a) (nI b)).1, (P_Operators_sumRows κ (ct φ0 k 3 (nI E) (-1) 0 (bx (F 11 a) (F 11 b))) ψ (nI k) (nI o) (nI a) (nI b)).2) := by
    unfold cbin
    rw [if_neg (by decide), if_neg (by rw [show (64 : Int32) = nI 64 from rfl, j_lt (by omega) (by omega)]; omega), if_neg (fun h9 => by
      rcases h1 with h1 | h1
      · rcases h2 with h2 | h2
        · exact h9.2.2.2 (h1.2.2.trans h2.2.2.symm)
        · exact absurd (h2.2.symm.trans h9.2.1) (by decide)
      · exact absurd (h1.2.symm.trans h9.1) (by decide))]
    unfold P_Operators_binary_150
    rw [ct_n4 L7 c2 hbx]
    rcases ho with ⟨rfl, _⟩ | ⟨rfl, _⟩ <;> simp (decide := true) only [reduceIte]
  rw [hcb]
  rcases id hbx with hx | hx
  · rw [if_pos hx]
    exact nf_k0 (by omega) (lsv_3 hE1 hE rfl hbx (fun h9 => absurd (hx.symm.trans h9) (by decide)))
  · rw [if_neg (by rw [hx]; decide)]
    obtain ⟨x1, x2⟩ := bx1 (ch_x ha) (ch_x hb) hx
    have sa := sum_one (κr := κr) (τ := τ) (σ := σ) (x := bx (F 11 a) (F 11 b)) (c := 3) (e := nI E) (m := -1) (n := 0) (y := bx (F 11 a) (F 11 b)) hC hk ha x1 hE1 hE h1
    have sb := sum_one (κr := κr) (τ := τ) (σ := σ) (x := bx (F 11 a) (F 11 b)) (c := 3) (e := nI E) (m := -1) (n := 0) (y := bx (F 11 a) (F 11 b)) hC hk hb x2 hE1 hE h2
    have hX := sa_row (M := κ 10) (s := k) (E := E) (m := 1) (g := ψ 10) c4 (by omega) hE (by decide)
    have hone : ∀ r : Nat → Int32, (∀ j, j < E → r j = 1) → LK2 (κ 10) φ0 ψ F nu k (0, ct φ0 k 3 (nI E) (-1) 0 (bx (F 11 a) (F 11 b)), up ψ 10 (P_Rows_setAll (κ 10) (ψ 10) (nI k) (nI E) 1)) (kn κr τ σ (mt F k 3 (nI E) (bx (F 11 a) (F 11 b)) (-1) r) (vp_updL nu k 0) k) := fun r hr => nf_k (by omega) hX.1 (lsv_3 hE1 hE rfl hbx (fun _ j hj => ⟨(hX.2 j hj).trans (hr j hj).symm, 1, by decide, hr j hj⟩))
    unfold P_Operators_sumRows P_Operators_sumRows_27 P_Operators_sumRows_75
    rw [ct_n1 L7 c2]
    by_cases qa : P_Operators_isClear κ (ct φ0 k 3 (nI E) (-1) 0 (bx (F 11 a) (F 11 b))) ψ (nI a) = 0
    · rw [if_pos qa]
      exact hone _ (fun j hj => by rw [if_pos ⟨Nat.zero_le _, hj⟩, if_pos (Or.inl (sa.1.mp qa))])
    · rw [if_neg qa]
      by_cases qb : P_Operators_isClear κ (ct φ0 k 3 (nI E) (-1) 0 (bx (F 11 a) (F 11 b))) ψ (nI b) = 0
      · rw [if_pos qb]
        exact hone _ (fun j hj => by rw [if_pos ⟨Nat.zero_le _, hj⟩, if_pos (Or.inr (sb.1.mp qb))])
      · rw [if_neg qb, sa.2, sb.2]
        have hnc : ¬ ((¬ t1 = 0 ∧ Q_isClear κr τ σ (mt F k 3 (nI E) (bx (F 11 a) (F 11 b)) (-1) (fun _ => 0)) (vp_updL nu k 0) (nI a) = 0) ∨ (¬ t2 = 0 ∧ Q_isClear κr τ σ (mt F k 3 (nI E) (bx (F 11 a) (F 11 b)) (-1) (fun _ => 0)) (vp_updL nu k 0) (nI b) = 0)) := fun h9 => h9.elim (fun h8 => qa (sa.1.mpr h8)) (fun h8 => qb (sb.1.mpr h8))
        have hbits : ∀ v : Int64, LK2 (κ 10) φ0 ψ F nu k (0, ct φ0 k 3 (nI E) (-1) 0 (bx (F 11 a) (F 11 b)), up ψ 10 (P_Rows_setBits (κ 10) (ψ 10) (nI k) (nI E) v)) (kn κr τ σ (mt F k 3 (nI E) (bx (F 11 a) (F 11 b)) (-1) (fun j => if 0 ≤ j ∧ j < E then (if lb v j = true then 3 else 2) else 0)) (vp_updL nu k 0) k) := fun v => by
          have hB := sb_row (M := κ 10) (s := k) (E := E) (g := ψ 10) (v := v) c4 (by omega) hE
          refine nf_k (by omega) hB.1 (lsv_3 hE1 hE rfl hbx (fun _ j hj => ?_))
          rw [if_pos ⟨Nat.zero_le _, hj⟩]
          exact ⟨hB.2 j hj, n239 _⟩
        simp only [if_neg hnc]
        rcases ho with ⟨rfl, rfl⟩ | ⟨rfl, rfl⟩
        · rw [if_pos (show nI 12 = 12 from rfl)]
          simp (decide := true) only [reduceIte]
          exact hbits _
        · rw [if_neg (show ¬ nI 13 = 12 by decide)]
          simp (decide := true) only [reduceIte]
          exact hbits _
theorem k_sum {κ κr : Nat → Nat} {φ0 : gF} {ψ : gG} {τ : gf} {σ : Nat → Int32} {F : gf} {nu : gg} {k a b o : Nat} {l : Int32} (hC : CK κ) (hk : k < κ 0) (ha : CH κ φ0 ψ F nu k a) (hb : CH κ φ0 ψ F nu k b) (ho : (o = 12 ∧ l = 0) ∨ (o = 13 ∧ l = 1)) :
    LK2 (κ 10) φ0 ψ F nu k (P_Operators_binary κ (ct φ0 k (-1) 0 (-1) 0 0) ψ (nI k) (nI o) (nI a) (nI b)) (Q_lookSum κr τ σ F nu (nI k) l (nI a) (nI b)) := by
  have hC' := hC
  obtain ⟨c0, c1, c2, c3, c4, c5, c6, c7, c8⟩ := hC'
  have hak := ha.1
  have hbk := hb.1
  have eA : (nI a).toNatClampNeg = a := nI_clamp (by omega)
  have eB : (nI b).toNatClampNeg = b := nI_clamp (by omega)
  have L7 : k < κ 7 := by omega
  have hbx := bx01 (F 11 a) (F 11 b)
  have hft : ∀ (c m : Int32) (φ' : gF), FrC (κ 10) k φ0 ψ φ' ψ → ¬ c = 0 → 0 < m → LK2 (κ 10) φ0 ψ F nu k (c, φ', ψ) (m, σ, F, nu) := fun c m φ' h1 h2 h3 => nf_f h1 frM.rf h2 h3
  rw [cb_form hC hk ha hb]
  have oo : (5 : Int32) < nI o ∧ (7 : Int32) < nI o ∧ (11 : Int32) < nI o ∧ ¬ (13 : Int32) < nI o ∧ ¬ nI o = 14 := by rcases ho with ⟨rfl, _⟩ | ⟨rfl, _⟩ <;> decide
  obtain ⟨o5, o7, o11, o13, o14⟩ := oo
  have h33 : ∀ t1 t2, Q_lookSum_33 κr τ σ F nu (nI k) l (nI a) (nI b) t1 t2 = Q_lookSum_59 κr τ σ F nu (nI k) l (nI a) (nI b) t1 t2 (bx (F 11 a) (F 11 b)) := by
    intro t1 t2
    unfold Q_lookSum_33 Q_lookSum_58 bx
    rw [eA, eB]
    by_cases x1 : F 11 a = 0
    · simp only [x1, reduceIte]
    · by_cases x2 : F 11 b = 0 <;> simp only [x1, x2, reduceIte]
  unfold Q_lookSum Q_lookSum_15
  simp only [h33]
  unfold Q_lookSum_59 Q_lookSum_125 Q_lookSum_140 Q_lookSum_158 Q_lookSum_186 P_Operators_resultClass P_Operators_resultClass_125 P_Operators_resultClass_126 P_Operators_resultClass_146 P_Operators_resultClass_158 P_Operators_resultClass_162 P_Operators_resultClass_163 P_Operators_resultLength
  simp (decide := true) only [ch_0 hC hk ha, ch_0 hC hk hb, ch_1 hC hk ha, ch_1 hC hk hb, eA, eB, o5, o7, o11, o13, o14, reduceIte]
  have hcl3 : LK2 (κ 10) φ0 ψ F nu k (cbin κ φ0 ψ k a b (nI o) (-1) 0 (bx (F 11 a) (F 11 b)) (F 9 a) (F 9 b) (F 10 a) (F 10 b)) (3, σ, F, nu) := by
    unfold cbin; rw [if_pos rfl]; exact hft _ _ _ ct_fr (by decide) (by decide)
  by_cases a2 : F 9 a = 2
  · by_cases b2 : F 9 b = 2
    · -- INTEGERs
      simp (decide := true) only [a2, b2, reduceIte]
      have hcb : cbin κ φ0 ψ k a b (nI o) 2 0 (bx (F 11 a) (F 11 b)) 2 2 (F 10 a) (F 10 b) = if bx (F 11 a) (F 11 b) = 0 then (0, ct φ0 k 2 0 (-1) 0 (bx (F 11 a) (F 11 b)), ψ) else P_Operators_calculate κ (ct φ0 k 2 0 (-1) 0 (bx (F 11 a) (F 11 b))) ψ (nI k) (nI o) (φ0 9 3 a).toInt64 (φ0 9 3 b).toInt64 := by
        unfold cbin P_Operators_binary_150
        simp (decide := true) only [ct_n4 L7 c2 hbx, reduceIte, ch_3 hC hk ha, ch_3 hC hk hb, false_and]
      rw [hcb]
      have h121 : ∀ t, Q_lookSum_121 κr τ σ F nu (nI k) l (nI a) (nI b) 0 0 (bx (F 11 a) (F 11 b)) t = Q_integer κr τ σ F nu (nI k) (bx (F 11 a) (F 11 b)) t := fun _ => rfl
      simp only [h121]
      rcases id hbx with hx | hx
      · rw [if_pos hx]
        simp only [mint (κ := κr) (τ := τ) (σ := σ) (F := F) (nu := nu) (k := k) (by omega) hbx, if_pos hx]
        have := nf_d0 (M := κ 10) (k := k) (σ' := σ) (φ := φ0) (ψ := ψ) (F := F) (nu := nu) (c := 2) (e := 0) (m := -1) (n := 0) (x := bx (F 11 a) (F 11 b)) (v := 0) (r := fun _ => 0) (lsv_2 hbx (fun h9 => absurd (hx.symm.trans h9) (by decide)))
        split <;> exact this
      · have hx0 : ¬ bx (F 11 a) (F 11 b) = 0 := by rw [hx]; decide
        rw [if_neg hx0]
        obtain ⟨x1, x2⟩ := bx1 (ch_x ha) (ch_x hb) hx
        obtain ⟨n1, n2⟩ := ch_n ha x1 a2
        obtain ⟨n3, n4⟩ := ch_n hb x2 b2
        rw [w_eq.mpr n1, w_eq.mpr n3]
        have hint : ∀ t : Int64, LK2 (κ 10) φ0 ψ F nu k (if 2147483647 < t.toInt ∨ t.toInt < -2147483647 then (9, ct φ0 k 2 0 (-1) 0 (bx (F 11 a) (F 11 b)), ψ) else (0, ct φ0 k 2 0 (-1) t.toInt32 (bx (F 11 a) (F 11 b)), ψ)) (Q_integer κr τ σ F nu (nI k) (bx (F 11 a) (F 11 b)) t) := by
          intro t
          rw [mint (by omega) hbx, if_neg hx0]
          by_cases ht : 2147483647 < t.toInt ∨ t.toInt < -2147483647
          · rw [if_pos ht, if_pos ht]; exact nf_f ct_fr mt_fr (by decide) (by decide)
          · rw [if_neg ht, if_neg ht]
            exact nf_d0 (lsv_2 hbx (fun _ => ⟨n32 ht, by rw [n32 ht]; omega⟩))
        unfold P_Operators_calculate P_Operators_calculate_16 P_Operators_calculate_17 P_Operators_calculate_34
        rcases ho with ⟨rfl, rfl⟩ | ⟨rfl, rfl⟩
        · simp (decide := true) only [reduceIte, cc_79 L7 c2]; exact hint _
        · simp (decide := true) only [reduceIte, cc_79 L7 c2]; exact hint _
    · by_cases b3 : F 9 b = 3
      · obtain ⟨E, hE1, hE2, hE⟩ := ch_E hb b3
        have := sum_row (κr := κr) (τ := τ) (σ := σ) (t1 := 0) (t2 := 1) (l := l) hC hk ha hb hE1 hE2 (Or.inr ⟨rfl, a2⟩) (Or.inl ⟨rfl, b3, hE⟩) ho
        simp (decide := true) only [a2, b3, hE, reduceIte] at this ⊢
        exact this
      · simp (decide := true) only [a2, b2, b3, reduceIte] at hcl3 ⊢
        exact hcl3
  · by_cases a3 : F 9 a = 3
    · obtain ⟨E, hE1, hE2, hE⟩ := ch_E ha a3
      by_cases b2 : F 9 b = 2
      · have := sum_row (κr := κr) (τ := τ) (σ := σ) (t1 := 1) (t2 := 0) (l := l) hC hk ha hb hE1 hE2 (Or.inl ⟨rfl, a3, hE⟩) (Or.inr ⟨rfl, b2⟩) ho
        simp (decide := true) only [a3, b2, hE, reduceIte] at this ⊢
        exact this
      · by_cases b3 : F 9 b = 3
        · by_cases heq : F 10 a = F 10 b
          · have := sum_row (κr := κr) (τ := τ) (σ := σ) (t1 := 1) (t2 := 1) (l := l) hC hk ha hb hE1 hE2 (Or.inl ⟨rfl, a3, hE⟩) (Or.inl ⟨rfl, b3, heq.symm.trans hE⟩) ho
            simp (decide := true) only [a3, b3, ← heq, hE, reduceIte] at this ⊢
            exact this
          · simp (decide := true) only [a3, b3, heq, reduceIte]
            unfold cbin
            rw [if_neg (by decide), if_neg (by rw [hE, show (64 : Int32) = nI 64 from rfl, j_lt (by omega) (by omega)]; omega), if_pos ⟨rfl, rfl, o14, heq⟩]
            exact hft _ _ _ ct_fr (by decide) (by decide)
        · simp (decide := true) only [a3, b2, b3, reduceIte] at hcl3 ⊢
          exact hcl3
    · simp (decide := true) only [a2, a3, reduceIte]
      split <;> exact hcl3
