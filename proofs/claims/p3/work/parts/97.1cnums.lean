-- what stays over a store
theorem FD.up {σ σ' : Nat → Int32} {k : Nat} {x : Int32} (hF : FD σ) (e : σ' = upd σ k x) (h1 : 32 ≠ k) (h2 : 33 ≠ k) : FD σ' := by
  subst e
  unfold FD
  rw [pk_un h1, pk_un h2]
  exact hF
theorem SZ.au {F F' : Nat → Nat → Int32} {k i : Nat} {x : Int32} (hz : SZ F) (e : F' = Au F k i x) (h : 10 ≠ k) : SZ F' := by
  subst e
  intro f hf
  rw [au_n h]
  exact hz f hf
theorem SL.au {K : Nat} {F0 F F' : Nat → Nat → Int32} {nu0 nu : Nat → Int64} {k i : Nat} {x : Int32} (hl : SL K F0 nu0 F nu) (e : F' = Au F k i x) (h : 9 ≠ k) : SL K F0 nu0 F' nu := by
  subst e
  intro j hj
  rw [au_n h]
  exact hl j hj
theorem GK.au {K : Nat} {F F' : Nat → Nat → Int32} {nu : Nat → Int64} {k i : Nat} {x : Int32} (hg : GK K F nu) (e : F' = Au F k i x) (h : 9 ≠ k) : GK K F' nu := by
  subst e
  unfold GK
  rw [au_n h]
  exact hg
theorem GD.au {F F' : Nat → Nat → Int32} {nu : Nat → Int64} {k i : Nat} {x : Int32} (hg : GD F nu) (e : F' = Au F k i x) (h : 9 ≠ k) : GD F' nu := fun f h1 h2 => (hg f h1 h2).au e h
theorem GD.e14 {F F' : Nat → Nat → Int32} {nu : Nat → Int64} (hg : GD F nu) (h : EQ14 F F') : GD F' nu := fun f h1 h2 => (hg f h1 h2).e14 h
theorem GD.sl {k : Nat} {F F' : Nat → Nat → Int32} {nu nu' : Nat → Int64} (hg : GD F nu) (hk : k < 4000) (h : SL k F nu F' nu') : GD F' nu' := fun f h1 h2 => h.gk (by omega) (hg f h1 h2)
theorem EQ14.rf {F : Nat → Nat → Int32} : EQ14 F F := fun _ _ => rfl
theorem EQ14.trans {F F1 F2 : Nat → Nat → Int32} (h1 : EQ14 F F1) (h2 : EQ14 F1 F2) : EQ14 F F2 := fun q hq => (h2 q hq).trans (h1 q hq)
theorem EQ14.au {F F' : Nat → Nat → Int32} {i : Nat} {x : Int32} (e : F' = Au F 14 i x) : EQ14 F F' := by
  subst e
  intro q hq
  exact au_n hq
-- numbers
theorem cmp_ge {x y : Int64} {v : Int32} (e : v = lg_cmp x y) (h : ¬ v < 0) : y.toInt ≤ x.toInt := by
  subst e
  unfold lg_cmp at h
  by_cases h1 : x > y
  · have := Int64.lt_iff_toInt_lt.mp h1
    omega
  · rw [if_neg h1] at h
    by_cases h2 : x = y
    · rw [h2]; exact Int.le_refl _
    · rw [if_neg h2] at h
      exact absurd (by decide) h
theorem cmp_le {x y : Int64} {v : Int32} (e : v = lg_cmp x y) (h : ¬ 0 < v) : x.toInt ≤ y.toInt := by
  subst e
  unfold lg_cmp at h
  by_cases h1 : x > y
  · rw [if_pos h1] at h
    exact absurd (by decide) h
  · exact Int.not_lt.mp (fun h2 => h1 (Int64.lt_iff_toInt_lt.mpr h2))
theorem cmp_lt {x y : Int64} {v : Int32} (e : v = lg_cmp x y) (h : v < 0) : x.toInt < y.toInt := by
  by_cases h1 : x.toInt < y.toInt
  · exact h1
  · exfalso
    subst e
    unfold lg_cmp at h
    by_cases h2 : x > y
    · rw [if_pos h2] at h
      exact absurd h (by decide)
    · rw [if_neg h2] at h
      have h3 : x = y := by
        apply Int64.toInt_inj.mp
        have : ¬ y.toInt < x.toInt := fun h4 => h2 (Int64.lt_iff_toInt_lt.mpr h4)
        omega
      rw [if_pos h3] at h
      exact absurd h (by decide)
theorem cmp_gt {x y : Int64} {v : Int32} (e : v = lg_cmp x y) (h : 0 < v) : y.toInt < x.toInt := by
  by_cases h1 : y.toInt < x.toInt
  · exact h1
  · exfalso
    subst e
    unfold lg_cmp at h
    by_cases h2 : x > y
    · have := Int64.lt_iff_toInt_lt.mp h2
      omega
    · rw [if_neg h2] at h
      by_cases h3 : x = y
      · rw [if_pos h3] at h
        exact absurd h (by decide)
      · rw [if_neg h3] at h
        exact absurd h (by decide)
theorem nn_inc {i j r : Int32} (e : j = i + 1) (h : ¬ i < 0) (hr : ¬ r ≤ i) : ¬ j < 0 := by
  obtain ⟨h1, h2⟩ := mu_up hr
  subst e
  rw [Int32.lt_iff_toInt_lt] at h ⊢
  rw [h1]
  have h3 : (0 : Int32).toInt = 0 := by decide
  omega
theorem vcmp {x v : Int32} {n : Nat} (h0 : ¬ x < 0) (ev : v = nI n) (h1 : ¬ v ≤ x) (hn : n < 2 ^ 31) : vp_in x n := by
  subst ev
  exact in_cmp h0 h1 hn
theorem vin_le {x : Int32} {n : Nat} (h0 : ¬ x < 0) (h1 : x.toInt < (n : Int)) : vp_in x n := by
  rw [Int32.lt_iff_toInt_lt] at h0
  have h3 : (0 : Int32).toInt = 0 := by decide
  exact vp_in_iff.mpr ⟨by omega, h1⟩
theorem vin_of {x : Int32} {j n : Nat} (e : x = nI j) (h : j < n) (hn : n < 2 ^ 31) : vp_in x n := by
  subst e
  exact vp_in_nI h hn
theorem vin_int {x : Int32} {n : Nat} (h : vp_in x n) : x.toInt = (x.toNatClampNeg : Int) := by
  have h0 : ¬ x < 0 := fun h2 => h (Or.inl h2)
  obtain ⟨j, hj, rfl⟩ := nI_of h0
  rw [nI_clamp hj, nI_toInt hj]
/-- a child's place -/
theorem ch_in {N r : Nat} {τ : Nat → Nat → Int32} {b mn : Nat → Nat} (hT : TR N r τ b mn) (hN : N ≤ 4000) {x y v : Int32} (hk : vp_in x N) (hj : vp_in y (mn x.toNatClampNeg)) (e : v = nI (tX b x.toNatClampNeg y.toNatClampNeg - 1)) : vp_in v N ∧ v.toNatClampNeg < x.toNatClampNeg ∧ v.toNatClampNeg = tX b x.toNatClampNeg y.toNatClampNeg - 1 := by
  have h1 := ch_ge hT (vix hk) (vix hj)
  have h2 := vix hk
  subst e
  refine ⟨vp_in_nI (by omega) (by omega), ?_, ?_⟩
  · rw [nI_clamp (by omega)]; exact h1.2
  · rw [nI_clamp (by omega)]
theorem ch_step {N r : Nat} {τ : Nat → Nat → Int32} {b mn : Nat → Nat} (hT : TR N r τ b mn) (hN : N ≤ 4000) {k i : Nat} {c : Int32} (hk : k < N) (hi : i < mn k) (e : c = nI (tX b k i - 1)) : vp_in c N ∧ τ 5 c.toNatClampNeg = nI (tX b k (i + 1)) := by
  have h1 := ch_ge hT hk hi
  have h2 := (hT.2.1 k hk).2.2.1 i hi
  subst e
  refine ⟨vp_in_nI (by omega) (by omega), ?_⟩
  rw [nI_clamp (by omega), (hT.1 _ (by omega)).1]
  obtain ⟨m, hm⟩ : ∃ m, tX b k i = m + 1 := ⟨tX b k i - 1, by omega⟩
  rw [tX_s hm, hm]
  rfl
theorem nI_sub1 {n : Nat} (h : 1 ≤ n) : nI n - 1 = nI (n - 1) := by
  obtain ⟨m, rfl⟩ : ∃ m, n = m + 1 := ⟨n - 1, by omega⟩
  rw [nI_pred]
  rfl
theorem mn_of {N r : Nat} {τ : Nat → Nat → Int32} {b mn : Nat → Nat} (hT : TR N r τ b mn) {x v : Int32} (hk : vp_in x N) (ev : v = τ 4 x.toNatClampNeg) : v = nI (mn x.toNatClampNeg) ∧ mn x.toNatClampNeg ≤ 4000 := ⟨ev.trans (hT.2.1 _ (vix hk)).1, (hT.2.1 _ (vix hk)).2.1⟩
theorem mn_eq {N r : Nat} {τ : Nat → Nat → Int32} {b mn : Nat → Nat} (hT : TR N r τ b mn) {x v : Int32} {n : Nat} (hk : vp_in x N) (ev : v = τ 4 x.toNatClampNeg) (hv : v = nI n) (hn : n < 2 ^ 31) : mn x.toNatClampNeg = n := by
  obtain ⟨h1, h2⟩ := mn_of hT hk ev
  exact (nI_eq (by omega) hn).mp (h1.symm.trans hv)
theorem fd_3 {σ σ1 σ2 σ3 : Nat → Int32} {x y z n : Int32} (e1 : σ1 = upd σ 32 x) (e2 : σ2 = upd σ1 33 y) (e3 : σ3 = upd σ2 34 z) (h : ¬ x = 1 ∧ ¬ x = 2 ∧ (x = 4 → ¬ 12 ≤ n)) (hy : y = n ∨ ¬ 11 < y) : FD σ3 := by
  subst e1 e2 e3
  unfold FD
  rw [pk_un (j := 32) (by decide), pk_un (j := 32) (by decide), pk_us, pk_un (j := 33) (by decide), pk_us]
  refine ⟨fun h2 => absurd h2 h.1, fun h2 => absurd h2 h.2.1, fun h2 => ?_⟩
  rcases hy with h3 | h3
  · subst h3
    intro h4
    have h5 := h.2.2 h2
    rw [Int32.le_iff_toInt_le] at h5
    rw [Int32.lt_iff_toInt_lt] at h4
    have e1 : (12 : Int32).toInt = 12 := by decide
    have e2 : (11 : Int32).toInt = 11 := by decide
    omega
  · exact h3
theorem fd_nm {τ : Nat → Nat → Int32} {σ σ1 σ2 σ3 : Nat → Int32} {x y z : Int32} {k : Nat} (hN : NM τ) (hk : k < 3000) (ex : x = τ 26 k) (ey : y = τ 27 k) (e1 : σ1 = upd σ 32 x) (e2 : σ2 = upd σ1 33 y) (e3 : σ3 = upd σ2 34 z) : FD σ3 := by
  subst e1 e2 e3 ex ey
  unfold FD
  rw [pk_un (j := 32) (by decide), pk_un (j := 32) (by decide), pk_us, pk_un (j := 33) (by decide), pk_us]
  exact hN k hk
theorem slt_fact {F F1 F2 F3 F4 F5 : Nat → Nat → Int32} {nu nu5 : Nat → Int64} {k : Nat} {c n z w : Int32} {v : Int64} (e1 : F1 = Au F 9 k c) (e2 : F2 = Au F1 10 k n) (e3 : F3 = Au F2 11 k z) (e4 : F4 = Au F3 12 k w) (hE : EQ14 F4 F5) (en : nu5 = vp_updL nu k v) : SLT k c n v F nu F5 nu5 ∧ F5 11 = upd (F 11) k z := by
  subst e1 e2 e3 e4 en
  refine ⟨⟨?_, ?_, rfl⟩, ?_⟩
  · rw [hE 9 (by decide), au_n (by decide), au_n (by decide), au_n (by decide), au_s]
  · rw [hE 10 (by decide), au_n (by decide), au_n (by decide), au_s, au_n (by decide)]
  · rw [hE 11 (by decide), au_n (by decide), au_s, au_n (by decide), au_n (by decide)]
theorem au_10 {F F1 : Nat → Nat → Int32} {k i : Nat} {c : Int32} (e1 : F1 = Au F 9 k c) : F1 10 i = F 10 i := by
  rw [e1, au_n (by decide)]
theorem vsz {F : Nat → Nat → Int32} {f : Nat} {i v : Int32} (hZ : SZ F) (hf : f < 10000) (ev : v = F 10 f) (h0 : ¬ i < 0) (h1 : ¬ v ≤ i) : vp_in i 1000 := by
  obtain ⟨j, hj, e⟩ := hZ f hf
  exact vin (vcmp h0 (ev.trans e) h1 (by omega)) hj
theorem ft_row {τ : Nat → Nat → Int32} (hTY : TY τ) {t w v : Int32} (ht : vp_in t 1000) (e1 : w = τ 16 t.toNatClampNeg) (h : w = 3) (e2 : v = τ 19 t.toNatClampNeg) : ∃ j, j ≤ 1000 ∧ v = nI j := by
  obtain ⟨_, _, cn, _, _, h3, _, _, _, _, h8, _⟩ := hTY _ (vix ht) (e1.symm.trans h)
  exact ⟨cn, by omega, e2.trans h3⟩
theorem ob_in {τ : Nat → Nat → Int32} (hOB : OB τ) {v w : Int32} (hv : vp_in v 2000) (ew : w = τ 23 v.toNatClampNeg) : vp_in w 1000 := by
  obtain ⟨t, h1, h2⟩ := hOB _ (vix hv)
  exact vin_of (ew.trans h2) h1 (by omega)
theorem ro_ok {τ : Nat → Nat → Int32} {σ : Nat → Int32} (hOB : OB τ) {o : Nat} {v w z : Int32} (ho : o < 2000) (hoe : σ 33 = nI o) (ev : v = σ 33) (ew : w = τ 23 v.toNatClampNeg) (ez : z = τ 16 w.toNatClampNeg) (hz : z = 3) : ∃ o t, o < 2000 ∧ t < 1000 ∧ σ 33 = nI o ∧ τ 23 o = nI t ∧ τ 16 t = 3 := by
  have h1 : v.toNatClampNeg = o := by rw [ev, hoe, nI_clamp (by omega)]
  obtain ⟨t, h2, h3⟩ := hOB o ho
  have h4 : w.toNatClampNeg = t := by rw [ew, h1, h3, nI_clamp (by omega)]
  exact ⟨o, t, ho, h2, hoe, h3, by rw [← h4, ← ez]; exact hz⟩
theorem slt9 {k : Nat} {c n : Int32} {v : Int64} {F F' : Nat → Nat → Int32} {nu nu' : Nat → Int64} (h : SLT k c n v F nu F' nu') : F' 9 k = c := by rw [h.1, pk_us]
theorem slt9n {k j : Nat} {c n : Int32} {v : Int64} {F F' : Nat → Nat → Int32} {nu nu' : Nat → Int64} (h : SLT k c n v F nu F' nu') (hj : j ≠ k) : F' 9 j = F 9 j := by rw [h.1, pk_un hj]
theorem sltnn {k j : Nat} {c n : Int32} {v : Int64} {F F' : Nat → Nat → Int32} {nu nu' : Nat → Int64} (h : SLT k c n v F nu F' nu') (hj : j ≠ k) : nu' j = nu j := by rw [h.2.2]; exact if_neg hj
theorem GK.copy {k f : Nat} {n : Int32} {F F' : Nat → Nat → Int32} {nu nu' : Nat → Int64} (h : SLT k (F 9 f) n (nu f) F nu F' nu') (hg : GK f F nu) : GK k F' nu' := by
  intro h2
  rw [slt9 h] at h2
  rw [h.2.2]
  show -2147483648 < (if k = k then nu f else nu k).toInt ∧ (if k = k then nu f else nu k).toInt < 2147483648
  rw [if_pos rfl]
  exact hg h2
theorem vin8 {v w : Int32} (hv : vp_in v 2000) (e : w = 8000 + v) : vp_in w 10000 ∧ w.toNatClampNeg = 8000 + v.toNatClampNeg := by
  have h1 := vix hv
  rw [vnI hv] at e
  have e2 : w = nI (8000 + v.toNatClampNeg) := e.trans (nI_add 8000 _)
  exact ⟨vin_of e2 (by omega) (by omega), by rw [e2, nI_clamp (by omega)]⟩
theorem SL.kn {k : Nat} {F F' : Nat → Nat → Int32} {nu nu' : Nat → Int64} (h : EQ14 F F') (hn : nu' = nu ∨ nu' = vp_updL nu k 0) : SL k F nu F' nu' := by
  rcases hn with h1 | h1
  · subst h1; exact SL.e14 h
  · subst h1; exact (SL.e14 h).trans SL.num
theorem GK.kn {k : Nat} {F F' : Nat → Nat → Int32} {nu nu' : Nat → Int64} (hg : GK k F nu) (h : EQ14 F F') (hn : nu' = nu ∨ nu' = vp_updL nu k 0) : GK k F' nu' := by
  rcases hn with h1 | h1
  · subst h1; exact hg.e14 h
  · subst h1; exact GK.num (fun _ => by decide)
theorem ib_ok {x : Int64} {v w : Int32} (e1 : v = lg_cmp x 2147483647) (h1 : ¬ 0 < v) (e2 : w = lg_cmp x (-2147483647)) (h2 : 0 ≤ w) : -2147483648 < x.toInt ∧ x.toInt < 2147483648 := by
  have h3 := cmp_le e1 h1
  have h4 := cmp_ge e2 (Int32.not_lt.mpr h2)
  have h5 : (2147483647 : Int64).toInt = 2147483647 := by decide
  have h6 : (-2147483647 : Int64).toInt = -2147483647 := by decide
  omega
theorem vp0 {n : Nat} (h : 0 < n) (h2 : n < 2 ^ 31) : vp_in 0 n := vp_in_nI (n := 0) h h2
theorem vp1 {n : Nat} (h : 1 < n) (h2 : n < 2 ^ 31) : vp_in 1 n := vp_in_nI (n := 1) h h2
theorem wi_ok {τ : Nat → Nat → Int32} {x : Int64} {t : Nat} {v w y z : Int32} {y2 z2 : Int64} {a1 a2 b1 b2 : Int32} (ea1 : a1 = τ 17 t) (ea2 : a2 = τ 18 t) (eb1 : b1 = τ 17 t) (eb2 : b2 = τ 18 t) (ey : y = if a2 < a1 then a2 else a1) (ez : z = if b1 < b2 then b2 else b1) (ey2 : y2 = y.toInt64) (ez2 : z2 = z.toInt64) (ev : v = lg_cmp x y2) (hv : ¬ v < 0) (ew : w = lg_cmp x z2) (hw : ¬ 0 < w) : ∀ lo hi : Nat, τ 17 t = nI lo → τ 18 t = nI hi → lo < 2 ^ 31 → hi < 2 ^ 31 → (lo : Int) ≤ x.toInt ∧ x.toInt ≤ (hi : Int) ∨ (hi : Int) ≤ x.toInt ∧ x.toInt ≤ (lo : Int) := by
  intro lo hi h1 h2 h3 h4
  have h5 := cmp_ge ev hv
  have h6 := cmp_le ew hw
  subst ea1 ea2 eb1 eb2
  rw [ey2, Int32.toInt_toInt64] at h5
  rw [ez2, Int32.toInt_toInt64] at h6
  rw [h1, h2] at ey ez
  by_cases h7 : hi < lo
  · rw [if_pos (nI_lt h7 h3)] at ey
    rw [if_neg (nI_nlt (Nat.le_of_lt h7) h3)] at ez
    rw [ey, nI_toInt h4] at h5
    rw [ez, nI_toInt h3] at h6
    exact Or.inr ⟨h5, h6⟩
  · rw [if_neg (nI_nlt (Nat.not_lt.mp h7) h4)] at ey
    rw [ey, nI_toInt h3] at h5
    refine Or.inl ⟨h5, ?_⟩
    by_cases h8 : lo < hi
    · rw [if_pos (nI_lt h8 h4)] at ez
      rw [ez, nI_toInt h4] at h6
      exact h6
    · rw [if_neg (nI_nlt (Nat.not_lt.mp h8) h3)] at ez
      rw [ez, nI_toInt h3] at h6
      omega
theorem sz_pred {F : Nat → Nat → Int32} {f : Nat} {v : Int32} (hZ : SZ F) (hf : f < 10000) (ev : v = F 10 f) : (v - 1).toInt < 1000 := by
  obtain ⟨j, hj, e⟩ := hZ f hf
  rw [ev, e]
  have := pr_lt (N := j) (by omega)
  omega
theorem i0_int {x : Int32} (h : ¬ x < 0) : 0 ≤ x.toInt := by
  rw [Int32.lt_iff_toInt_lt] at h
  have h3 : (0 : Int32).toInt = 0 := by decide
  omega
theorem mn_eq1 {N r : Nat} {τ : Nat → Nat → Int32} {b mn : Nat → Nat} (hT : TR N r τ b mn) {x v : Int32} (hk : vp_in x N) (ev : v = τ 4 x.toNatClampNeg) (hv : v = 1) : mn x.toNatClampNeg = 1 := mn_eq hT hk ev (n := 1) hv (by omega)
theorem mn_eq2 {N r : Nat} {τ : Nat → Nat → Int32} {b mn : Nat → Nat} (hT : TR N r τ b mn) {x v : Int32} (hk : vp_in x N) (ev : v = τ 4 x.toNatClampNeg) (hv : v = 2) : mn x.toNatClampNeg = 2 := mn_eq hT hk ev (n := 2) hv (by omega)
theorem gk_eq {F F1 : Nat → Nat → Int32} {nu nu1 : Nat → Int64} {k a : Nat} {c n w d : Int32} {v : Int64} (hq : SLT k c n v F nu F1 nu1) (ec : c = F 9 a) (ha : a < k) (ew : w = F1 9 a) (hw : w = d) (hd : ¬ d = 2) : ¬ F1 9 k = 2 := by
  rw [slt9 hq, ec, ← slt9n hq (Nat.ne_of_lt ha), ← ew, hw]
  exact hd
theorem gk_ne {F F1 : Nat → Nat → Int32} {nu nu1 : Nat → Int64} {k a : Nat} {c n w : Int32} {v : Int64} (hq : SLT k c n v F nu F1 nu1) (ec : c = F 9 a) (ha : a < k) (ew : w = F1 9 a) (hw : ¬ w = 2) : ¬ F1 9 k = 2 := by
  rw [slt9 hq, ec, ← slt9n hq (Nat.ne_of_lt ha), ← ew]
  exact hw
theorem gk_neg {F F1 : Nat → Nat → Int32} {nu nu1 : Nat → Int64} {k a : Nat} {c n : Int32} {v w x : Int64} (hq : SLT k c n v F nu F1 nu1) (ec : c = F 9 a) (ha : a < k) (hg : GK a F nu) (ew : w = nu1 a) (hx : x = w ∨ x = -w) : F1 9 k = 2 → -2147483648 < x.toInt ∧ x.toInt < 2147483648 := by
  intro h
  rw [slt9 hq, ec] at h
  have h1 := hg h
  rw [sltnn hq (Nat.ne_of_lt ha)] at ew
  rcases hx with h2 | h2
  · rw [h2, ew]; exact h1
  · rw [h2, ew, Int64.toInt_neg]
    have h3 : (-(nu a).toInt).bmod (2 ^ 64) = -(nu a).toInt := Int.bmod_eq_of_le (by omega) (by omega)
    rw [h3]
    omega
theorem jn_ok {p q v1 v2 : Int32} (hp : ∃ j, j ≤ 1000 ∧ p = nI j) (hq : ∃ j, j ≤ 1000 ∧ q = nI j) (e1 : v1 = p + q) (h : v1 ≤ 64) (e2 : v2 = p + q) : ∃ j, j ≤ 1000 ∧ v2 = nI j := by
  obtain ⟨j1, h1, rfl⟩ := hp
  obtain ⟨j2, h2, rfl⟩ := hq
  rw [nI_add] at e1 e2
  subst e1
  have h3 : j1 + j2 ≤ 64 := (nI_leI (by omega) (by omega)).mp h
  exact ⟨j1 + j2, by omega, e2⟩
theorem vle {i q : Int32} (hq : ∃ j, j ≤ 1000 ∧ q = nI j) (h0 : ¬ i < 0) (h1 : ¬ q ≤ i) : vp_in i 1000 := by
  obtain ⟨j, h2, e⟩ := hq
  exact vin (vcmp h0 e h1 (by omega)) h2
theorem vadd {i q v : Int32} (hq : ∃ j, j ≤ 1000 ∧ q = nI j) (hi : vp_in i 1000) (e : v = q + i) : vp_in v 2000 := by
  obtain ⟨j, h2, rfl⟩ := hq
  have h1 := vix hi
  rw [vnI hi, nI_add] at e
  exact vin_of e (by omega) (by omega)
theorem l2i_in {w : Int64} {v : Int32} {n : Nat} (ev : v = w.toInt32) (h0 : 0 ≤ w.toInt) (h1 : w.toInt < (n : Int)) (hn : n < 2 ^ 31) : vp_in v n := by
  have h2 : v.toInt = w.toInt := by
    rw [ev, Int64.toInt_toInt32]
    exact Int.bmod_eq_of_le (by omega) (by omega)
  exact vp_in_iff.mpr ⟨by omega, by omega⟩
theorem sh_in {w s64 : Int64} {c1 c2 s v : Int32} (e1 : c1 = lg_cmp w 0) (h1 : ¬ c1 < 0) (es : s64 = s.toInt64) (hs : ∃ j, j ≤ 1000 ∧ s = nI j) (e2 : c2 = lg_cmp w s64) (h2 : ¬ 0 ≤ c2) (ev : v = w.toInt32) : vp_in v 1000 := by
  have h3 := cmp_ge e1 h1
  have h4 := cmp_lt e2 (Int32.not_le.mp h2)
  obtain ⟨j, h5, rfl⟩ := hs
  rw [es, Int32.toInt_toInt64, nI_toInt (by omega)] at h4
  have h6 : (0 : Int64).toInt = 0 := by decide
  exact l2i_in ev (by omega) (by omega) (by omega)
theorem ap_ok {F F1 : Nat → Nat → Int32} {k : Nat} {t v : Int32} {P : Prop} (ev : v = F1 11 k) (hc : F1 11 = upd (F 11) k (vp_nar .boolean t)) (hv : ¬ v = 0) (ht : t = 0 ∨ P) : P := by
  rcases ht with h | h
  · exfalso
    apply hv
    rw [ev, hc, pk_us, h]
    rfl
  · exact h
theorem lsub_int {x y d : Int64} (e : d = x - y) (h1 : -4294967296 ≤ x.toInt) (h2 : x.toInt ≤ 4294967296) (h3 : -4294967296 ≤ y.toInt) (h4 : y.toInt ≤ 4294967296) : d.toInt = x.toInt - y.toInt := by
  rw [e, Int64.toInt_sub]
  exact Int.bmod_eq_of_le (by omega) (by omega)
theorem ladd_int {x y d : Int64} (e : d = x + y) (h1 : -8589934592 ≤ x.toInt) (h2 : x.toInt ≤ 8589934592) (h3 : -8589934592 ≤ y.toInt) (h4 : y.toInt ≤ 8589934592) : d.toInt = x.toInt + y.toInt := by
  rw [e, Int64.toInt_add]
  exact Int.bmod_eq_of_le (by omega) (by omega)
theorem hi_int {h : Int32} {w : Int64} {z : Int32} {hi : Nat} (eh : h = z) (ez : z = nI hi) (ew : w = h.toInt64) (hh : hi < 2 ^ 31) : w.toInt = (hi : Int) := by
  rw [ew, Int32.toInt_toInt64, eh, ez, nI_toInt hh]
theorem f11 {x : Int32} (h1 : 10 ≤ x) (h2 : ¬ x = 10) (h3 : ¬ 11 < x) : x = 11 := by
  apply Int32.toInt_inj.mp
  have h4 : x.toInt ≠ 10 := fun h => h2 (Int32.toInt_inj.mp h)
  rw [Int32.le_iff_toInt_le] at h1
  rw [Int32.lt_iff_toInt_lt] at h3
  have e1 : (10 : Int32).toInt = 10 := by decide
  have e2 : (11 : Int32).toInt = 11 := by decide
  omega
theorem nb_ok {x : Int64} {v w : Int32} (e1 : v = lg_cmp x 0) (h1 : ¬ v < 0) (e2 : w = lg_cmp x 2147483647) (h2 : w ≤ 0) : -2147483648 < x.toInt ∧ x.toInt < 2147483648 := by
  have h3 := cmp_ge e1 h1
  have h4 := cmp_le e2 (Int32.not_lt.mpr h2)
  have h5 : (2147483647 : Int64).toInt = 2147483647 := by decide
  have h6 : (0 : Int64).toInt = 0 := by decide
  omega
theorem fb_ok {F : Nat → Nat → Int32} {nu : Nat → Int64} {b : Nat} {v i : Int32} {n : Int64} (h : F 11 b = 0 ∨ (1 ≤ (nu b).toInt ∧ (nu b).toInt ≤ 64)) (ev : v = F 11 b) (hv : ¬ v = 0) (en : n = nu b) (ei : i = n.toInt32) : ∃ j, j ≤ 1000 ∧ i = nI j := by
  have h1 := h.resolve_left (fun h2 => hv (ev.trans h2))
  rw [← en] at h1
  have h2 := l2i_in (n := 65) ei (by omega) (by omega) (by omega)
  have h3 := vix h2
  exact ⟨_, by omega, vnI h2⟩
theorem c_ge1 {x : Int64} {v : Int32} (e : v = lg_cmp x 1) (h : ¬ v < 0) : 1 ≤ x.toInt := by
  have h1 := cmp_ge e h
  have h2 : (1 : Int64).toInt = 1 := by decide
  omega
theorem c_le64 {x : Int64} {v : Int32} (e : v = lg_cmp x 64) (h : v ≤ 0) : x.toInt ≤ 64 := by
  have h1 := cmp_le e (Int32.not_lt.mpr h)
  have h2 : (64 : Int64).toInt = 64 := by decide
  omega
theorem vb_ok {v v2 z : Int32} {w : Int64} (ew : w = v.toInt64) (ev : v = z) (ev2 : v2 = z) (h : 0 ≤ v2) : -2147483648 < w.toInt ∧ w.toInt < 2147483648 := by
  rw [ew, Int32.toInt_toInt64, ev, ← ev2]
  rw [Int32.le_iff_toInt_le] at h
  have h1 : v2.toInt ≤ 2147483647 := by have h9 := Int32.toInt_le v2; rw [show Int32.maxValue.toInt = 2147483647 by decide] at h9; exact h9
  have e1 : (0 : Int32).toInt = 0 := by decide
  omega
theorem at_b {v : Int32} {w : Int64} (ew : w = v.toInt64) (hv : ∃ j, j < 2 ^ 31 ∧ v = nI j) : -2147483648 < w.toInt ∧ w.toInt < 2147483648 := by
  obtain ⟨j, h1, rfl⟩ := hv
  rw [ew, Int32.toInt_toInt64, nI_toInt h1]
  omega
theorem at_if {a b v : Int32} {P : Prop} {_ : Decidable P} (e : v = if P then a else b) (ha : ∃ j, j < 2 ^ 31 ∧ a = nI j) (hb : ∃ j, j < 2 ^ 31 ∧ b = nI j) : ∃ j, j < 2 ^ 31 ∧ v = nI j := by
  by_cases h : P
  · rw [if_pos h] at e; rw [e]; exact ha
  · rw [if_neg h] at e; rw [e]; exact hb
theorem pr_in {N r : Nat} {τ : Nat → Nat → Int32} {b mn : Nat → Nat} (hT : TR N r τ b mn) (hN : N ≤ 4000) {x v : Int32} (hk : vp_in x N) (hm : 0 < mn x.toNatClampNeg) (e : v = x - 1) : vp_in v N := by
  have h1 := (hT.2.1 _ (vix hk)).2.2.1 0 hm
  have h3 := vix hk
  have h2 : v = nI (x.toNatClampNeg - 1) := by
    rw [e]
    have h9 := nI_sub1 (n := x.toNatClampNeg) h1
    rw [← vnI hk] at h9
    exact h9
  exact vin_of h2 (by omega) (by omega)
theorem bl_b {τ : Nat → Nat → Int32} {N r : Nat} {b mn : Nat → Nat} (hT : TR N r τ b mn) (hN : N ≤ 4000) {x i v : Int32} (hx : vp_in x N) (hi : vp_in i N) (ev : v = τ 5 i.toNatClampNeg) : v = nI (b i.toNatClampNeg) ∧ (x < v ↔ x.toNatClampNeg < b i.toNatClampNeg) := by
  obtain ⟨h1, h2⟩ := hT.1 _ (vix hi)
  have h3 := vix hx
  have h4 := vix hi
  have e := ev.trans h1
  refine ⟨e, ?_⟩
  have h5 : x < v ↔ nI x.toNatClampNeg < nI (b i.toNatClampNeg) := by rw [← vnI hx, ← e]
  exact h5.trans (nI_ltI (by omega) (by omega))
/-- both ends of a slice -/
theorem sl_ok {lo hi : Nat} {x y n : Int64} {g dn : Int32} (hlo : lo < 2 ^ 31) (hhi : hi < 2 ^ 31) (h1 : lo ≤ hi + 63) (h2 : hi ≤ lo + 63) (hu : dn = 0 → lo ≤ hi) (hd : ¬ dn = 0 → hi ≤ lo) (hg : g = dn)
    (hx : (lo : Int) ≤ x.toInt ∧ x.toInt ≤ (hi : Int) ∨ (hi : Int) ≤ x.toInt ∧ x.toInt ≤ (lo : Int)) (hy : (lo : Int) ≤ y.toInt ∧ y.toInt ≤ (hi : Int) ∨ (hi : Int) ≤ y.toInt ∧ y.toInt ≤ (lo : Int))
    (hn : (¬ g = 0 ∧ n = x - y + 1) ∨ (g = 0 ∧ n = y - x + 1)) (hp : 1 ≤ n.toInt) : n.toInt ≤ 64 ∧ ((¬ g = 0 ∧ (hi : Int) ≤ y.toInt ∧ y.toInt - hi + n.toInt ≤ 64) ∨ (g = 0 ∧ y.toInt ≤ (hi : Int) ∧ (hi : Int) - y.toInt + n.toInt ≤ 64)) := by
  have e1 : (1 : Int64).toInt = 1 := by decide
  rcases hn with ⟨h3, h4⟩ | ⟨h3, h4⟩
  · have h5 := lsub_int (x := x) (y := y) rfl (by omega) (by omega) (by omega) (by omega)
    have h6 := ladd_int (x := x - y) (y := 1) h4 (by omega) (by omega) (by omega) (by omega)
    have h7 := hd (by rw [← hg]; exact h3)
    refine ⟨by omega, Or.inl ⟨h3, by omega, by omega⟩⟩
  · have h5 := lsub_int (x := y) (y := x) rfl (by omega) (by omega) (by omega) (by omega)
    have h6 := ladd_int (x := y - x) (y := 1) h4 (by omega) (by omega) (by omega) (by omega)
    have h7 := hu (by rw [← hg]; exact h3)
    refine ⟨by omega, Or.inr ⟨h3, by omega, by omega⟩⟩
theorem sz_of {n : Int64} {v : Int32} (h1 : 1 ≤ n.toInt) (h2 : n.toInt ≤ 64) (e : v = n.toInt32) : ∃ j, j ≤ 1000 ∧ v = nI j := by
  have h3 := l2i_in (n := 65) e (by omega) (by omega) (by omega)
  have h4 := vix h3
  exact ⟨_, by omega, vnI h3⟩
theorem sl_j {j w : Int32} {j64 n : Int64} (h0 : ¬ j < 0) (ej : j64 = j.toInt64) (e : w = lg_cmp j64 n) (h : ¬ 0 ≤ w) (hn : n.toInt ≤ 64) : vp_in j 64 ∧ j.toInt < 2147483647 ∧ j.toInt < n.toInt := by
  have h1 := cmp_lt e (Int32.not_le.mp h)
  rw [ej, Int32.toInt_toInt64] at h1
  have h2 := i0_int h0
  exact ⟨vin_le h0 (by omega), by omega, h1⟩
theorem sl_e {l j v : Int32} {d n : Int64} (el : l = d.toInt32) (hd : 0 ≤ d.toInt) (hs : d.toInt + n.toInt ≤ 64) (hj : vp_in j 64) (hjn : j.toInt < n.toInt) (ev : v = l + j) : vp_in v 64 := by
  have h1 := vin_int hj
  have h0 := l2i_in (n := 64) el hd (by omega) (by omega)
  have h2 := vix h0
  have h3 := vin_int h0
  have h5 : l.toInt = d.toInt := by
    rw [el, Int64.toInt_toInt32]
    exact Int.bmod_eq_of_le (by omega) (by omega)
  rw [vnI h0, vnI hj, nI_add] at ev
  exact vin_of ev (by omega) (by omega)
theorem bl_e {A A2 : Nat} {i x : Int32} (hA0 : 0 < A) (e : i = nI A) (hA : A ≤ 4000) (h : x < i) (h2 : A2 ≤ x.toNatClampNeg) : A2 < A := by
  rw [Int32.lt_iff_toInt_lt, e, nI_toInt (by omega)] at h
  by_cases h0 : x < 0
  · have h1 : x.toNatClampNeg = 0 := by
      rw [Int32.lt_iff_toInt_lt] at h0
      have e0 : (0 : Int32).toInt = 0 := by decide
      rw [← Int32.toNat_toInt]
      omega
    omega
  · obtain ⟨j, hj, rfl⟩ := nI_of h0
    rw [nI_clamp hj] at h2
    rw [nI_toInt hj] at h
    omega
theorem lr_64 {v : Int32} {n : Nat} (e : v = nI n) (hn : n < 2 ^ 31) (h : ¬ 64 < v) : n ≤ 64 := by
  subst e
  exact Nat.not_lt.mp (fun h9 => h ((nI_ltI (a := 64) (b := n) (by omega) hn).mpr h9))
theorem bl_0 {τ : Nat → Nat → Int32} {b : Nat → Nat} {k to A : Nat} {i : Int32} (h : (i = 0 ∧ ∀ q, k < q → q < A → ¬ (τ 2 q = 25 ∧ b q ≤ k)) ∨ (i = 1 ∧ hid τ b k to)) (h0 : i = 0) : ∀ q, k < q → q < A → ¬ (τ 2 q = 25 ∧ b q ≤ k) := by
  rcases h with ⟨_, h1⟩ | ⟨h1, _⟩
  · exact h1
  · exact absurd (h0.symm.trans h1) (by decide)
theorem bl_1 {τ : Nat → Nat → Int32} {b : Nat → Nat} {k to A : Nat} {i : Int32} (h : (i = 0 ∧ ∀ q, k < q → q < A → ¬ (τ 2 q = 25 ∧ b q ≤ k)) ∨ (i = 1 ∧ hid τ b k to)) (h0 : ¬ i = 0) : hid τ b k to := by
  rcases h with ⟨h1, _⟩ | ⟨_, h1⟩
  · exact absurd h1 h0
  · exact h1
theorem bl_z {P Q : Prop} {i : Int32} (h : (i = 0 ∧ P) ∨ (i = 1 ∧ Q)) : narrow .boolean (.int i) = .int i := by
  rcases h with ⟨h1, _⟩ | ⟨h1, _⟩ <;> rw [h1] <;> rfl
theorem bl_end {τ : Nat → Nat → Int32} {b : Nat → Nat} {k A : Nat} {i x i4 : Int32} (h : (i = 0 ∧ ∀ q, k < q → q < A → ¬ (τ 2 q = 25 ∧ b q ≤ k)) ∨ (i = 1 ∧ hid τ b k x.toNatClampNeg)) (hk : k < A) (e : i4 = nI A) (hA : A ≤ 4000) (hx : x < i4) : (i = 0 ∧ ¬ hid τ b k x.toNatClampNeg) ∨ (i = 1 ∧ hid τ b k x.toNatClampNeg) := by
  rcases h with ⟨h1, h2⟩ | h1
  · refine Or.inl ⟨h1, ?_⟩
    rintro ⟨a, w1, w2, w3, w4⟩
    exact h2 a w1 (bl_e (by omega) e hA hx w2) ⟨w3, w4⟩
  · exact Or.inr h1
theorem bl_bk {τ : Nat → Nat → Int32} {b : Nat → Nat} {k to A : Nat} {i t i4 : Int32} (h45 : (t = 0 ∧ i = 0 ∧ ¬ (τ 2 i4.toNatClampNeg = 25 ∧ b i4.toNatClampNeg ≤ k)) ∨ (t = 1 ∧ hid τ b k to)) (h : (i = 0 ∧ ∀ q, k < q → q < A → ¬ (τ 2 q = 25 ∧ b q ≤ k)) ∨ (i = 1 ∧ hid τ b k to)) (e : i4.toNatClampNeg = A) : (t = 0 ∧ ∀ q, k < q → q < A + 1 → ¬ (τ 2 q = 25 ∧ b q ≤ k)) ∨ (t = 1 ∧ hid τ b k to) := by
  rcases h45 with ⟨q1, q2, q3⟩ | h1
  · refine Or.inl ⟨q1, fun q h8 h9 => ?_⟩
    rcases Nat.lt_or_ge q A with h7 | h7
    · exact bl_0 h q2 q h8 h7
    · have h6 : q = A := by omega
      rw [e] at q3
      rw [h6]
      exact q3
  · exact Or.inr h1
theorem bl_8 {N : Nat} {i x : Int32} (hi : vp_in i N) (h : i.toInt ≤ x.toInt) (hx : x.toInt < (N : Int)) : i.toNatClampNeg ≤ x.toNatClampNeg := by
  have h1 := vin_int hi
  have h2 : vp_in x N := vp_in_iff.mpr ⟨by omega, hx⟩
  have h3 := vin_int h2
  omega
theorem i_le {x y : Int32} (h : ¬ y < x) : x.toInt ≤ y.toInt := by
  have h9 := Int32.not_lt.mp h
  rw [Int32.le_iff_toInt_le] at h9
  exact h9
theorem lf_mn {N r : Nat} {τ : Nat → Nat → Int32} {b mn : Nat → Nat} (hT : TR N r τ b mn) {x v t f : Int32} (hk : vp_in x N) (ev : v = τ 4 x.toNatClampNeg) (hv : v = t) {P : Prop} (ht : (t = 2 ∧ f = 11 ∧ P) ∨ (t = 1 ∧ ¬ f = 11)) : (0 < mn x.toNatClampNeg ∧ mn x.toNatClampNeg ≤ 4000) ∧ (f = 11 → mn x.toNatClampNeg = 2) := by
  have h0 := (mn_of hT hk ev).2
  rcases ht with ⟨h1, h2, _⟩ | ⟨h1, h2⟩
  · have h3 := mn_eq2 hT hk ev (hv.trans h1)
    exact ⟨by omega, fun _ => h3⟩
  · have h3 := mn_eq1 hT hk ev (hv.trans h1)
    exact ⟨by omega, fun h => absurd h h2⟩
theorem ap_d1 {lo hi : Nat} {a h64 m h642 m2 d : Int64} {q : Int32} (hlo : lo < 2 ^ 31) (hhi : hi < 2 ^ 31) (hd1 : lo ≤ hi + 63) (hd2 : hi ≤ lo + 63) (hw : (lo : Int) ≤ a.toInt ∧ a.toInt ≤ (hi : Int) ∨ (hi : Int) ≤ a.toInt ∧ a.toInt ≤ (lo : Int)) (eh : h64.toInt = (hi : Int)) (em : m = a) (eq : q = lg_cmp h64 m) (hq : ¬ q ≤ 0) (eh2 : h642.toInt = (hi : Int)) (em2 : m2 = a) (ed : d = h642 - m2) : 0 ≤ d.toInt ∧ d.toInt ≤ 63 := by
  subst em em2
  have h1 := cmp_gt eq (Int32.not_le.mp hq)
  have h2 := lsub_int ed (by omega) (by omega) (by omega) (by omega)
  omega
theorem ap_d2 {lo hi : Nat} {a h64 m h642 m2 d : Int64} {q : Int32} (hlo : lo < 2 ^ 31) (hhi : hi < 2 ^ 31) (hd1 : lo ≤ hi + 63) (hd2 : hi ≤ lo + 63) (hw : (lo : Int) ≤ a.toInt ∧ a.toInt ≤ (hi : Int) ∨ (hi : Int) ≤ a.toInt ∧ a.toInt ≤ (lo : Int)) (eh : h64.toInt = (hi : Int)) (em : m = a) (eq : q = lg_cmp h64 m) (hq : q ≤ 0) (eh2 : h642.toInt = (hi : Int)) (em2 : m2 = a) (ed : d = m2 - h642) : 0 ≤ d.toInt ∧ d.toInt ≤ 63 := by
  subst em em2
  have h1 := cmp_le eq (Int32.not_lt.mpr hq)
  have h2 := lsub_int ed (by omega) (by omega) (by omega) (by omega)
  omega
theorem sl_d1 {hi : Nat} {y n y1 h d : Int64} {g : Int32} (hhi : hi < 2 ^ 31) (hs : (¬ g = 0 ∧ (hi : Int) ≤ y.toInt ∧ y.toInt - hi + n.toInt ≤ 64) ∨ (g = 0 ∧ y.toInt ≤ (hi : Int) ∧ (hi : Int) - y.toInt + n.toInt ≤ 64)) (hg : ¬ g = 0) (ey : y1 = y) (eh : h.toInt = (hi : Int)) (ed : d = y1 - h) (hn : 1 ≤ n.toInt) : 0 ≤ d.toInt ∧ d.toInt + n.toInt ≤ 64 := by
  subst ey
  rcases hs with ⟨_, h1, h2⟩ | ⟨h1, _⟩
  · have h3 := lsub_int ed (by omega) (by omega) (by omega) (by omega)
    omega
  · exact absurd h1 hg
theorem sl_d2 {hi : Nat} {y n y1 h d : Int64} {g : Int32} (hhi : hi < 2 ^ 31) (hs : (¬ g = 0 ∧ (hi : Int) ≤ y.toInt ∧ y.toInt - hi + n.toInt ≤ 64) ∨ (g = 0 ∧ y.toInt ≤ (hi : Int) ∧ (hi : Int) - y.toInt + n.toInt ≤ 64)) (hg : g = 0) (ey : y1 = y) (eh : h.toInt = (hi : Int)) (ed : d = h - y1) (hn : 1 ≤ n.toInt) : 0 ≤ d.toInt ∧ d.toInt + n.toInt ≤ 64 := by
  subst ey
  rcases hs with ⟨h1, _⟩ | ⟨_, h1, h2⟩
  · exact absurd hg h1
  · have h3 := lsub_int ed (by omega) (by omega) (by omega) (by omega)
    omega
theorem nn_inc2 {i j : Int32} (e : j = i + 1) (h : ¬ i < 0) (hr : i.toInt < 2147483647) : ¬ j < 0 := by
  have h1 := mu_lt hr
  subst e
  rw [Int32.lt_iff_toInt_lt] at h ⊢
  rw [h1]
  have h3 : (0 : Int32).toInt = 0 := by decide
  omega
-- passes over trees
theorem gt_a {τ : Nat → Nat → Int32} {b : Nat → Nat} {f k to : Nat} {F : Nat → Nat → Int32} {nu : Nat → Int64} (h : ∀ j, f ≤ j → j < k → ¬ hid τ b j to → GK j F nu) (hh : hid τ b k to) : ∀ j, f ≤ j → j < k + 1 → ¬ hid τ b j to → GK j F nu := by
  intro j h1 h2 h3
  rcases Nat.lt_or_ge j k with h4 | h4
  · exact h j h1 h4 h3
  · have h5 : j = k := by omega
    rw [h5] at h3
    exact absurd hh h3
theorem gt_b {τ : Nat → Nat → Int32} {b : Nat → Nat} {f k to : Nat} {F F' : Nat → Nat → Int32} {nu nu' : Nat → Int64} (h : ∀ j, f ≤ j → j < k → ¬ hid τ b j to → GK j F nu) (hL : SL k F nu F' nu') (hK : GK k F' nu') : ∀ j, f ≤ j → j < k + 1 → ¬ hid τ b j to → GK j F' nu' := by
  intro j h1 h2 h3
  by_cases h5 : j = k
  · rw [h5]; exact hK
  · exact hL.gk h5 (h j h1 (by omega) h3)
theorem ix_inc {i j : Int32} {N : Nat} (hi : vp_in i N) (hN : N ≤ 4000) (e : j = i + 1) : j.toNatClampNeg = i.toNatClampNeg + 1 ∧ ¬ j < 0 := by
  have h1 := vix hi
  rw [vnI hi] at e
  have e2 : j = nI (i.toNatClampNeg + 1) := e.trans (nI_succ _).symm
  exact ⟨by rw [e2, nI_clamp (by omega)], by rw [e2]; exact nI_pos (by omega)⟩
theorem in_le {i x : Int32} {N : Nat} (h0 : ¬ i < 0) (h1 : ¬ x < i) (h2 : x.toInt < (N : Int)) : vp_in i N ∧ i.toInt ≤ x.toInt := by
  have h3 := i_le h1
  exact ⟨vin_le h0 (by omega), h3⟩
theorem bl_n {P : Prop} {v : Int32} (h : (v = 0 ∧ ¬ P) ∨ (v = 1 ∧ P)) (hv : v = 0) : ¬ P := by
  rcases h with ⟨_, h1⟩ | ⟨h1, _⟩
  · exact h1
  · exact absurd (hv.symm.trans h1) (by decide)
theorem bl_y {P : Prop} {v : Int32} (h : (v = 0 ∧ ¬ P) ∨ (v = 1 ∧ P)) (hv : ¬ v = 0) : P := by
  rcases h with ⟨h1, _⟩ | ⟨_, h1⟩
  · exact absurd h1 hv
  · exact h1
theorem gt_end {τ : Nat → Nat → Int32} {b : Nat → Nat} {f to : Nat} {i x : Int32} {F : Nat → Nat → Int32} {nu : Nat → Int64} (h : ∀ j, f ≤ j → j < i.toNatClampNeg → ¬ hid τ b j to → GK j F nu) (h0 : ¬ i < 0) (hx : x < i) : ∀ j : Nat, f ≤ j → (j : Int) ≤ x.toInt → ¬ hid τ b j to → GK j F nu := by
  intro j h1 h2 h3
  obtain ⟨q, hq, rfl⟩ := nI_of h0
  rw [Int32.lt_iff_toInt_lt, nI_toInt hq] at hx
  exact h j h1 (by rw [nI_clamp hq]; omega) h3
theorem vin4 {v w : Int32} (hv : vp_in v 4000) (e : w = 4000 + v) : vp_in w 8000 ∧ w.toNatClampNeg = 4000 + v.toNatClampNeg := by
  have h1 := vix hv
  rw [vnI hv] at e
  have e2 : w = nI (4000 + v.toNatClampNeg) := e.trans (nI_add 4000 _)
  exact ⟨vin_of e2 (by omega) (by omega), by rw [e2, nI_clamp (by omega)]⟩
theorem GD.cp {w k : Nat} {n : Int32} {F F' : Nat → Nat → Int32} {nu nu' : Nat → Int64} (hG : GD F nu) (hq : SLT w (F 9 k) n (nu k) F nu F' nu') (hk : GK k F nu) : GD F' nu' := by
  intro f h1 h2
  by_cases h : f = w
  · rw [h]; exact GK.copy hq hk
  · exact (SL.slt hq).gk h (hG f h1 h2)
theorem low_cp {w : Nat} {c n : Int32} {v : Int64} {F0 F F' : Nat → Nat → Int32} {nu0 nu nu' : Nat → Int64} (h : ∀ j, j < 4000 → F 9 j = F0 9 j ∧ nu j = nu0 j) (hq : SLT w c n v F nu F' nu') (hw : 4000 ≤ w) : ∀ j, j < 4000 → F' 9 j = F0 9 j ∧ nu' j = nu0 j := fun j hj => ⟨(slt9n hq (by omega)).trans (h j hj).1, (sltnn hq (by omega)).trans (h j hj).2⟩
theorem low_au {F0 F F' : Nat → Nat → Int32} {nu0 nu : Nat → Int64} {k i : Nat} {x : Int32} (h : ∀ j, j < 4000 → F 9 j = F0 9 j ∧ nu j = nu0 j) (e : F' = Au F k i x) (hk : 9 ≠ k) : ∀ j, j < 4000 → F' 9 j = F0 9 j ∧ nu j = nu0 j := fun j hj => by
  rw [e, au_n hk]
  exact h j hj
theorem low_gk {F0 F : Nat → Nat → Int32} {nu0 nu : Nat → Int64} {j : Nat} (h : ∀ j, j < 4000 → F 9 j = F0 9 j ∧ nu j = nu0 j) (hj : j < 4000) (hg : GK j F0 nu0) : GK j F nu := by
  intro h2
  rw [(h j hj).1] at h2
  rw [(h j hj).2]
  exact hg h2
-- the static part after a change
theorem ixn {v : Int32} {n : Nat} (e : v = nI n) (h : n < 2 ^ 31) : v.toNatClampNeg = n := by rw [e, nI_clamp h]
theorem TR.congr {N r : Nat} {τ τ' : Nat → Nat → Int32} {b mn : Nat → Nat} (h : TR N r τ b mn) (h5 : τ' 5 = τ 5) (h4 : τ' 4 = τ 4) (h7 : τ' 7 = τ 7) : TR N r τ' b mn := by
  unfold TR at *
  rw [h5, h4, h7]
  exact h
abbrev ROWP (c x y n z : Int32) : Prop := c = 3 → ∃ lo hi cn : Nat, x = nI lo ∧ y = nI hi ∧ n = nI cn ∧ lo < 2 ^ 31 ∧ hi < 2 ^ 31 ∧ lo ≤ hi + 63 ∧ hi ≤ lo + 63 ∧ cn ≤ 64 ∧ (z = 0 → lo ≤ hi) ∧ (¬ z = 0 → hi ≤ lo)
theorem nt_st {κ b mn : Nat → Nat} {ν ν1 : Nat → Int32} {τ τ1 τ2 τ3 τ4 τ5 : Nat → Nat → Int32} {j1 j2 j3 j4 j5 : Nat} {c x y n z w : Int32} (hT : ST κ b mn ν τ) (hN : κ 2 < 1000) (e1 : τ1 = Au τ 16 j1 c) (e2 : τ2 = Au τ1 17 j2 x) (e3 : τ3 = Au τ2 18 j3 y) (e4 : τ4 = Au τ3 19 j4 n) (e5 : τ5 = Au τ4 20 j5 z) (q1 : j1 = κ 2) (q2 : j2 = κ 2) (q3 : j3 = κ 2) (q4 : j4 = κ 2) (q5 : j5 = κ 2) (eν : ν1 = upd ν 21 w) (ew : w = nI (κ 2 + 1)) (hrow : ROWP c x y n z) : ST (ku κ 2 (κ 2 + 1)) b mn ν1 τ5 := by
  obtain ⟨⟨a0, a1, a2, a3, a4, a5, a6⟩, ⟨v6, v8, v21, v24, v30, v31⟩, hTR, hTY, hOB, hNM⟩ := hT
  subst e1 e2 e3 e4 e5 q1 eν ew
  subst q2 q3 q4 q5
  refine ⟨⟨a0, a1, hN, a3, a4, a5, a6⟩, ⟨v6, v8, rfl, v24, v30, v31⟩, hTR.congr rfl rfl rfl, ?_, hOB, hNM⟩
  intro t ht h3
  have h3 : upd (τ 16) (κ 2) c t = 3 := h3
  show ∃ lo hi cn : Nat, upd (τ 17) (κ 2) x t = nI lo ∧ upd (τ 18) (κ 2) y t = nI hi ∧ upd (τ 19) (κ 2) n t = nI cn ∧ lo < 2 ^ 31 ∧ hi < 2 ^ 31 ∧ lo ≤ hi + 63 ∧ hi ≤ lo + 63 ∧ cn ≤ 64 ∧ (upd (τ 20) (κ 2) z t = 0 → lo ≤ hi) ∧ (¬ upd (τ 20) (κ 2) z t = 0 → hi ≤ lo)
  by_cases h : t = κ 2
  · subst h
    rw [pk_us] at h3
    rw [pk_us, pk_us, pk_us, pk_us]
    exact hrow h3
  · rw [pk_un h] at h3
    rw [pk_un h, pk_un h, pk_un h, pk_un h]
    exact hTY t ht h3
theorem nm_st {κ b mn : Nat → Nat} {ν ν1 : Nat → Int32} {τ τ1 τ2 τ3 τ4 τ5 : Nat → Nat → Int32} {j1 j2 j3 j4 j5 : Nat} {c x y n z w : Int32} (hT : ST κ b mn ν τ) (hN : κ 4 < 3000) (e1 : τ1 = Au τ 25 j1 c) (e2 : τ2 = Au τ1 26 j2 x) (e3 : τ3 = Au τ2 27 j3 y) (e4 : τ4 = Au τ3 28 j4 n) (e5 : τ5 = Au τ4 29 j5 z) (q2 : j2 = κ 4) (q3 : j3 = κ 4) (eν : ν1 = upd ν 30 w) (ew : w = nI (κ 4 + 1)) (hm : (x = 1 → ∃ o, o < 2000 ∧ y = nI o) ∧ (x = 2 → ∃ o, o ≤ 1000 ∧ y = nI o) ∧ (x = 4 → ¬ 11 < y)) : ST (ku κ 4 (κ 4 + 1)) b mn ν1 τ5 := by
  obtain ⟨⟨a0, a1, a2, a3, a4, a5, a6⟩, ⟨v6, v8, v21, v24, v30, v31⟩, hTR, hTY, hOB, hNM⟩ := hT
  subst e1 e2 e3 e4 e5 q2 eν ew
  subst q3
  refine ⟨⟨a0, a1, a2, a3, hN, a5, a6⟩, ⟨v6, v8, v21, v24, rfl, v31⟩, hTR.congr rfl rfl rfl, hTY, hOB, ?_⟩
  intro k hk
  show (upd (τ 26) (κ 4) x k = 1 → ∃ o, o < 2000 ∧ upd (τ 27) (κ 4) y k = nI o) ∧ (upd (τ 26) (κ 4) x k = 2 → ∃ o, o ≤ 1000 ∧ upd (τ 27) (κ 4) y k = nI o) ∧ (upd (τ 26) (κ 4) x k = 4 → ¬ 11 < upd (τ 27) (κ 4) y k)
  by_cases h : k = κ 4
  · subst h
    rw [pk_us, pk_us]
    exact hm
  · rw [pk_un h, pk_un h]
    exact hNM k hk
theorem ob_st {κ b mn : Nat → Nat} {ν : Nat → Int32} {τ τ1 τ2 : Nat → Nat → Int32} {j1 j2 : Nat} {x y : Int32} (hT : ST κ b mn ν τ) (e1 : τ1 = Au τ 22 j1 x) (e2 : τ2 = Au τ1 23 j2 y) (hy : vp_in y 1000) : ST κ b mn ν τ2 := by
  obtain ⟨ha, hv, hTR, hTY, hOB, hNM⟩ := hT
  subst e1 e2
  refine ⟨ha, hv, hTR.congr rfl rfl rfl, hTY, ?_, hNM⟩
  intro o ho
  show ∃ t, t < 1000 ∧ upd (τ 23) j2 y o = nI t
  by_cases h : o = j2
  · subst h
    rw [pk_us]
    exact ⟨_, vix hy, vnI hy⟩
  · rw [pk_un h]
    exact hOB o ho
theorem st_3 {κ b mn : Nat → Nat} {ν ν1 : Nat → Int32} {τ : Nat → Nat → Int32} {w : Int32} {n : Nat} (hT : ST κ b mn ν τ) (hn : n ≤ 2000) (eν : ν1 = upd ν 24 w) (ew : w = nI n) : ST (ku κ 3 n) b mn ν1 τ := by
  obtain ⟨⟨a0, a1, a2, a3, a4, a5, a6⟩, ⟨v6, v8, v21, v24, v30, v31⟩, h⟩ := hT
  subst eν ew
  exact ⟨⟨a0, a1, a2, hn, a4, a5, a6⟩, ⟨v6, v8, v21, rfl, v30, v31⟩, h⟩
theorem st_4 {κ b mn : Nat → Nat} {ν ν1 : Nat → Int32} {τ : Nat → Nat → Int32} {w : Int32} {n : Nat} (hT : ST κ b mn ν τ) (hn : n ≤ 3000) (eν : ν1 = upd ν 30 w) (ew : w = nI n) : ST (ku κ 4 n) b mn ν1 τ := by
  obtain ⟨⟨a0, a1, a2, a3, a4, a5, a6⟩, ⟨v6, v8, v21, v24, v30, v31⟩, h⟩ := hT
  subst eν ew
  exact ⟨⟨a0, a1, a2, a3, hn, a5, a6⟩, ⟨v6, v8, v21, v24, rfl, v31⟩, h⟩
theorem st_5 {κ b mn : Nat → Nat} {ν ν1 : Nat → Int32} {τ : Nat → Nat → Int32} {w : Int32} {n : Nat} (hT : ST κ b mn ν τ) (h1 : 1 ≤ n) (hn : n ≤ 32) (eν : ν1 = upd ν 31 w) (ew : w = nI n) : ST (ku κ 5 n) b mn ν1 τ := by
  obtain ⟨⟨a0, a1, a2, a3, a4, a5, a6⟩, ⟨v6, v8, v21, v24, v30, v31⟩, h⟩ := hT
  subst eν ew
  exact ⟨⟨a0, a1, a2, a3, a4, h1, hn⟩, ⟨v6, v8, v21, v24, v30, rfl⟩, h⟩
theorem st_cl {κ b mn : Nat → Nat} {ν ν1 ν2 : Nat → Int32} {τ : Nat → Nat → Int32} (hT : ST κ b mn ν τ) (e1 : ν1 = upd ν 6 0) (e2 : ν2 = upd ν1 8 0) : ST (ku (ku κ 0 0) 1 0) b mn ν2 τ := by
  obtain ⟨⟨a0, a1, a2, a3, a4, a5, a6⟩, ⟨v6, v8, v21, v24, v30, v31⟩, hTR, h⟩ := hT
  subst e1 e2
  exact ⟨⟨Nat.zero_le _, Nat.zero_le _, a2, a3, a4, a5, a6⟩, ⟨rfl, rfl, v21, v24, v30, v31⟩, ⟨fun c hc => absurd hc (Nat.not_lt_zero _), fun c hc => absurd hc (Nat.not_lt_zero _), fun c hc => absurd hc (Nat.not_lt_zero _)⟩, h⟩
theorem cd_0 {σ σ1 : Nat → Int32} {t v : Int32} {P : Prop} (e : σ1 = upd σ 0 t) (ev : v = σ1 0) (hv : v ≤ 0) (h : 0 < t ∨ (t = 0 ∧ P)) : P := by
  have h1 : v = t := by rw [ev, e, pk_us]
  rcases h with h2 | h2
  · rw [h1] at hv
    exact absurd h2 (Int32.not_lt.mpr hv)
  · exact h2.2
theorem inc_n {v w : Int32} {n : Nat} (ev : v = nI n) (ew : w = v + 1) : w = nI (n + 1) := by rw [ew, ev, nI_succ]
theorem ad_st {κ b mn : Nat → Nat} {ν ν1 ν2 ν3 : Nat → Int32} {τ τ1 τ2 τ3 τ4 τ5 : Nat → Nat → Int32} {j1 j2 j3 j4 j5 n : Nat} {k v x bg y w1 w2 w3 : Int32} (hT : ST κ b mn ν τ) (hN : κ 0 < 4000) (ex : x = nI n) (hn : n ≤ κ 1)
    (e1 : τ1 = Au τ 2 j1 k) (e2 : τ2 = Au τ1 3 j2 v) (e3 : τ3 = Au τ2 4 j3 x) (e4 : τ4 = Au τ3 5 j4 bg) (e5 : τ5 = Au τ4 7 j5 y) (q3 : j3 = κ 0) (q4 : j4 = κ 0) (q5 : j5 = κ 1 - n) (hbg : bg = nI (tX b (κ 0) n)) (hy : y = nI (κ 0))
    (f1 : ν1 = upd ν 8 w1) (f2 : ν2 = upd ν1 8 w2) (f3 : ν3 = upd ν2 6 w3) (g2 : w2 = nI (κ 1 - n + 1)) (g3 : w3 = nI (κ 0 + 1)) :
    ST (ku (ku κ 0 (κ 0 + 1)) 1 (κ 1 - n + 1)) (fun c => if c = κ 0 then tX b (κ 0) n else b c) (fun c => if c = κ 0 then n else mn c) ν3 τ5 := by
  obtain ⟨⟨a0, a1, a2, a3, a4, a5, a6⟩, ⟨v6, v8, v21, v24, v30, v31⟩, hTR, hTY, hOB, hNM⟩ := hT
  subst e1 e2 e3 e4 e5 f1 f2 f3 g2 g3
  subst q3 q4 q5
  refine ⟨⟨hN, (by show κ 1 - n + 1 ≤ κ 0 + 1; omega), a2, a3, a4, a5, a6⟩, ⟨rfl, rfl, v21, v24, v30, v31⟩, ?_, hTY, hOB, hNM⟩
  refine tr_add hTR hn (by omega) (fun c hc => ?_) (fun c hc => ?_) (fun c hc => ?_) ?_ ?_ ?_
  · show upd (τ 5) (κ 0) bg c = τ 5 c
    exact pk_un (by omega)
  · show upd (τ 4) (κ 0) x c = τ 4 c
    exact pk_un (by omega)
  · show upd (τ 7) (κ 1 - n) y c = τ 7 c
    exact pk_un (by omega)
  · show upd (τ 5) (κ 0) bg (κ 0) = _
    rw [pk_us]; exact hbg
  · show upd (τ 4) (κ 0) x (κ 0) = _
    rw [pk_us]; exact ex
  · show upd (τ 7) (κ 1 - n) y (κ 1 - n) = _
    rw [pk_us]; exact hy
theorem bg_ok {N r : Nat} {τ : Nat → Nat → Int32} {b mn : Nat → Nat} (hT : TR N r τ b mn) (hN : N ≤ 4000) {x v : Int32} (hx : vp_in x N) (ev : v = τ 5 x.toNatClampNeg) : ¬ v < 0 ∧ v.toNatClampNeg = b x.toNatClampNeg := by
  have h1 := vix hx
  obtain ⟨h2, h3⟩ := hT.1 _ h1
  have e := ev.trans h2
  exact ⟨by rw [e]; exact nI_pos (by omega), ixn e (by omega)⟩
theorem pm_int {N : Nat} {x w : Int32} (hx : vp_in x N) (hN : N ≤ 4000) (e : w = x - 1) : w.toInt = (x.toNatClampNeg : Int) - 1 := by
  have h1 := vix hx
  rw [vnI hx] at e
  cases h : x.toNatClampNeg with
  | zero => rw [e, h]; decide
  | succ m =>
    rw [h] at e h1
    rw [nI_pred] at e
    rw [e, nI_toInt (by omega)]
    omega
theorem x_int {N : Nat} {x : Int32} (hx : vp_in x N) : x.toInt < (N : Int) := by
  rw [vin_int hx]
  have := vix hx
  omega
theorem ty_gk {N r : Nat} {τ : Nat → Nat → Int32} {b mn : Nat → Nat} {F : Nat → Nat → Int32} {nu : Nat → Int64} {x y a v w : Int32} (hT : TR N r τ b mn) (hN : N ≤ 4000) (hx : vp_in x N) (hv : v.toNatClampNeg = b x.toNatClampNeg) (hw : w.toInt = (x.toNatClampNeg : Int) - 1) (hg : ∀ j : Nat, v.toNatClampNeg ≤ j → (j : Int) ≤ w.toInt → ¬ hid τ b j w.toNatClampNeg → GK j F nu) (hj : vp_in y (mn x.toNatClampNeg)) (ha : a.toNatClampNeg = tX b x.toNatClampNeg y.toNatClampNeg - 1) : GK a.toNatClampNeg F nu := by
  obtain ⟨h1, h2⟩ := ch_ge hT (vix hx) (vix hj)
  have h3 := hid_ty hT (vix hx) (vix hj)
  have h6 := vix hx
  have h4 : w.toNatClampNeg = x.toNatClampNeg - 1 := by
    have h5 := vin_int (vp_in_iff.mpr (show 0 ≤ w.toInt ∧ w.toInt < ((4000 : Nat) : Int) by omega))
    omega
  rw [ha]
  exact hg _ (by rw [hv]; exact h1) (by omega) (by rw [h4]; exact h3)
theorem c_ge0 {x : Int64} {v : Int32} (e : v = lg_cmp x 0) (h : ¬ v < 0) : 0 ≤ x.toInt := by
  have h1 := cmp_ge e h
  have h2 : (0 : Int64).toInt = 0 := by decide
  omega
theorem ne_lt {v c : Int32} {n m : Nat} (ev : v = nI n) (h : ¬ v = c) (ec : c = nI m) (hn : n ≤ m) : n < m := by
  rcases Nat.lt_or_ge n m with h1 | h1
  · exact h1
  · exfalso
    apply h
    rw [ev, ec, show n = m by omega]
theorem ty_row {c x y n d k : Int32} {l r m : Int64} (hc : (c = 2 ∧ k = 11) ∨ (c = 3 ∧ ¬ k = 11)) (hd : (d = 1 ∧ k = 13) ∨ (d = 0 ∧ ¬ k = 13)) (hk : k = 11 ∨ k = 12 ∨ k = 13) (hm : (k = 12 ∧ m = r - l + 1) ∨ (k = 13 ∧ m = l - r + 1) ∨ (¬ k = 12 ∧ ¬ k = 13)) (h64 : m.toInt ≤ 64) (h4 : k ≤ 11 ∨ (1 ≤ m.toInt ∧ 0 ≤ l.toInt ∧ 0 ≤ r.toInt)) (hl : -2147483648 < l.toInt ∧ l.toInt < 2147483648) (hr : -2147483648 < r.toInt ∧ r.toInt < 2147483648) (ex : x = l.toInt32) (ey : y = r.toInt32) (en : n = m.toInt32) : ROWP c x y n (vp_nar .boolean d) := by
  intro h3
  have hk2 : ¬ k = 11 := by
    rcases hc with ⟨h, _⟩ | ⟨_, h⟩
    · exact absurd (h.symm.trans h3) (by decide)
    · exact h
  have e1 : (1 : Int64).toInt = 1 := by decide
  rcases hk with h | h | h
  · exact absurd h hk2
  · have h5 : 1 ≤ m.toInt ∧ 0 ≤ l.toInt ∧ 0 ≤ r.toInt := by
      rcases h4 with h6 | h6
      · rw [h] at h6; exact absurd h6 (by decide)
      · exact h6
    have h6 : m = r - l + 1 := by
      rcases hm with ⟨_, h7⟩ | ⟨h7, _⟩ | ⟨h7, _⟩
      · exact h7
      · rw [h] at h7; exact absurd h7 (by decide)
      · exact absurd h h7
    have h7 := lsub_int (x := r) (y := l) rfl (by omega) (by omega) (by omega) (by omega)
    have h8 := ladd_int (x := r - l) (y := 1) h6 (by omega) (by omega) (by omega) (by omega)
    have h9 : d = 0 := by
      rcases hd with ⟨_, h10⟩ | ⟨h10, _⟩
      · rw [h] at h10; exact absurd h10 (by decide)
      · exact h10
    subst h9
    have ix : x = nI l.toInt.toNat := by
      apply Int32.toInt_inj.mp
      rw [ex, Int64.toInt_toInt32, nI_toInt (by omega)]
      rw [Int.bmod_eq_of_le (by omega) (by omega)]
      omega
    have iy : y = nI r.toInt.toNat := by
      apply Int32.toInt_inj.mp
      rw [ey, Int64.toInt_toInt32, nI_toInt (by omega)]
      rw [Int.bmod_eq_of_le (by omega) (by omega)]
      omega
    have inn : n = nI m.toInt.toNat := by
      apply Int32.toInt_inj.mp
      rw [en, Int64.toInt_toInt32, nI_toInt (by omega)]
      rw [Int.bmod_eq_of_le (by omega) (by omega)]
      omega
    exact ⟨_, _, _, ix, iy, inn, by omega, by omega, by omega, by omega, by omega, fun _ => by omega, fun h10 => absurd rfl h10⟩
  · have h5 : 1 ≤ m.toInt ∧ 0 ≤ l.toInt ∧ 0 ≤ r.toInt := by
      rcases h4 with h6 | h6
      · rw [h] at h6; exact absurd h6 (by decide)
      · exact h6
    have h6 : m = l - r + 1 := by
      rcases hm with ⟨h7, _⟩ | ⟨_, h7⟩ | ⟨_, h7⟩
      · rw [h] at h7; exact absurd h7 (by decide)
      · exact h7
      · exact absurd h h7
    have h7 := lsub_int (x := l) (y := r) rfl (by omega) (by omega) (by omega) (by omega)
    have h8 := ladd_int (x := l - r) (y := 1) h6 (by omega) (by omega) (by omega) (by omega)
    have h9 : d = 1 := by
      rcases hd with ⟨h10, _⟩ | ⟨_, h10⟩
      · exact h10
      · exact absurd h h10
    subst h9
    have ix : x = nI l.toInt.toNat := by
      apply Int32.toInt_inj.mp
      rw [ex, Int64.toInt_toInt32, nI_toInt (by omega)]
      rw [Int.bmod_eq_of_le (by omega) (by omega)]
      omega
    have iy : y = nI r.toInt.toNat := by
      apply Int32.toInt_inj.mp
      rw [ey, Int64.toInt_toInt32, nI_toInt (by omega)]
      rw [Int.bmod_eq_of_le (by omega) (by omega)]
      omega
    have inn : n = nI m.toInt.toNat := by
      apply Int32.toInt_inj.mp
      rw [en, Int64.toInt_toInt32, nI_toInt (by omega)]
      rw [Int.bmod_eq_of_le (by omega) (by omega)]
      omega
    exact ⟨_, _, _, ix, iy, inn, by omega, by omega, by omega, by omega, by omega, fun h10 => absurd h10 (by decide), fun _ => by omega⟩
theorem hid_self {τ : Nat → Nat → Int32} {b : Nat → Nat} {k : Nat} : ¬ hid τ b k k := by
  rintro ⟨a, h1, h2, _⟩
  omega
theorem hid_cg {τ τ' : Nat → Nat → Int32} {b : Nat → Nat} {k to : Nat} (h : τ' 2 = τ 2) (hh : hid τ b k to) : hid τ' b k to := by
  obtain ⟨a, h1, h2, h3, h4⟩ := hh
  exact ⟨a, h1, h2, by rw [h]; exact h3, h4⟩
theorem sub_nn {N r : Nat} {τ : Nat → Nat → Int32} {b mn : Nat → Nat} (hT : TR N r τ b mn) (hN : N ≤ 4000) {x n v : Int32} (hx : vp_in x N) (hn : n = nI (mn x.toNatClampNeg)) (e : v = x - n) : ¬ v < 0 ∧ v = nI (x.toNatClampNeg - mn x.toNatClampNeg) ∧ mn x.toNatClampNeg ≤ x.toNatClampNeg := by
  have h1 := vix hx
  have h2 := tX_sub (fun c hc => (hT.1 c hc).2) (Nat.le_of_lt h1) (mn x.toNatClampNeg) (hT.2.1 _ h1).2.2.1
  have e2 : v = nI (x.toNatClampNeg - mn x.toNatClampNeg) := by
    rw [e, hn]
    have h3 := pk_sub (a := x.toNatClampNeg) (b := mn x.toNatClampNeg) (by omega)
    rw [← vnI hx] at h3
    exact h3
  exact ⟨by rw [e2]; exact nI_pos (by omega), e2, by omega⟩
theorem en_le {c n a w : Int32} {C N : Nat} (ec : c = nI C) (en : n = nI N) (ea : a = c + n) (ew : w = a + 1) (h : w ≤ 3000) (hC : C ≤ 4000) (hN : N ≤ 4000) : C + N + 1 ≤ 3000 := by
  rw [ec, en, nI_add] at ea
  have e2 : w = nI (C + N + 1) := inc_n ea ew
  rw [e2] at h
  exact (nI_leI (a := C + N + 1) (b := 3000) (by omega) (by omega)).mp h
theorem en_ix {N r : Nat} {τ : Nat → Nat → Int32} {b mn : Nat → Nat} (hT : TR N r τ b mn) (hN : N ≤ 4000) {x n v i w : Int32} (hx : vp_in x N) (hn : n = nI (mn x.toNatClampNeg)) (e : v = x - n) (hi : vp_in i (mn x.toNatClampNeg)) (ew : w = v + i) : vp_in w 4000 := by
  obtain ⟨_, h2, h3⟩ := sub_nn hT hN hx hn e
  have h1 := vix hx
  have h4 := vix hi
  rw [h2, vnI hi, nI_add] at ew
  exact vin_of ew (by omega) (by omega)
theorem le_n {x : Int32} {N : Nat} (h0 : ¬ x < 0) (h1 : ¬ nI N < x) (hN : N ≤ 4000) : ∃ n, n ≤ N ∧ x = nI n := by
  obtain ⟨j, hj, rfl⟩ := nI_of h0
  exact ⟨j, Nat.not_lt.mp (fun h9 => h1 ((nI_ltI (by omega) hj).mpr h9)), rfl⟩
theorem ad_ix {v x w : Int32} {N n : Nat} (ev : v = nI N) (ex : x = nI n) (hn : n ≤ N) (ew : w = v - x) : w = nI (N - n) := by
  rw [ew, ev, ex]
  exact pk_sub hn
theorem ad_rt {N r n : Nat} {τ τ' : Nat → Nat → Int32} {b mn : Nat → Nat} {v u : Int32} (hT : TR N r τ b mn) (hN : N ≤ 4000) (hr : r ≤ N) (hn : n ≤ r) (h0 : 1 ≤ n) (h7 : τ' 7 = τ 7) (hv : v = nI (r - n)) (eu : u = τ' 7 v.toNatClampNeg) : u = nI (tX b N (n - 1) - 1) ∧ tX b N (n - 1) - 1 < N ∧ 1 ≤ tX b N (n - 1) := by
  obtain ⟨h1, h2⟩ := hT.2.2 (n - 1) (by omega)
  have h3 := tX_le (fun c hc => (hT.1 c hc).2) (Nat.le_refl N) (n - 1)
  refine ⟨?_, by omega, h1⟩
  rw [eu, h7, ixn hv (by omega), ← h2]
  congr 1
  omega
theorem ad_b1 {N r n : Nat} {τ τ' : Nat → Nat → Int32} {b mn : Nat → Nat} {u g : Int32} (hT : TR N r τ b mn) (hN : N ≤ 4000) (h0 : 1 ≤ n) (h5 : τ' 5 = τ 5) (hu : u = nI (tX b N (n - 1) - 1) ∧ tX b N (n - 1) - 1 < N ∧ 1 ≤ tX b N (n - 1)) (eg : g = τ' 5 u.toNatClampNeg) : g = nI (tX b N n) := by
  obtain ⟨h1, h2, h3⟩ := hu
  rw [eg, h5, ixn h1 (by omega), (hT.1 _ h2).1]
  obtain ⟨m, hm⟩ : ∃ m, tX b N (n - 1) = m + 1 := ⟨tX b N (n - 1) - 1, by omega⟩
  have h4 : tX b N n = b m := by
    have h5 := tX_s hm
    rw [show n - 1 + 1 = n by omega] at h5
    exact h5
  rw [h4, hm]
  rfl
theorem ad_b0 {N n : Nat} {b : Nat → Nat} {x g : Int32} (eg : g = nI N) (ex : x = nI n) (h0 : x = 0) (hn : n ≤ 4000) : g = nI (tX b N n) := by
  have h1 : n = 0 := (nI_eq (by omega) (by omega)).mp (ex.symm.trans h0)
  subst h1
  exact eg
theorem n_one {x : Int32} {n : Nat} (ex : x = nI n) (h : ¬ x = 0) : 1 ≤ n := by
  rcases Nat.eq_zero_or_pos n with h1 | h1
  · subst h1
    exact absurd ex h
  · exact h1
theorem n_one2 {x : Int32} {n : Nat} (ex : x = nI n) (h : ¬ x ≤ 0) : 1 ≤ n := by
  rcases Nat.eq_zero_or_pos n with h1 | h1
  · subst h1
    exact absurd (by rw [ex]; decide) h
  · exact h1
theorem eq_n {v c : Int32} {n m : Nat} (ev : v = nI n) (h : v = c) (ec : c = nI m) (hn : n < 2 ^ 31) (hm : m < 2 ^ 31) : n = m := (nI_eq hn hm).mp (ev.symm.trans (h.trans ec))
theorem lv_cd {σ σ1 : Nat → Int32} {t v : Int32} {P Q : Prop} (h : (t = 1 ∧ P) ∨ (t = 0 ∧ Q)) (es : σ1 = upd σ 0 t) (ev : v = σ1 0) : (v ≤ 0 → σ1 0 = 0 ∧ Q) ∧ (¬ v ≤ 0 → σ1 0 = 1 ∧ P) ∧ (¬ v = 0 → σ1 0 = 1 ∧ P) ∧ (v = 0 → σ1 0 = 0 ∧ Q) := by
  have h1 : σ1 0 = t := by rw [es, pk_us]
  rw [h1] at ev ⊢
  subst ev
  rcases h with ⟨h2, h3⟩ | ⟨h2, h3⟩
  · rw [h2]
    exact ⟨fun h => absurd h (by decide), fun _ => ⟨rfl, h3⟩, fun _ => ⟨rfl, h3⟩, fun h => absurd h (by decide)⟩
  · rw [h2]
    exact ⟨fun _ => ⟨rfl, h3⟩, fun h => absurd (by decide) h, fun h => absurd rfl h, fun _ => ⟨rfl, h3⟩⟩
theorem dec_n {v w : Int32} {n : Nat} (ev : v = nI n) (ew : w = v - 1) (h : 1 ≤ n) : w = nI (n - 1) := by rw [ew, ev]; exact nI_sub1 h
theorem gt1 {v : Int32} {n : Nat} (ev : v = nI n) (h : ¬ v = 1) (hn : 1 ≤ n) : 1 < n := by
  rcases Nat.lt_or_ge 1 n with h1 | h1
  · exact h1
  · exfalso
    apply h
    rw [ev, show n = 1 by omega]
    rfl
theorem ad_cv {t : Int32} {P Q R : Prop} (h : (t = 1 ∧ P) ∨ (t = 2 ∧ Q) ∨ (t = 0 ∧ R)) : 0 < t ∨ (t = 0 ∧ R) := by
  rcases h with h | h | h
  · exact Or.inl (by rw [h.1]; decide)
  · exact Or.inl (by rw [h.1]; decide)
  · exact Or.inr h
theorem ad_cf {σ σ' : Nat → Int32} {t v : Int32} {P Q R : Prop} (e : σ' = upd σ 0 t) (ev : v = σ' 0) (hv : ¬ v ≤ 0) (h : (t = 1 ∧ P) ∨ (t = 2 ∧ Q) ∨ (t = 0 ∧ R)) : (σ' 0 = 1 ∧ P) ∨ (σ' 0 = 2 ∧ Q) := by
  have e1 : σ' 0 = t := by rw [e, pk_us]
  rw [e1]
  rcases h with h | h | h
  · exact Or.inl h
  · exact Or.inr h
  · exact absurd (by rw [ev, e1, h.1]; decide) hv
theorem ad_c0 {σ σ' : Nat → Int32} {t v : Int32} {R : Prop} (e : σ' = upd σ 0 t) (ev : v = σ' 0) (hv : v ≤ 0) (h : 0 < t ∨ (t = 0 ∧ R)) : σ' 0 = 0 := by
  have e1 : σ' 0 = t := by rw [e, pk_us]
  rcases h with h | h
  · rw [ev, e1] at hv
    exact absurd h (Int32.not_lt.mpr hv)
  · rw [e1, h.1]
