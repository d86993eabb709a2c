-- TREES of the reference: the places behind a node's children, from the right
def tX (b : Nat → Nat) (k : Nat) : Nat → Nat
  | 0 => k
  | i + 1 => match tX b k i with
    | 0 => 0
    | m + 1 => b m
theorem tX_s {b : Nat → Nat} {k i m : Nat} (h : tX b k i = m + 1) : tX b k (i + 1) = b m := by
  show (match tX b k i with | 0 => 0 | m + 1 => b m) = b m
  rw [h]
theorem tX_z {b : Nat → Nat} {k i : Nat} (h : tX b k i = 0) : tX b k (i + 1) = 0 := by
  show (match tX b k i with | 0 => 0 | m + 1 => b m) = 0
  rw [h]
theorem tX_le {b : Nat → Nat} {N k : Nat} (hb : ∀ c, c < N → b c ≤ c) (hk : k ≤ N) : ∀ i, tX b k i ≤ k
  | 0 => Nat.le_refl _
  | i + 1 => by
    have h := tX_le hb hk i
    cases e : tX b k i with
    | zero => rw [tX_z e]; exact Nat.zero_le _
    | succ m =>
      rw [tX_s e]
      rw [e] at h
      have := hb m (by omega)
      omega
theorem tX_dn {b : Nat → Nat} {N k : Nat} (hb : ∀ c, c < N → b c ≤ c) (hk : k ≤ N) (i : Nat) : tX b k (i + 1) ≤ tX b k i := by
  have h := tX_le hb hk i
  cases e : tX b k i with
  | zero => rw [tX_z e]; exact Nat.le_refl _
  | succ m =>
    rw [tX_s e]
    rw [e] at h
    have := hb m (by omega)
    omega
theorem tX_mono {b : Nat → Nat} {N k : Nat} (hb : ∀ c, c < N → b c ≤ c) (hk : k ≤ N) (i d : Nat) : tX b k (i + d) ≤ tX b k i := by
  induction d with
  | zero => exact Nat.le_refl _
  | succ d ih => exact Nat.le_trans (tX_dn hb hk (i + d)) ih
theorem tX_sub {b : Nat → Nat} {N k : Nat} (hb : ∀ c, c < N → b c ≤ c) (hk : k ≤ N) : ∀ i, (∀ j, j < i → 1 ≤ tX b k j) → tX b k i + i ≤ k
  | 0, _ => Nat.le_refl _
  | i + 1, h => by
    have h1 := tX_sub hb hk i (fun j hj => h j (by omega))
    have h2 := h i (by omega)
    obtain ⟨m, hm⟩ : ∃ m, tX b k i = m + 1 := ⟨tX b k i - 1, by omega⟩
    rw [tX_s hm]
    have := hb m (by omega)
    omega
theorem tX_congr {b b' : Nat → Nat} {N k : Nat} (hb : ∀ c, c < N → b c ≤ c) (he : ∀ c, c < N → b' c = b c) (hk : k ≤ N) : ∀ i, tX b' k i = tX b k i
  | 0 => rfl
  | i + 1 => by
    have h := tX_congr hb he hk i
    have h2 := tX_le hb hk i
    cases e : tX b k i with
    | zero => rw [tX_z e, tX_z (h.trans e)]
    | succ m =>
      rw [tX_s e, tX_s (h.trans e)]
      rw [e] at h2
      exact he m (by omega)
theorem lam {N : Nat} {b mn : Nat → Nat} (hb : ∀ c, c < N → b c ≤ c) (hm : ∀ k, k < N → b k = tX b k (mn k)) : ∀ k, k < N → ∀ a, b k ≤ a → a ≤ k → b k ≤ b a := by
  intro k
  induction k using Nat.strongRecOn with
  | ind k ih =>
    intro hk a h1 h2
    have L : ∀ i a, tX b k i ≤ a → a < k → tX b k i ≤ b a := by
      intro i
      induction i with
      | zero => intro a h1 h2; exact absurd h1 (Nat.not_le.mpr h2)
      | succ i ihi =>
        intro a h1 h2
        have hle := tX_le hb (Nat.le_of_lt hk) i
        cases e : tX b k i with
        | zero => rw [tX_z e]; exact Nat.zero_le _
        | succ m =>
          rw [tX_s e] at h1 ⊢
          rw [e] at hle ihi
          by_cases h3 : a ≤ m
          · exact ih m (by omega) (by omega) a h1 h3
          · have h4 := ihi a (by omega) h2
            have h5 := hb m (by omega)
            omega
    rcases Nat.lt_or_ge a k with h3 | h3
    · have h4 := L (mn k) a (by rw [← hm k hk]; exact h1) h3
      have h5 := hm k hk
      omega
    · have h4 : a = k := by omega
      subst h4
      exact Nat.le_refl _
theorem lamX {N : Nat} {b mn : Nat → Nat} (hb : ∀ c, c < N → b c ≤ c) (hm : ∀ k, k < N → b k = tX b k (mn k)) {k : Nat} (hk : k ≤ N) : ∀ i a, tX b k i ≤ a → a < k → tX b k i ≤ b a := by
  intro i
  induction i with
  | zero => intro a h1 h2; exact absurd h1 (Nat.not_le.mpr h2)
  | succ i ihi =>
    intro a h1 h2
    have hle := tX_le hb hk i
    cases e : tX b k i with
    | zero => rw [tX_z e]; exact Nat.zero_le _
    | succ m =>
      rw [tX_s e] at h1 ⊢
      rw [e] at hle ihi
      by_cases h3 : a ≤ m
      · exact lam hb hm m (by omega) a h1 h3
      · have h4 := ihi a (by omega) h2
        have h5 := hb m (by omega)
        omega
/-- the trees of N nodes, r roots -/
def TR (N r : Nat) (τ : Nat → Nat → Int32) (b mn : Nat → Nat) : Prop :=
  (∀ c, c < N → τ 5 c = nI (b c) ∧ b c ≤ c) ∧ (∀ k, k < N → τ 4 k = nI (mn k) ∧ mn k ≤ 4000 ∧ (∀ i, i < mn k → 1 ≤ tX b k i) ∧ b k = tX b k (mn k)) ∧ ∀ i, i < r → 1 ≤ tX b N i ∧ τ 7 (r - 1 - i) = nI (tX b N i - 1)
/-- a node is below an ATTRIBUTE of those up to 'to' -/
def hid (τ : Nat → Nat → Int32) (b : Nat → Nat) (c to : Nat) : Prop := ∃ a, c < a ∧ a ≤ to ∧ τ 2 a = 25 ∧ b a ≤ c
theorem hid_ch {N r : Nat} {τ : Nat → Nat → Int32} {b mn : Nat → Nat} (hT : TR N r τ b mn) {k i to : Nat} (hk : k < N) (hi : i < mn k) (hn : ¬ hid τ b k to) (h25 : ¬ τ 2 k = 25) : ¬ hid τ b (tX b k i - 1) to := by
  rintro ⟨a, h1, h2, h3, h4⟩
  have hb : ∀ c, c < N → b c ≤ c := fun c hc => (hT.1 c hc).2
  have hX := (hT.2.1 k hk).2.2.1 i hi
  have hle := tX_le hb (Nat.le_of_lt hk) i
  rcases Nat.lt_trichotomy a k with h | h | h
  · have := lamX hb (fun k hk => (hT.2.1 k hk).2.2.2) (Nat.le_of_lt hk) i a (by omega) h
    omega
  · subst h
    exact h25 h3
  · exact hn ⟨a, h, h2, h3, by omega⟩
theorem hid_ty {N r : Nat} {τ : Nat → Nat → Int32} {b mn : Nat → Nat} (hT : TR N r τ b mn) {k i : Nat} (hk : k < N) (hi : i < mn k) : ¬ hid τ b (tX b k i - 1) (k - 1) := by
  rintro ⟨a, h1, h2, h3, h4⟩
  have hb : ∀ c, c < N → b c ≤ c := fun c hc => (hT.1 c hc).2
  have hX := (hT.2.1 k hk).2.2.1 i hi
  have hle := tX_le hb (Nat.le_of_lt hk) i
  have := lamX hb (fun k hk => (hT.2.1 k hk).2.2.2) (Nat.le_of_lt hk) i a (by omega) (by omega)
  omega
/-- a child lies in its parent's range -/
theorem ch_ge {N r : Nat} {τ : Nat → Nat → Int32} {b mn : Nat → Nat} (hT : TR N r τ b mn) {k i : Nat} (hk : k < N) (hi : i < mn k) : b k ≤ tX b k i - 1 ∧ tX b k i - 1 < k := by
  have hb : ∀ c, c < N → b c ≤ c := fun c hc => (hT.1 c hc).2
  have hX := (hT.2.1 k hk).2.2.1 i hi
  have hle := tX_le hb (Nat.le_of_lt hk) i
  obtain ⟨m, hm⟩ : ∃ m, tX b k i = m + 1 := ⟨tX b k i - 1, by omega⟩
  have h1 : tX b k (i + 1) = b m := tX_s hm
  have h2 := hb m (by omega)
  have h3 := tX_mono hb (Nat.le_of_lt hk) (i + 1) (mn k - (i + 1))
  rw [show i + 1 + (mn k - (i + 1)) = mn k by omega] at h3
  have h4 := (hT.2.1 k hk).2.2.2
  omega
theorem rg_ge {N r : Nat} {τ : Nat → Nat → Int32} {b mn : Nat → Nat} (hT : TR N r τ b mn) {n k : Nat} (hn : n < N) (h1 : b n ≤ k) (h2 : k ≤ n) : b n ≤ b k := lam (fun c hc => (hT.1 c hc).2) (fun k hk => (hT.2.1 k hk).2.2.2) n hn k h1 h2
/-- one node more -/
theorem tr_add {N r n : Nat} {τ τ' : Nat → Nat → Int32} {b mn : Nat → Nat} (hT : TR N r τ b mn) (hn : n ≤ r) (hn2 : n ≤ 4000)
    (h5 : ∀ c, c < N → τ' 5 c = τ 5 c) (h4 : ∀ c, c < N → τ' 4 c = τ 4 c) (h7 : ∀ c, c < r - n → τ' 7 c = τ 7 c) (e5 : τ' 5 N = nI (tX b N n)) (e4 : τ' 4 N = nI n) (e7 : τ' 7 (r - n) = nI N) :
    TR (N + 1) (r - n + 1) τ' (fun c => if c = N then tX b N n else b c) (fun c => if c = N then n else mn c) := by
  have hb : ∀ c, c < N → b c ≤ c := fun c hc => (hT.1 c hc).2
  have hc0 : ∀ c, c < N → (fun c => if c = N then tX b N n else b c) c = b c := fun c hc => if_neg (by omega)
  have hX : ∀ k, k ≤ N → ∀ i, tX (fun c => if c = N then tX b N n else b c) k i = tX b k i := fun k hk i => tX_congr hb hc0 hk i
  refine ⟨fun c hc => ?_, fun k hk => ?_, fun i hi => ?_⟩
  · by_cases h : c = N
    · subst h
      simp only [if_true]
      exact ⟨e5, tX_le hb (Nat.le_refl _) n⟩
    · have hc2 : c < N := by omega
      rw [h5 c hc2, hc0 c hc2]
      exact hT.1 c hc2
  · rw [hX k (by omega)]
    by_cases h : k = N
    · subst h
      simp only [if_true]
      refine ⟨e4, hn2, fun i hi => ?_, trivial⟩
      rw [hX k (Nat.le_refl _)]
      exact (hT.2.2 i (by omega)).1
    · have hk2 : k < N := by omega
      simp only [if_neg h]
      rw [h4 k hk2]
      obtain ⟨a1, a2, a3, a4⟩ := hT.2.1 k hk2
      refine ⟨a1, a2, fun i hi => ?_, a4⟩
      rw [hX k (by omega)]
      exact a3 i hi
  · cases i with
    | zero =>
      refine ⟨by show 1 ≤ N + 1; omega, ?_⟩
      rw [show r - n + 1 - 1 - 0 = r - n by omega]
      exact e7
    | succ i =>
      have hs : ∀ i, tX (fun c => if c = N then tX b N n else b c) (N + 1) (i + 1) = tX b N (n + i) := by
        intro i
        induction i with
        | zero =>
          rw [tX_s (m := N) rfl]
          simp
        | succ i ih =>
          cases e : tX b N (n + i) with
          | zero =>
            rw [tX_z (ih.trans e)]
            exact (tX_z e).symm
          | succ m =>
            rw [tX_s (ih.trans e)]
            have h1 := tX_le hb (Nat.le_refl N) (n + i)
            rw [e] at h1
            show (if m = N then tX b N n else b m) = _
            rw [if_neg (by omega)]
            exact (tX_s e).symm
      rw [hs i]
      obtain ⟨a1, a2⟩ := hT.2.2 (n + i) (by omega)
      refine ⟨a1, ?_⟩
      rw [show r - n + 1 - 1 - (i + 1) = r - 1 - (n + i) by omega, h7 _ (by omega)]
      exact a2
-- what holds between calls
def TY (τ : Nat → Nat → Int32) : Prop := ∀ t, t < 1000 → τ 16 t = 3 → ∃ lo hi cn : Nat, τ 17 t = nI lo ∧ τ 18 t = nI hi ∧ τ 19 t = nI cn ∧ lo < 2 ^ 31 ∧ hi < 2 ^ 31 ∧ lo ≤ hi + 63 ∧ hi ≤ lo + 63 ∧ cn ≤ 64 ∧ (τ 20 t = 0 → lo ≤ hi) ∧ (¬ τ 20 t = 0 → hi ≤ lo)
def OB (τ : Nat → Nat → Int32) : Prop := ∀ o, o < 2000 → ∃ t, t < 1000 ∧ τ 23 o = nI t
def NM (τ : Nat → Nat → Int32) : Prop := ∀ k, k < 3000 → (τ 26 k = 1 → ∃ o, o < 2000 ∧ τ 27 k = nI o) ∧ (τ 26 k = 2 → ∃ o, o ≤ 1000 ∧ τ 27 k = nI o) ∧ (τ 26 k = 4 → ¬ 11 < τ 27 k)
/-- κ: 0 nodes, 1 roots, 2 types, 3 objects, 4 names, 5 scopes -/
def ST (κ b mn : Nat → Nat) (ν : Nat → Int32) (τ : Nat → Nat → Int32) : Prop :=
  (κ 0 ≤ 4000 ∧ κ 1 ≤ κ 0 ∧ κ 2 ≤ 1000 ∧ κ 3 ≤ 2000 ∧ κ 4 ≤ 3000 ∧ 1 ≤ κ 5 ∧ κ 5 ≤ 32) ∧ (ν 6 = nI (κ 0) ∧ ν 8 = nI (κ 1) ∧ ν 21 = nI (κ 2) ∧ ν 24 = nI (κ 3) ∧ ν 30 = nI (κ 4) ∧ ν 31 = nI (κ 5)) ∧ TR (κ 0) (κ 1) τ b mn ∧ TY τ ∧ OB τ ∧ NM τ
def SZ (F : Nat → Nat → Int32) : Prop := ∀ f, f < 10000 → ∃ j, j ≤ 1000 ∧ F 10 f = nI j
def FD (σ : Nat → Int32) : Prop := (σ 32 = 1 → ∃ j, j < 2000 ∧ σ 33 = nI j) ∧ (σ 32 = 2 → ∃ j, j ≤ 1000 ∧ σ 33 = nI j) ∧ (σ 32 = 4 → ¬ 11 < σ 33)
def GK (f : Nat) (F : Nat → Nat → Int32) (nu : Nat → Int64) : Prop := F 9 f = 2 → -2147483648 < (nu f).toInt ∧ (nu f).toInt < 2147483648
def GD (F : Nat → Nat → Int32) (nu : Nat → Int64) : Prop := ∀ f, 4000 ≤ f → f < 10000 → GK f F nu
def SL (k : Nat) (F : Nat → Nat → Int32) (nu : Nat → Int64) (F' : Nat → Nat → Int32) (nu' : Nat → Int64) : Prop := ∀ j, j ≠ k → F' 9 j = F 9 j ∧ nu' j = nu j
/-- a slot is set: class, size, number -/
def SLT (k : Nat) (c n : Int32) (v : Int64) (F : Nat → Nat → Int32) (nu : Nat → Int64) (F' : Nat → Nat → Int32) (nu' : Nat → Int64) : Prop := F' 9 = upd (F 9) k c ∧ F' 10 = upd (F 10) k n ∧ nu' = vp_updL nu k v
def EQ14 (F F' : Nat → Nat → Int32) : Prop := ∀ q, q ≠ 14 → F' q = F q
/-- what a look at node k leaves -/
def LKo (γ : gE) (a : Nat) (B : Nat → Nat) (Z : Nat → Prop) (ν : Nat → Int32) (τ : Nat → Nat → Int32) (k : Nat) (F : Nat → Nat → Int32) (nu : Nat → Int64) (r : Int32) (H : Heap) : Prop := ∃ (σ' : Nat → Int32) (F' : Nat → Nat → Int32) (nu' : Nat → Int64), MD γ a B Z ν τ σ' F' nu' H ∧ SZ F' ∧ FD σ' ∧ SL k F nu F' nu' ∧ (¬ 0 < r → GK k F' nu')
/-- the reference between calls: sizes κ, the code cd -/
def MI (γ : gE) (a : Nat) (B : Nat → Nat) (Z : Nat → Prop) (κ : Nat → Nat) (cd : Int32) (H : Heap) : Prop := ∃ (b mn : Nat → Nat) (ν : Nat → Int32) (τ : Nat → Nat → Int32) (σ : Nat → Int32) (F : Nat → Nat → Int32) (nu : Nat → Int64), ST κ b mn ν τ ∧ SZ F ∧ FD σ ∧ GD F nu ∧ σ 0 = cd ∧ MD γ a B Z ν τ σ F nu H
theorem SL.rf {k : Nat} {F : Nat → Nat → Int32} {nu : Nat → Int64} : SL k F nu F nu := fun _ _ => ⟨rfl, rfl⟩
theorem SL.trans {k : Nat} {F F1 F2 : Nat → Nat → Int32} {nu nu1 nu2 : Nat → Int64} (h1 : SL k F nu F1 nu1) (h2 : SL k F1 nu1 F2 nu2) : SL k F nu F2 nu2 := fun j hj => ⟨(h2 j hj).1.trans (h1 j hj).1, (h2 j hj).2.trans (h1 j hj).2⟩
theorem SL.slt {k : Nat} {c n : Int32} {v : Int64} {F F' : Nat → Nat → Int32} {nu nu' : Nat → Int64} (h : SLT k c n v F nu F' nu') : SL k F nu F' nu' := fun j hj => ⟨by rw [h.1, pk_un hj], by rw [h.2.2]; exact if_neg hj⟩
theorem SL.e14 {k : Nat} {F F' : Nat → Nat → Int32} {nu : Nat → Int64} (h : EQ14 F F') : SL k F nu F' nu := fun j _ => ⟨by rw [h 9 (by decide)], rfl⟩
theorem SL.num {k : Nat} {F : Nat → Nat → Int32} {nu : Nat → Int64} {v : Int64} : SL k F nu F (vp_updL nu k v) := fun j hj => ⟨rfl, if_neg hj⟩
theorem SL.gk {k j : Nat} {F F' : Nat → Nat → Int32} {nu nu' : Nat → Int64} (h : SL k F nu F' nu') (hj : j ≠ k) (hg : GK j F nu) : GK j F' nu' := by
  intro h2
  rw [(h j hj).1] at h2
  rw [(h j hj).2]
  exact hg h2
theorem SZ.slt {k : Nat} {c n : Int32} {v : Int64} {F F' : Nat → Nat → Int32} {nu nu' : Nat → Int64} (hz : SZ F) (h : SLT k c n v F nu F' nu') (hn : ∃ j, j ≤ 1000 ∧ n = nI j) : SZ F' := by
  intro f hf
  rw [h.2.1]
  by_cases e : f = k
  · subst e
    rw [pk_us]
    exact hn
  · rw [pk_un e]
    exact hz f hf
theorem SZ.e14 {F F' : Nat → Nat → Int32} (hz : SZ F) (h : EQ14 F F') : SZ F' := by
  intro f hf
  rw [h 10 (by decide)]
  exact hz f hf
theorem GK.zero {k : Nat} {c n : Int32} {F F' : Nat → Nat → Int32} {nu nu' : Nat → Int64} (h : SLT k c n 0 F nu F' nu') : GK k F' nu' := by
  intro _
  rw [h.2.2]
  show -2147483648 < (if k = k then (0 : Int64) else nu k).toInt ∧ (if k = k then (0 : Int64) else nu k).toInt < 2147483648
  rw [if_pos rfl]
  decide
theorem GK.e14 {k : Nat} {F F' : Nat → Nat → Int32} {nu : Nat → Int64} (hg : GK k F nu) (h : EQ14 F F') : GK k F' nu := by
  intro h2
  rw [h 9 (by decide)] at h2
  exact hg h2
theorem GK.num {k : Nat} {F : Nat → Nat → Int32} {nu : Nat → Int64} {v : Int64} (h : F 9 k = 2 → -2147483648 < v.toInt ∧ v.toInt < 2147483648) : GK k F (vp_updL nu k v) := by
  intro h2
  show -2147483648 < (if k = k then v else nu k).toInt ∧ (if k = k then v else nu k).toInt < 2147483648
  rw [if_pos rfl]
  exact h h2
theorem vin {x : Int32} {n m : Nat} (h : vp_in x n) (hm : n ≤ m) : vp_in x m := fun h2 => h (h2.imp_right (fun h3 => Nat.le_trans hm h3))
theorem vix {x : Int32} {n : Nat} (h : vp_in x n) : x.toNatClampNeg < n := Nat.not_le.mp (fun h2 => h (Or.inr h2))
theorem vnI {x : Int32} {n : Nat} (h : vp_in x n) : x = nI x.toNatClampNeg := by
  have h0 : ¬ x < 0 := fun h2 => h (Or.inl h2)
  obtain ⟨j, hj, rfl⟩ := nI_of h0
  rw [nI_clamp hj]
theorem el_in {f k : Int32} {n m : Nat} (hf : vp_in f n) (hk : vp_in k m) (h : 64 * n + m ≤ 640064) : vp_in (64 * f + k) 640000 := by
  have h1 := vix hf
  have h2 := vix hk
  rw [vnI hf, vnI hk]
  have e : (64 : Int32) * nI f.toNatClampNeg = nI (64 * f.toNatClampNeg) := pk_mul 64 _
  rw [e, nI_add]
  exact vp_in_nI (by omega) (by omega)
-- what stays over a store
theorem FD.up {σ σ' : Nat → Int32} {k : Nat} {x : Int32} (hF : FD σ) (e : σ' = upd σ k x) (h1 : 32 ≠ k) (h2 : 33 ≠ k) : FD σ' := by
  subst e
  unfold FD
  rw [pk_un h1, pk_un h2]
  exact hF
theorem SZ.au {F F' : Nat → Nat → Int32} {k i : Nat} {x : Int32} (hz : SZ F) (e : F' = Au F k i x) (h : 10 ≠ k) : SZ F' := by
  subst e
  intro f hf
  rw [au_n h]
  exact hz f hf
theorem SL.au {K : Nat} {F0 F F' : Nat → Nat → Int32} {nu0 nu : Nat → Int64} {k i : Nat} {x : Int32} (hl : SL K F0 nu0 F nu) (e : F' = Au F k i x) (h : 9 ≠ k) : SL K F0 nu0 F' nu := by
  subst e
  intro j hj
  rw [au_n h]
  exact hl j hj
theorem GK.au {K : Nat} {F F' : Nat → Nat → Int32} {nu : Nat → Int64} {k i : Nat} {x : Int32} (hg : GK K F nu) (e : F' = Au F k i x) (h : 9 ≠ k) : GK K F' nu := by
  subst e
  unfold GK
  rw [au_n h]
  exact hg
theorem GD.au {F F' : Nat → Nat → Int32} {nu : Nat → Int64} {k i : Nat} {x : Int32} (hg : GD F nu) (e : F' = Au F k i x) (h : 9 ≠ k) : GD F' nu := fun f h1 h2 => (hg f h1 h2).au e h
theorem GD.e14 {F F' : Nat → Nat → Int32} {nu : Nat → Int64} (hg : GD F nu) (h : EQ14 F F') : GD F' nu := fun f h1 h2 => (hg f h1 h2).e14 h
theorem GD.sl {k : Nat} {F F' : Nat → Nat → Int32} {nu nu' : Nat → Int64} (hg : GD F nu) (hk : k < 4000) (h : SL k F nu F' nu') : GD F' nu' := fun f h1 h2 => h.gk (by omega) (hg f h1 h2)
theorem EQ14.rf {F : Nat → Nat → Int32} : EQ14 F F := fun _ _ => rfl
theorem EQ14.trans {F F1 F2 : Nat → Nat → Int32} (h1 : EQ14 F F1) (h2 : EQ14 F1 F2) : EQ14 F F2 := fun q hq => (h2 q hq).trans (h1 q hq)
theorem EQ14.au {F F' : Nat → Nat → Int32} {i : Nat} {x : Int32} (e : F' = Au F 14 i x) : EQ14 F F' := by
  subst e
  intro q hq
  exact au_n hq
-- numbers
theorem cmp_ge {x y : Int64} {v : Int32} (e : v = lg_cmp x y) (h : ¬ v < 0) : y.toInt ≤ x.toInt := by
  subst e
  unfold lg_cmp at h
  by_cases h1 : x > y
  · have := Int64.lt_iff_toInt_lt.mp h1
    omega
  · rw [if_neg h1] at h
    by_cases h2 : x = y
    · rw [h2]; exact Int.le_refl _
    · rw [if_neg h2] at h
      exact absurd (by decide) h
theorem cmp_le {x y : Int64} {v : Int32} (e : v = lg_cmp x y) (h : ¬ 0 < v) : x.toInt ≤ y.toInt := by
  subst e
  unfold lg_cmp at h
  by_cases h1 : x > y
  · rw [if_pos h1] at h
    exact absurd (by decide) h
  · exact Int.not_lt.mp (fun h2 => h1 (Int64.lt_iff_toInt_lt.mpr h2))
theorem cmp_lt {x y : Int64} {v : Int32} (e : v = lg_cmp x y) (h : v < 0) : x.toInt < y.toInt := by
  by_cases h1 : x.toInt < y.toInt
  · exact h1
  · exfalso
    subst e
    unfold lg_cmp at h
    by_cases h2 : x > y
    · rw [if_pos h2] at h
      exact absurd h (by decide)
    · rw [if_neg h2] at h
      have h3 : x = y := by
        apply Int64.toInt_inj.mp
        have : ¬ y.toInt < x.toInt := fun h4 => h2 (Int64.lt_iff_toInt_lt.mpr h4)
        omega
      rw [if_pos h3] at h
      exact absurd h (by decide)
theorem cmp_gt {x y : Int64} {v : Int32} (e : v = lg_cmp x y) (h : 0 < v) : y.toInt < x.toInt := by
  by_cases h1 : y.toInt < x.toInt
  · exact h1
  · exfalso
    subst e
    unfold lg_cmp at h
    by_cases h2 : x > y
    · have := Int64.lt_iff_toInt_lt.mp h2
      omega
    · rw [if_neg h2] at h
      by_cases h3 : x = y
      · rw [if_pos h3] at h
        exact absurd h (by decide)
      · rw [if_neg h3] at h
        exact absurd h (by decide)
theorem nn_inc {i j r : Int32} (e : j = i + 1) (h : ¬ i < 0) (hr : ¬ r ≤ i) : ¬ j < 0 := by
  obtain ⟨h1, h2⟩ := mu_up hr
  subst e
  rw [Int32.lt_iff_toInt_lt] at h ⊢
  rw [h1]
  have h3 : (0 : Int32).toInt = 0 := by decide
  omega
theorem vcmp {x v : Int32} {n : Nat} (h0 : ¬ x < 0) (ev : v = nI n) (h1 : ¬ v ≤ x) (hn : n < 2 ^ 31) : vp_in x n := by
  subst ev
  exact in_cmp h0 h1 hn
theorem vin_le {x : Int32} {n : Nat} (h0 : ¬ x < 0) (h1 : x.toInt < (n : Int)) : vp_in x n := by
  rw [Int32.lt_iff_toInt_lt] at h0
  have h3 : (0 : Int32).toInt = 0 := by decide
  exact vp_in_iff.mpr ⟨by omega, h1⟩
theorem vin_of {x : Int32} {j n : Nat} (e : x = nI j) (h : j < n) (hn : n < 2 ^ 31) : vp_in x n := by
  subst e
  exact vp_in_nI h hn
theorem vin_int {x : Int32} {n : Nat} (h : vp_in x n) : x.toInt = (x.toNatClampNeg : Int) := by
  have h0 : ¬ x < 0 := fun h2 => h (Or.inl h2)
  obtain ⟨j, hj, rfl⟩ := nI_of h0
  rw [nI_clamp hj, nI_toInt hj]
/-- a child's place -/
theorem ch_in {N r : Nat} {τ : Nat → Nat → Int32} {b mn : Nat → Nat} (hT : TR N r τ b mn) (hN : N ≤ 4000) {x y v : Int32} (hk : vp_in x N) (hj : vp_in y (mn x.toNatClampNeg)) (e : v = nI (tX b x.toNatClampNeg y.toNatClampNeg - 1)) : vp_in v N ∧ v.toNatClampNeg < x.toNatClampNeg ∧ v.toNatClampNeg = tX b x.toNatClampNeg y.toNatClampNeg - 1 := by
  have h1 := ch_ge hT (vix hk) (vix hj)
  have h2 := vix hk
  subst e
  refine ⟨vp_in_nI (by omega) (by omega), ?_, ?_⟩
  · rw [nI_clamp (by omega)]; exact h1.2
  · rw [nI_clamp (by omega)]
theorem ch_step {N r : Nat} {τ : Nat → Nat → Int32} {b mn : Nat → Nat} (hT : TR N r τ b mn) (hN : N ≤ 4000) {k i : Nat} {c : Int32} (hk : k < N) (hi : i < mn k) (e : c = nI (tX b k i - 1)) : vp_in c N ∧ τ 5 c.toNatClampNeg = nI (tX b k (i + 1)) := by
  have h1 := ch_ge hT hk hi
  have h2 := (hT.2.1 k hk).2.2.1 i hi
  subst e
  refine ⟨vp_in_nI (by omega) (by omega), ?_⟩
  rw [nI_clamp (by omega), (hT.1 _ (by omega)).1]
  obtain ⟨m, hm⟩ : ∃ m, tX b k i = m + 1 := ⟨tX b k i - 1, by omega⟩
  rw [tX_s hm, hm]
  rfl
theorem nI_sub1 {n : Nat} (h : 1 ≤ n) : nI n - 1 = nI (n - 1) := by
  obtain ⟨m, rfl⟩ : ∃ m, n = m + 1 := ⟨n - 1, by omega⟩
  rw [nI_pred]
  rfl
theorem mn_of {N r : Nat} {τ : Nat → Nat → Int32} {b mn : Nat → Nat} (hT : TR N r τ b mn) {x v : Int32} (hk : vp_in x N) (ev : v = τ 4 x.toNatClampNeg) : v = nI (mn x.toNatClampNeg) ∧ mn x.toNatClampNeg ≤ 4000 := ⟨ev.trans (hT.2.1 _ (vix hk)).1, (hT.2.1 _ (vix hk)).2.1⟩
theorem mn_eq {N r : Nat} {τ : Nat → Nat → Int32} {b mn : Nat → Nat} (hT : TR N r τ b mn) {x v : Int32} {n : Nat} (hk : vp_in x N) (ev : v = τ 4 x.toNatClampNeg) (hv : v = nI n) (hn : n < 2 ^ 31) : mn x.toNatClampNeg = n := by
  obtain ⟨h1, h2⟩ := mn_of hT hk ev
  exact (nI_eq (by omega) hn).mp (h1.symm.trans hv)
theorem fd_3 {σ σ1 σ2 σ3 : Nat → Int32} {x y z n : Int32} (e1 : σ1 = upd σ 32 x) (e2 : σ2 = upd σ1 33 y) (e3 : σ3 = upd σ2 34 z) (h : ¬ x = 1 ∧ ¬ x = 2 ∧ (x = 4 → ¬ 12 ≤ n)) (hy : y = n ∨ ¬ 11 < y) : FD σ3 := by
  subst e1 e2 e3
  unfold FD
  rw [pk_un (j := 32) (by decide), pk_un (j := 32) (by decide), pk_us, pk_un (j := 33) (by decide), pk_us]
  refine ⟨fun h2 => absurd h2 h.1, fun h2 => absurd h2 h.2.1, fun h2 => ?_⟩
  rcases hy with h3 | h3
  · subst h3
    intro h4
    have h5 := h.2.2 h2
    rw [Int32.le_iff_toInt_le] at h5
    rw [Int32.lt_iff_toInt_lt] at h4
    have e1 : (12 : Int32).toInt = 12 := by decide
    have e2 : (11 : Int32).toInt = 11 := by decide
    omega
  · exact h3
theorem fd_nm {τ : Nat → Nat → Int32} {σ σ1 σ2 σ3 : Nat → Int32} {x y z : Int32} {k : Nat} (hN : NM τ) (hk : k < 3000) (ex : x = τ 26 k) (ey : y = τ 27 k) (e1 : σ1 = upd σ 32 x) (e2 : σ2 = upd σ1 33 y) (e3 : σ3 = upd σ2 34 z) : FD σ3 := by
  subst e1 e2 e3 ex ey
  unfold FD
  rw [pk_un (j := 32) (by decide), pk_un (j := 32) (by decide), pk_us, pk_un (j := 33) (by decide), pk_us]
  exact hN k hk
theorem slt_fact {F F1 F2 F3 F4 F5 : Nat → Nat → Int32} {nu nu5 : Nat → Int64} {k : Nat} {c n z w : Int32} {v : Int64} (e1 : F1 = Au F 9 k c) (e2 : F2 = Au F1 10 k n) (e3 : F3 = Au F2 11 k z) (e4 : F4 = Au F3 12 k w) (hE : EQ14 F4 F5) (en : nu5 = vp_updL nu k v) : SLT k c n v F nu F5 nu5 ∧ F5 11 = upd (F 11) k z := by
  subst e1 e2 e3 e4 en
  refine ⟨⟨?_, ?_, rfl⟩, ?_⟩
  · rw [hE 9 (by decide), au_n (by decide), au_n (by decide), au_n (by decide), au_s]
  · rw [hE 10 (by decide), au_n (by decide), au_n (by decide), au_s, au_n (by decide)]
  · rw [hE 11 (by decide), au_n (by decide), au_s, au_n (by decide), au_n (by decide)]
theorem au_10 {F F1 : Nat → Nat → Int32} {k i : Nat} {c : Int32} (e1 : F1 = Au F 9 k c) : F1 10 i = F 10 i := by
  rw [e1, au_n (by decide)]
theorem vsz {F : Nat → Nat → Int32} {f : Nat} {i v : Int32} (hZ : SZ F) (hf : f < 10000) (ev : v = F 10 f) (h0 : ¬ i < 0) (h1 : ¬ v ≤ i) : vp_in i 1000 := by
  obtain ⟨j, hj, e⟩ := hZ f hf
  exact vin (vcmp h0 (ev.trans e) h1 (by omega)) hj
theorem ft_row {τ : Nat → Nat → Int32} (hTY : TY τ) {t w v : Int32} (ht : vp_in t 1000) (e1 : w = τ 16 t.toNatClampNeg) (h : w = 3) (e2 : v = τ 19 t.toNatClampNeg) : ∃ j, j ≤ 1000 ∧ v = nI j := by
  obtain ⟨_, _, cn, _, _, h3, _, _, _, _, h8, _⟩ := hTY _ (vix ht) (e1.symm.trans h)
  exact ⟨cn, by omega, e2.trans h3⟩
theorem ob_in {τ : Nat → Nat → Int32} (hOB : OB τ) {v w : Int32} (hv : vp_in v 2000) (ew : w = τ 23 v.toNatClampNeg) : vp_in w 1000 := by
  obtain ⟨t, h1, h2⟩ := hOB _ (vix hv)
  exact vin_of (ew.trans h2) h1 (by omega)
theorem ro_ok {τ : Nat → Nat → Int32} {σ : Nat → Int32} (hOB : OB τ) {o : Nat} {v w z : Int32} (ho : o < 2000) (hoe : σ 33 = nI o) (ev : v = σ 33) (ew : w = τ 23 v.toNatClampNeg) (ez : z = τ 16 w.toNatClampNeg) (hz : z = 3) : ∃ o t, o < 2000 ∧ t < 1000 ∧ σ 33 = nI o ∧ τ 23 o = nI t ∧ τ 16 t = 3 := by
  have h1 : v.toNatClampNeg = o := by rw [ev, hoe, nI_clamp (by omega)]
  obtain ⟨t, h2, h3⟩ := hOB o ho
  have h4 : w.toNatClampNeg = t := by rw [ew, h1, h3, nI_clamp (by omega)]
  exact ⟨o, t, ho, h2, hoe, h3, by rw [← h4, ← ez]; exact hz⟩
theorem slt9 {k : Nat} {c n : Int32} {v : Int64} {F F' : Nat → Nat → Int32} {nu nu' : Nat → Int64} (h : SLT k c n v F nu F' nu') : F' 9 k = c := by rw [h.1, pk_us]
theorem slt9n {k j : Nat} {c n : Int32} {v : Int64} {F F' : Nat → Nat → Int32} {nu nu' : Nat → Int64} (h : SLT k c n v F nu F' nu') (hj : j ≠ k) : F' 9 j = F 9 j := by rw [h.1, pk_un hj]
theorem sltnn {k j : Nat} {c n : Int32} {v : Int64} {F F' : Nat → Nat → Int32} {nu nu' : Nat → Int64} (h : SLT k c n v F nu F' nu') (hj : j ≠ k) : nu' j = nu j := by rw [h.2.2]; exact if_neg hj
theorem GK.copy {k f : Nat} {n : Int32} {F F' : Nat → Nat → Int32} {nu nu' : Nat → Int64} (h : SLT k (F 9 f) n (nu f) F nu F' nu') (hg : GK f F nu) : GK k F' nu' := by
  intro h2
  rw [slt9 h] at h2
  rw [h.2.2]
  show -2147483648 < (if k = k then nu f else nu k).toInt ∧ (if k = k then nu f else nu k).toInt < 2147483648
  rw [if_pos rfl]
  exact hg h2
theorem vin8 {v w : Int32} (hv : vp_in v 2000) (e : w = 8000 + v) : vp_in w 10000 ∧ w.toNatClampNeg = 8000 + v.toNatClampNeg := by
  have h1 := vix hv
  rw [vnI hv] at e
  have e2 : w = nI (8000 + v.toNatClampNeg) := e.trans (nI_add 8000 _)
  exact ⟨vin_of e2 (by omega) (by omega), by rw [e2, nI_clamp (by omega)]⟩
theorem SL.kn {k : Nat} {F F' : Nat → Nat → Int32} {nu nu' : Nat → Int64} (h : EQ14 F F') (hn : nu' = nu ∨ nu' = vp_updL nu k 0) : SL k F nu F' nu' := by
  rcases hn with h1 | h1
  · subst h1; exact SL.e14 h
  · subst h1; exact (SL.e14 h).trans SL.num
theorem GK.kn {k : Nat} {F F' : Nat → Nat → Int32} {nu nu' : Nat → Int64} (hg : GK k F nu) (h : EQ14 F F') (hn : nu' = nu ∨ nu' = vp_updL nu k 0) : GK k F' nu' := by
  rcases hn with h1 | h1
  · subst h1; exact hg.e14 h
  · subst h1; exact GK.num (fun _ => by decide)
theorem ib_ok {x : Int64} {v w : Int32} (e1 : v = lg_cmp x 2147483647) (h1 : ¬ 0 < v) (e2 : w = lg_cmp x (-2147483647)) (h2 : 0 ≤ w) : -2147483648 < x.toInt ∧ x.toInt < 2147483648 := by
  have h3 := cmp_le e1 h1
  have h4 := cmp_ge e2 (Int32.not_lt.mpr h2)
  have h5 : (2147483647 : Int64).toInt = 2147483647 := by decide
  have h6 : (-2147483647 : Int64).toInt = -2147483647 := by decide
  omega
theorem vp0 {n : Nat} (h : 0 < n) (h2 : n < 2 ^ 31) : vp_in 0 n := vp_in_nI (n := 0) h h2
theorem vp1 {n : Nat} (h : 1 < n) (h2 : n < 2 ^ 31) : vp_in 1 n := vp_in_nI (n := 1) h h2
theorem wi_ok {τ : Nat → Nat → Int32} {x : Int64} {t : Nat} {v w y z : Int32} {y2 z2 : Int64} {a1 a2 b1 b2 : Int32} (ea1 : a1 = τ 17 t) (ea2 : a2 = τ 18 t) (eb1 : b1 = τ 17 t) (eb2 : b2 = τ 18 t) (ey : y = if a2 < a1 then a2 else a1) (ez : z = if b1 < b2 then b2 else b1) (ey2 : y2 = y.toInt64) (ez2 : z2 = z.toInt64) (ev : v = lg_cmp x y2) (hv : ¬ v < 0) (ew : w = lg_cmp x z2) (hw : ¬ 0 < w) : ∀ lo hi : Nat, τ 17 t = nI lo → τ 18 t = nI hi → lo < 2 ^ 31 → hi < 2 ^ 31 → (lo : Int) ≤ x.toInt ∧ x.toInt ≤ (hi : Int) ∨ (hi : Int) ≤ x.toInt ∧ x.toInt ≤ (lo : Int) := by
  intro lo hi h1 h2 h3 h4
  have h5 := cmp_ge ev hv
  have h6 := cmp_le ew hw
  subst ea1 ea2 eb1 eb2
  rw [ey2, Int32.toInt_toInt64] at h5
  rw [ez2, Int32.toInt_toInt64] at h6
  rw [h1, h2] at ey ez
  by_cases h7 : hi < lo
  · rw [if_pos (nI_lt h7 h3)] at ey
    rw [if_neg (nI_nlt (Nat.le_of_lt h7) h3)] at ez
    rw [ey, nI_toInt h4] at h5
    rw [ez, nI_toInt h3] at h6
    exact Or.inr ⟨h5, h6⟩
  · rw [if_neg (nI_nlt (Nat.not_lt.mp h7) h4)] at ey
    rw [ey, nI_toInt h3] at h5
    refine Or.inl ⟨h5, ?_⟩
    by_cases h8 : lo < hi
    · rw [if_pos (nI_lt h8 h4)] at ez
      rw [ez, nI_toInt h4] at h6
      exact h6
    · rw [if_neg (nI_nlt (Nat.not_lt.mp h8) h3)] at ez
      rw [ez, nI_toInt h3] at h6
      omega
theorem sz_pred {F : Nat → Nat → Int32} {f : Nat} {v : Int32} (hZ : SZ F) (hf : f < 10000) (ev : v = F 10 f) : (v - 1).toInt < 1000 := by
  obtain ⟨j, hj, e⟩ := hZ f hf
  rw [ev, e]
  have := pr_lt (N := j) (by omega)
  omega
theorem i0_int {x : Int32} (h : ¬ x < 0) : 0 ≤ x.toInt := by
  rw [Int32.lt_iff_toInt_lt] at h
  have h3 : (0 : Int32).toInt = 0 := by decide
  omega
theorem mn_eq1 {N r : Nat} {τ : Nat → Nat → Int32} {b mn : Nat → Nat} (hT : TR N r τ b mn) {x v : Int32} (hk : vp_in x N) (ev : v = τ 4 x.toNatClampNeg) (hv : v = 1) : mn x.toNatClampNeg = 1 := mn_eq hT hk ev (n := 1) hv (by omega)
theorem mn_eq2 {N r : Nat} {τ : Nat → Nat → Int32} {b mn : Nat → Nat} (hT : TR N r τ b mn) {x v : Int32} (hk : vp_in x N) (ev : v = τ 4 x.toNatClampNeg) (hv : v = 2) : mn x.toNatClampNeg = 2 := mn_eq hT hk ev (n := 2) hv (by omega)
theorem gk_eq {F F1 : Nat → Nat → Int32} {nu nu1 : Nat → Int64} {k a : Nat} {c n w d : Int32} {v : Int64} (hq : SLT k c n v F nu F1 nu1) (ec : c = F 9 a) (ha : a < k) (ew : w = F1 9 a) (hw : w = d) (hd : ¬ d = 2) : ¬ F1 9 k = 2 := by
  rw [slt9 hq, ec, ← slt9n hq (Nat.ne_of_lt ha), ← ew, hw]
  exact hd
theorem gk_ne {F F1 : Nat → Nat → Int32} {nu nu1 : Nat → Int64} {k a : Nat} {c n w : Int32} {v : Int64} (hq : SLT k c n v F nu F1 nu1) (ec : c = F 9 a) (ha : a < k) (ew : w = F1 9 a) (hw : ¬ w = 2) : ¬ F1 9 k = 2 := by
  rw [slt9 hq, ec, ← slt9n hq (Nat.ne_of_lt ha), ← ew]
  exact hw
theorem gk_neg {F F1 : Nat → Nat → Int32} {nu nu1 : Nat → Int64} {k a : Nat} {c n : Int32} {v w x : Int64} (hq : SLT k c n v F nu F1 nu1) (ec : c = F 9 a) (ha : a < k) (hg : GK a F nu) (ew : w = nu1 a) (hx : x = w ∨ x = -w) : F1 9 k = 2 → -2147483648 < x.toInt ∧ x.toInt < 2147483648 := by
  intro h
  rw [slt9 hq, ec] at h
  have h1 := hg h
  rw [sltnn hq (Nat.ne_of_lt ha)] at ew
  rcases hx with h2 | h2
  · rw [h2, ew]; exact h1
  · rw [h2, ew, Int64.toInt_neg]
    have h3 : (-(nu a).toInt).bmod (2 ^ 64) = -(nu a).toInt := Int.bmod_eq_of_le (by omega) (by omega)
    rw [h3]
    omega
theorem jn_ok {p q v1 v2 : Int32} (hp : ∃ j, j ≤ 1000 ∧ p = nI j) (hq : ∃ j, j ≤ 1000 ∧ q = nI j) (e1 : v1 = p + q) (h : v1 ≤ 64) (e2 : v2 = p + q) : ∃ j, j ≤ 1000 ∧ v2 = nI j := by
  obtain ⟨j1, h1, rfl⟩ := hp
  obtain ⟨j2, h2, rfl⟩ := hq
  rw [nI_add] at e1 e2
  subst e1
  have h3 : j1 + j2 ≤ 64 := (nI_leI (by omega) (by omega)).mp h
  exact ⟨j1 + j2, by omega, e2⟩
theorem vle {i q : Int32} (hq : ∃ j, j ≤ 1000 ∧ q = nI j) (h0 : ¬ i < 0) (h1 : ¬ q ≤ i) : vp_in i 1000 := by
  obtain ⟨j, h2, e⟩ := hq
  exact vin (vcmp h0 e h1 (by omega)) h2
theorem vadd {i q v : Int32} (hq : ∃ j, j ≤ 1000 ∧ q = nI j) (hi : vp_in i 1000) (e : v = q + i) : vp_in v 2000 := by
  obtain ⟨j, h2, rfl⟩ := hq
  have h1 := vix hi
  rw [vnI hi, nI_add] at e
  exact vin_of e (by omega) (by omega)
theorem l2i_in {w : Int64} {v : Int32} {n : Nat} (ev : v = w.toInt32) (h0 : 0 ≤ w.toInt) (h1 : w.toInt < (n : Int)) (hn : n < 2 ^ 31) : vp_in v n := by
  have h2 : v.toInt = w.toInt := by
    rw [ev, Int64.toInt_toInt32]
    exact Int.bmod_eq_of_le (by omega) (by omega)
  exact vp_in_iff.mpr ⟨by omega, by omega⟩
theorem sh_in {w s64 : Int64} {c1 c2 s v : Int32} (e1 : c1 = lg_cmp w 0) (h1 : ¬ c1 < 0) (es : s64 = s.toInt64) (hs : ∃ j, j ≤ 1000 ∧ s = nI j) (e2 : c2 = lg_cmp w s64) (h2 : ¬ 0 ≤ c2) (ev : v = w.toInt32) : vp_in v 1000 := by
  have h3 := cmp_ge e1 h1
  have h4 := cmp_lt e2 (Int32.not_le.mp h2)
  obtain ⟨j, h5, rfl⟩ := hs
  rw [es, Int32.toInt_toInt64, nI_toInt (by omega)] at h4
  have h6 : (0 : Int64).toInt = 0 := by decide
  exact l2i_in ev (by omega) (by omega) (by omega)
theorem ap_ok {F F1 : Nat → Nat → Int32} {k : Nat} {t v : Int32} {P : Prop} (ev : v = F1 11 k) (hc : F1 11 = upd (F 11) k (vp_nar .boolean t)) (hv : ¬ v = 0) (ht : t = 0 ∨ P) : P := by
  rcases ht with h | h
  · exfalso
    apply hv
    rw [ev, hc, pk_us, h]
    rfl
  · exact h
theorem lsub_int {x y d : Int64} (e : d = x - y) (h1 : -4294967296 ≤ x.toInt) (h2 : x.toInt ≤ 4294967296) (h3 : -4294967296 ≤ y.toInt) (h4 : y.toInt ≤ 4294967296) : d.toInt = x.toInt - y.toInt := by
  rw [e, Int64.toInt_sub]
  exact Int.bmod_eq_of_le (by omega) (by omega)
theorem ladd_int {x y d : Int64} (e : d = x + y) (h1 : -8589934592 ≤ x.toInt) (h2 : x.toInt ≤ 8589934592) (h3 : -8589934592 ≤ y.toInt) (h4 : y.toInt ≤ 8589934592) : d.toInt = x.toInt + y.toInt := by
  rw [e, Int64.toInt_add]
  exact Int.bmod_eq_of_le (by omega) (by omega)
theorem hi_int {h : Int32} {w : Int64} {z : Int32} {hi : Nat} (eh : h = z) (ez : z = nI hi) (ew : w = h.toInt64) (hh : hi < 2 ^ 31) : w.toInt = (hi : Int) := by
  rw [ew, Int32.toInt_toInt64, eh, ez, nI_toInt hh]
theorem f11 {x : Int32} (h1 : 10 ≤ x) (h2 : ¬ x = 10) (h3 : ¬ 11 < x) : x = 11 := by
  apply Int32.toInt_inj.mp
  have h4 : x.toInt ≠ 10 := fun h => h2 (Int32.toInt_inj.mp h)
  rw [Int32.le_iff_toInt_le] at h1
  rw [Int32.lt_iff_toInt_lt] at h3
  have e1 : (10 : Int32).toInt = 10 := by decide
  have e2 : (11 : Int32).toInt = 11 := by decide
  omega
theorem nb_ok {x : Int64} {v w : Int32} (e1 : v = lg_cmp x 0) (h1 : ¬ v < 0) (e2 : w = lg_cmp x 2147483647) (h2 : w ≤ 0) : -2147483648 < x.toInt ∧ x.toInt < 2147483648 := by
  have h3 := cmp_ge e1 h1
  have h4 := cmp_le e2 (Int32.not_lt.mpr h2)
  have h5 : (2147483647 : Int64).toInt = 2147483647 := by decide
  have h6 : (0 : Int64).toInt = 0 := by decide
  omega
theorem fb_ok {F : Nat → Nat → Int32} {nu : Nat → Int64} {b : Nat} {v i : Int32} {n : Int64} (h : F 11 b = 0 ∨ (1 ≤ (nu b).toInt ∧ (nu b).toInt ≤ 64)) (ev : v = F 11 b) (hv : ¬ v = 0) (en : n = nu b) (ei : i = n.toInt32) : ∃ j, j ≤ 1000 ∧ i = nI j := by
  have h1 := h.resolve_left (fun h2 => hv (ev.trans h2))
  rw [← en] at h1
  have h2 := l2i_in (n := 65) ei (by omega) (by omega) (by omega)
  have h3 := vix h2
  exact ⟨_, by omega, vnI h2⟩
theorem c_ge1 {x : Int64} {v : Int32} (e : v = lg_cmp x 1) (h : ¬ v < 0) : 1 ≤ x.toInt := by
  have h1 := cmp_ge e h
  have h2 : (1 : Int64).toInt = 1 := by decide
  omega
theorem c_le64 {x : Int64} {v : Int32} (e : v = lg_cmp x 64) (h : v ≤ 0) : x.toInt ≤ 64 := by
  have h1 := cmp_le e (Int32.not_lt.mpr h)
  have h2 : (64 : Int64).toInt = 64 := by decide
  omega
theorem vb_ok {v v2 z : Int32} {w : Int64} (ew : w = v.toInt64) (ev : v = z) (ev2 : v2 = z) (h : 0 ≤ v2) : -2147483648 < w.toInt ∧ w.toInt < 2147483648 := by
  rw [ew, Int32.toInt_toInt64, ev, ← ev2]
  rw [Int32.le_iff_toInt_le] at h
  have h1 : v2.toInt ≤ 2147483647 := by have h9 := Int32.toInt_le v2; rw [show Int32.maxValue.toInt = 2147483647 by decide] at h9; exact h9
  have e1 : (0 : Int32).toInt = 0 := by decide
  omega
theorem at_b {v : Int32} {w : Int64} (ew : w = v.toInt64) (hv : ∃ j, j < 2 ^ 31 ∧ v = nI j) : -2147483648 < w.toInt ∧ w.toInt < 2147483648 := by
  obtain ⟨j, h1, rfl⟩ := hv
  rw [ew, Int32.toInt_toInt64, nI_toInt h1]
  omega
theorem at_if {a b v : Int32} {P : Prop} {_ : Decidable P} (e : v = if P then a else b) (ha : ∃ j, j < 2 ^ 31 ∧ a = nI j) (hb : ∃ j, j < 2 ^ 31 ∧ b = nI j) : ∃ j, j < 2 ^ 31 ∧ v = nI j := by
  by_cases h : P
  · rw [if_pos h] at e; rw [e]; exact ha
  · rw [if_neg h] at e; rw [e]; exact hb
theorem pr_in {N r : Nat} {τ : Nat → Nat → Int32} {b mn : Nat → Nat} (hT : TR N r τ b mn) (hN : N ≤ 4000) {x v : Int32} (hk : vp_in x N) (hm : 0 < mn x.toNatClampNeg) (e : v = x - 1) : vp_in v N := by
  have h1 := (hT.2.1 _ (vix hk)).2.2.1 0 hm
  have h3 := vix hk
  have h2 : v = nI (x.toNatClampNeg - 1) := by
    rw [e]
    have h9 := nI_sub1 (n := x.toNatClampNeg) h1
    rw [← vnI hk] at h9
    exact h9
  exact vin_of h2 (by omega) (by omega)
theorem bl_b {τ : Nat → Nat → Int32} {N r : Nat} {b mn : Nat → Nat} (hT : TR N r τ b mn) (hN : N ≤ 4000) {x i v : Int32} (hx : vp_in x N) (hi : vp_in i N) (ev : v = τ 5 i.toNatClampNeg) : v = nI (b i.toNatClampNeg) ∧ (x < v ↔ x.toNatClampNeg < b i.toNatClampNeg) := by
  obtain ⟨h1, h2⟩ := hT.1 _ (vix hi)
  have h3 := vix hx
  have h4 := vix hi
  have e := ev.trans h1
  refine ⟨e, ?_⟩
  have h5 : x < v ↔ nI x.toNatClampNeg < nI (b i.toNatClampNeg) := by rw [← vnI hx, ← e]
  exact h5.trans (nI_ltI (by omega) (by omega))
/-- both ends of a slice -/
theorem sl_ok {lo hi : Nat} {x y n : Int64} {g dn : Int32} (hlo : lo < 2 ^ 31) (hhi : hi < 2 ^ 31) (h1 : lo ≤ hi + 63) (h2 : hi ≤ lo + 63) (hu : dn = 0 → lo ≤ hi) (hd : ¬ dn = 0 → hi ≤ lo) (hg : g = dn)
    (hx : (lo : Int) ≤ x.toInt ∧ x.toInt ≤ (hi : Int) ∨ (hi : Int) ≤ x.toInt ∧ x.toInt ≤ (lo : Int)) (hy : (lo : Int) ≤ y.toInt ∧ y.toInt ≤ (hi : Int) ∨ (hi : Int) ≤ y.toInt ∧ y.toInt ≤ (lo : Int))
    (hn : (¬ g = 0 ∧ n = x - y + 1) ∨ (g = 0 ∧ n = y - x + 1)) (hp : 1 ≤ n.toInt) : n.toInt ≤ 64 ∧ ((¬ g = 0 ∧ (hi : Int) ≤ y.toInt ∧ y.toInt - hi + n.toInt ≤ 64) ∨ (g = 0 ∧ y.toInt ≤ (hi : Int) ∧ (hi : Int) - y.toInt + n.toInt ≤ 64)) := by
  have e1 : (1 : Int64).toInt = 1 := by decide
  rcases hn with ⟨h3, h4⟩ | ⟨h3, h4⟩
  · have h5 := lsub_int (x := x) (y := y) rfl (by omega) (by omega) (by omega) (by omega)
    have h6 := ladd_int (x := x - y) (y := 1) h4 (by omega) (by omega) (by omega) (by omega)
    have h7 := hd (by rw [← hg]; exact h3)
    refine ⟨by omega, Or.inl ⟨h3, by omega, by omega⟩⟩
  · have h5 := lsub_int (x := y) (y := x) rfl (by omega) (by omega) (by omega) (by omega)
    have h6 := ladd_int (x := y - x) (y := 1) h4 (by omega) (by omega) (by omega) (by omega)
    have h7 := hu (by rw [← hg]; exact h3)
    refine ⟨by omega, Or.inr ⟨h3, by omega, by omega⟩⟩
theorem sz_of {n : Int64} {v : Int32} (h1 : 1 ≤ n.toInt) (h2 : n.toInt ≤ 64) (e : v = n.toInt32) : ∃ j, j ≤ 1000 ∧ v = nI j := by
  have h3 := l2i_in (n := 65) e (by omega) (by omega) (by omega)
  have h4 := vix h3
  exact ⟨_, by omega, vnI h3⟩
theorem sl_j {j w : Int32} {j64 n : Int64} (h0 : ¬ j < 0) (ej : j64 = j.toInt64) (e : w = lg_cmp j64 n) (h : ¬ 0 ≤ w) (hn : n.toInt ≤ 64) : vp_in j 64 ∧ j.toInt < 2147483647 ∧ j.toInt < n.toInt := by
  have h1 := cmp_lt e (Int32.not_le.mp h)
  rw [ej, Int32.toInt_toInt64] at h1
  have h2 := i0_int h0
  exact ⟨vin_le h0 (by omega), by omega, h1⟩
theorem sl_e {l j v : Int32} {d n : Int64} (el : l = d.toInt32) (hd : 0 ≤ d.toInt) (hs : d.toInt + n.toInt ≤ 64) (hj : vp_in j 64) (hjn : j.toInt < n.toInt) (ev : v = l + j) : vp_in v 64 := by
  have h1 := vin_int hj
  have h0 := l2i_in (n := 64) el hd (by omega) (by omega)
  have h2 := vix h0
  have h3 := vin_int h0
  have h5 : l.toInt = d.toInt := by
    rw [el, Int64.toInt_toInt32]
    exact Int.bmod_eq_of_le (by omega) (by omega)
  rw [vnI h0, vnI hj, nI_add] at ev
  exact vin_of ev (by omega) (by omega)
theorem bl_e {A A2 : Nat} {i x : Int32} (hA0 : 0 < A) (e : i = nI A) (hA : A ≤ 4000) (h : x < i) (h2 : A2 ≤ x.toNatClampNeg) : A2 < A := by
  rw [Int32.lt_iff_toInt_lt, e, nI_toInt (by omega)] at h
  by_cases h0 : x < 0
  · have h1 : x.toNatClampNeg = 0 := by
      rw [Int32.lt_iff_toInt_lt] at h0
      have e0 : (0 : Int32).toInt = 0 := by decide
      rw [← Int32.toNat_toInt]
      omega
    omega
  · obtain ⟨j, hj, rfl⟩ := nI_of h0
    rw [nI_clamp hj] at h2
    rw [nI_toInt hj] at h
    omega
theorem lr_64 {v : Int32} {n : Nat} (e : v = nI n) (hn : n < 2 ^ 31) (h : ¬ 64 < v) : n ≤ 64 := by
  subst e
  exact Nat.not_lt.mp (fun h9 => h ((nI_ltI (a := 64) (b := n) (by omega) hn).mpr h9))
theorem bl_0 {τ : Nat → Nat → Int32} {b : Nat → Nat} {k to A : Nat} {i : Int32} (h : (i = 0 ∧ ∀ q, k < q → q < A → ¬ (τ 2 q = 25 ∧ b q ≤ k)) ∨ (i = 1 ∧ hid τ b k to)) (h0 : i = 0) : ∀ q, k < q → q < A → ¬ (τ 2 q = 25 ∧ b q ≤ k) := by
  rcases h with ⟨_, h1⟩ | ⟨h1, _⟩
  · exact h1
  · exact absurd (h0.symm.trans h1) (by decide)
theorem bl_1 {τ : Nat → Nat → Int32} {b : Nat → Nat} {k to A : Nat} {i : Int32} (h : (i = 0 ∧ ∀ q, k < q → q < A → ¬ (τ 2 q = 25 ∧ b q ≤ k)) ∨ (i = 1 ∧ hid τ b k to)) (h0 : ¬ i = 0) : hid τ b k to := by
  rcases h with ⟨h1, _⟩ | ⟨_, h1⟩
  · exact absurd h1 h0
  · exact h1
theorem bl_z {P Q : Prop} {i : Int32} (h : (i = 0 ∧ P) ∨ (i = 1 ∧ Q)) : narrow .boolean (.int i) = .int i := by
  rcases h with ⟨h1, _⟩ | ⟨h1, _⟩ <;> rw [h1] <;> rfl
theorem bl_end {τ : Nat → Nat → Int32} {b : Nat → Nat} {k A : Nat} {i x i4 : Int32} (h : (i = 0 ∧ ∀ q, k < q → q < A → ¬ (τ 2 q = 25 ∧ b q ≤ k)) ∨ (i = 1 ∧ hid τ b k x.toNatClampNeg)) (hk : k < A) (e : i4 = nI A) (hA : A ≤ 4000) (hx : x < i4) : (i = 0 ∧ ¬ hid τ b k x.toNatClampNeg) ∨ (i = 1 ∧ hid τ b k x.toNatClampNeg) := by
  rcases h with ⟨h1, h2⟩ | h1
  · refine Or.inl ⟨h1, ?_⟩
    rintro ⟨a, w1, w2, w3, w4⟩
    exact h2 a w1 (bl_e (by omega) e hA hx w2) ⟨w3, w4⟩
  · exact Or.inr h1
theorem bl_bk {τ : Nat → Nat → Int32} {b : Nat → Nat} {k to A : Nat} {i t i4 : Int32} (h45 : (t = 0 ∧ i = 0 ∧ ¬ (τ 2 i4.toNatClampNeg = 25 ∧ b i4.toNatClampNeg ≤ k)) ∨ (t = 1 ∧ hid τ b k to)) (h : (i = 0 ∧ ∀ q, k < q → q < A → ¬ (τ 2 q = 25 ∧ b q ≤ k)) ∨ (i = 1 ∧ hid τ b k to)) (e : i4.toNatClampNeg = A) : (t = 0 ∧ ∀ q, k < q → q < A + 1 → ¬ (τ 2 q = 25 ∧ b q ≤ k)) ∨ (t = 1 ∧ hid τ b k to) := by
  rcases h45 with ⟨q1, q2, q3⟩ | h1
  · refine Or.inl ⟨q1, fun q h8 h9 => ?_⟩
    rcases Nat.lt_or_ge q A with h7 | h7
    · exact bl_0 h q2 q h8 h7
    · have h6 : q = A := by omega
      rw [e] at q3
      rw [h6]
      exact q3
  · exact Or.inr h1
theorem bl_8 {N : Nat} {i x : Int32} (hi : vp_in i N) (h : i.toInt ≤ x.toInt) (hx : x.toInt < (N : Int)) : i.toNatClampNeg ≤ x.toNatClampNeg := by
  have h1 := vin_int hi
  have h2 : vp_in x N := vp_in_iff.mpr ⟨by omega, hx⟩
  have h3 := vin_int h2
  omega
theorem i_le {x y : Int32} (h : ¬ y < x) : x.toInt ≤ y.toInt := by
  have h9 := Int32.not_lt.mp h
  rw [Int32.le_iff_toInt_le] at h9
  exact h9
theorem lf_mn {N r : Nat} {τ : Nat → Nat → Int32} {b mn : Nat → Nat} (hT : TR N r τ b mn) {x v t f : Int32} (hk : vp_in x N) (ev : v = τ 4 x.toNatClampNeg) (hv : v = t) {P : Prop} (ht : (t = 2 ∧ f = 11 ∧ P) ∨ (t = 1 ∧ ¬ f = 11)) : (0 < mn x.toNatClampNeg ∧ mn x.toNatClampNeg ≤ 4000) ∧ (f = 11 → mn x.toNatClampNeg = 2) := by
  have h0 := (mn_of hT hk ev).2
  rcases ht with ⟨h1, h2, _⟩ | ⟨h1, h2⟩
  · have h3 := mn_eq2 hT hk ev (hv.trans h1)
    exact ⟨by omega, fun _ => h3⟩
  · have h3 := mn_eq1 hT hk ev (hv.trans h1)
    exact ⟨by omega, fun h => absurd h h2⟩
theorem ap_d1 {lo hi : Nat} {a h64 m h642 m2 d : Int64} {q : Int32} (hlo : lo < 2 ^ 31) (hhi : hi < 2 ^ 31) (hd1 : lo ≤ hi + 63) (hd2 : hi ≤ lo + 63) (hw : (lo : Int) ≤ a.toInt ∧ a.toInt ≤ (hi : Int) ∨ (hi : Int) ≤ a.toInt ∧ a.toInt ≤ (lo : Int)) (eh : h64.toInt = (hi : Int)) (em : m = a) (eq : q = lg_cmp h64 m) (hq : ¬ q ≤ 0) (eh2 : h642.toInt = (hi : Int)) (em2 : m2 = a) (ed : d = h642 - m2) : 0 ≤ d.toInt ∧ d.toInt ≤ 63 := by
  subst em em2
  have h1 := cmp_gt eq (Int32.not_le.mp hq)
  have h2 := lsub_int ed (by omega) (by omega) (by omega) (by omega)
  omega
theorem ap_d2 {lo hi : Nat} {a h64 m h642 m2 d : Int64} {q : Int32} (hlo : lo < 2 ^ 31) (hhi : hi < 2 ^ 31) (hd1 : lo ≤ hi + 63) (hd2 : hi ≤ lo + 63) (hw : (lo : Int) ≤ a.toInt ∧ a.toInt ≤ (hi : Int) ∨ (hi : Int) ≤ a.toInt ∧ a.toInt ≤ (lo : Int)) (eh : h64.toInt = (hi : Int)) (em : m = a) (eq : q = lg_cmp h64 m) (hq : q ≤ 0) (eh2 : h642.toInt = (hi : Int)) (em2 : m2 = a) (ed : d = m2 - h642) : 0 ≤ d.toInt ∧ d.toInt ≤ 63 := by
  subst em em2
  have h1 := cmp_le eq (Int32.not_lt.mpr hq)
  have h2 := lsub_int ed (by omega) (by omega) (by omega) (by omega)
  omega
theorem sl_d1 {hi : Nat} {y n y1 h d : Int64} {g : Int32} (hhi : hi < 2 ^ 31) (hs : (¬ g = 0 ∧ (hi : Int) ≤ y.toInt ∧ y.toInt - hi + n.toInt ≤ 64) ∨ (g = 0 ∧ y.toInt ≤ (hi : Int) ∧ (hi : Int) - y.toInt + n.toInt ≤ 64)) (hg : ¬ g = 0) (ey : y1 = y) (eh : h.toInt = (hi : Int)) (ed : d = y1 - h) (hn : 1 ≤ n.toInt) : 0 ≤ d.toInt ∧ d.toInt + n.toInt ≤ 64 := by
  subst ey
  rcases hs with ⟨_, h1, h2⟩ | ⟨h1, _⟩
  · have h3 := lsub_int ed (by omega) (by omega) (by omega) (by omega)
    omega
  · exact absurd h1 hg
theorem sl_d2 {hi : Nat} {y n y1 h d : Int64} {g : Int32} (hhi : hi < 2 ^ 31) (hs : (¬ g = 0 ∧ (hi : Int) ≤ y.toInt ∧ y.toInt - hi + n.toInt ≤ 64) ∨ (g = 0 ∧ y.toInt ≤ (hi : Int) ∧ (hi : Int) - y.toInt + n.toInt ≤ 64)) (hg : g = 0) (ey : y1 = y) (eh : h.toInt = (hi : Int)) (ed : d = h - y1) (hn : 1 ≤ n.toInt) : 0 ≤ d.toInt ∧ d.toInt + n.toInt ≤ 64 := by
  subst ey
  rcases hs with ⟨h1, _⟩ | ⟨_, h1, h2⟩
  · exact absurd hg h1
  · have h3 := lsub_int ed (by omega) (by omega) (by omega) (by omega)
    omega
theorem nn_inc2 {i j : Int32} (e : j = i + 1) (h : ¬ i < 0) (hr : i.toInt < 2147483647) : ¬ j < 0 := by
  have h1 := mu_lt hr
  subst e
  rw [Int32.lt_iff_toInt_lt] at h ⊢
  rw [h1]
  have h3 : (0 : Int32).toInt = 0 := by decide
  omega
-- passes over trees
theorem gt_a {τ : Nat → Nat → Int32} {b : Nat → Nat} {f k to : Nat} {F : Nat → Nat → Int32} {nu : Nat → Int64} (h : ∀ j, f ≤ j → j < k → ¬ hid τ b j to → GK j F nu) (hh : hid τ b k to) : ∀ j, f ≤ j → j < k + 1 → ¬ hid τ b j to → GK j F nu := by
  intro j h1 h2 h3
  rcases Nat.lt_or_ge j k with h4 | h4
  · exact h j h1 h4 h3
  · have h5 : j = k := by omega
    rw [h5] at h3
    exact absurd hh h3
theorem gt_b {τ : Nat → Nat → Int32} {b : Nat → Nat} {f k to : Nat} {F F' : Nat → Nat → Int32} {nu nu' : Nat → Int64} (h : ∀ j, f ≤ j → j < k → ¬ hid τ b j to → GK j F nu) (hL : SL k F nu F' nu') (hK : GK k F' nu') : ∀ j, f ≤ j → j < k + 1 → ¬ hid τ b j to → GK j F' nu' := by
  intro j h1 h2 h3
  by_cases h5 : j = k
  · rw [h5]; exact hK
  · exact hL.gk h5 (h j h1 (by omega) h3)
theorem ix_inc {i j : Int32} {N : Nat} (hi : vp_in i N) (hN : N ≤ 4000) (e : j = i + 1) : j.toNatClampNeg = i.toNatClampNeg + 1 ∧ ¬ j < 0 := by
  have h1 := vix hi
  rw [vnI hi] at e
  have e2 : j = nI (i.toNatClampNeg + 1) := e.trans (nI_succ _).symm
  exact ⟨by rw [e2, nI_clamp (by omega)], by rw [e2]; exact nI_pos (by omega)⟩
theorem in_le {i x : Int32} {N : Nat} (h0 : ¬ i < 0) (h1 : ¬ x < i) (h2 : x.toInt < (N : Int)) : vp_in i N ∧ i.toInt ≤ x.toInt := by
  have h3 := i_le h1
  exact ⟨vin_le h0 (by omega), h3⟩
theorem bl_n {P : Prop} {v : Int32} (h : (v = 0 ∧ ¬ P) ∨ (v = 1 ∧ P)) (hv : v = 0) : ¬ P := by
  rcases h with ⟨_, h1⟩ | ⟨h1, _⟩
  · exact h1
  · exact absurd (hv.symm.trans h1) (by decide)
theorem bl_y {P : Prop} {v : Int32} (h : (v = 0 ∧ ¬ P) ∨ (v = 1 ∧ P)) (hv : ¬ v = 0) : P := by
  rcases h with ⟨h1, _⟩ | ⟨_, h1⟩
  · exact absurd h1 hv
  · exact h1
theorem gt_end {τ : Nat → Nat → Int32} {b : Nat → Nat} {f to : Nat} {i x : Int32} {F : Nat → Nat → Int32} {nu : Nat → Int64} (h : ∀ j, f ≤ j → j < i.toNatClampNeg → ¬ hid τ b j to → GK j F nu) (h0 : ¬ i < 0) (hx : x < i) : ∀ j : Nat, f ≤ j → (j : Int) ≤ x.toInt → ¬ hid τ b j to → GK j F nu := by
  intro j h1 h2 h3
  obtain ⟨q, hq, rfl⟩ := nI_of h0
  rw [Int32.lt_iff_toInt_lt, nI_toInt hq] at hx
  exact h j h1 (by rw [nI_clamp hq]; omega) h3
theorem vin4 {v w : Int32} (hv : vp_in v 4000) (e : w = 4000 + v) : vp_in w 8000 ∧ w.toNatClampNeg = 4000 + v.toNatClampNeg := by
  have h1 := vix hv
  rw [vnI hv] at e
  have e2 : w = nI (4000 + v.toNatClampNeg) := e.trans (nI_add 4000 _)
  exact ⟨vin_of e2 (by omega) (by omega), by rw [e2, nI_clamp (by omega)]⟩
theorem GD.cp {w k : Nat} {n : Int32} {F F' : Nat → Nat → Int32} {nu nu' : Nat → Int64} (hG : GD F nu) (hq : SLT w (F 9 k) n (nu k) F nu F' nu') (hk : GK k F nu) : GD F' nu' := by
  intro f h1 h2
  by_cases h : f = w
  · rw [h]; exact GK.copy hq hk
  · exact (SL.slt hq).gk h (hG f h1 h2)
theorem low_cp {w : Nat} {c n : Int32} {v : Int64} {F0 F F' : Nat → Nat → Int32} {nu0 nu nu' : Nat → Int64} (h : ∀ j, j < 4000 → F 9 j = F0 9 j ∧ nu j = nu0 j) (hq : SLT w c n v F nu F' nu') (hw : 4000 ≤ w) : ∀ j, j < 4000 → F' 9 j = F0 9 j ∧ nu' j = nu0 j := fun j hj => ⟨(slt9n hq (by omega)).trans (h j hj).1, (sltnn hq (by omega)).trans (h j hj).2⟩
theorem low_au {F0 F F' : Nat → Nat → Int32} {nu0 nu : Nat → Int64} {k i : Nat} {x : Int32} (h : ∀ j, j < 4000 → F 9 j = F0 9 j ∧ nu j = nu0 j) (e : F' = Au F k i x) (hk : 9 ≠ k) : ∀ j, j < 4000 → F' 9 j = F0 9 j ∧ nu j = nu0 j := fun j hj => by
  rw [e, au_n hk]
  exact h j hj
theorem low_gk {F0 F : Nat → Nat → Int32} {nu0 nu : Nat → Int64} {j : Nat} (h : ∀ j, j < 4000 → F 9 j = F0 9 j ∧ nu j = nu0 j) (hj : j < 4000) (hg : GK j F0 nu0) : GK j F nu := by
  intro h2
  rw [(h j hj).1] at h2
  rw [(h j hj).2]
  exact hg h2
-- the static part after a change
theorem ixn {v : Int32} {n : Nat} (e : v = nI n) (h : n < 2 ^ 31) : v.toNatClampNeg = n := by rw [e, nI_clamp h]
theorem TR.congr {N r : Nat} {τ τ' : Nat → Nat → Int32} {b mn : Nat → Nat} (h : TR N r τ b mn) (h5 : τ' 5 = τ 5) (h4 : τ' 4 = τ 4) (h7 : τ' 7 = τ 7) : TR N r τ' b mn := by
  unfold TR at *
  rw [h5, h4, h7]
  exact h
abbrev ROWP (c x y n z : Int32) : Prop := c = 3 → ∃ lo hi cn : Nat, x = nI lo ∧ y = nI hi ∧ n = nI cn ∧ lo < 2 ^ 31 ∧ hi < 2 ^ 31 ∧ lo ≤ hi + 63 ∧ hi ≤ lo + 63 ∧ cn ≤ 64 ∧ (z = 0 → lo ≤ hi) ∧ (¬ z = 0 → hi ≤ lo)
theorem nt_st {κ b mn : Nat → Nat} {ν ν1 : Nat → Int32} {τ τ1 τ2 τ3 τ4 τ5 : Nat → Nat → Int32} {j1 j2 j3 j4 j5 : Nat} {c x y n z w : Int32} (hT : ST κ b mn ν τ) (hN : κ 2 < 1000) (e1 : τ1 = Au τ 16 j1 c) (e2 : τ2 = Au τ1 17 j2 x) (e3 : τ3 = Au τ2 18 j3 y) (e4 : τ4 = Au τ3 19 j4 n) (e5 : τ5 = Au τ4 20 j5 z) (q1 : j1 = κ 2) (q2 : j2 = κ 2) (q3 : j3 = κ 2) (q4 : j4 = κ 2) (q5 : j5 = κ 2) (eν : ν1 = upd ν 21 w) (ew : w = nI (κ 2 + 1)) (hrow : ROWP c x y n z) : ST (ku κ 2 (κ 2 + 1)) b mn ν1 τ5 := by
  obtain ⟨⟨a0, a1, a2, a3, a4, a5, a6⟩, ⟨v6, v8, v21, v24, v30, v31⟩, hTR, hTY, hOB, hNM⟩ := hT
  subst e1 e2 e3 e4 e5 q1 eν ew
  subst q2 q3 q4 q5
  refine ⟨⟨a0, a1, hN, a3, a4, a5, a6⟩, ⟨v6, v8, rfl, v24, v30, v31⟩, hTR.congr rfl rfl rfl, ?_, hOB, hNM⟩
  intro t ht h3
  have h3 : upd (τ 16) (κ 2) c t = 3 := h3
  show ∃ lo hi cn : Nat, upd (τ 17) (κ 2) x t = nI lo ∧ upd (τ 18) (κ 2) y t = nI hi ∧ upd (τ 19) (κ 2) n t = nI cn ∧ lo < 2 ^ 31 ∧ hi < 2 ^ 31 ∧ lo ≤ hi + 63 ∧ hi ≤ lo + 63 ∧ cn ≤ 64 ∧ (upd (τ 20) (κ 2) z t = 0 → lo ≤ hi) ∧ (¬ upd (τ 20) (κ 2) z t = 0 → hi ≤ lo)
  by_cases h : t = κ 2
  · subst h
    rw [pk_us] at h3
    rw [pk_us, pk_us, pk_us, pk_us]
    exact hrow h3
  · rw [pk_un h] at h3
    rw [pk_un h, pk_un h, pk_un h, pk_un h]
    exact hTY t ht h3
theorem nm_st {κ b mn : Nat → Nat} {ν ν1 : Nat → Int32} {τ τ1 τ2 τ3 τ4 τ5 : Nat → Nat → Int32} {j1 j2 j3 j4 j5 : Nat} {c x y n z w : Int32} (hT : ST κ b mn ν τ) (hN : κ 4 < 3000) (e1 : τ1 = Au τ 25 j1 c) (e2 : τ2 = Au τ1 26 j2 x) (e3 : τ3 = Au τ2 27 j3 y) (e4 : τ4 = Au τ3 28 j4 n) (e5 : τ5 = Au τ4 29 j5 z) (q2 : j2 = κ 4) (q3 : j3 = κ 4) (eν : ν1 = upd ν 30 w) (ew : w = nI (κ 4 + 1)) (hm : (x = 1 → ∃ o, o < 2000 ∧ y = nI o) ∧ (x = 2 → ∃ o, o ≤ 1000 ∧ y = nI o) ∧ (x = 4 → ¬ 11 < y)) : ST (ku κ 4 (κ 4 + 1)) b mn ν1 τ5 := by
  obtain ⟨⟨a0, a1, a2, a3, a4, a5, a6⟩, ⟨v6, v8, v21, v24, v30, v31⟩, hTR, hTY, hOB, hNM⟩ := hT
  subst e1 e2 e3 e4 e5 q2 eν ew
  subst q3
  refine ⟨⟨a0, a1, a2, a3, hN, a5, a6⟩, ⟨v6, v8, v21, v24, rfl, v31⟩, hTR.congr rfl rfl rfl, hTY, hOB, ?_⟩
  intro k hk
  show (upd (τ 26) (κ 4) x k = 1 → ∃ o, o < 2000 ∧ upd (τ 27) (κ 4) y k = nI o) ∧ (upd (τ 26) (κ 4) x k = 2 → ∃ o, o ≤ 1000 ∧ upd (τ 27) (κ 4) y k = nI o) ∧ (upd (τ 26) (κ 4) x k = 4 → ¬ 11 < upd (τ 27) (κ 4) y k)
  by_cases h : k = κ 4
  · subst h
    rw [pk_us, pk_us]
    exact hm
  · rw [pk_un h, pk_un h]
    exact hNM k hk
theorem ob_st {κ b mn : Nat → Nat} {ν : Nat → Int32} {τ τ1 τ2 : Nat → Nat → Int32} {j1 j2 : Nat} {x y : Int32} (hT : ST κ b mn ν τ) (e1 : τ1 = Au τ 22 j1 x) (e2 : τ2 = Au τ1 23 j2 y) (hy : vp_in y 1000) : ST κ b mn ν τ2 := by
  obtain ⟨ha, hv, hTR, hTY, hOB, hNM⟩ := hT
  subst e1 e2
  refine ⟨ha, hv, hTR.congr rfl rfl rfl, hTY, ?_, hNM⟩
  intro o ho
  show ∃ t, t < 1000 ∧ upd (τ 23) j2 y o = nI t
  by_cases h : o = j2
  · subst h
    rw [pk_us]
    exact ⟨_, vix hy, vnI hy⟩
  · rw [pk_un h]
    exact hOB o ho
theorem st_3 {κ b mn : Nat → Nat} {ν ν1 : Nat → Int32} {τ : Nat → Nat → Int32} {w : Int32} {n : Nat} (hT : ST κ b mn ν τ) (hn : n ≤ 2000) (eν : ν1 = upd ν 24 w) (ew : w = nI n) : ST (ku κ 3 n) b mn ν1 τ := by
  obtain ⟨⟨a0, a1, a2, a3, a4, a5, a6⟩, ⟨v6, v8, v21, v24, v30, v31⟩, h⟩ := hT
  subst eν ew
  exact ⟨⟨a0, a1, a2, hn, a4, a5, a6⟩, ⟨v6, v8, v21, rfl, v30, v31⟩, h⟩
theorem st_4 {κ b mn : Nat → Nat} {ν ν1 : Nat → Int32} {τ : Nat → Nat → Int32} {w : Int32} {n : Nat} (hT : ST κ b mn ν τ) (hn : n ≤ 3000) (eν : ν1 = upd ν 30 w) (ew : w = nI n) : ST (ku κ 4 n) b mn ν1 τ := by
  obtain ⟨⟨a0, a1, a2, a3, a4, a5, a6⟩, ⟨v6, v8, v21, v24, v30, v31⟩, h⟩ := hT
  subst eν ew
  exact ⟨⟨a0, a1, a2, a3, hn, a5, a6⟩, ⟨v6, v8, v21, v24, rfl, v31⟩, h⟩
theorem st_5 {κ b mn : Nat → Nat} {ν ν1 : Nat → Int32} {τ : Nat → Nat → Int32} {w : Int32} {n : Nat} (hT : ST κ b mn ν τ) (h1 : 1 ≤ n) (hn : n ≤ 32) (eν : ν1 = upd ν 31 w) (ew : w = nI n) : ST (ku κ 5 n) b mn ν1 τ := by
  obtain ⟨⟨a0, a1, a2, a3, a4, a5, a6⟩, ⟨v6, v8, v21, v24, v30, v31⟩, h⟩ := hT
  subst eν ew
  exact ⟨⟨a0, a1, a2, a3, a4, h1, hn⟩, ⟨v6, v8, v21, v24, v30, rfl⟩, h⟩
theorem st_cl {κ b mn : Nat → Nat} {ν ν1 ν2 : Nat → Int32} {τ : Nat → Nat → Int32} (hT : ST κ b mn ν τ) (e1 : ν1 = upd ν 6 0) (e2 : ν2 = upd ν1 8 0) : ST (ku (ku κ 0 0) 1 0) b mn ν2 τ := by
  obtain ⟨⟨a0, a1, a2, a3, a4, a5, a6⟩, ⟨v6, v8, v21, v24, v30, v31⟩, hTR, h⟩ := hT
  subst e1 e2
  exact ⟨⟨Nat.zero_le _, Nat.zero_le _, a2, a3, a4, a5, a6⟩, ⟨rfl, rfl, v21, v24, v30, v31⟩, ⟨fun c hc => absurd hc (Nat.not_lt_zero _), fun c hc => absurd hc (Nat.not_lt_zero _), fun c hc => absurd hc (Nat.not_lt_zero _)⟩, h⟩
theorem cd_0 {σ σ1 : Nat → Int32} {t v : Int32} {P : Prop} (e : σ1 = upd σ 0 t) (ev : v = σ1 0) (hv : v ≤ 0) (h : 0 < t ∨ (t = 0 ∧ P)) : P := by
  have h1 : v = t := by rw [ev, e, pk_us]
  rcases h with h2 | h2
  · rw [h1] at hv
    exact absurd h2 (Int32.not_lt.mpr hv)
  · exact h2.2
theorem inc_n {v w : Int32} {n : Nat} (ev : v = nI n) (ew : w = v + 1) : w = nI (n + 1) := by rw [ew, ev, nI_succ]
theorem ad_st {κ b mn : Nat → Nat} {ν ν1 ν2 ν3 : Nat → Int32} {τ τ1 τ2 τ3 τ4 τ5 : Nat → Nat → Int32} {j1 j2 j3 j4 j5 n : Nat} {k v x bg y w1 w2 w3 : Int32} (hT : ST κ b mn ν τ) (hN : κ 0 < 4000) (ex : x = nI n) (hn : n ≤ κ 1)
    (e1 : τ1 = Au τ 2 j1 k) (e2 : τ2 = Au τ1 3 j2 v) (e3 : τ3 = Au τ2 4 j3 x) (e4 : τ4 = Au τ3 5 j4 bg) (e5 : τ5 = Au τ4 7 j5 y) (q3 : j3 = κ 0) (q4 : j4 = κ 0) (q5 : j5 = κ 1 - n) (hbg : bg = nI (tX b (κ 0) n)) (hy : y = nI (κ 0))
    (f1 : ν1 = upd ν 8 w1) (f2 : ν2 = upd ν1 8 w2) (f3 : ν3 = upd ν2 6 w3) (g2 : w2 = nI (κ 1 - n + 1)) (g3 : w3 = nI (κ 0 + 1)) :
    ST (ku (ku κ 0 (κ 0 + 1)) 1 (κ 1 - n + 1)) (fun c => if c = κ 0 then tX b (κ 0) n else b c) (fun c => if c = κ 0 then n else mn c) ν3 τ5 := by
  obtain ⟨⟨a0, a1, a2, a3, a4, a5, a6⟩, ⟨v6, v8, v21, v24, v30, v31⟩, hTR, hTY, hOB, hNM⟩ := hT
  subst e1 e2 e3 e4 e5 f1 f2 f3 g2 g3
  subst q3 q4 q5
  refine ⟨⟨hN, (by show κ 1 - n + 1 ≤ κ 0 + 1; omega), a2, a3, a4, a5, a6⟩, ⟨rfl, rfl, v21, v24, v30, v31⟩, ?_, hTY, hOB, hNM⟩
  refine tr_add hTR hn (by omega) (fun c hc => ?_) (fun c hc => ?_) (fun c hc => ?_) ?_ ?_ ?_
  · show upd (τ 5) (κ 0) bg c = τ 5 c
    exact pk_un (by omega)
  · show upd (τ 4) (κ 0) x c = τ 4 c
    exact pk_un (by omega)
  · show upd (τ 7) (κ 1 - n) y c = τ 7 c
    exact pk_un (by omega)
  · show upd (τ 5) (κ 0) bg (κ 0) = _
    rw [pk_us]; exact hbg
  · show upd (τ 4) (κ 0) x (κ 0) = _
    rw [pk_us]; exact ex
  · show upd (τ 7) (κ 1 - n) y (κ 1 - n) = _
    rw [pk_us]; exact hy
theorem bg_ok {N r : Nat} {τ : Nat → Nat → Int32} {b mn : Nat → Nat} (hT : TR N r τ b mn) (hN : N ≤ 4000) {x v : Int32} (hx : vp_in x N) (ev : v = τ 5 x.toNatClampNeg) : ¬ v < 0 ∧ v.toNatClampNeg = b x.toNatClampNeg := by
  have h1 := vix hx
  obtain ⟨h2, h3⟩ := hT.1 _ h1
  have e := ev.trans h2
  exact ⟨by rw [e]; exact nI_pos (by omega), ixn e (by omega)⟩
theorem pm_int {N : Nat} {x w : Int32} (hx : vp_in x N) (hN : N ≤ 4000) (e : w = x - 1) : w.toInt = (x.toNatClampNeg : Int) - 1 := by
  have h1 := vix hx
  rw [vnI hx] at e
  cases h : x.toNatClampNeg with
  | zero => rw [e, h]; decide
  | succ m =>
    rw [h] at e h1
    rw [nI_pred] at e
    rw [e, nI_toInt (by omega)]
    omega
theorem x_int {N : Nat} {x : Int32} (hx : vp_in x N) : x.toInt < (N : Int) := by
  rw [vin_int hx]
  have := vix hx
  omega
theorem ty_gk {N r : Nat} {τ : Nat → Nat → Int32} {b mn : Nat → Nat} {F : Nat → Nat → Int32} {nu : Nat → Int64} {x y a v w : Int32} (hT : TR N r τ b mn) (hN : N ≤ 4000) (hx : vp_in x N) (hv : v.toNatClampNeg = b x.toNatClampNeg) (hw : w.toInt = (x.toNatClampNeg : Int) - 1) (hg : ∀ j : Nat, v.toNatClampNeg ≤ j → (j : Int) ≤ w.toInt → ¬ hid τ b j w.toNatClampNeg → GK j F nu) (hj : vp_in y (mn x.toNatClampNeg)) (ha : a.toNatClampNeg = tX b x.toNatClampNeg y.toNatClampNeg - 1) : GK a.toNatClampNeg F nu := by
  obtain ⟨h1, h2⟩ := ch_ge hT (vix hx) (vix hj)
  have h3 := hid_ty hT (vix hx) (vix hj)
  have h6 := vix hx
  have h4 : w.toNatClampNeg = x.toNatClampNeg - 1 := by
    have h5 := vin_int (vp_in_iff.mpr (show 0 ≤ w.toInt ∧ w.toInt < ((4000 : Nat) : Int) by omega))
    omega
  rw [ha]
  exact hg _ (by rw [hv]; exact h1) (by omega) (by rw [h4]; exact h3)
theorem c_ge0 {x : Int64} {v : Int32} (e : v = lg_cmp x 0) (h : ¬ v < 0) : 0 ≤ x.toInt := by
  have h1 := cmp_ge e h
  have h2 : (0 : Int64).toInt = 0 := by decide
  omega
theorem ne_lt {v c : Int32} {n m : Nat} (ev : v = nI n) (h : ¬ v = c) (ec : c = nI m) (hn : n ≤ m) : n < m := by
  rcases Nat.lt_or_ge n m with h1 | h1
  · exact h1
  · exfalso
    apply h
    rw [ev, ec, show n = m by omega]
theorem ty_row {c x y n d k : Int32} {l r m : Int64} (hc : (c = 2 ∧ k = 11) ∨ (c = 3 ∧ ¬ k = 11)) (hd : (d = 1 ∧ k = 13) ∨ (d = 0 ∧ ¬ k = 13)) (hk : k = 11 ∨ k = 12 ∨ k = 13) (hm : (k = 12 ∧ m = r - l + 1) ∨ (k = 13 ∧ m = l - r + 1) ∨ (¬ k = 12 ∧ ¬ k = 13)) (h64 : m.toInt ≤ 64) (h4 : k ≤ 11 ∨ (1 ≤ m.toInt ∧ 0 ≤ l.toInt ∧ 0 ≤ r.toInt)) (hl : -2147483648 < l.toInt ∧ l.toInt < 2147483648) (hr : -2147483648 < r.toInt ∧ r.toInt < 2147483648) (ex : x = l.toInt32) (ey : y = r.toInt32) (en : n = m.toInt32) : ROWP c x y n (vp_nar .boolean d) := by
  intro h3
  have hk2 : ¬ k = 11 := by
    rcases hc with ⟨h, _⟩ | ⟨_, h⟩
    · exact absurd (h.symm.trans h3) (by decide)
    · exact h
  have e1 : (1 : Int64).toInt = 1 := by decide
  rcases hk with h | h | h
  · exact absurd h hk2
  · have h5 : 1 ≤ m.toInt ∧ 0 ≤ l.toInt ∧ 0 ≤ r.toInt := by
      rcases h4 with h6 | h6
      · rw [h] at h6; exact absurd h6 (by decide)
      · exact h6
    have h6 : m = r - l + 1 := by
      rcases hm with ⟨_, h7⟩ | ⟨h7, _⟩ | ⟨h7, _⟩
      · exact h7
      · rw [h] at h7; exact absurd h7 (by decide)
      · exact absurd h h7
    have h7 := lsub_int (x := r) (y := l) rfl (by omega) (by omega) (by omega) (by omega)
    have h8 := ladd_int (x := r - l) (y := 1) h6 (by omega) (by omega) (by omega) (by omega)
    have h9 : d = 0 := by
      rcases hd with ⟨_, h10⟩ | ⟨h10, _⟩
      · rw [h] at h10; exact absurd h10 (by decide)
      · exact h10
    subst h9
    have ix : x = nI l.toInt.toNat := by
      apply Int32.toInt_inj.mp
      rw [ex, Int64.toInt_toInt32, nI_toInt (by omega)]
      rw [Int.bmod_eq_of_le (by omega) (by omega)]
      omega
    have iy : y = nI r.toInt.toNat := by
      apply Int32.toInt_inj.mp
      rw [ey, Int64.toInt_toInt32, nI_toInt (by omega)]
      rw [Int.bmod_eq_of_le (by omega) (by omega)]
      omega
    have inn : n = nI m.toInt.toNat := by
      apply Int32.toInt_inj.mp
      rw [en, Int64.toInt_toInt32, nI_toInt (by omega)]
      rw [Int.bmod_eq_of_le (by omega) (by omega)]
      omega
    exact ⟨_, _, _, ix, iy, inn, by omega, by omega, by omega, by omega, by omega, fun _ => by omega, fun h10 => absurd rfl h10⟩
  · have h5 : 1 ≤ m.toInt ∧ 0 ≤ l.toInt ∧ 0 ≤ r.toInt := by
      rcases h4 with h6 | h6
      · rw [h] at h6; exact absurd h6 (by decide)
      · exact h6
    have h6 : m = l - r + 1 := by
      rcases hm with ⟨h7, _⟩ | ⟨_, h7⟩ | ⟨_, h7⟩
      · rw [h] at h7; exact absurd h7 (by decide)
      · exact h7
      · exact absurd h h7
    have h7 := lsub_int (x := l) (y := r) rfl (by omega) (by omega) (by omega) (by omega)
    have h8 := ladd_int (x := l - r) (y := 1) h6 (by omega) (by omega) (by omega) (by omega)
    have h9 : d = 1 := by
      rcases hd with ⟨h10, _⟩ | ⟨_, h10⟩
      · exact h10
      · exact absurd h h10
    subst h9
    have ix : x = nI l.toInt.toNat := by
      apply Int32.toInt_inj.mp
      rw [ex, Int64.toInt_toInt32, nI_toInt (by omega)]
      rw [Int.bmod_eq_of_le (by omega) (by omega)]
      omega
    have iy : y = nI r.toInt.toNat := by
      apply Int32.toInt_inj.mp
      rw [ey, Int64.toInt_toInt32, nI_toInt (by omega)]
      rw [Int.bmod_eq_of_le (by omega) (by omega)]
      omega
    have inn : n = nI m.toInt.toNat := by
      apply Int32.toInt_inj.mp
      rw [en, Int64.toInt_toInt32, nI_toInt (by omega)]
      rw [Int.bmod_eq_of_le (by omega) (by omega)]
      omega
    exact ⟨_, _, _, ix, iy, inn, by omega, by omega, by omega, by omega, by omega, fun h10 => absurd h10 (by decide), fun _ => by omega⟩
theorem hid_self {τ : Nat → Nat → Int32} {b : Nat → Nat} {k : Nat} : ¬ hid τ b k k := by
  rintro ⟨a, h1, h2, _⟩
  omega
theorem hid_cg {τ τ' : Nat → Nat → Int32} {b : Nat → Nat} {k to : Nat} (h : τ' 2 = τ 2) (hh : hid τ b k to) : hid τ' b k to := by
  obtain ⟨a, h1, h2, h3, h4⟩ := hh
  exact ⟨a, h1, h2, by rw [h]; exact h3, h4⟩
theorem sub_nn {N r : Nat} {τ : Nat → Nat → Int32} {b mn : Nat → Nat} (hT : TR N r τ b mn) (hN : N ≤ 4000) {x n v : Int32} (hx : vp_in x N) (hn : n = nI (mn x.toNatClampNeg)) (e : v = x - n) : ¬ v < 0 ∧ v = nI (x.toNatClampNeg - mn x.toNatClampNeg) ∧ mn x.toNatClampNeg ≤ x.toNatClampNeg := by
  have h1 := vix hx
  have h2 := tX_sub (fun c hc => (hT.1 c hc).2) (Nat.le_of_lt h1) (mn x.toNatClampNeg) (hT.2.1 _ h1).2.2.1
  have e2 : v = nI (x.toNatClampNeg - mn x.toNatClampNeg) := by
    rw [e, hn]
    have h3 := pk_sub (a := x.toNatClampNeg) (b := mn x.toNatClampNeg) (by omega)
    rw [← vnI hx] at h3
    exact h3
  exact ⟨by rw [e2]; exact nI_pos (by omega), e2, by omega⟩
theorem en_le {c n a w : Int32} {C N : Nat} (ec : c = nI C) (en : n = nI N) (ea : a = c + n) (ew : w = a + 1) (h : w ≤ 3000) (hC : C ≤ 4000) (hN : N ≤ 4000) : C + N + 1 ≤ 3000 := by
  rw [ec, en, nI_add] at ea
  have e2 : w = nI (C + N + 1) := inc_n ea ew
  rw [e2] at h
  exact (nI_leI (a := C + N + 1) (b := 3000) (by omega) (by omega)).mp h
theorem en_ix {N r : Nat} {τ : Nat → Nat → Int32} {b mn : Nat → Nat} (hT : TR N r τ b mn) (hN : N ≤ 4000) {x n v i w : Int32} (hx : vp_in x N) (hn : n = nI (mn x.toNatClampNeg)) (e : v = x - n) (hi : vp_in i (mn x.toNatClampNeg)) (ew : w = v + i) : vp_in w 4000 := by
  obtain ⟨_, h2, h3⟩ := sub_nn hT hN hx hn e
  have h1 := vix hx
  have h4 := vix hi
  rw [h2, vnI hi, nI_add] at ew
  exact vin_of ew (by omega) (by omega)
theorem le_n {x : Int32} {N : Nat} (h0 : ¬ x < 0) (h1 : ¬ nI N < x) (hN : N ≤ 4000) : ∃ n, n ≤ N ∧ x = nI n := by
  obtain ⟨j, hj, rfl⟩ := nI_of h0
  exact ⟨j, Nat.not_lt.mp (fun h9 => h1 ((nI_ltI (by omega) hj).mpr h9)), rfl⟩
theorem ad_ix {v x w : Int32} {N n : Nat} (ev : v = nI N) (ex : x = nI n) (hn : n ≤ N) (ew : w = v - x) : w = nI (N - n) := by
  rw [ew, ev, ex]
  exact pk_sub hn
theorem ad_rt {N r n : Nat} {τ τ' : Nat → Nat → Int32} {b mn : Nat → Nat} {v u : Int32} (hT : TR N r τ b mn) (hN : N ≤ 4000) (hr : r ≤ N) (hn : n ≤ r) (h0 : 1 ≤ n) (h7 : τ' 7 = τ 7) (hv : v = nI (r - n)) (eu : u = τ' 7 v.toNatClampNeg) : u = nI (tX b N (n - 1) - 1) ∧ tX b N (n - 1) - 1 < N ∧ 1 ≤ tX b N (n - 1) := by
  obtain ⟨h1, h2⟩ := hT.2.2 (n - 1) (by omega)
  have h3 := tX_le (fun c hc => (hT.1 c hc).2) (Nat.le_refl N) (n - 1)
  refine ⟨?_, by omega, h1⟩
  rw [eu, h7, ixn hv (by omega), ← h2]
  congr 1
  omega
theorem ad_b1 {N r n : Nat} {τ τ' : Nat → Nat → Int32} {b mn : Nat → Nat} {u g : Int32} (hT : TR N r τ b mn) (hN : N ≤ 4000) (h0 : 1 ≤ n) (h5 : τ' 5 = τ 5) (hu : u = nI (tX b N (n - 1) - 1) ∧ tX b N (n - 1) - 1 < N ∧ 1 ≤ tX b N (n - 1)) (eg : g = τ' 5 u.toNatClampNeg) : g = nI (tX b N n) := by
  obtain ⟨h1, h2, h3⟩ := hu
  rw [eg, h5, ixn h1 (by omega), (hT.1 _ h2).1]
  obtain ⟨m, hm⟩ : ∃ m, tX b N (n - 1) = m + 1 := ⟨tX b N (n - 1) - 1, by omega⟩
  have h4 : tX b N n = b m := by
    have h5 := tX_s hm
    rw [show n - 1 + 1 = n by omega] at h5
    exact h5
  rw [h4, hm]
  rfl
theorem ad_b0 {N n : Nat} {b : Nat → Nat} {x g : Int32} (eg : g = nI N) (ex : x = nI n) (h0 : x = 0) (hn : n ≤ 4000) : g = nI (tX b N n) := by
  have h1 : n = 0 := (nI_eq (by omega) (by omega)).mp (ex.symm.trans h0)
  subst h1
  exact eg
theorem n_one {x : Int32} {n : Nat} (ex : x = nI n) (h : ¬ x = 0) : 1 ≤ n := by
  rcases Nat.eq_zero_or_pos n with h1 | h1
  · subst h1
    exact absurd ex h
  · exact h1
theorem n_one2 {x : Int32} {n : Nat} (ex : x = nI n) (h : ¬ x ≤ 0) : 1 ≤ n := by
  rcases Nat.eq_zero_or_pos n with h1 | h1
  · subst h1
    exact absurd (by rw [ex]; decide) h
  · exact h1
theorem eq_n {v c : Int32} {n m : Nat} (ev : v = nI n) (h : v = c) (ec : c = nI m) (hn : n < 2 ^ 31) (hm : m < 2 ^ 31) : n = m := (nI_eq hn hm).mp (ev.symm.trans (h.trans ec))
theorem lv_cd {σ σ1 : Nat → Int32} {t v : Int32} {P Q : Prop} (h : (t = 1 ∧ P) ∨ (t = 0 ∧ Q)) (es : σ1 = upd σ 0 t) (ev : v = σ1 0) : (v ≤ 0 → σ1 0 = 0 ∧ Q) ∧ (¬ v ≤ 0 → σ1 0 = 1 ∧ P) ∧ (¬ v = 0 → σ1 0 = 1 ∧ P) ∧ (v = 0 → σ1 0 = 0 ∧ Q) := by
  have h1 : σ1 0 = t := by rw [es, pk_us]
  rw [h1] at ev ⊢
  subst ev
  rcases h with ⟨h2, h3⟩ | ⟨h2, h3⟩
  · rw [h2]
    exact ⟨fun h => absurd h (by decide), fun _ => ⟨rfl, h3⟩, fun _ => ⟨rfl, h3⟩, fun h => absurd h (by decide)⟩
  · rw [h2]
    exact ⟨fun _ => ⟨rfl, h3⟩, fun h => absurd (by decide) h, fun h => absurd rfl h, fun _ => ⟨rfl, h3⟩⟩
theorem dec_n {v w : Int32} {n : Nat} (ev : v = nI n) (ew : w = v - 1) (h : 1 ≤ n) : w = nI (n - 1) := by rw [ew, ev]; exact nI_sub1 h
theorem gt1 {v : Int32} {n : Nat} (ev : v = nI n) (h : ¬ v = 1) (hn : 1 ≤ n) : 1 < n := by
  rcases Nat.lt_or_ge 1 n with h1 | h1
  · exact h1
  · exfalso
    apply h
    rw [ev, show n = 1 by omega]
    rfl
theorem ad_cv {t : Int32} {P Q R : Prop} (h : (t = 1 ∧ P) ∨ (t = 2 ∧ Q) ∨ (t = 0 ∧ R)) : 0 < t ∨ (t = 0 ∧ R) := by
  rcases h with h | h | h
  · exact Or.inl (by rw [h.1]; decide)
  · exact Or.inl (by rw [h.1]; decide)
  · exact Or.inr h
theorem qw_50d7321591 : (Cond.methodLink R_Model 135 yModel_isLow) ∈ bs_W0 := bs_in (in_tables_1_6 (List.mem_of_getElem? (i := 110) rfl)) rfl
theorem qw_7b38890176 : (Cond.methodLink R_Model 138 yModel_isHigh) ∈ bs_W0 := bs_in (in_tables_1_6 (List.mem_of_getElem? (i := 113) rfl)) rfl
theorem qw_c5109eb5e5 : (Cond.methodLink R_Model 184 yModel_join) ∈ bs_W0 := bs_in (in_tables_1_6 (List.mem_of_getElem? (i := 130) rfl)) rfl
theorem qw_ecedfa5d8c : (Cond.methodLink R_Model 187 yModel_not) ∈ bs_W0 := bs_in (in_tables_1_6 (List.mem_of_getElem? (i := 107) rfl)) rfl
theorem qw_53e275eed6 : (Cond.fieldLink R_Model 99 R_Model "code" "I") ∈ bs_W0 := bs_in (in_tables_1_5 (List.mem_of_getElem? (i := 153) rfl)) rfl
set_option maxHeartbeats 4000000 in
set_option maxRecDepth 100000 in
theorem m_thrown (l : Launch) (γ : gE) (a : Nat) (B : Nat → Nat) (Z : Nat → Prop) (κ b mn : Nat → Nat) (ν : Nat → Int32) (τ : Nat → Nat → Int32) (σ : Nat → Int32) (F : Nat → Nat → Int32) (nu : Nat → Int64) (hT : ST κ b mn ν τ)   : PU l yModel_thrown bModel_thrown 1 (some .int) 0 0 [.ref a] γ (MD γ a B Z ν τ σ F nu) (vp_Si (fun v : Int32 => v = σ 0)) := by
  refine pu_openI (by decide) (Nat.le_of_ble_eq_true rfl) ?_
  intro p e s m args below meth c ls Q S hC hM hE hl
  obtain ⟨hx, hb, hml, hown, hW⟩ := id S
  obtain ⟨⟨hs0, hs1, hs2, hs3, hs4, hs5, hs6⟩, ⟨hv6, hv8, hv21, hv24, hv30, hv31⟩, hTR, hTY, hOB, hNM⟩ := id hT
  have hl : lv_has ls 1 [(0, .ref a)] := hl
  refine lv_aload_n hx hb dModel_thrown_0 rfl (lv_at hl 0 rfl) ?_
  refine md_gI S hC hM 0 (v := σ 0) rfl (by decide) rfl qw_53e275eed6 dModel_thrown_1 ?_
  refine lv_topi (fun v1 ev1 => ?_)
  exact hE _ _ _ ev1 dModel_thrown_4
theorem qw_f42008621b : (Cond.fieldLink R_Model 105 R_Model "nodes" "I") ∈ bs_W0 := bs_in (in_tables_1_5 (List.mem_of_getElem? (i := 159) rfl)) rfl
theorem qw_c82bee9e97 : (Cond.fieldLink R_Model 102 R_Model "types" "I") ∈ bs_W0 := bs_in (in_tables_1_5 (List.mem_of_getElem? (i := 174) rfl)) rfl
theorem qw_7e4081a75e : (Cond.fieldLink R_Model 23 R_Model "begin" "[I") ∈ bs_W0 := bs_in (in_tables_1_5 (List.mem_of_getElem? (i := 158) rfl)) rfl
theorem qw_8d5d48b583 : (Cond.fieldLink R_Model 115 R_Model "nameCount" "I") ∈ bs_W0 := bs_in (in_tables_1_5 (List.mem_of_getElem? (i := 183) rfl)) rfl
theorem qw_0f8ce80864 : (Cond.fieldLink R_Model 75 R_Model "names" "[I") ∈ bs_W0 := bs_in (in_tables_1_5 (List.mem_of_getElem? (i := 178) rfl)) rfl
theorem qw_6551c8877a : (Cond.fieldLink R_Model 87 R_Model "deep" "[I") ∈ bs_W0 := bs_in (in_tables_1_5 (List.mem_of_getElem? (i := 182) rfl)) rfl
theorem qw_e3979b88d4 : (Cond.fieldLink R_Model 90 R_Model "scopes" "I") ∈ bs_W0 := bs_in (in_tables_1_5 (List.mem_of_getElem? (i := 184) rfl)) rfl
theorem qw_e487507e04 : (Cond.fieldLink R_Model 47 R_Model "elements" "[B") ∈ bs_W0 := bs_in (in_tables_1_5 (List.mem_of_getElem? (i := 167) rfl)) rfl
theorem qw_bd0251c605 : (Cond.fieldLink R_Model 32 R_Model "size" "[I") ∈ bs_W0 := bs_in (in_tables_1_5 (List.mem_of_getElem? (i := 163) rfl)) rfl
theorem qw_ceb3d87d61 : (Cond.methodLink R_Model 131 yModel_element) ∈ bs_W0 := bs_in (in_tables_1_6 (List.mem_of_getElem? (i := 75) rfl)) rfl
theorem qw_6824d59f67 : (Cond.constantLong R_Model 141 2) ∈ bs_W0 := bs_in (in_tables_1_6 (List.mem_of_getElem? (i := 155) rfl)) rfl
theorem qw_143403ccb9 : (Cond.methodLink R_Model 127 yModel_setElement) ∈ bs_W0 := bs_in (in_tables_1_6 (List.mem_of_getElem? (i := 79) rfl)) rfl
theorem qw_a119aeeca0 : (Cond.fieldLink R_Model 29 R_Model "is" "[I") ∈ bs_W0 := bs_in (in_tables_1_5 (List.mem_of_getElem? (i := 162) rfl)) rfl
theorem qw_88b9028ba7 : (Cond.fieldLink R_Model 35 R_Model "constant" "[Z") ∈ bs_W0 := bs_in (in_tables_1_5 (List.mem_of_getElem? (i := 164) rfl)) rfl
theorem qw_19df235c4a : (Cond.fieldLink R_Model 39 R_Model "meaning" "[I") ∈ bs_W0 := bs_in (in_tables_1_5 (List.mem_of_getElem? (i := 165) rfl)) rfl
theorem qw_7b809afc8c : (Cond.fieldLink R_Model 42 R_Model "number" "[J") ∈ bs_W0 := bs_in (in_tables_1_5 (List.mem_of_getElem? (i := 166) rfl)) rfl
theorem qw_9bd8ea24bb : (Cond.fieldLink R_Model 54 R_Model "typeClass" "[I") ∈ bs_W0 := bs_in (in_tables_1_5 (List.mem_of_getElem? (i := 169) rfl)) rfl
theorem qw_c139dbceda : (Cond.fieldLink R_Model 63 R_Model "count" "[I") ∈ bs_W0 := bs_in (in_tables_1_5 (List.mem_of_getElem? (i := 172) rfl)) rfl
theorem qw_02871250ec : (Cond.methodLink R_Model 147 yModel_fact) ∈ bs_W0 := bs_in (in_tables_1_6 (List.mem_of_getElem? (i := 87) rfl)) rfl
theorem qw_9d5e299446 : (Cond.fieldLink R_Model 118 R_Model "found" "I") ∈ bs_W0 := bs_in (in_tables_1_5 (List.mem_of_getElem? (i := 185) rfl)) rfl
theorem qw_c60a40a4a7 : (Cond.fieldLink R_Model 121 R_Model "foundNumber" "I") ∈ bs_W0 := bs_in (in_tables_1_5 (List.mem_of_getElem? (i := 186) rfl)) rfl
theorem qw_6a7082029c : (Cond.fieldLink R_Model 124 R_Model "foundPlace" "I") ∈ bs_W0 := bs_in (in_tables_1_5 (List.mem_of_getElem? (i := 187) rfl)) rfl
theorem qw_e95de6bb1e : (Cond.fieldLink R_Model 78 R_Model "means" "[I") ∈ bs_W0 := bs_in (in_tables_1_5 (List.mem_of_getElem? (i := 179) rfl)) rfl
theorem qw_5b2f86bc41 : (Cond.fieldLink R_Model 81 R_Model "which" "[I") ∈ bs_W0 := bs_in (in_tables_1_5 (List.mem_of_getElem? (i := 180) rfl)) rfl
theorem qw_73fdadc701 : (Cond.fieldLink R_Model 84 R_Model "placeOf" "[I") ∈ bs_W0 := bs_in (in_tables_1_5 (List.mem_of_getElem? (i := 181) rfl)) rfl
theorem qw_94306de345 : (Cond.fieldLink R_Model 57 R_Model "low" "[I") ∈ bs_W0 := bs_in (in_tables_1_5 (List.mem_of_getElem? (i := 170) rfl)) rfl
theorem qw_82ee92f611 : (Cond.fieldLink R_Model 60 R_Model "high" "[I") ∈ bs_W0 := bs_in (in_tables_1_5 (List.mem_of_getElem? (i := 171) rfl)) rfl
theorem qw_31ea7262cf : (Cond.methodLink R_Model 239 Lib.Math.min.name) ∈ bs_W0 := bs_in (in_tables_1_6 (List.mem_of_getElem? (i := 189) rfl)) rfl
theorem qw_f0aff25a97 : (Cond.methodLink R_Model 244 Lib.Math.max.name) ∈ bs_W0 := bs_in (in_tables_1_6 (List.mem_of_getElem? (i := 190) rfl)) rfl
theorem qw_3471296067 : (Cond.fieldLink R_Model 13 R_Model "kind" "[I") ∈ bs_W0 := bs_in (in_tables_1_5 (List.mem_of_getElem? (i := 155) rfl)) rfl
theorem qw_e5f8ae1a74 : (Cond.constantLong R_Model 223 2147483647) ∈ bs_W0 := bs_in (in_tables_1_6 (List.mem_of_getElem? (i := 149) rfl)) rfl
theorem qw_730c3d130b : (Cond.constantLong R_Model 225 (-2147483647)) ∈ bs_W0 := bs_in (in_tables_1_6 (List.mem_of_getElem? (i := 150) rfl)) rfl
theorem qw_ece0c598e8 : (Cond.methodLink R_Model 173 yModel_find) ∈ bs_W0 := bs_in (in_tables_1_6 (List.mem_of_getElem? (i := 67) rfl)) rfl
theorem qw_bd9bcb35cb : (Cond.fieldLink R_Model 72 R_Model "objectType" "[I") ∈ bs_W0 := bs_in (in_tables_1_5 (List.mem_of_getElem? (i := 176) rfl)) rfl
theorem qw_9fb851a5fa : (Cond.fieldLink R_Model 17 R_Model "val" "[I") ∈ bs_W0 := bs_in (in_tables_1_5 (List.mem_of_getElem? (i := 156) rfl)) rfl
theorem qw_50c5849686 : (Cond.fieldLink R_Model 69 R_Model "what" "[I") ∈ bs_W0 := bs_in (in_tables_1_5 (List.mem_of_getElem? (i := 175) rfl)) rfl
theorem qw_7a050de5f5 : (Cond.methodLink R_Model 181 yModel_factOfType) ∈ bs_W0 := bs_in (in_tables_1_6 (List.mem_of_getElem? (i := 83) rfl)) rfl
theorem qw_7581103c83 : (Cond.methodLink R_Model 177 yModel_copy) ∈ bs_W0 := bs_in (in_tables_1_6 (List.mem_of_getElem? (i := 71) rfl)) rfl
theorem qw_a8caa30de3 : (Cond.fieldLink R_Model 20 R_Model "many" "[I") ∈ bs_W0 := bs_in (in_tables_1_5 (List.mem_of_getElem? (i := 157) rfl)) rfl
theorem qw_a66d450e0a : (Cond.methodLink R_Model 154 yModel_child) ∈ bs_W0 := bs_in (in_tables_1_6 (List.mem_of_getElem? (i := 95) rfl)) rfl
theorem qw_aa15322dc3 : (Cond.methodLink R_Model 190 yModel_known) ∈ bs_W0 := bs_in (in_tables_1_6 (List.mem_of_getElem? (i := 103) rfl)) rfl
theorem qw_47bf7afb29 : (Cond.methodLink R_Model 217 yModel_logic) ∈ bs_W0 := bs_in (in_tables_1_6 (List.mem_of_getElem? (i := 127) rfl)) rfl
theorem qw_32c72cc6df : (Cond.methodLink R_Model 213 yModel_truth) ∈ bs_W0 := bs_in (in_tables_1_6 (List.mem_of_getElem? (i := 124) rfl)) rfl
theorem qw_f576e3fc3c : (Cond.methodLink R_Model 220 yModel_isClear) ∈ bs_W0 := bs_in (in_tables_1_6 (List.mem_of_getElem? (i := 137) rfl)) rfl
theorem qw_fff04f2807 : (Cond.methodLink R_Model 227 yModel_integer) ∈ bs_W0 := bs_in (in_tables_1_6 (List.mem_of_getElem? (i := 145) rfl)) rfl
theorem qw_75e699d051 : (Cond.methodLink R_Model 231 yModel_numberOf) ∈ bs_W0 := bs_in (in_tables_1_6 (List.mem_of_getElem? (i := 151) rfl)) rfl
theorem qw_be891c2f99 : (Cond.methodLink R_Model 235 yModel_bits) ∈ bs_W0 := bs_in (in_tables_1_6 (List.mem_of_getElem? (i := 156) rfl)) rfl
theorem qw_9989324b00 : (Cond.methodLink R_Model 210 yModel_lookShift) ∈ bs_W0 := bs_in (in_tables_1_6 (List.mem_of_getElem? (i := 168) rfl)) rfl
theorem qw_e252724d8c : (Cond.methodLink R_Model 207 yModel_lookNumbers) ∈ bs_W0 := bs_in (in_tables_1_6 (List.mem_of_getElem? (i := 164) rfl)) rfl
theorem qw_eedff52c6d : (Cond.methodLink R_Model 204 yModel_lookJoined) ∈ bs_W0 := bs_in (in_tables_1_6 (List.mem_of_getElem? (i := 160) rfl)) rfl
theorem qw_c857c4ab9d : (Cond.methodLink R_Model 200 yModel_lookSum) ∈ bs_W0 := bs_in (in_tables_1_6 (List.mem_of_getElem? (i := 141) rfl)) rfl
theorem qw_25c6887e45 : (Cond.methodLink R_Model 197 yModel_lookOrder) ∈ bs_W0 := bs_in (in_tables_1_6 (List.mem_of_getElem? (i := 133) rfl)) rfl
theorem qw_210034d4bb : (Cond.methodLink R_Model 193 yModel_lookLogic) ∈ bs_W0 := bs_in (in_tables_1_6 (List.mem_of_getElem? (i := 120) rfl)) rfl
theorem qw_3f44df6941 : (Cond.constantLong R_Model 257 64) ∈ bs_W0 := bs_in (in_tables_1_6 (List.mem_of_getElem? (i := 180) rfl)) rfl
theorem qw_f33503df7d : (Cond.methodLink R_Model 250 yModel_rowObject) ∈ bs_W0 := bs_in (in_tables_1_6 (List.mem_of_getElem? (i := 181) rfl)) rfl
theorem qw_5fce476f55 : (Cond.methodLink R_Model 253 yModel_within) ∈ bs_W0 := bs_in (in_tables_1_6 (List.mem_of_getElem? (i := 185) rfl)) rfl
theorem qw_66cde9f86f : (Cond.methodLink R_Model 247 yModel_lookFunction) ∈ bs_W0 := bs_in (in_tables_1_6 (List.mem_of_getElem? (i := 176) rfl)) rfl
theorem qw_1579022aeb : (Cond.fieldLink R_Model 66 R_Model "down" "[Z") ∈ bs_W0 := bs_in (in_tables_1_5 (List.mem_of_getElem? (i := 173) rfl)) rfl
theorem qw_6af1a66e4e : (Cond.methodLink R_Model 143 yModel_lookName) ∈ bs_W0 := bs_in (in_tables_1_6 (List.mem_of_getElem? (i := 63) rfl)) rfl
theorem qw_1225f40cc2 : (Cond.methodLink R_Model 151 yModel_lookRow) ∈ bs_W0 := bs_in (in_tables_1_6 (List.mem_of_getElem? (i := 91) rfl)) rfl
theorem qw_90669a19fa : (Cond.methodLink R_Model 157 yModel_lookUnary) ∈ bs_W0 := bs_in (in_tables_1_6 (List.mem_of_getElem? (i := 99) rfl)) rfl
theorem qw_3d76e3b1f6 : (Cond.methodLink R_Model 160 yModel_lookBinary) ∈ bs_W0 := bs_in (in_tables_1_6 (List.mem_of_getElem? (i := 116) rfl)) rfl
theorem qw_a9a4545182 : (Cond.methodLink R_Model 164 yModel_lookApply) ∈ bs_W0 := bs_in (in_tables_1_6 (List.mem_of_getElem? (i := 172) rfl)) rfl
theorem qw_66651c47c8 : (Cond.methodLink R_Model 167 yModel_lookSlice) ∈ bs_W0 := bs_in (in_tables_1_6 (List.mem_of_getElem? (i := 191) rfl)) rfl
theorem qw_1fe4047f8f : (Cond.methodLink R_Model 170 yModel_lookAttribute) ∈ bs_W0 := bs_in (in_tables_1_6 (List.mem_of_getElem? (i := 195) rfl)) rfl
theorem qw_d4a57461ea : (Cond.fieldLink R_Model 9 R_Model "place" "I") ∈ bs_W0 := bs_in (in_tables_1_5 (List.mem_of_getElem? (i := 154) rfl)) rfl
theorem qw_a6e9824456 : (Cond.methodLink R_Model 272 yModel_wrong) ∈ bs_W0 := bs_in (in_tables_1_6 (List.mem_of_getElem? (i := 199) rfl)) rfl
theorem qw_46ebe17d7b : (Cond.methodLink R_Model 259 yModel_below) ∈ bs_W0 := bs_in (in_tables_1_6 (List.mem_of_getElem? (i := 55) rfl)) rfl
theorem qw_133a99c340 : (Cond.methodLink R_Model 263 yModel_look) ∈ bs_W0 := bs_in (in_tables_1_6 (List.mem_of_getElem? (i := 59) rfl)) rfl
theorem qw_bcd494e5c6 : (Cond.fieldLink R_Model 51 R_Model "seen" "[Z") ∈ bs_W0 := bs_in (in_tables_1_5 (List.mem_of_getElem? (i := 168) rfl)) rfl
theorem qw_0b242dc29a : (Cond.fieldLink R_Model 108 R_Model "rootCount" "I") ∈ bs_W0 := bs_in (in_tables_1_5 (List.mem_of_getElem? (i := 161) rfl)) rfl
theorem qw_0ba745738d : (Cond.methodLink R_Model 288 yModel_noType) ∈ bs_W0 := bs_in (in_tables_1_6 (List.mem_of_getElem? (i := 227) rfl)) rfl
theorem qw_c926675227 : (Cond.methodLink R_Model 266 yModel_noNode) ∈ bs_W0 := bs_in (in_tables_1_6 (List.mem_of_getElem? (i := 47) rfl)) rfl
theorem qw_fb32874592 : (Cond.methodLink R_Model 269 yModel_goThrough) ∈ bs_W0 := bs_in (in_tables_1_6 (List.mem_of_getElem? (i := 51) rfl)) rfl
theorem qw_17a2ee8d21 : (Cond.methodLink R_Model 291 yModel_fits) ∈ bs_W0 := bs_in (in_tables_1_6 (List.mem_of_getElem? (i := 235) rfl)) rfl
theorem qw_8cce6d7b5c : (Cond.methodLink R_Model 278 yModel_keep) ∈ bs_W0 := bs_in (in_tables_1_6 (List.mem_of_getElem? (i := 207) rfl)) rfl
theorem qw_90495fa5dd : (Cond.methodLink R_Model 93 yModel_newType) ∈ bs_W0 := bs_in (in_tables_1_5 (List.mem_of_getElem? (i := 147) rfl)) rfl
theorem qw_e91042951e : (Cond.methodLink R_Model 275 yModel_constantFault) ∈ bs_W0 := bs_in (in_tables_1_6 (List.mem_of_getElem? (i := 203) rfl)) rfl
theorem qw_07c5ec0f25 : (Cond.methodLink R_Model 111 yModel_goodName) ∈ bs_W0 := bs_in (in_tables_1_6 (List.mem_of_getElem? (i := 28) rfl)) rfl
theorem qw_52fabcdf69 : (Cond.methodLink R_Model 281 yModel_hasHere) ∈ bs_W0 := bs_in (in_tables_1_6 (List.mem_of_getElem? (i := 215) rfl)) rfl
theorem qw_8127fdf1ea : (Cond.methodLink R_Model 284 yModel_name) ∈ bs_W0 := bs_in (in_tables_1_6 (List.mem_of_getElem? (i := 219) rfl)) rfl
theorem qw_5c346c7fc8 : (Cond.fieldLink R_Model 294 R_Model "objects" "I") ∈ bs_W0 := bs_in (in_tables_1_5 (List.mem_of_getElem? (i := 177) rfl)) rfl
theorem qw_398ffa5efc : (Cond.fieldLink R_Model 26 R_Model "roots" "[I") ∈ bs_W0 := bs_in (in_tables_1_5 (List.mem_of_getElem? (i := 160) rfl)) rfl
-- THE REFERENCE's constructor: stage j has its first j arrays
def B0 (a k : Nat) : Nat := a + 1 + mdIx.idxOf k
def fsI (a : Nat) (V : Nat → Int32) (j : Nat) : List Value := (List.range 35).map (fun k => if mdS k then .int (V k) else if mdIx.idxOf k < j then .ref (B0 a k) else .null)
def wsI (γ : gE) (a : Nat) (V : Nat → Int32) (j : Nat) : va_W := (a, .inr (10, fsI a V j)) :: (mdIx.take j).map (mcell γ (B0 a) (fun _ _ => 0) (fun _ => 0))
theorem fsI_get {a : Nat} {V : Nat → Int32} {j k : Nat} (hk : k < 35) : (fsI a V j)[k]? = some (if mdS k then .int (V k) else if mdIx.idxOf k < j then .ref (B0 a k) else .null) := by
  unfold fsI
  rw [List.getElem?_map, List.getElem?_range hk]
  rfl
theorem fsI_len {a : Nat} {V : Nat → Int32} {j : Nat} : (fsI a V j).length = 35 := by simp [fsI]
theorem fsI_put {a : Nat} {V : Nat → Int32} {j k : Nat} {x : Int32} (hk : k < 35) (hs : mdS k = true) : (fsI a V j).set k (.int x) = fsI a (upd V k x) j := by
  apply List.ext_getElem?
  intro i
  by_cases hi : i < 35
  · rw [fsI_get hi, List.getElem?_set]
    by_cases h : k = i
    · subst h
      rw [if_pos rfl, if_pos (by rw [fsI_len]; exact hk), hs, pk_us]
      rfl
    · rw [if_neg h, fsI_get hi, pk_un (fun e => h e.symm)]
  · rw [List.getElem?_eq_none (by rw [List.length_set, fsI_len]; omega), List.getElem?_eq_none (by rw [fsI_len]; omega)]
theorem fsI_new {a : Nat} {V : Nat → Int32} {j k : Nat} (hk : k < 35) (hs : mdS k = false) (hp : mdIx.idxOf k = j) (hu : ∀ i, i < 35 → mdS i = false → mdIx.idxOf i = j → i = k) : (fsI a V j).set k (.ref (a + 1 + j)) = fsI a V (j + 1) := by
  apply List.ext_getElem?
  intro i
  by_cases hi : i < 35
  · rw [fsI_get hi, List.getElem?_set]
    by_cases h : k = i
    · subst h
      rw [if_pos rfl, if_pos (by rw [fsI_len]; exact hk), hs, if_pos (show mdIx.idxOf k < j + 1 by omega)]
      unfold B0
      rw [hp]
      rfl
    · rw [if_neg h, fsI_get hi]
      cases h2 : mdS i with
      | true => rfl
      | false =>
        have h3 : mdIx.idxOf i ≠ j := fun e => h (hu i hi h2 e).symm
        by_cases h4 : mdIx.idxOf i < j
        · rw [if_pos h4, if_pos (show mdIx.idxOf i < j + 1 by omega)]
        · rw [if_neg h4, if_neg (show ¬ mdIx.idxOf i < j + 1 by omega)]
  · rw [List.getElem?_eq_none (by rw [List.length_set, fsI_len]; omega), List.getElem?_eq_none (by rw [fsI_len]; omega)]
theorem wsI_new {γ : gE} {a : Nat} {V : Nat → Int32} {j k : Nat} (hj : mdIx[j]? = some k) (hk : k < 35) (hs : mdS k = false) (hp : mdIx.idxOf k = j) (hu : ∀ i, i < 35 → mdS i = false → mdIx.idxOf i = j → i = k) : (wsI γ a V j ++ [mcell γ (B0 a) (fun _ _ => 0) (fun _ => 0) k]).set 0 (a, .inr (10, (fsI a V j).set k (.ref (a + 1 + j)))) = wsI γ a V (j + 1) := by
  show (a, _) :: ((mdIx.take j).map _ ++ [_]) = (a, _) :: (mdIx.take (j + 1)).map _
  rw [fsI_new hk hs hp hu, List.take_succ, hj, List.map_append]
  rfl
theorem fsI_all {a : Nat} {V : Nat → Int32} : fsI a V 24 = fsM V (B0 a) := by
  apply List.ext_getElem?
  intro i
  by_cases hi : i < 35
  · rw [fsI_get hi, fs_get hi]
    cases h2 : mdS i with
    | true => rfl
    | false =>
      have h3 : ∀ i, i < 35 → mdS i = false → mdIx.idxOf i < 24 := by decide
      rw [if_pos (h3 i hi h2)]
  · rw [List.getElem?_eq_none (by rw [fsI_len]; omega), List.getElem?_eq_none (by rw [fs_len]; omega)]
theorem wsI_all {γ : gE} {a : Nat} {V : Nat → Int32} : wsI γ a V 24 = wsM γ a (B0 a) V (fun _ _ => 0) (fun _ => 0) := by
  unfold wsI wsM
  rw [fsI_all]
  rfl
theorem mv_self {V : Nat → Int32} : mv V V = V := by
  funext k
  unfold mv
  exact ite_self _
theorem ma_self {A : Nat → Nat → Int32} : ma A A = A := by
  funext k
  unfold ma
  exact ite_self _
theorem md_of {γ : gE} {a : Nat} {B : Nat → Nat} {Z : Nat → Prop} {V : Nat → Int32} {A : Nat → Nat → Int32} {nu : Nat → Int64} {H : Heap} (h : MDb γ a B Z V A nu H) : MD γ a B Z V A V A nu H := by
  unfold MD
  rw [mv_self, ma_self]
  exact h
theorem mi_st : ST (fun k => if k = 5 then 1 else 0) (fun _ => 0) (fun _ => 0) (upd (upd (fun _ => 0) 1 (-1)) 31 1) (fun _ _ => 0) :=
  ⟨⟨by decide, by decide, by decide, by decide, by decide, by decide, by decide⟩, ⟨rfl, rfl, rfl, rfl, rfl, rfl⟩, ⟨fun c hc => absurd hc (Nat.not_lt_zero _), fun c hc => absurd hc (Nat.not_lt_zero _), fun c hc => absurd hc (Nat.not_lt_zero _)⟩, fun t _ h => absurd h (show ¬ (0 : Int32) = 3 by decide), fun o _ => ⟨0, by omega, rfl⟩, fun k _ => ⟨fun h => absurd h (show ¬ (0 : Int32) = 1 by decide), fun h => absurd h (show ¬ (0 : Int32) = 2 by decide), fun h => absurd h (show ¬ (0 : Int32) = 4 by decide)⟩⟩
theorem md_sz {γ : gE} {a : Nat} {Z : Nat → Prop} {ν σ : Nat → Int32} {τ F : Nat → Nat → Int32} {nu : Nat → Int64} {H : Heap} (hM : MD γ a (B0 a) Z ν τ σ F nu H) : a + 24 < H.size := by
  have h := (hM.1 24 _ (ws_get (k := 29) (q := 23) rfl (by decide))).lt
  have e : B0 a 29 = a + 24 := by
    unfold B0
    rw [show mdIx.idxOf 29 = 23 by decide]
  rw [← e]
  exact h
theorem sz_25 {h a n c : Nat} (h1 : h ≤ n + c) (hc : c = 24) (hn : n = a + 1) (h2 : a + 24 < h) : h = a + 25 := by omega
theorem sz_0 : SZ (fun _ _ => 0) := fun f _ => ⟨0, by omega, rfl⟩
theorem gd_0 {nu : Nat → Int64} : GD (fun _ _ => 0) nu := fun f _ _ h => absurd h (show ¬ (0 : Int32) = 2 by decide)
theorem fd_0 {σ : Nat → Int32} (h : σ 32 = 0) : FD σ := ⟨fun h2 => absurd (h.symm.trans h2) (by decide), fun h2 => absurd (h.symm.trans h2) (by decide), fun h2 => absurd (h.symm.trans h2) (by decide)⟩
section MIS
variable {p : Program} {l : Launch} {e : Env} {R : Room} {s : State} {m : MethodId} {args : Array Value} {below : List Frame} {meth : Method} {c : Code} {H H0 : Heap} {locs : List Loc} {cells slots : Nat} {Q : State → Prop}
variable {nL index pc a : Nat} {γ : gE} {ls : Array Slot} {rest : List Value} {Z : Nat → Prop} {ws : va_W} {cc : ByteArray} {own : String}
theorem cw_new_int (S : bs_F p s m args c cc nL own) (hC : CX γ s) (harr : Cond.arrayClass .int ∈ bs_W0) (hP : va_P γ.1 vwCl ws H) (hD : va_D Z ws) (hS : va_S Z H0 H locs) (hZ : ∀ q, H0.size ≤ q → Z q) {k : Nat} (hk : H.size = k) {x : Int32} (N : Nat) (hx : x = nI N) (hN : N ≤ 1000000) (hc : cells + 1 ≤ R.cells) (hs : slots + N ≤ R.slots) (hdg : decode cc pc = .ok (.newarray .int, 2))
    (kk : ∀ H1 : Heap, va_P γ.1 vwCl (ws ++ [(k, .inl (γ.2.1, N, .inl (fun _ => 0)))]) H1 → va_D Z (ws ++ [(k, .inl (γ.2.1, N, .inl (fun _ => 0)))]) → va_S Z H0 H1 locs → H1.size = k + 1 → (∀ q : Nat, q < k → H1[q]? = H[q]?) → W p l e R s m args below meth c H1 locs (cells + 1) (slots + N) Q (F0 m (pc + 2) ls (.ref k :: rest))) : W p l e R s m args below meth c H locs cells slots Q (F0 m pc ls (.int x :: rest)) := by
  subst hx
  subst hk
  refine va_newaK (atype := .int) (N := N) S.1 S.2.1 (S.2.2.2.2 _ harr) rfl hdg rfl (nI_pos (by omega)) (nI_clamp (by omega)) (by show N * 4 ≤ _; omega) hc hs rfl (fun H1 cA e1 z1 o1 hAr hNm => ?_)
  have hcA : cA = γ.2.1 := Option.some.inj (hNm.symm.trans (hC.1.2 0 _ rfl).2)
  subst hcA
  have hq : ∀ (k : Nat) (x : Nat × va_E), ws[k]? = some x → H1[x.1]? = H[x.1]? := fun k x hx => o1 x.1 ((hP k x hx).lt)
  exact kk H1 ((hP.kept hq).app (one_P e1)) (hD.push hP rfl (hZ _ hS.1)) ⟨Nat.le_trans hS.1 (by omega), fun x h1 h2 => (o1 x (Nat.lt_of_lt_of_le h1 hS.1)).trans (hS.2.1 x h1 h2), hS.2.2⟩ z1 o1
theorem mi_int {V : Nat → Int32} {j k : Nat} (S : bs_F p s m args c bModel_init nL R_Model) (hnm : meth.name = "<init>") (hC : CX γ s) (hP : va_P γ.1 vwCl (wsI γ a V j) H) (hD : va_D (fun q => a ≤ q) (wsI γ a V j)) (hS : va_S (fun q => a ≤ q) s.heap H locs) (hA : ∀ q, s.heap.size ≤ q → a ≤ q) (hz : H.size = a + 1 + j) (hj : mdIx[j]? = some k) (hp : mdIx.idxOf k = j) (hk : k < 35) (hs : mdS k = false) (hu : ∀ i, i < 35 → mdS i = false → mdIx.idxOf i = j → i = k) (hcell : mcell γ (B0 a) (fun _ _ => 0) (fun _ => 0) k = (a + 1 + j, .inl (γ.2.1, mdN k, .inl (fun _ => 0)))) {x : Int32} (hx : x = nI (mdN k)) (hN : mdN k ≤ 1000000) (hc : cells + 1 ≤ R.cells) (hsl : slots + mdN k ≤ R.slots) (harr : Cond.arrayClass .int ∈ bs_W0) (lk : Cond.fieldLink R_Model index (T_Model k).1 (T_Model k).2.1 (T_Model k).2.2.1 ∈ bs_W0) (hfin : (T_Model k).2.2.2 = true) (hdecl : (T_Model k).1 = R_Model) (hd : parseFieldDescriptor (T_Model k).2.2.1 = some (.array .int)) (d1 : decode bModel_init pc = .ok (.newarray .int, 2)) (d2 : decode bModel_init (pc + 2) = .ok (.putfield index, 3))
    (kk : ∀ (H : Heap) (locs : List Loc), va_P γ.1 vwCl (wsI γ a V (j + 1)) H → va_D (fun q => a ≤ q) (wsI γ a V (j + 1)) → va_S (fun q => a ≤ q) s.heap H locs → H.size = a + 1 + (j + 1) → W p l e R s m args below meth c H locs (cells + 1) (slots + mdN k) Q (F0 m (pc + 5) ls rest)) : W p l e R s m args below meth c H locs cells slots Q (F0 m pc ls (.int x :: .ref a :: rest)) := by
  refine cw_new_int S hC harr hP hD hS hA hz (mdN k) hx hN hc hsl d1 (fun H1 hP1 hD1 hS1 hz1 _ => ?_)
  rw [← hcell] at hP1 hD1
  refine st_putF (D := γ.1) (ci := 10) (v := .ref (a + 1 + j)) (ty := .array .int) (C := R_Model) (T := T_Model) (N := 35) (Ts := bs_W0) S.1 S.2.1 S.2.2.2.2 in_Model t_Model t_Model_ok n_Model S.2.2.2.1 hC.1 hP1 hD1 (fun q h => h) hS1 0 rfl rfl k hk (S.2.2.2.2 _ lk) (fun _ h => h) hfin hnm hdecl hd rfl rfl (by rw [fsI_len]; exact hk) d2 (fun H2 locs2 hP2 hD2 hS2 hz2 _ => ?_)
  rw [wsI_new hj hk hs hp hu] at hP2 hD2
  exact kk H2 locs2 hP2 hD2 hS2 (hz2.trans hz1)
theorem cw_new_long (S : bs_F p s m args c cc nL own) (hC : CX γ s) (harr : Cond.arrayClass .long ∈ bs_W0) (hP : va_P γ.1 vwCl ws H) (hD : va_D Z ws) (hS : va_S Z H0 H locs) (hZ : ∀ q, H0.size ≤ q → Z q) {k : Nat} (hk : H.size = k) {x : Int32} (N : Nat) (hx : x = nI N) (hN : N ≤ 1000000) (hc : cells + 1 ≤ R.cells) (hs : slots + N ≤ R.slots) (hdg : decode cc pc = .ok (.newarray .long, 2))
    (kk : ∀ H1 : Heap, va_P γ.1 vwCl (ws ++ [(k, .inl (γ.2.2.1, N, .inr (.inl (fun _ => 0))))]) H1 → va_D Z (ws ++ [(k, .inl (γ.2.2.1, N, .inr (.inl (fun _ => 0))))]) → va_S Z H0 H1 locs → H1.size = k + 1 → (∀ q : Nat, q < k → H1[q]? = H[q]?) → W p l e R s m args below meth c H1 locs (cells + 1) (slots + N) Q (F0 m (pc + 2) ls (.ref k :: rest))) : W p l e R s m args below meth c H locs cells slots Q (F0 m pc ls (.int x :: rest)) := by
  subst hx
  subst hk
  refine va_newaK (atype := .long) (N := N) S.1 S.2.1 (S.2.2.2.2 _ harr) rfl hdg rfl (nI_pos (by omega)) (nI_clamp (by omega)) (by show N * 8 ≤ _; omega) hc hs rfl (fun H1 cA e1 z1 o1 hAr hNm => ?_)
  have hcA : cA = γ.2.2.1 := Option.some.inj (hNm.symm.trans (hC.1.2 1 _ rfl).2)
  subst hcA
  have hq : ∀ (k : Nat) (x : Nat × va_E), ws[k]? = some x → H1[x.1]? = H[x.1]? := fun k x hx => o1 x.1 ((hP k x hx).lt)
  exact kk H1 ((hP.kept hq).app (one_P e1)) (hD.push hP rfl (hZ _ hS.1)) ⟨Nat.le_trans hS.1 (by omega), fun x h1 h2 => (o1 x (Nat.lt_of_lt_of_le h1 hS.1)).trans (hS.2.1 x h1 h2), hS.2.2⟩ z1 o1
theorem mi_long {V : Nat → Int32} {j k : Nat} (S : bs_F p s m args c bModel_init nL R_Model) (hnm : meth.name = "<init>") (hC : CX γ s) (hP : va_P γ.1 vwCl (wsI γ a V j) H) (hD : va_D (fun q => a ≤ q) (wsI γ a V j)) (hS : va_S (fun q => a ≤ q) s.heap H locs) (hA : ∀ q, s.heap.size ≤ q → a ≤ q) (hz : H.size = a + 1 + j) (hj : mdIx[j]? = some k) (hp : mdIx.idxOf k = j) (hk : k < 35) (hs : mdS k = false) (hu : ∀ i, i < 35 → mdS i = false → mdIx.idxOf i = j → i = k) (hcell : mcell γ (B0 a) (fun _ _ => 0) (fun _ => 0) k = (a + 1 + j, .inl (γ.2.2.1, mdN k, .inr (.inl (fun _ => 0))))) {x : Int32} (hx : x = nI (mdN k)) (hN : mdN k ≤ 1000000) (hc : cells + 1 ≤ R.cells) (hsl : slots + mdN k ≤ R.slots) (harr : Cond.arrayClass .long ∈ bs_W0) (lk : Cond.fieldLink R_Model index (T_Model k).1 (T_Model k).2.1 (T_Model k).2.2.1 ∈ bs_W0) (hfin : (T_Model k).2.2.2 = true) (hdecl : (T_Model k).1 = R_Model) (hd : parseFieldDescriptor (T_Model k).2.2.1 = some (.array .long)) (d1 : decode bModel_init pc = .ok (.newarray .long, 2)) (d2 : decode bModel_init (pc + 2) = .ok (.putfield index, 3))
    (kk : ∀ (H : Heap) (locs : List Loc), va_P γ.1 vwCl (wsI γ a V (j + 1)) H → va_D (fun q => a ≤ q) (wsI γ a V (j + 1)) → va_S (fun q => a ≤ q) s.heap H locs → H.size = a + 1 + (j + 1) → W p l e R s m args below meth c H locs (cells + 1) (slots + mdN k) Q (F0 m (pc + 5) ls rest)) : W p l e R s m args below meth c H locs cells slots Q (F0 m pc ls (.int x :: .ref a :: rest)) := by
  refine cw_new_long S hC harr hP hD hS hA hz (mdN k) hx hN hc hsl d1 (fun H1 hP1 hD1 hS1 hz1 _ => ?_)
  rw [← hcell] at hP1 hD1
  refine st_putF (D := γ.1) (ci := 10) (v := .ref (a + 1 + j)) (ty := .array .long) (C := R_Model) (T := T_Model) (N := 35) (Ts := bs_W0) S.1 S.2.1 S.2.2.2.2 in_Model t_Model t_Model_ok n_Model S.2.2.2.1 hC.1 hP1 hD1 (fun q h => h) hS1 0 rfl rfl k hk (S.2.2.2.2 _ lk) (fun _ h => h) hfin hnm hdecl hd rfl rfl (by rw [fsI_len]; exact hk) d2 (fun H2 locs2 hP2 hD2 hS2 hz2 _ => ?_)
  rw [wsI_new hj hk hs hp hu] at hP2 hD2
  exact kk H2 locs2 hP2 hD2 hS2 (hz2.trans hz1)
theorem cw_new_boolean (S : bs_F p s m args c cc nL own) (hC : CX γ s) (harr : Cond.arrayClass .boolean ∈ bs_W0) (hP : va_P γ.1 vwCl ws H) (hD : va_D Z ws) (hS : va_S Z H0 H locs) (hZ : ∀ q, H0.size ≤ q → Z q) {k : Nat} (hk : H.size = k) {x : Int32} (N : Nat) (hx : x = nI N) (hN : N ≤ 1000000) (hc : cells + 1 ≤ R.cells) (hs : slots + N ≤ R.slots) (hdg : decode cc pc = .ok (.newarray .boolean, 2))
    (kk : ∀ H1 : Heap, va_P γ.1 vwCl (ws ++ [(k, .inl (γ.2.2.2 21, N, .inl (fun _ => 0)))]) H1 → va_D Z (ws ++ [(k, .inl (γ.2.2.2 21, N, .inl (fun _ => 0)))]) → va_S Z H0 H1 locs → H1.size = k + 1 → (∀ q : Nat, q < k → H1[q]? = H[q]?) → W p l e R s m args below meth c H1 locs (cells + 1) (slots + N) Q (F0 m (pc + 2) ls (.ref k :: rest))) : W p l e R s m args below meth c H locs cells slots Q (F0 m pc ls (.int x :: rest)) := by
  subst hx
  subst hk
  refine va_newaK (atype := .boolean) (N := N) S.1 S.2.1 (S.2.2.2.2 _ harr) rfl hdg rfl (nI_pos (by omega)) (nI_clamp (by omega)) (by show N * 1 ≤ _; omega) hc hs rfl (fun H1 cA e1 z1 o1 hAr hNm => ?_)
  have hcA : cA = γ.2.2.2 21 := Option.some.inj (hNm.symm.trans (hC.1.2 3 _ rfl).2)
  subst hcA
  have hq : ∀ (k : Nat) (x : Nat × va_E), ws[k]? = some x → H1[x.1]? = H[x.1]? := fun k x hx => o1 x.1 ((hP k x hx).lt)
  exact kk H1 ((hP.kept hq).app (one_P e1)) (hD.push hP rfl (hZ _ hS.1)) ⟨Nat.le_trans hS.1 (by omega), fun x h1 h2 => (o1 x (Nat.lt_of_lt_of_le h1 hS.1)).trans (hS.2.1 x h1 h2), hS.2.2⟩ z1 o1
theorem mi_boolean {V : Nat → Int32} {j k : Nat} (S : bs_F p s m args c bModel_init nL R_Model) (hnm : meth.name = "<init>") (hC : CX γ s) (hP : va_P γ.1 vwCl (wsI γ a V j) H) (hD : va_D (fun q => a ≤ q) (wsI γ a V j)) (hS : va_S (fun q => a ≤ q) s.heap H locs) (hA : ∀ q, s.heap.size ≤ q → a ≤ q) (hz : H.size = a + 1 + j) (hj : mdIx[j]? = some k) (hp : mdIx.idxOf k = j) (hk : k < 35) (hs : mdS k = false) (hu : ∀ i, i < 35 → mdS i = false → mdIx.idxOf i = j → i = k) (hcell : mcell γ (B0 a) (fun _ _ => 0) (fun _ => 0) k = (a + 1 + j, .inl (γ.2.2.2 21, mdN k, .inl (fun _ => 0)))) {x : Int32} (hx : x = nI (mdN k)) (hN : mdN k ≤ 1000000) (hc : cells + 1 ≤ R.cells) (hsl : slots + mdN k ≤ R.slots) (harr : Cond.arrayClass .boolean ∈ bs_W0) (lk : Cond.fieldLink R_Model index (T_Model k).1 (T_Model k).2.1 (T_Model k).2.2.1 ∈ bs_W0) (hfin : (T_Model k).2.2.2 = true) (hdecl : (T_Model k).1 = R_Model) (hd : parseFieldDescriptor (T_Model k).2.2.1 = some (.array .boolean)) (d1 : decode bModel_init pc = .ok (.newarray .boolean, 2)) (d2 : decode bModel_init (pc + 2) = .ok (.putfield index, 3))
    (kk : ∀ (H : Heap) (locs : List Loc), va_P γ.1 vwCl (wsI γ a V (j + 1)) H → va_D (fun q => a ≤ q) (wsI γ a V (j + 1)) → va_S (fun q => a ≤ q) s.heap H locs → H.size = a + 1 + (j + 1) → W p l e R s m args below meth c H locs (cells + 1) (slots + mdN k) Q (F0 m (pc + 5) ls rest)) : W p l e R s m args below meth c H locs cells slots Q (F0 m pc ls (.int x :: .ref a :: rest)) := by
  refine cw_new_boolean S hC harr hP hD hS hA hz (mdN k) hx hN hc hsl d1 (fun H1 hP1 hD1 hS1 hz1 _ => ?_)
  rw [← hcell] at hP1 hD1
  refine st_putF (D := γ.1) (ci := 10) (v := .ref (a + 1 + j)) (ty := .array .boolean) (C := R_Model) (T := T_Model) (N := 35) (Ts := bs_W0) S.1 S.2.1 S.2.2.2.2 in_Model t_Model t_Model_ok n_Model S.2.2.2.1 hC.1 hP1 hD1 (fun q h => h) hS1 0 rfl rfl k hk (S.2.2.2.2 _ lk) (fun _ h => h) hfin hnm hdecl hd rfl rfl (by rw [fsI_len]; exact hk) d2 (fun H2 locs2 hP2 hD2 hS2 hz2 _ => ?_)
  rw [wsI_new hj hk hs hp hu] at hP2 hD2
  exact kk H2 locs2 hP2 hD2 hS2 (hz2.trans hz1)
theorem cw_new_byte (S : bs_F p s m args c cc nL own) (hC : CX γ s) (harr : Cond.arrayClass .byte ∈ bs_W0) (hP : va_P γ.1 vwCl ws H) (hD : va_D Z ws) (hS : va_S Z H0 H locs) (hZ : ∀ q, H0.size ≤ q → Z q) {k : Nat} (hk : H.size = k) {x : Int32} (N : Nat) (hx : x = nI N) (hN : N ≤ 1000000) (hc : cells + 1 ≤ R.cells) (hs : slots + N ≤ R.slots) (hdg : decode cc pc = .ok (.newarray .byte, 2))
    (kk : ∀ H1 : Heap, va_P γ.1 vwCl (ws ++ [(k, .inl (γ.2.2.2 20, N, .inl (fun _ => 0)))]) H1 → va_D Z (ws ++ [(k, .inl (γ.2.2.2 20, N, .inl (fun _ => 0)))]) → va_S Z H0 H1 locs → H1.size = k + 1 → (∀ q : Nat, q < k → H1[q]? = H[q]?) → W p l e R s m args below meth c H1 locs (cells + 1) (slots + N) Q (F0 m (pc + 2) ls (.ref k :: rest))) : W p l e R s m args below meth c H locs cells slots Q (F0 m pc ls (.int x :: rest)) := by
  subst hx
  subst hk
  refine va_newaK (atype := .byte) (N := N) S.1 S.2.1 (S.2.2.2.2 _ harr) rfl hdg rfl (nI_pos (by omega)) (nI_clamp (by omega)) (by show N * 1 ≤ _; omega) hc hs rfl (fun H1 cA e1 z1 o1 hAr hNm => ?_)
  have hcA : cA = γ.2.2.2 20 := Option.some.inj (hNm.symm.trans (hC.1.2 2 _ rfl).2)
  subst hcA
  have hq : ∀ (k : Nat) (x : Nat × va_E), ws[k]? = some x → H1[x.1]? = H[x.1]? := fun k x hx => o1 x.1 ((hP k x hx).lt)
  exact kk H1 ((hP.kept hq).app (one_P e1)) (hD.push hP rfl (hZ _ hS.1)) ⟨Nat.le_trans hS.1 (by omega), fun x h1 h2 => (o1 x (Nat.lt_of_lt_of_le h1 hS.1)).trans (hS.2.1 x h1 h2), hS.2.2⟩ z1 o1
theorem mi_byte {V : Nat → Int32} {j k : Nat} (S : bs_F p s m args c bModel_init nL R_Model) (hnm : meth.name = "<init>") (hC : CX γ s) (hP : va_P γ.1 vwCl (wsI γ a V j) H) (hD : va_D (fun q => a ≤ q) (wsI γ a V j)) (hS : va_S (fun q => a ≤ q) s.heap H locs) (hA : ∀ q, s.heap.size ≤ q → a ≤ q) (hz : H.size = a + 1 + j) (hj : mdIx[j]? = some k) (hp : mdIx.idxOf k = j) (hk : k < 35) (hs : mdS k = false) (hu : ∀ i, i < 35 → mdS i = false → mdIx.idxOf i = j → i = k) (hcell : mcell γ (B0 a) (fun _ _ => 0) (fun _ => 0) k = (a + 1 + j, .inl (γ.2.2.2 20, mdN k, .inl (fun _ => 0)))) {x : Int32} (hx : x = nI (mdN k)) (hN : mdN k ≤ 1000000) (hc : cells + 1 ≤ R.cells) (hsl : slots + mdN k ≤ R.slots) (harr : Cond.arrayClass .byte ∈ bs_W0) (lk : Cond.fieldLink R_Model index (T_Model k).1 (T_Model k).2.1 (T_Model k).2.2.1 ∈ bs_W0) (hfin : (T_Model k).2.2.2 = true) (hdecl : (T_Model k).1 = R_Model) (hd : parseFieldDescriptor (T_Model k).2.2.1 = some (.array .byte)) (d1 : decode bModel_init pc = .ok (.newarray .byte, 2)) (d2 : decode bModel_init (pc + 2) = .ok (.putfield index, 3))
    (kk : ∀ (H : Heap) (locs : List Loc), va_P γ.1 vwCl (wsI γ a V (j + 1)) H → va_D (fun q => a ≤ q) (wsI γ a V (j + 1)) → va_S (fun q => a ≤ q) s.heap H locs → H.size = a + 1 + (j + 1) → W p l e R s m args below meth c H locs (cells + 1) (slots + mdN k) Q (F0 m (pc + 5) ls rest)) : W p l e R s m args below meth c H locs cells slots Q (F0 m pc ls (.int x :: .ref a :: rest)) := by
  refine cw_new_byte S hC harr hP hD hS hA hz (mdN k) hx hN hc hsl d1 (fun H1 hP1 hD1 hS1 hz1 _ => ?_)
  rw [← hcell] at hP1 hD1
  refine st_putF (D := γ.1) (ci := 10) (v := .ref (a + 1 + j)) (ty := .array .byte) (C := R_Model) (T := T_Model) (N := 35) (Ts := bs_W0) S.1 S.2.1 S.2.2.2.2 in_Model t_Model t_Model_ok n_Model S.2.2.2.1 hC.1 hP1 hD1 (fun q h => h) hS1 0 rfl rfl k hk (S.2.2.2.2 _ lk) (fun _ h => h) hfin hnm hdecl hd rfl rfl (by rw [fsI_len]; exact hk) d2 (fun H2 locs2 hP2 hD2 hS2 hz2 _ => ?_)
  rw [wsI_new hj hk hs hp hu] at hP2 hD2
  exact kk H2 locs2 hP2 hD2 hS2 (hz2.trans hz1)
end MIS
theorem qw_311ac4ac85 : (Cond.methodLink R_Model 1 Lib.objectInit) ∈ bs_W0 := bs_in (in_tables_1_5 (List.mem_of_getElem? (i := 145) rfl)) rfl
theorem qw_14bcb724a4 : (Cond.arrayClass .boolean) ∈ bs_W0 := bs_in (in_tables_1_6 (List.mem_of_getElem? (i := 19) rfl)) rfl
theorem qw_ac0cfedea6 : (Cond.constant R_Model 46 640000) ∈ bs_W0 := bs_in (in_tables_1_5 (List.mem_of_getElem? (i := 146) rfl)) rfl
theorem qw_542fcd69e5 : (Cond.arrayClass .byte) ∈ bs_W0 := bs_in (in_tables_1_2 (List.mem_of_getElem? (i := 162) rfl)) rfl
theorem qw_935637abc2 : (Cond.constant R_Model 97 (-2147483647)) ∈ bs_W0 := bs_in (in_tables_1_5 (List.mem_of_getElem? (i := 151) rfl)) rfl
theorem qw_56a015b2eb : (Cond.constant R_Model 98 2147483647) ∈ bs_W0 := bs_in (in_tables_1_5 (List.mem_of_getElem? (i := 152) rfl)) rfl
theorem qw_a8607651af : (Cond.methodLink R_TypeBook 96 yTrees_fell) ∈ bs_W0 := bs_in (in_tables_1_2 (List.mem_of_getElem? (i := 78) rfl)) rfl
-- FUNCTIONAL: what the arrays hold is told; gf: contents of a component (array, place); gF: of all (component, array, place)
abbrev gf := Nat → Nat → Int32
abbrev gg := Nat → Int64
abbrev gs := Nat → Int32
abbrev gF := Nat → Nat → Nat → Int32
abbrev gG := Nat → Nat → Int64
/-- equal, but not for subst -/
def Oq {α : Type} (a b : α) : Prop := a = b
theorem Oq.tr {α : Type} {a b c : α} (h : Oq a b) (h2 : b = c) : Oq a c := Eq.trans h h2
theorem Oq.symm {α : Type} {a b : α} (h : Oq a b) : b = a := Eq.symm h
theorem Oq.eq {α : Type} {a b : α} (h : Oq a b) : a = b := h
def up {α : Type} (f : Nat → α) (i : Nat) (x : α) : Nat → α := fun j => if j = i then x else f j
theorem up_s {α : Type} {f : Nat → α} {i : Nat} {x : α} : up f i x i = x := if_pos rfl
theorem up_n {α : Type} {f : Nat → α} {i j : Nat} {x : α} (h : ¬ j = i) : up f i x j = f j := if_neg h
def gTrees (γ : gE) (a N r L : Nat) (f : gf) (ws : va_W) : Prop := ∃ (b0 b1 b2 b3 : Nat), ws = wsTrees γ a N r L b0 b1 b2 b3 (f 0) (f 1) (f 2) (f 3) ∧ N ≤ L ∧ L ≤ 8192 ∧ 64 ≤ L ∧ r ≤ N ∧ (∀ k, k < N → ¬ f 3 k < 0) ∧ ∀ k, k < N → ∃ j, j ≤ 4096 ∧ f 2 k = nI j
def gNames (γ : gE) (a N sc L : Nat) (f : gf) (ws : va_W) : Prop := ∃ (b0 b1 b2 b3 b4 b5 b6 : Nat), ws = wsNames γ a N sc L b0 b1 b2 b3 b4 b5 b6 (f 0) (f 1) (f 2) (f 3) (f 4) (f 5) (f 6) ∧ N ≤ L ∧ L ≤ 8192 ∧ 64 ≤ L ∧ 1 ≤ sc ∧ sc ≤ 32 ∧ ∃ g : Nat → Nat, (∀ k, k < sc → f 6 k = nI (g k)) ∧ (∀ i j, i ≤ j → j < sc → g i ≤ g j) ∧ ∀ k, k < sc → g k ≤ N
def gTypes (γ : gE) (a N L : Nat) (f : gf) (ws : va_W) : Prop := ∃ (b0 b1 b2 b3 : Nat), ws = wsTypes γ a N L b0 b1 b2 b3 (f 0) (f 1) (f 2) (f 3) ∧ N ≤ L ∧ L ≤ 8192 ∧ 16 ≤ L
def gObjects (γ : gE) (a rw N L : Nat) (f : gf) (ws : va_W) : Prop := ∃ (b0 b1 b2 : Nat), ws = wsObjects γ a rw N L b0 b1 b2 (f 0) (f 1) (f 2) ∧ N ≤ L ∧ L ≤ 8192 ∧ 16 ≤ L
def gLooks (γ : gE) (a rw L : Nat) (f : gf) (ws : va_W) : Prop := ∃ (b0 b1 b2 b3 b4 : Nat), ws = wsLooks γ a rw L b0 b1 b2 b3 b4 (f 0) (f 1) (f 2) (f 3) (f 4) ∧ L ≤ 8192 ∧ 64 ≤ L
def gRows (γ : gE) (a M : Nat) (g : gg) (ws : va_W) : Prop := ∃ (b0 : Nat), ws = wsRows γ a M b0 g ∧ M ≤ 8192 ∧ 16 ≤ M
def gSkel (γ : gE) (o : Nat → Nat) (L : Nat) (f : gf) (ws : va_W) : Prop := ∃ (b0 : Nat), ws = wsSkel γ o L b0 (f 0) (f 1 0) (f 2 0) ∧ L ≤ 8192 ∧ 64 ≤ L
def FFG (γ : gE) (κ : Nat → Nat) (f : gf) (g : gg) : Nat → va_W → Prop
  | 1 => gSkel γ γ.2.2.2 (κ 15) f
  | 2 => gTrees γ (γ.2.2.2 1) (κ 0) (κ 1) (κ 11) f
  | 3 => gNames γ (γ.2.2.2 2) (κ 2) (κ 3) (κ 12) f
  | 4 => gTypes γ (γ.2.2.2 3) (κ 4) (κ 13) f
  | 5 => gObjects γ (γ.2.2.2 4) (γ.2.2.2 5) (κ 5) (κ 14) f
  | 6 => gRows γ (γ.2.2.2 5) (κ 8) g
  | 7 => gLooks γ (γ.2.2.2 6) (γ.2.2.2 7) (κ 6) f
  | 8 => gRows γ (γ.2.2.2 7) (κ 9) g
  | 9 => gLooks γ (γ.2.2.2 9) (γ.2.2.2 10) (κ 7) f
  | 10 => gRows γ (γ.2.2.2 10) (κ 10) g
  | _ => fun _ => True
def INVF (γ : gE) (A : Nat → Prop) (κ : Nat → Nat) (φ : gF) (ψ : gG) (H : Heap) : Prop := ∃ ρ : Nat → Nat, (∀ q, ρ q ≠ 0 → A q) ∧ ∀ i, 1 ≤ i → i ≤ 10 → cmp γ (FFG γ κ (φ i) (ψ i) i) (fun q => ρ q = i) H
theorem cmp_imp {γ : gE} {F F' : va_W → Prop} {Z : Nat → Prop} {H : Heap} (h : ∀ ws, F ws → F' ws) (hc : cmp γ F Z H) : cmp γ F' Z H := by
  obtain ⟨ws, hF, hP, hD⟩ := hc
  exact ⟨ws, h ws hF, hP, hD⟩
theorem ffg_ff {γ : gE} {κ : Nat → Nat} {f : gf} {g : gg} (i : Nat) (h1 : 1 ≤ i) (h2 : i ≤ 10) (ws : va_W) (h : FFG γ κ f g i ws) : FF γ κ i ws := by
  rcases (show i = 1 ∨ i = 2 ∨ i = 3 ∨ i = 4 ∨ i = 5 ∨ i = 6 ∨ i = 7 ∨ i = 8 ∨ i = 9 ∨ i = 10 by omega) with e | e | e | e | e | e | e | e | e | e <;> subst e
  · obtain ⟨b0, e, h⟩ := h; exact ⟨b0, _, _, _, e, h⟩
  · obtain ⟨b0, b1, b2, b3, e, h⟩ := h; exact ⟨b0, b1, b2, b3, _, _, _, _, e, h⟩
  · obtain ⟨b0, b1, b2, b3, b4, b5, b6, e, h⟩ := h; exact ⟨b0, b1, b2, b3, b4, b5, b6, _, _, _, _, _, _, _, e, h⟩
  · obtain ⟨b0, b1, b2, b3, e, h⟩ := h; exact ⟨b0, b1, b2, b3, _, _, _, _, e, h⟩
  · obtain ⟨b0, b1, b2, e, h⟩ := h; exact ⟨b0, b1, b2, _, _, _, e, h⟩
  · obtain ⟨b0, e, h⟩ := h; exact ⟨b0, _, e, h⟩
  · obtain ⟨b0, b1, b2, b3, b4, e, h⟩ := h; exact ⟨b0, b1, b2, b3, b4, _, _, _, _, _, e, h⟩
  · obtain ⟨b0, e, h⟩ := h; exact ⟨b0, _, e, h⟩
  · obtain ⟨b0, b1, b2, b3, b4, e, h⟩ := h; exact ⟨b0, b1, b2, b3, b4, _, _, _, _, _, e, h⟩
  · obtain ⟨b0, e, h⟩ := h; exact ⟨b0, _, e, h⟩
theorem inv_of {γ : gE} {A : Nat → Prop} {κ : Nat → Nat} {φ : gF} {ψ : gG} {H : Heap} (h : INVF γ A κ φ ψ H) : INV γ A κ H := by
  obtain ⟨ρ, h1, h2⟩ := h
  exact ⟨ρ, h1, fun i a b => cmp_imp (ffg_ff i a b) (h2 i a b)⟩
/-- up at a place whose content is as it was -/
theorem up_id {α : Type} (f : Nat → α) (i : Nat) : up f i (f i) = f := by
  funext j
  unfold up
  by_cases h : j = i
  · rw [if_pos h, h]
  · rw [if_neg h]
theorem ing_c {γ : gE} {A : Nat → Prop} {κ : Nat → Nat} {φ : gF} {ψ : gG} {H : Heap} (hI : INVF γ A κ φ ψ H) (i : Nat) (h1 : 1 ≤ i) (h2 : i ≤ 10) : ∃ Z, cmp γ (FFG γ κ (φ i) (ψ i) i) Z H := by
  obtain ⟨ρ, -, hc⟩ := hI
  exact ⟨_, hc i h1 h2⟩
theorem ing_lift {γ : gE} {A : Nat → Prop} {κ : Nat → Nat} {φ : gF} {ψ : gG} {H : Heap} (hI : INVF γ A κ φ ψ H) (hA : ∀ q, H.size ≤ q → A q) (i : Nat) (h1 : 1 ≤ i) (h2 : i ≤ 10) : ∃ Z : Nat → Prop, cmp γ (FFG γ κ (φ i) (ψ i) i) Z H ∧ (∀ q, H.size ≤ q → Z q) ∧ (∀ q, Z q → A q) ∧
    ∀ (κ' : Nat → Nat) (f' : gf) (g' : gg) (H1 : Heap), (∀ j, j ≠ i → 1 ≤ j → j ≤ 10 → ∀ f g, FFG γ κ' f g j = FFG γ κ f g j) → cmp γ (FFG γ κ' f' g' i) Z H1 → H.size ≤ H1.size → (∀ q : Nat, q < H.size → ¬ Z q → H1[q]? = H[q]?) → INVF γ A κ' (up φ i f') (up ψ i g') H1 := by
  obtain ⟨ρ, hρ, hc⟩ := hI
  refine ⟨fun q => ρ q = i ∨ H.size ≤ q, cmp_kept (hc i h1 h2) (fun _ _ _ => rfl) (fun q h _ => Or.inl h), fun q h => Or.inr h, fun q h => ?_, fun κ' f' g' H1 hj hi hz hk => ?_⟩
  · rcases h with h | h
    · exact hρ q (by omega)
    · exact hA q h
  · refine ⟨fun q => if H.size ≤ q then i else ρ q, fun q h => ?_, fun j hj1 hj2 => ?_⟩
    · by_cases hq : H.size ≤ q
      · exact hA q hq
      · exact hρ q (by simpa [hq] using h)
    · by_cases hji : j = i
      · subst hji
        rw [up_s, up_s]
        refine cmp_kept hi (fun _ _ _ => rfl) (fun q h _ => ?_)
        by_cases hq : H.size ≤ q
        · simp [hq]
        · rcases h with h | h
          · simpa [hq] using h
          · exact absurd h hq
      · rw [up_n hji, up_n hji, hj j hji hj1 hj2]
        refine cmp_kept (hc j hj1 hj2) (fun q hq hl => hk q hl ?_) (fun q hq hl => ?_)
        · rintro (h | h)
          · exact hji (hq.symm.trans h)
          · omega
        · have : ¬ H.size ≤ q := by omega
          simpa [this] using hq
/-- a reading contract over one component, said of the whole -/
theorem puf_up {l : Launch} {y : MethodName} {bytes : ByteArray} {maxL fr lo : Nat} {ret : Option FieldType} {av : List Value} {γ : gE} {A : Nat → Prop} {κ : Nat → Nat} {φ : gF} {ψ : gG} {Qc : Array Value → State → Outcome → State → Prop} (i : Nat) (h1 : 1 ≤ i) (h2 : i ≤ 10)
    (hM : ∀ Z, PU l y bytes maxL ret fr lo av γ (cmp γ (FFG γ κ (φ i) (ψ i) i) Z) Qc) : PU l y bytes maxL ret fr lo av γ (INVF γ A κ φ ψ) Qc :=
  met_x hM (fun a U h => by
    obtain ⟨ha, hC, hI⟩ := h
    obtain ⟨Z, hc⟩ := ing_c hI i h1 h2
    exact ⟨Z, ⟨ha, hC, hc⟩, fun _ _ h => h, fun _ h => h⟩)
theorem og_0 {γ : gE} {A : Nat → Prop} {κ : Nat → Nat} {φ : gF} {ψ : gG} {H : Heap} (hI : INVF γ A κ φ ψ H) : OF γ H (γ.2.2.2 0) 0 6 (.int (φ 1 1 0)) := by
  obtain ⟨Z, ws, ⟨b0, rfl, h1, h2⟩, hP, hD⟩ := ing_c hI 1 (by decide) (by decide)
  exact ⟨_, fun k q hq => hP 0 q (by cases k with | zero => exact hq | succ k => cases hq), rfl⟩
theorem og_8 {γ : gE} {A : Nat → Prop} {κ : Nat → Nat} {φ : gF} {ψ : gG} {H : Heap} (hI : INVF γ A κ φ ψ H) : OF γ H (γ.2.2.2 8) 7 7 (.int (φ 1 2 0)) := by
  obtain ⟨Z, ws, ⟨b0, rfl, h1, h2⟩, hP, hD⟩ := ing_c hI 1 (by decide) (by decide)
  exact ⟨_, fun k q hq => hP 1 q (by cases k with | zero => exact hq | succ k => cases hq), rfl⟩
