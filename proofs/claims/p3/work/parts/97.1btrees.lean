-- TREES of the reference: the places behind a node's children, from the right
def tX (b : Nat → Nat) (k : Nat) : Nat → Nat
  | 0 => k
  | i + 1 => match tX b k i with
    | 0 => 0
    | m + 1 => b m
theorem tX_s {b : Nat → Nat} {k i m : Nat} (h : tX b k i = m + 1) : tX b k (i + 1) = b m := by
  show (match tX b k i with | 0 => 0 | m + 1 => b m) = b m
  rw [h]
theorem tX_z {b : Nat → Nat} {k i : Nat} (h : tX b k i = 0) : tX b k (i + 1) = 0 := by
  show (match tX b k i with | 0 => 0 | m + 1 => b m) = 0
  rw [h]
theorem tX_le {b : Nat → Nat} {N k : Nat} (hb : ∀ c, c < N → b c ≤ c) (hk : k ≤ N) : ∀ i, tX b k i ≤ k
  | 0 => Nat.le_refl _
  | i + 1 => by
    have h := tX_le hb hk i
    cases e : tX b k i with
    | zero => rw [tX_z e]; exact Nat.zero_le _
    | succ m =>
      rw [tX_s e]
      rw [e] at h
      have := hb m (by omega)
      omega
theorem tX_dn {b : Nat → Nat} {N k : Nat} (hb : ∀ c, c < N → b c ≤ c) (hk : k ≤ N) (i : Nat) : tX b k (i + 1) ≤ tX b k i := by
  have h := tX_le hb hk i
  cases e : tX b k i with
  | zero => rw [tX_z e]; exact Nat.le_refl _
  | succ m =>
    rw [tX_s e]
    rw [e] at h
    have := hb m (by omega)
    omega
theorem tX_mono {b : Nat → Nat} {N k : Nat} (hb : ∀ c, c < N → b c ≤ c) (hk : k ≤ N) (i d : Nat) : tX b k (i + d) ≤ tX b k i := by
  induction d with
  | zero => exact Nat.le_refl _
  | succ d ih => exact Nat.le_trans (tX_dn hb hk (i + d)) ih
theorem tX_sub {b : Nat → Nat} {N k : Nat} (hb : ∀ c, c < N → b c ≤ c) (hk : k ≤ N) : ∀ i, (∀ j, j < i → 1 ≤ tX b k j) → tX b k i + i ≤ k
  | 0, _ => Nat.le_refl _
  | i + 1, h => by
    have h1 := tX_sub hb hk i (fun j hj => h j (by omega))
    have h2 := h i (by omega)
    obtain ⟨m, hm⟩ : ∃ m, tX b k i = m + 1 := ⟨tX b k i - 1, by omega⟩
    rw [tX_s hm]
    have := hb m (by omega)
    omega
theorem tX_congr {b b' : Nat → Nat} {N k : Nat} (hb : ∀ c, c < N → b c ≤ c) (he : ∀ c, c < N → b' c = b c) (hk : k ≤ N) : ∀ i, tX b' k i = tX b k i
  | 0 => rfl
  | i + 1 => by
    have h := tX_congr hb he hk i
    have h2 := tX_le hb hk i
    cases e : tX b k i with
    | zero => rw [tX_z e, tX_z (h.trans e)]
    | succ m =>
      rw [tX_s e, tX_s (h.trans e)]
      rw [e] at h2
      exact he m (by omega)
theorem lam {N : Nat} {b mn : Nat → Nat} (hb : ∀ c, c < N → b c ≤ c) (hm : ∀ k, k < N → b k = tX b k (mn k)) : ∀ k, k < N → ∀ a, b k ≤ a → a ≤ k → b k ≤ b a := by
  intro k
  induction k using Nat.strongRecOn with
  | ind k ih =>
    intro hk a h1 h2
    have L : ∀ i a, tX b k i ≤ a → a < k → tX b k i ≤ b a := by
      intro i
      induction i with
      | zero => intro a h1 h2; exact absurd h1 (Nat.not_le.mpr h2)
      | succ i ihi =>
        intro a h1 h2
        have hle := tX_le hb (Nat.le_of_lt hk) i
        cases e : tX b k i with
        | zero => rw [tX_z e]; exact Nat.zero_le _
        | succ m =>
          rw [tX_s e] at h1 ⊢
          rw [e] at hle ihi
          by_cases h3 : a ≤ m
          · exact ih m (by omega) (by omega) a h1 h3
          · have h4 := ihi a (by omega) h2
            have h5 := hb m (by omega)
            omega
    rcases Nat.lt_or_ge a k with h3 | h3
    · have h4 := L (mn k) a (by rw [← hm k hk]; exact h1) h3
      have h5 := hm k hk
      omega
    · have h4 : a = k := by omega
      subst h4
      exact Nat.le_refl _
theorem lamX {N : Nat} {b mn : Nat → Nat} (hb : ∀ c, c < N → b c ≤ c) (hm : ∀ k, k < N → b k = tX b k (mn k)) {k : Nat} (hk : k ≤ N) : ∀ i a, tX b k i ≤ a → a < k → tX b k i ≤ b a := by
  intro i
  induction i with
  | zero => intro a h1 h2; exact absurd h1 (Nat.not_le.mpr h2)
  | succ i ihi =>
    intro a h1 h2
    have hle := tX_le hb hk i
    cases e : tX b k i with
    | zero => rw [tX_z e]; exact Nat.zero_le _
    | succ m =>
      rw [tX_s e] at h1 ⊢
      rw [e] at hle ihi
      by_cases h3 : a ≤ m
      · exact lam hb hm m (by omega) a h1 h3
      · have h4 := ihi a (by omega) h2
        have h5 := hb m (by omega)
        omega
/-- the trees of N nodes, r roots -/
def TR (N r : Nat) (τ : Nat → Nat → Int32) (b mn : Nat → Nat) : Prop :=
  (∀ c, c < N → τ 5 c = nI (b c) ∧ b c ≤ c) ∧ (∀ k, k < N → τ 4 k = nI (mn k) ∧ mn k ≤ 4000 ∧ (∀ i, i < mn k → 1 ≤ tX b k i) ∧ b k = tX b k (mn k)) ∧ ∀ i, i < r → 1 ≤ tX b N i ∧ τ 7 (r - 1 - i) = nI (tX b N i - 1)
/-- a node is below an ATTRIBUTE of those up to 'to' -/
def hid (τ : Nat → Nat → Int32) (b : Nat → Nat) (c to : Nat) : Prop := ∃ a, c < a ∧ a ≤ to ∧ τ 2 a = 25 ∧ b a ≤ c
theorem hid_ch {N r : Nat} {τ : Nat → Nat → Int32} {b mn : Nat → Nat} (hT : TR N r τ b mn) {k i to : Nat} (hk : k < N) (hi : i < mn k) (hn : ¬ hid τ b k to) (h25 : ¬ τ 2 k = 25) : ¬ hid τ b (tX b k i - 1) to := by
  rintro ⟨a, h1, h2, h3, h4⟩
  have hb : ∀ c, c < N → b c ≤ c := fun c hc => (hT.1 c hc).2
  have hX := (hT.2.1 k hk).2.2.1 i hi
  have hle := tX_le hb (Nat.le_of_lt hk) i
  rcases Nat.lt_trichotomy a k with h | h | h
  · have := lamX hb (fun k hk => (hT.2.1 k hk).2.2.2) (Nat.le_of_lt hk) i a (by omega) h
    omega
  · subst h
    exact h25 h3
  · exact hn ⟨a, h, h2, h3, by omega⟩
theorem hid_ty {N r : Nat} {τ : Nat → Nat → Int32} {b mn : Nat → Nat} (hT : TR N r τ b mn) {k i : Nat} (hk : k < N) (hi : i < mn k) : ¬ hid τ b (tX b k i - 1) (k - 1) := by
  rintro ⟨a, h1, h2, h3, h4⟩
  have hb : ∀ c, c < N → b c ≤ c := fun c hc => (hT.1 c hc).2
  have hX := (hT.2.1 k hk).2.2.1 i hi
  have hle := tX_le hb (Nat.le_of_lt hk) i
  have := lamX hb (fun k hk => (hT.2.1 k hk).2.2.2) (Nat.le_of_lt hk) i a (by omega) (by omega)
  omega
/-- a child lies in its parent's range -/
theorem ch_ge {N r : Nat} {τ : Nat → Nat → Int32} {b mn : Nat → Nat} (hT : TR N r τ b mn) {k i : Nat} (hk : k < N) (hi : i < mn k) : b k ≤ tX b k i - 1 ∧ tX b k i - 1 < k := by
  have hb : ∀ c, c < N → b c ≤ c := fun c hc => (hT.1 c hc).2
  have hX := (hT.2.1 k hk).2.2.1 i hi
  have hle := tX_le hb (Nat.le_of_lt hk) i
  obtain ⟨m, hm⟩ : ∃ m, tX b k i = m + 1 := ⟨tX b k i - 1, by omega⟩
  have h1 : tX b k (i + 1) = b m := tX_s hm
  have h2 := hb m (by omega)
  have h3 := tX_mono hb (Nat.le_of_lt hk) (i + 1) (mn k - (i + 1))
  rw [show i + 1 + (mn k - (i + 1)) = mn k by omega] at h3
  have h4 := (hT.2.1 k hk).2.2.2
  omega
theorem rg_ge {N r : Nat} {τ : Nat → Nat → Int32} {b mn : Nat → Nat} (hT : TR N r τ b mn) {n k : Nat} (hn : n < N) (h1 : b n ≤ k) (h2 : k ≤ n) : b n ≤ b k := lam (fun c hc => (hT.1 c hc).2) (fun k hk => (hT.2.1 k hk).2.2.2) n hn k h1 h2
/-- one node more -/
theorem tr_add {N r n : Nat} {τ τ' : Nat → Nat → Int32} {b mn : Nat → Nat} (hT : TR N r τ b mn) (hn : n ≤ r) (hn2 : n ≤ 4000)
    (h5 : ∀ c, c < N → τ' 5 c = τ 5 c) (h4 : ∀ c, c < N → τ' 4 c = τ 4 c) (h7 : ∀ c, c < r - n → τ' 7 c = τ 7 c) (e5 : τ' 5 N = nI (tX b N n)) (e4 : τ' 4 N = nI n) (e7 : τ' 7 (r - n) = nI N) :
    TR (N + 1) (r - n + 1) τ' (fun c => if c = N then tX b N n else b c) (fun c => if c = N then n else mn c) := by
  have hb : ∀ c, c < N → b c ≤ c := fun c hc => (hT.1 c hc).2
  have hc0 : ∀ c, c < N → (fun c => if c = N then tX b N n else b c) c = b c := fun c hc => if_neg (by omega)
  have hX : ∀ k, k ≤ N → ∀ i, tX (fun c => if c = N then tX b N n else b c) k i = tX b k i := fun k hk i => tX_congr hb hc0 hk i
  refine ⟨fun c hc => ?_, fun k hk => ?_, fun i hi => ?_⟩
  · by_cases h : c = N
    · subst h
      simp only [if_true]
      exact ⟨e5, tX_le hb (Nat.le_refl _) n⟩
    · have hc2 : c < N := by omega
      rw [h5 c hc2, hc0 c hc2]
      exact hT.1 c hc2
  · rw [hX k (by omega)]
    by_cases h : k = N
    · subst h
      simp only [if_true]
      refine ⟨e4, hn2, fun i hi => ?_, trivial⟩
      rw [hX k (Nat.le_refl _)]
      exact (hT.2.2 i (by omega)).1
    · have hk2 : k < N := by omega
      simp only [if_neg h]
      rw [h4 k hk2]
      obtain ⟨a1, a2, a3, a4⟩ := hT.2.1 k hk2
      refine ⟨a1, a2, fun i hi => ?_, a4⟩
      rw [hX k (by omega)]
      exact a3 i hi
  · cases i with
    | zero =>
      refine ⟨by show 1 ≤ N + 1; omega, ?_⟩
      rw [show r - n + 1 - 1 - 0 = r - n by omega]
      exact e7
    | succ i =>
      have hs : ∀ i, tX (fun c => if c = N then tX b N n else b c) (N + 1) (i + 1) = tX b N (n + i) := by
        intro i
        induction i with
        | zero =>
          rw [tX_s (m := N) rfl]
          simp
        | succ i ih =>
          cases e : tX b N (n + i) with
          | zero =>
            rw [tX_z (ih.trans e)]
            exact (tX_z e).symm
          | succ m =>
            rw [tX_s (ih.trans e)]
            have h1 := tX_le hb (Nat.le_refl N) (n + i)
            rw [e] at h1
            show (if m = N then tX b N n else b m) = _
            rw [if_neg (by omega)]
            exact (tX_s e).symm
      rw [hs i]
      obtain ⟨a1, a2⟩ := hT.2.2 (n + i) (by omega)
      refine ⟨a1, ?_⟩
      rw [show r - n + 1 - 1 - (i + 1) = r - 1 - (n + i) by omega, h7 _ (by omega)]
      exact a2
-- what holds between calls
def TY (τ : Nat → Nat → Int32) : Prop := ∀ t, t < 1000 → τ 16 t = 3 → ∃ lo hi cn : Nat, τ 17 t = nI lo ∧ τ 18 t = nI hi ∧ τ 19 t = nI cn ∧ lo < 2 ^ 31 ∧ hi < 2 ^ 31 ∧ lo ≤ hi + 63 ∧ hi ≤ lo + 63 ∧ cn ≤ 64 ∧ (τ 20 t = 0 → lo ≤ hi) ∧ (¬ τ 20 t = 0 → hi ≤ lo)
def OB (τ : Nat → Nat → Int32) : Prop := ∀ o, o < 2000 → ∃ t, t < 1000 ∧ τ 23 o = nI t
def NM (τ : Nat → Nat → Int32) : Prop := ∀ k, k < 3000 → (τ 26 k = 1 → ∃ o, o < 2000 ∧ τ 27 k = nI o) ∧ (τ 26 k = 2 → ∃ o, o ≤ 1000 ∧ τ 27 k = nI o) ∧ (τ 26 k = 4 → ¬ 11 < τ 27 k)
/-- κ: 0 nodes, 1 roots, 2 types, 3 objects, 4 names, 5 scopes -/
def ST (κ b mn : Nat → Nat) (ν : Nat → Int32) (τ : Nat → Nat → Int32) : Prop :=
  (κ 0 ≤ 4000 ∧ κ 1 ≤ κ 0 ∧ κ 2 ≤ 1000 ∧ κ 3 ≤ 2000 ∧ κ 4 ≤ 3000 ∧ 1 ≤ κ 5 ∧ κ 5 ≤ 32) ∧ (ν 6 = nI (κ 0) ∧ ν 8 = nI (κ 1) ∧ ν 21 = nI (κ 2) ∧ ν 24 = nI (κ 3) ∧ ν 30 = nI (κ 4) ∧ ν 31 = nI (κ 5)) ∧ TR (κ 0) (κ 1) τ b mn ∧ TY τ ∧ OB τ ∧ NM τ
def SZ (F : Nat → Nat → Int32) : Prop := ∀ f, f < 10000 → ∃ j, j ≤ 1000 ∧ F 10 f = nI j
def FD (σ : Nat → Int32) : Prop := (σ 32 = 1 → ∃ j, j < 2000 ∧ σ 33 = nI j) ∧ (σ 32 = 2 → ∃ j, j ≤ 1000 ∧ σ 33 = nI j) ∧ (σ 32 = 4 → ¬ 11 < σ 33)
def GK (f : Nat) (F : Nat → Nat → Int32) (nu : Nat → Int64) : Prop := F 9 f = 2 → -2147483648 < (nu f).toInt ∧ (nu f).toInt < 2147483648
def GD (F : Nat → Nat → Int32) (nu : Nat → Int64) : Prop := ∀ f, 4000 ≤ f → f < 10000 → GK f F nu
def SL (k : Nat) (F : Nat → Nat → Int32) (nu : Nat → Int64) (F' : Nat → Nat → Int32) (nu' : Nat → Int64) : Prop := ∀ j, j ≠ k → F' 9 j = F 9 j ∧ nu' j = nu j
/-- a slot is set: class, size, number -/
def SLT (k : Nat) (c n : Int32) (v : Int64) (F : Nat → Nat → Int32) (nu : Nat → Int64) (F' : Nat → Nat → Int32) (nu' : Nat → Int64) : Prop := F' 9 = upd (F 9) k c ∧ F' 10 = upd (F 10) k n ∧ nu' = vp_updL nu k v
def EQ14 (F F' : Nat → Nat → Int32) : Prop := ∀ q, q ≠ 14 → F' q = F q
/-- what a look at node k leaves -/
def LKo (γ : gE) (a : Nat) (B : Nat → Nat) (Z : Nat → Prop) (ν : Nat → Int32) (τ : Nat → Nat → Int32) (k : Nat) (F : Nat → Nat → Int32) (nu : Nat → Int64) (r : Int32) (H : Heap) : Prop := ∃ (σ' : Nat → Int32) (F' : Nat → Nat → Int32) (nu' : Nat → Int64), MD γ a B Z ν τ σ' F' nu' H ∧ SZ F' ∧ FD σ' ∧ SL k F nu F' nu' ∧ (¬ 0 < r → GK k F' nu')
/-- the reference between calls: sizes κ, the code cd -/
def MI (γ : gE) (a : Nat) (B : Nat → Nat) (Z : Nat → Prop) (κ : Nat → Nat) (cd : Int32) (H : Heap) : Prop := ∃ (b mn : Nat → Nat) (ν : Nat → Int32) (τ : Nat → Nat → Int32) (σ : Nat → Int32) (F : Nat → Nat → Int32) (nu : Nat → Int64), ST κ b mn ν τ ∧ SZ F ∧ FD σ ∧ GD F nu ∧ σ 0 = cd ∧ MD γ a B Z ν τ σ F nu H
theorem SL.rf {k : Nat} {F : Nat → Nat → Int32} {nu : Nat → Int64} : SL k F nu F nu := fun _ _ => ⟨rfl, rfl⟩
theorem SL.trans {k : Nat} {F F1 F2 : Nat → Nat → Int32} {nu nu1 nu2 : Nat → Int64} (h1 : SL k F nu F1 nu1) (h2 : SL k F1 nu1 F2 nu2) : SL k F nu F2 nu2 := fun j hj => ⟨(h2 j hj).1.trans (h1 j hj).1, (h2 j hj).2.trans (h1 j hj).2⟩
theorem SL.slt {k : Nat} {c n : Int32} {v : Int64} {F F' : Nat → Nat → Int32} {nu nu' : Nat → Int64} (h : SLT k c n v F nu F' nu') : SL k F nu F' nu' := fun j hj => ⟨by rw [h.1, pk_un hj], by rw [h.2.2]; exact if_neg hj⟩
theorem SL.e14 {k : Nat} {F F' : Nat → Nat → Int32} {nu : Nat → Int64} (h : EQ14 F F') : SL k F nu F' nu := fun j _ => ⟨by rw [h 9 (by decide)], rfl⟩
theorem SL.num {k : Nat} {F : Nat → Nat → Int32} {nu : Nat → Int64} {v : Int64} : SL k F nu F (vp_updL nu k v) := fun j hj => ⟨rfl, if_neg hj⟩
theorem SL.gk {k j : Nat} {F F' : Nat → Nat → Int32} {nu nu' : Nat → Int64} (h : SL k F nu F' nu') (hj : j ≠ k) (hg : GK j F nu) : GK j F' nu' := by
  intro h2
  rw [(h j hj).1] at h2
  rw [(h j hj).2]
  exact hg h2
theorem SZ.slt {k : Nat} {c n : Int32} {v : Int64} {F F' : Nat → Nat → Int32} {nu nu' : Nat → Int64} (hz : SZ F) (h : SLT k c n v F nu F' nu') (hn : ∃ j, j ≤ 1000 ∧ n = nI j) : SZ F' := by
  intro f hf
  rw [h.2.1]
  by_cases e : f = k
  · subst e
    rw [pk_us]
    exact hn
  · rw [pk_un e]
    exact hz f hf
theorem SZ.e14 {F F' : Nat → Nat → Int32} (hz : SZ F) (h : EQ14 F F') : SZ F' := by
  intro f hf
  rw [h 10 (by decide)]
  exact hz f hf
theorem GK.zero {k : Nat} {c n : Int32} {F F' : Nat → Nat → Int32} {nu nu' : Nat → Int64} (h : SLT k c n 0 F nu F' nu') : GK k F' nu' := by
  intro _
  rw [h.2.2]
  show -2147483648 < (if k = k then (0 : Int64) else nu k).toInt ∧ (if k = k then (0 : Int64) else nu k).toInt < 2147483648
  rw [if_pos rfl]
  decide
theorem GK.e14 {k : Nat} {F F' : Nat → Nat → Int32} {nu : Nat → Int64} (hg : GK k F nu) (h : EQ14 F F') : GK k F' nu := by
  intro h2
  rw [h 9 (by decide)] at h2
  exact hg h2
theorem GK.num {k : Nat} {F : Nat → Nat → Int32} {nu : Nat → Int64} {v : Int64} (h : F 9 k = 2 → -2147483648 < v.toInt ∧ v.toInt < 2147483648) : GK k F (vp_updL nu k v) := by
  intro h2
  show -2147483648 < (if k = k then v else nu k).toInt ∧ (if k = k then v else nu k).toInt < 2147483648
  rw [if_pos rfl]
  exact h h2
theorem vin {x : Int32} {n m : Nat} (h : vp_in x n) (hm : n ≤ m) : vp_in x m := fun h2 => h (h2.imp_right (fun h3 => Nat.le_trans hm h3))
theorem vix {x : Int32} {n : Nat} (h : vp_in x n) : x.toNatClampNeg < n := Nat.not_le.mp (fun h2 => h (Or.inr h2))
theorem vnI {x : Int32} {n : Nat} (h : vp_in x n) : x = nI x.toNatClampNeg := by
  have h0 : ¬ x < 0 := fun h2 => h (Or.inl h2)
  obtain ⟨j, hj, rfl⟩ := nI_of h0
  rw [nI_clamp hj]
theorem el_in {f k : Int32} {n m : Nat} (hf : vp_in f n) (hk : vp_in k m) (h : 64 * n + m ≤ 640064) : vp_in (64 * f + k) 640000 := by
  have h1 := vix hf
  have h2 := vix hk
  rw [vnI hf, vnI hk]
  have e : (64 : Int32) * nI f.toNatClampNeg = nI (64 * f.toNatClampNeg) := pk_mul 64 _
  rw [e, nI_add]
  exact vp_in_nI (by omega) (by omega)
