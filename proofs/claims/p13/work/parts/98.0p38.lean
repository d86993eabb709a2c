-- enumeration
/-- the answers of enumeration agree -/
def ANe (o : XR) (q : XQ) : Prop := (o.1 = 0 ∧ q.2.2.2.1 0 = 0 ∧ o.2.1 = q.1) ∨ (o.1 = 1 ∧ q.2.2.2.1 0 = 1) ∨ (o.1 = 3 ∧ q.2.2.2.1 0 = 2)
theorem ane_0 {r r' : Int32} {κ κr : Nat → Nat} {φ : gF} {ψ : gG} {τ : gf} {σ : gs} {F : gf} {nu : gg} (h1 : σ 0 = 0) (h2 : r = r') : ANe (0, r, κ, φ, ψ) (r', κr, τ, σ, F, nu) := Or.inl ⟨rfl, h1, h2⟩
theorem LLn_ok {L K : Nat} (hL : L ≤ 8192) (hK : K ≤ 3012) : ∀ j, j ≤ 64 → LLn L K j ≤ 8192 ∧ K + 1 + j ≤ LLn L K j := by
  intro j
  induction j with
  | zero =>
    intro _
    have := wl_ok (n := L) (N := K + 1) hL (by omega)
    exact ⟨this.2.2, this.1⟩
  | succ j ih =>
    intro hj
    have h1 := ih (by omega)
    have := wl_ok (n := LLn L K j) (N := K + 1 + j + 1) h1.1 (by omega)
    exact ⟨this.2.2, this.1⟩
def kE (κ : Nat → Nat) (j : Nat) : Nat → Nat := ku (ku (ku (ku κ 4 (κ 4 + 1)) 13 (wl (κ 13) (κ 4 + 1))) 2 (κ 2 + 1 + j)) 12 (LLn (κ 12) (κ 2) j)
theorem IL_kE {κ : Nat → Nat} {j : Nat} (hI : IL κ) (h2 : κ 2 ≤ 3012) (h4 : κ 4 ≤ 1000) (hj : j ≤ 64) : IL (kE κ j) := by
  obtain ⟨⟨i6, i7, i8, i9, i10, i11, i12, i13, i14, i15⟩, j1, j2, j3, j4, j5, j6, j7⟩ := hI
  have w13 := wl_ok (n := κ 13) (N := κ 4 + 1) i13 (by omega)
  have wL := LLn_ok i12 h2 j hj
  exact ⟨⟨i6, i7, i8, i9, i10, i11, wL.1, w13.2.2, i14, i15⟩, j1, j2, wL.2, w13.1, j5, j6, j7⟩
theorem kE_s {κ : Nat → Nat} {j : Nat} : ku (ku (kE κ j) 2 (kE κ j 2 + 1)) 12 (wl (kE κ j 12) (kE κ j 2 + 1)) = kE κ (j + 1) := by
  funext i
  show (if i = 12 then wl (LLn (κ 12) (κ 2) j) (κ 2 + 1 + j + 1) else if i = 2 then κ 2 + 1 + j + 1 else if i = 12 then _ else if i = 2 then _ else if i = 13 then wl (κ 13) (κ 4 + 1) else if i = 4 then κ 4 + 1 else κ i) = if i = 12 then LLn (κ 12) (κ 2) (j + 1) else if i = 2 then κ 2 + 1 + (j + 1) else if i = 13 then wl (κ 13) (κ 4 + 1) else if i = 4 then κ 4 + 1 else κ i
  by_cases h1 : i = 12
  · rw [if_pos h1, if_pos h1]; rfl
  · by_cases h2 : i = 2
    · simp only [if_neg h1, if_pos h2]; rfl
    · simp only [if_neg h1, if_neg h2]
def krE (κr : Nat → Nat) (j : Nat) : Nat → Nat := ku (ku κr 2 (κr 2 + 1)) 4 (κr 4 + 1 + j)
theorem krE_s {κr : Nat → Nat} {j : Nat} : ku (krE κr j) 4 (krE κr j 4 + 1) = krE κr (j + 1) := by
  funext i
  show (if i = 4 then κr 4 + 1 + j + 1 else if i = 4 then _ else if i = 2 then κr 2 + 1 else κr i) = if i = 4 then κr 4 + 1 + (j + 1) else if i = 2 then κr 2 + 1 else κr i
  by_cases h1 : i = 4
  · rw [if_pos h1, if_pos h1]; rfl
  · simp only [if_neg h1]
theorem nm_low {κr : Nat → Nat} {τ : gf} {σ : gs} {F : gf} {nu : gg} {x1 x2 x3 x4 : Int32} {q : Nat} (hq : q < 25) : (Q_name κr τ σ F nu x1 x2 x3 x4).2.1 q = τ q := by
  unfold Q_name
  funext i
  simp only [au_a, show ¬ q = 29 by omega, show ¬ q = 28 by omega, show ¬ q = 27 by omega, show ¬ q = 26 by omega, show ¬ q = 25 by omega, false_and, if_false]
theorem nt_low {κr : Nat → Nat} {τ : gf} {σ : gs} {F : gf} {nu : gg} {x1 x2 x3 x4 x5 : Int32} {q : Nat} (hq : q < 16) : (Q_newType κr τ σ F nu x1 x2 x3 x4 x5).2.2.1 q = τ q := by
  unfold Q_newType
  funext i
  simp only [au_a, show ¬ q = 20 by omega, show ¬ q = 19 by omega, show ¬ q = 18 by omega, show ¬ q = 17 by omega, show ¬ q = 16 by omega, false_and, if_false]
-- about, value, place leave all as it is
-- what is known of the nodes, on both sides
def RKn (φ : gF) (F : gf) (k : Nat) : Prop := (F 15 k = 0 ∧ φ 7 0 k = -1) ∨ (F 15 k = 1 ∧ φ 7 0 k = F 9 (4000 + k) ∧ φ 7 1 k = F 10 (4000 + k) ∧ φ 7 2 k = F 12 (4000 + k) ∧ φ 7 4 k = F 11 (4000 + k) ∧ (F 11 (4000 + k) = 0 ∨ F 11 (4000 + k) = 1) ∧ ¬ F 9 (4000 + k) = -1)
def RK (κ : Nat → Nat) (φ : gF) (F : gf) : Prop := ∀ k, k < κ 0 → RKn φ F k
def RXK (κ : Nat → Nat) (φ : gF) (ψ : gG) (κr : Nat → Nat) (τ : gf) (F : gf) (nu : gg) : Prop := RX κ φ ψ κr τ F nu ∧ RK κ φ F
def STEPK (o : XR) (q : XQ) : Prop := RXK o.2.2.1 o.2.2.2.1 o.2.2.2.2 q.2.1 q.2.2.1 q.2.2.2.2.1 q.2.2.2.2.2
theorem RKn.cg {φ φ' : gF} {F F' : gf} {k : Nat} (h : RKn φ F k) (h7 : ∀ q, q < 5 → φ' 7 q k = φ 7 q k) (h15 : F' 15 k = F 15 k) (hF : ∀ q, ¬ q = 14 → ¬ q = 15 → F' q (4000 + k) = F q (4000 + k)) : RKn φ' F' k := by
  unfold RKn
  rw [h7 0 (by decide), h7 1 (by decide), h7 2 (by decide), h7 4 (by decide), h15, hF 9 (by decide) (by decide), hF 10 (by decide) (by decide), hF 11 (by decide) (by decide), hF 12 (by decide) (by decide)]
  exact h
theorem rkn_add {φ φ' : gF} {F F' : gf} {g : gf} {L n k : Nat} {x : Int32} (h : ∀ k, k < n → RKn φ F k) (e : φ' 7 = P_Looks_forget L g x) (hx : x = nI n) (hL : n < L) (hL2 : L ≤ 8192) (hg : ∀ q, q < 5 → ∀ k, k < n → g q k = φ 7 q k) (hF : F' = Au F 15 n (vp_nar .boolean 0)) (hk : k < n + 1) : RKn φ' F' k := by
  have e7 : ∀ q, φ' 7 q k = (Au (Au (Au (Au (Au g 0 n (-1)) 1 n 0) 2 n (-1)) 3 n 0) 4 n 0) q k := fun q => by rw [e, hx, pl_fg hL hL2]
  subst hF
  by_cases hn : k = n
  · subst hn
    refine Or.inl ⟨?_, ?_⟩
    · rw [au_a, if_pos ⟨rfl, rfl⟩]; decide
    · rw [e7]; simp [au_a]
  · refine (h k (by omega)).cg (fun q hq => ?_) ?_ (fun q a b => ?_)
    · rw [e7]
      simp only [au_a, hn, and_false, if_false]
      exact hg q hq k (by omega)
    · simp only [au_a, hn, and_false, if_false]
    · simp only [au_a, b, false_and, if_false]
theorem mr7 {κ : Nat → Nat} {φ : gF} {ψ : gG} {N q k : Nat} (hq : q < 5) (hk : k < κ 6) : (P_Looks_makeRoom6 κ φ ψ N).1 7 q k = φ 7 q k := by
  unfold P_Looks_makeRoom6
  rcases (show q = 0 ∨ q = 1 ∨ q = 2 ∨ q = 3 ∨ q = 4 by omega) with h | h | h | h | h <;> subst h
  all_goals (show P_wr (κ 6) N _ k = _; exact P_wr_lt hk)
theorem RXK.fault {κ κr : Nat → Nat} {φ : gF} {ψ : gG} {τ F : gf} {nu : gg} {x : Int32} (h : RXK κ φ ψ κr τ F nu) : RXK κ (up φ 1 (Au (φ 1) 1 0 x)) ψ κr τ F nu := ⟨h.1.fault, fun k hk => (h.2 k hk).cg (fun _ _ => rfl) rfl (fun _ _ _ => rfl)⟩
theorem RXK.fr {κ κr : Nat → Nat} {φ φ' : gF} {ψ ψ' : gG} {τ F F' : gf} {nu nu' : gg} (h : RXK κ φ ψ κr τ F nu) (h1 : FrX φ ψ φ' ψ') (h2 : frR F nu F' nu') : RXK κ φ' ψ' κr τ F' nu' :=
  ⟨h.1.fr h1 h2, fun k hk => (h.2 k hk).cg (fun q _ => by rw [h1.1 7 (by decide) (by decide)]) (by rw [h2.1 15 (by decide) (by decide) (by decide) (by decide) (by decide)]) (fun q a b => h2.2.1 q (4000 + k) a (by omega))⟩
def LsQ (φ : gF) (F : gf) (k : Nat) : Prop := φ 9 0 k = F 9 k ∧ φ 9 1 k = F 10 k ∧ φ 9 2 k = F 12 k ∧ φ 9 4 k = F 11 k ∧ (F 9 k = 0 ∨ F 9 k = 1 ∨ F 9 k = 2 ∨ F 9 k = 3 ∨ F 9 k = 4) ∧ (F 11 k = 0 ∨ F 11 k = 1)
theorem lsq {M : Nat} {φ : gF} {g : gg} {F : gf} {nu : gg} {k : Nat} (h : LsK M (φ 9) g F nu k) : LsQ φ F k := ⟨h.1, h.2.1, h.2.2.1, h.2.2.2.1, h.2.2.2.2.1, h.2.2.2.2.2.1⟩
theorem RKn_tk {κ : Nat → Nat} {φ : gF} {ψ : gG} {τ' F F2 : gf} {nu nu2 : gg} {f7 : gf} {g8 : gg} {f m k : Nat} (h : RKn φ F k) (e2 : ∀ k, f ≤ k → k < m → ¬ hdn τ' k m → told κ φ ψ f7 g8 k) (e3 : ∀ k, (k < f ∨ m ≤ k ∨ hdn τ' k m) → (∀ q, f7 q k = φ 7 q k))
    (k2 : ∀ k, f ≤ k → k < m → ¬ hdn τ' k m → kept F F nu F2 nu2 k) (k3 : ∀ q i, ¬ q = 14 → ¬ q = 15 → (∀ k, i = 4000 + k → k < f ∨ m ≤ k ∨ hdn τ' k m) → F2 q i = F q i) (k6 : ∀ k, (k < f ∨ m ≤ k ∨ hdn τ' k m) → F2 15 k = F 15 k)
    (g3 : ∀ a, f ≤ a → a < m → ¬ hdn τ' a m → LsQ φ F a) : RKn (up φ 7 f7) F2 k := by
  by_cases hin : f ≤ k ∧ k < m ∧ ¬ hdn τ' k m
  · obtain ⟨a1, a2, a3⟩ := hin
    obtain ⟨u0, u1, u2, u3, u4, u5⟩ := e2 k a1 a2 a3
    obtain ⟨v9, v10, v11, v12, v13, v14, v15⟩ := k2 k a1 a2 a3
    obtain ⟨w0, w1, w2, w4, wc, wx⟩ := g3 k a1 a2 a3
    refine Or.inr ⟨v15, ?_, ?_, ?_, ?_, ?_, ?_⟩
    · rw [up_s, u0, v9]; exact w0
    · rw [up_s, u1, v10]; exact w1
    · rw [up_s, u2, v12]; exact w2
    · rw [up_s, u4, v11, w4]
      rcases wx with h9 | h9 <;> rw [h9] <;> rfl
    · rw [v11]; exact wx
    · rw [v9]
      rcases wc with h9 | h9 | h9 | h9 | h9 <;> rw [h9] <;> decide
  · have hout : k < f ∨ m ≤ k ∨ hdn τ' k m := by
      by_cases b1 : k < f
      · exact Or.inl b1
      · by_cases b2 : m ≤ k
        · exact Or.inr (Or.inl b2)
        · exact Or.inr (Or.inr (Classical.not_not.mp (fun h9 => hin ⟨by omega, by omega, h9⟩)))
    exact h.cg (fun q _ => by rw [up_s]; exact e3 k hout q) (k6 k hout) (fun q a b => k3 q _ a b (fun k' e => (show k = k' by omega) ▸ hout))
theorem RXK.tk {κ κr : Nat → Nat} {φ : gF} {ψ : gG} {τ τ' F F2 : gf} {nu nu2 : gg} {f7 : gf} {g8 : gg} {f m : Nat} (h : RXK κ φ ψ κr τ F nu) (e2 : ∀ k, f ≤ k → k < m → ¬ hdn τ' k m → told κ φ ψ f7 g8 k) (e3 : ∀ k, (k < f ∨ m ≤ k ∨ hdn τ' k m) → (∀ q, f7 q k = φ 7 q k))
    (k2 : ∀ k, f ≤ k → k < m → ¬ hdn τ' k m → kept F F nu F2 nu2 k) (k3 : ∀ q i, ¬ q = 14 → ¬ q = 15 → (∀ k, i = 4000 + k → k < f ∨ m ≤ k ∨ hdn τ' k m) → F2 q i = F q i) (k4 : ∀ i, (∀ k, i / 64 = 4000 + k → k < f ∨ m ≤ k ∨ hdn τ' k m) → F2 14 i = F 14 i) (k5 : ∀ i, (∀ k, i = 4000 + k → k < f ∨ m ≤ k ∨ hdn τ' k m) → nu2 i = nu i) (k6 : ∀ k, (k < f ∨ m ≤ k ∨ hdn τ' k m) → F2 15 k = F 15 k)
    (hm : m ≤ 4000) (g3 : ∀ a, f ≤ a → a < m → ¬ hdn τ' a m → LsK (κ 10) (φ 9) (ψ 10) F nu a) : RXK κ (up φ 7 f7) (up ψ 8 g8) κr τ F2 nu2 := by
  refine ⟨(h.1.tl (f7 := f7) (g8 := g8)).kp (fun q i a b c => k3 q i a b (fun k e => by omega)) (fun i a => k4 i (fun k e => by omega)) (fun i a => k5 i (fun k e => by omega)), fun k hk => ?_⟩
  exact RKn_tk (h.2 k hk) e2 e3 k2 k3 k6 (fun a a1 a2 a3 => lsq (g3 a a1 a2 a3))
theorem RXK_name {κ κr : Nat → Nat} {φ : gF} {ψ : gG} {τ F : gf} {nu : gg} {x1 x2 x3 x4 y2 y3 y4 : Int32} {σ : gs} (hI : IL κ) (h : RXK κ φ ψ κr τ F nu) (h4 : κr 4 < 3000) (h5 : 1 ≤ κr 5) (h51 : κr 5 ≤ 32) (hm : NMr x2 x3 x4 y2 y3 y4) (hw : ((y2 = 0 ∨ y2 = 2) → ∃ t, t < κr 2 ∧ y3 = nI t) ∧ (y2 = 1 → ∃ o, o < κr 3 ∧ y3 = nI o)) :
    RXK (ku (ku κ 2 (κ 2 + 1)) 12 (wl (κ 12) (κ 2 + 1))) (up φ 3 (P_Names_put (κ 2) (κ 3) (κ 12) (φ 3) x1 x2 x3 x4)) ψ (ku κr 4 (κr 4 + 1)) (Q_name κr τ σ F nu x1 y2 y3 y4).2.1 F nu :=
  ⟨RX_name hI h.1 h4 h5 h51 hm hw, fun k hk => (h.2 k hk).cg (fun _ _ => rfl) rfl (fun _ _ _ => rfl)⟩
theorem RXK_type {κ κr : Nat → Nat} {φ : gF} {ψ : gG} {τ F : gf} {nu : gg} {σ : gs} {F1 : gf} {nu1 : gg} {x1 x2 x3 x4 x5 c : Int32} (hI : IL κ) (h : RXK κ φ ψ κr τ F nu) (h2 : κr 2 < 1000) (h5 : vp_nar .boolean x5 = if 0 ≤ c then 0 else 1) (hc : (if 0 ≤ c then c else 0 - c) = x4) (hx : x1 = 0 ∨ x1 = 1 ∨ x1 = 2 ∨ x1 = 3 ∨ x1 = 4)
    (hr : x1 = 3 → ∃ l r n : Nat, x2 = nI l ∧ x3 = nI r ∧ x4 = nI n ∧ l < 2 ^ 31 ∧ r < 2 ^ 31 ∧ 1 ≤ n ∧ n ≤ 64 ∧ (((if 0 ≤ c then (0 : Int32) else 1) = 0 ∧ r + 1 = l + n) ∨ ((if 0 ≤ c then (0 : Int32) else 1) = 1 ∧ l + 1 = r + n))) :
    RXK (ku (ku κ 4 (κ 4 + 1)) 13 (wl (κ 13) (κ 4 + 1))) (up φ 4 (P_Types_put (κ 4) (κ 13) (φ 4) x1 x2 x3 c).2) ψ (ku κr 2 (κr 2 + 1)) (Q_newType κr τ σ F1 nu1 x1 x2 x3 x4 x5).2.2.1 F nu :=
  ⟨RX_type hI h.1 h2 h5 hc hx hr, fun k hk => (h.2 k hk).cg (fun _ _ => rfl) rfl (fun _ _ _ => rfl)⟩
theorem RXK_obj {κ κr : Nat → Nat} {φ φ1 : gF} {ψ ψ1 : gG} {τ F F1 : gf} {nu nu1 : gg} {x1 : Int32} {t : Nat} (hk : ∀ k, k < κ 0 → RKn φ1 F1 k) (hI : IL κ) (h : RXK κ φ ψ κr τ F nu) (h3 : κ 5 < 2000) (ht : t < κ 4) (hx : x1 = 0 ∨ x1 = 1 ∨ x1 = 2) (p2 : φ1 2 = φ 2) (p3 : φ1 3 = φ 3) (p4 : φ1 4 = φ 4)
    (hf : (∀ q e, q < 3 → e < κ 5 → φ1 5 q e = φ 5 q e) ∧ φ1 5 0 (κ 5) = x1 ∧ φ1 5 1 (κ 5) = nI t) (hg : ∀ s j, s < κ 5 → j < 64 → rr (wl (κ 8) (κ 5 + 1)) (ψ1 6) s j = rr (κ 8) (ψ 6) s j)
    (hF : ∀ q i, ¬ q = 14 → ¬ q = 15 → 8000 ≤ i → i < 8000 + κ 5 → F1 q i = F q i) (hF14 : ∀ i, 8000 ≤ i / 64 → i / 64 < 8000 + κ 5 → F1 14 i = F 14 i) (hn : ∀ i, 8000 ≤ i → i < 8000 + κ 5 → nu1 i = nu i)
    (hc : x1 = 0 → F1 9 (8000 + κ 5) = τ 16 t ∧ F1 10 (8000 + κ 5) = ext τ t ∧ F1 11 (8000 + κ 5) = 1 ∧ LSv (τ 16 t) (ext τ t) 1 (φ1 5 2 (κ 5)) (nu1 (8000 + κ 5)) (rr (wl (κ 8) (κ 5 + 1)) (ψ1 6) (κ 5)) (ee F1 (8000 + κ 5))) :
    RXK (ko κ) φ1 ψ1 (ku κr 3 (κr 3 + 1)) (Au (Au τ 22 (κr 3) x1) 23 (κr 3) (nI t)) F1 nu1 :=
  ⟨RX_obj hI h.1 h3 ht hx p2 p3 p4 hf hg hF hF14 hn hc, hk⟩
theorem sk_enter {κ κr b mn : Nat → Nat} {φ : gF} {ψ : gG} {ν : Nat → Int32} {τ : gf} {σ : gs} {F : gf} {nu : gg} (hI : IL κ) (hT : ST κr b mn ν τ) (h : RXK κ φ ψ κr τ F nu) : STEPK (P_TypeBook_enter κ φ ψ) (Q_enter κr τ σ F nu) := by
  obtain ⟨hR, hS, hW, h1, hcap⟩ := id h.1
  obtain ⟨⟨s0, s1, s2, s3, s4, s5, s6⟩, _⟩ := hT
  have hRN := hR.2.2.1
  have h35 : κ 3 = κr 5 := hRN.2.1
  unfold P_TypeBook_enter Q_enter Q_enter_15
  simp only [cd_up, show (32 : Int32) = nI 32 from rfl, j_lt (show κ 3 < 2 ^ 31 by omega) (show 32 < 2 ^ 31 by omega), j_eq (show κr 5 < 2 ^ 31 by omega) (show 32 < 2 ^ 31 by omega)]
  by_cases h9 : κr 5 = 32
  · rw [if_neg (by omega), if_pos h9]
    simp (decide := true) only [reduceIte]
    exact h
  · rw [if_pos (by omega), if_neg h9]
    simp (decide := true) only [reduceIte]
    obtain ⟨c1, c2⟩ := RN_open (κ' := ku κ 3 (κ 3 + 1)) (κr' := ku κr 5 (κr 5 + 1)) hR.1 hRN hS (by omega) rfl rfl rfl rfl s5
    exact ⟨⟨RS_nm hR ⟨rfl, rfl, rfl, rfl⟩ ⟨rfl, rfl, rfl⟩ (fun _ _ => rfl) ⟨rfl, rfl, rfl⟩ rfl hR.1 (by dsimp only; rw [up_s]; exact c1) hR.2.2.2.1, by dsimp only; rw [up_s]; exact c2, hW, h1, hcap⟩, fun k hk => (h.2 k hk).cg (fun _ _ => rfl) rfl (fun _ _ _ => rfl)⟩
theorem sk_leave {κ κr b mn : Nat → Nat} {φ : gF} {ψ : gG} {ν : Nat → Int32} {τ : gf} {σ : gs} {F : gf} {nu : gg} (hI : IL κ) (hT : ST κr b mn ν τ) (h : RXK κ φ ψ κr τ F nu) : STEPK (P_TypeBook_leave κ φ ψ) (Q_leave κr τ σ F nu) := by
  obtain ⟨hR, hS, hW, h1, hcap⟩ := id h.1
  obtain ⟨⟨s0, s1, s2, s3, s4, s5, s6⟩, _⟩ := hT
  have hRN := hR.2.2.1
  have h35 : κ 3 = κr 5 := hRN.2.1
  unfold P_TypeBook_leave Q_leave Q_leave_14
  simp only [cd_up, show (1 : Int32) = nI 1 from rfl, j_lt (show 1 < 2 ^ 31 by omega) (show κ 3 < 2 ^ 31 by omega), j_eq (show κr 5 < 2 ^ 31 by omega) (show 1 < 2 ^ 31 by omega)]
  by_cases h9 : κr 5 = 1
  · rw [if_neg (by omega), if_pos h9, if_neg (by decide)]
    exact h
  · rw [if_pos (by omega), if_neg h9, if_pos (by decide)]
    obtain ⟨c1, c2, c3, c4, c5⟩ := RN_close (κ' := ku (ku κ 2 ((φ 3 6 (κ 3 - 1)).toNatClampNeg)) 3 (κ 3 - 1)) (κr' := ku (ku κr 5 (κr 5 - 1)) 4 ((φ 3 6 (κ 3 - 1)).toNatClampNeg - 12)) (s1 := κ 3 - 1) hR.1 hRN hS (by omega) (by omega) s6 rfl rfl (by show κr 5 - 1 = κ 3 - 1; omega)
    obtain ⟨d1, d2⟩ := c3 rfl
    obtain ⟨κ2, e1, e2, e3⟩ := ql_36 (κ := κr) (κ0 := ku κr 5 (κr 5 - 1)) (τ := τ) (σ := σ) (F := F) (nu := nu) (t := 0) (n := (φ 3 6 (κ 3 - 1)).toNatClampNeg - 12) (by show κr 5 - 1 ≤ 32; omega) (κr 4 - ((φ 3 6 (κ 3 - 1)).toNatClampNeg - 12)) (κr 4 + 1) (ku κr 5 (κr 5 - 1)) (by show κr 4 = _; have := hRN.1; omega) (by show κr 4 ≤ 3000; omega) (fun _ _ => rfl) (by omega) (fun i a1 a2 => by
      obtain ⟨dd, q1, q2, q3⟩ := c4 i a1 a2
      exact ⟨dd, q1, q2, by show κr 5 - 1 < dd; omega⟩) (by
      rcases c5 with q | ⟨dd, q1, q2, q3⟩
      · exact Or.inl q
      · exact Or.inr ⟨dd, q1, q2, by show dd ≤ κr 5 - 1; omega⟩)
    have e1' : Q_leave_36 κr τ σ F nu 0 ((ku κr 5 (κr 5 - 1)) 4 + 1) (ku κr 5 (κr 5 - 1)) τ = (nI ((ku κr 5 (κr 5 - 1)) 5), κ2, τ, upd σ 0 0, F, nu) := e1
    rw [e1']
    have hk2 : κ2 = ku (ku κr 5 (κr 5 - 1)) 4 ((φ 3 6 (κ 3 - 1)).toNatClampNeg - 12) := by
      funext i
      by_cases hi : i = 4
      · subst hi; rw [e2]; rfl
      · rw [e3 i hi]; show _ = if i = 4 then _ else _; rw [if_neg hi]
    subst hk2
    have hNW : NW (ku (ku κr 5 (κr 5 - 1)) 4 ((φ 3 6 (κ 3 - 1)).toNatClampNeg - 12)) τ := fun i hi => hR.2.2.2.1 i (by have h8 : i < (φ 3 6 (κ 3 - 1)).toNatClampNeg - 12 := hi; have := hRN.1; omega)
    exact ⟨⟨RS_nm hR ⟨rfl, rfl, rfl, rfl⟩ ⟨rfl, rfl, rfl⟩ (fun _ _ => rfl) ⟨rfl, rfl, rfl⟩ rfl (by show (φ 3 6 (κ 3 - 1)).toNatClampNeg ≤ 8192; have := hR.1; omega) (by dsimp only; rw [up_s]; exact d1) hNW, by dsimp only; rw [up_s]; exact d2, hW, h1, hcap⟩, fun k hk => (h.2 k hk).cg (fun _ _ => rfl) rfl (fun _ _ _ => rfl)⟩
theorem sk_subtype {κ κr b mn : Nat → Nat} {φ : gF} {ψ : gG} {ν : Nat → Int32} {τ : gf} {σ : gs} {F : gf} {nu : gg} {x1 x2 : Int32} (hI : IL κ) (hT : ST κr b mn ν τ) (h : RXK κ φ ψ κr τ F nu) : STEPK (P_TypeBook_subtype κ φ ψ x1 x2) (Q_subtype κr τ σ F nu x1 x2) ∧
    AN (P_TypeBook_subtype κ φ ψ x1 x2) (Q_subtype κr τ σ F nu x1 x2) := by
  obtain ⟨hR, hS, hW, h1, hcap⟩ := id h.1
  obtain ⟨⟨s0, s1, s2, s3, s4, s5, s6⟩, _⟩ := hT
  have hRN := hR.2.2.1
  have h4 : κ 4 = κr 2 := hR.2.2.2.2.1.1
  have h2 : κ 2 = 12 + κr 4 := hRN.1
  unfold P_TypeBook_subtype Q_subtype Q_subtype_25 Q_subtype_69 Q_wrong P_TypeBook_refused
  simp only [cd_up, hr_t (show κ 2 ≤ 8192 by omega) (show 1 ≤ 5000 by omega)]
  rcases has_t (N := κ 4) (L := κ 13) (f := φ 4) (x := x2) (by omega) with ⟨a1, a2⟩ | ⟨a1, t, a2, a3⟩
  · rcases nt_t (κ := κr) (τ := τ) (σ := σ) (F := F) (nu := nu) (x := x2) (by omega) with ⟨b1, b2⟩ | ⟨b1, b2⟩
    · rw [a1, b1]; simp (decide := true) only [reduceIte]; exact ⟨h, an_n (by decide) rfl⟩
    · rw [h4] at a2; exact absurd b2 a2
  · rcases nt_t (κ := κr) (τ := τ) (σ := σ) (F := F) (nu := nu) (x := x2) (by omega) with ⟨b1, b2⟩ | ⟨b1, b2⟩
    · rw [h4] at a2; exact absurd ⟨t, a2, a3⟩ b2
    · rw [a1, b1]; simp (decide := true) only [reduceIte]
      rcases gn_t (x := x1) with ⟨g1, g2⟩ | ⟨g1, g2, v, g3, g4⟩
      · rw [g1, g2]; simp (decide := true) only [reduceIte]; exact ⟨h, an_n (by decide) rfl⟩
      · rw [g1, g2]; simp (decide := true) only [reduceIte]
        subst g4
        have htk := tk_rel (κ := κ) (κr := κr) (f := φ 3) (τ := τ) (σ := upd σ 0 0) (F := F) (nu := nu) hR.1 hRN hS s5 s6 g3
        by_cases q1 : P_Names_isTaken (κ 2) (κ 3) (κ 12) (φ 3) (nI v) = 0
        · have q1' : Q_hasHere κr τ (upd σ 0 0) F nu (nI v) = 0 := by rw [← htk]; exact q1
          simp only [if_pos q1, if_pos q1', show (3000 : Int32) = nI 3000 from rfl, j_eq (show κr 4 < 2 ^ 31 by omega) (show 3000 < 2 ^ 31 by omega)]
          by_cases q2 : κr 4 = 3000
          · have hk : ¬ κ 2 + 1 ≤ 3012 := by omega
            simp (decide := true) only [if_neg hk, if_pos q2, reduceIte]; exact ⟨h, an_n (by decide) (by simp [upd])⟩
          · have hk : κ 2 + 1 ≤ 3012 := by omega
            simp (decide := true) only [if_pos hk, if_neg q2, reduceIte]
            exact ⟨(RXK_name (σ := upd (upd (upd σ 0 0) 0 0) 1 (-1)) hI h (by omega) s5 s6 (Or.inl ⟨rfl, rfl, rfl⟩) ⟨fun _ => ⟨t, by omega, a3⟩, fun h9 => absurd h9 (by decide)⟩).fault, an_0 (by simp [upd]) rfl⟩
        · have q1' : ¬ Q_hasHere κr τ (upd σ 0 0) F nu (nI v) = 0 := by rw [← htk]; exact q1
          simp only [if_neg q1, if_neg q1']
          exact ⟨h.fault, an_0 (by simp [upd]) rfl⟩
theorem sk_typeOf {κ κr b mn : Nat → Nat} {φ : gF} {ψ : gG} {ν : Nat → Int32} {τ : gf} {σ : gs} {F : gf} {nu : gg} {x1 x2 : Int32} (hI : IL κ) (hT : ST κr b mn ν τ) (h : RXK κ φ ψ κr τ F nu) : STEPK (P_TypeBook_typeOf κ φ ψ x1 x2) (Q_typeOf κr τ σ F nu x1 x2) ∧
    AN (P_TypeBook_typeOf κ φ ψ x1 x2) (Q_typeOf κr τ σ F nu x1 x2) := by
  obtain ⟨hR, hS, hW, h1, hcap⟩ := id h.1
  obtain ⟨⟨s0, s1, s2, s3, s4, s5, s6⟩, _⟩ := hT
  have hTy := hR.2.2.2.2.1
  have h4 : κ 4 = κr 2 := hTy.1
  unfold P_TypeBook_typeOf P_TypeBook_typeOf_20 Q_typeOf Q_typeOf_18 Q_typeOf_23
  simp only [cd_up]
  rcases has_t (N := κ 4) (L := κ 13) (f := φ 4) (x := x1) (by omega) with ⟨a1, a2⟩ | ⟨a1, t, a2, a3⟩
  · rcases nt_t (κ := κr) (τ := τ) (σ := σ) (F := F) (nu := nu) (x := x1) (by omega) with ⟨b1, b2⟩ | ⟨b1, b2⟩
    · rw [a1, b1]; simp (decide := true) only [reduceIte]; exact ⟨h, an_n (by decide) rfl⟩
    · rw [h4] at a2; exact absurd b2 a2
  · rcases nt_t (κ := κr) (τ := τ) (σ := σ) (F := F) (nu := nu) (x := x1) (by omega) with ⟨b1, b2⟩ | ⟨b1, b2⟩
    · rw [h4] at a2; exact absurd ⟨t, a2, a3⟩ b2
    · subst a3
      obtain ⟨z1, z2, z3, z4, z5, z6⟩ := ty_r (L := κ 13) hTy a2
      rw [a1, b1, z1, z2, z3, z4, z5, nI_clamp (by omega)]; simp (decide := true) only [reduceIte]
      by_cases q0 : x2 < 0
      · simp only [if_pos q0]; exact ⟨h, an_n (by decide) rfl⟩
      · by_cases q4 : x2 ≤ 4
        · simp only [if_neg q0, if_pos q4]
          by_cases p0 : x2 = 0
          · simp only [if_pos p0]; exact ⟨h, an_0 rfl rfl⟩
          · by_cases p1 : x2 = 1
            · simp only [if_neg p0, if_pos p1]; exact ⟨h, an_0 rfl rfl⟩
            · by_cases p2 : x2 = 2
              · simp only [if_neg p0, if_neg p1, if_pos p2]; exact ⟨h, an_0 rfl rfl⟩
              · by_cases p3 : x2 = 3
                · simp only [if_neg p0, if_neg p1, if_neg p2, if_pos p3]; exact ⟨h, an_0 rfl rfl⟩
                · simp only [if_neg p0, if_neg p1, if_neg p2, if_neg p3]
                  by_cases p5 : τ 20 t = 0
                  · simp only [if_pos p5]; exact ⟨h, an_0 rfl rfl⟩
                  · simp only [if_neg p5]; exact ⟨h, an_0 rfl rfl⟩
        · simp only [if_neg q0, if_neg q4]; exact ⟨h, an_n (by decide) rfl⟩
theorem sk_clear {κ κr : Nat → Nat} {φ : gF} {ψ : gG} {τ : gf} {σ : gs} {F : gf} {nu : gg} (h : RXK κ φ ψ κr τ F nu) : RXK (ku (ku κ 0 0) 1 0) (P_TypeBook_clear κ φ ψ).2.1 (P_TypeBook_clear κ φ ψ).2.2 (Q_clear κr τ σ F nu).2.1 (Q_clear κr τ σ F nu).2.2.1 (Q_clear κr τ σ F nu).2.2.2.2.1 (Q_clear κr τ σ F nu).2.2.2.2.2 :=
  ⟨st_clear h.1, fun k hk => absurd hk (Nat.not_lt_zero k)⟩
theorem sk_add {κ κr b mn : Nat → Nat} {φ : gF} {ψ : gG} {ν : Nat → Int32} {τ : gf} {σ : gs} {F : gf} {nu : gg} {x1 x2 x3 : Int32} (hI : IL κ) (hT : ST κr b mn ν τ) (h : RXK κ φ ψ κr τ F nu) : STEPK (P_TypeBook_add κ φ ψ x1 x2 x3) (Q_add κr τ σ F nu x1 x2 x3) := by
  obtain ⟨hR, hS, hW, h1, hcap⟩ := id h.1
  obtain ⟨⟨s0, s1, s2, s3, s4, s5, s6⟩, _, hTR, _⟩ := hT
  obtain ⟨⟨i6, i7, i8, i9, i10, i11, i12, i13, i14, i15⟩, j1, j2, _⟩ := hI
  have hTr := hR.2.1
  have h0 : κ 0 = κr 0 := hTr.1
  have hQ : Q_add κr τ σ F nu x1 x2 x3 = if (x1 = 1 ∨ x1 = 10 ∨ x1 = 22 ∨ x1 = 23 ∨ x1 = 24 ∨ x1 = 25 ∨ x1 = 53) then Q_add_46 κr τ σ F nu x1 x2 x3 1 else Q_add_46 κr τ σ F nu x1 x2 x3 0 := by
    unfold Q_add Q_add_41
    by_cases q1 : x1 = 1
    · rw [if_pos q1, if_pos (Or.inl q1)]
    rw [if_neg q1]
    by_cases q10 : x1 = 10
    · rw [if_pos q10, if_pos (Or.inr (Or.inl q10))]
    rw [if_neg q10]
    by_cases q22 : x1 = 22
    · rw [if_pos q22, if_pos (Or.inr (Or.inr (Or.inl q22)))]
    rw [if_neg q22]
    by_cases q23 : x1 = 23
    · rw [if_pos q23, if_pos (Or.inr (Or.inr (Or.inr (Or.inl q23))))]
    rw [if_neg q23]
    by_cases q24 : x1 = 24
    · rw [if_pos q24, if_pos (Or.inr (Or.inr (Or.inr (Or.inr (Or.inl q24)))))]
    rw [if_neg q24]
    by_cases q25 : x1 = 25
    · rw [if_pos q25, if_pos (Or.inr (Or.inr (Or.inr (Or.inr (Or.inr (Or.inl q25))))))]
    rw [if_neg q25]
    by_cases q53 : x1 = 53
    · rw [if_pos q53, if_pos (Or.inr (Or.inr (Or.inr (Or.inr (Or.inr (Or.inr (q53)))))))]
    rw [if_neg q53]
    rw [if_neg]
    rintro (h | h | h | h | h | h | h)
    · exact q1 h
    · exact q10 h
    · exact q22 h
    · exact q23 h
    · exact q24 h
    · exact q25 h
    · exact q53 h
  have hbad : ∀ (t : Int32), STEPK (2, 0, κ, φ, ψ) (Q_add_83 κr τ σ F nu x1 x2 x3 t) := by
    intro t
    unfold Q_add_83 Q_add_102
    simp (decide := true) only [cd_up, reduceIte]
    exact h
  -- a node is put
  have hok : ∀ (t : Int32), ¬ x3 < 0 → x3 ≤ nI (κ 1) → (P_Trees_bearsName x1 = 1 → ∃ v, v < 10000 ∧ x2 = nI v) → STEPK (P_TypeBook_add_59 κ φ ψ x1 x2 x3) (Q_add_87 κr τ σ F nu x1 x2 x3 t) := by
    intro t hx0 hx1 hbn
    obtain ⟨n, hn31, rfl⟩ := nI_of hx0
    have hn : n ≤ κ 1 := by rw [j_le hn31 (by omega)] at hx1; exact hx1
    have enn : (nI n).toNatClampNeg = n := nI_clamp (by omega)
    have e0 : (nI (κr 0)).toNatClampNeg = κr 0 := nI_clamp (by omega)
    unfold P_TypeBook_add_59 Q_add_87 Q_add_102
    simp only [cd_up, show (4000 : Int32) = nI 4000 from rfl, j_lt (show κ 0 < 2 ^ 31 by omega) (show 4000 < 2 ^ 31 by omega), j_eq (show κr 0 < 2 ^ 31 by omega) (show 4000 < 2 ^ 31 by omega)]
    by_cases hfull : κr 0 = 4000
    · rw [if_neg (by omega), if_pos hfull]
      simp (decide := true) only [reduceIte]
      exact h
    · rw [if_pos (by omega), if_neg hfull]
      simp (decide := true) only [reduceIte]
      rw [h0, h1]
      obtain ⟨g1, g2, g3, g4, g5, g6⟩ := pg_grow (L := κ 11) (f := φ 2) (x1 := x1) (x2 := x2) (n := n) hTR s0 (by omega) (fun k hk => (hTr.2.1 k (by omega)).2.2.2) (by omega)
      -- the reference's begin
      have hbeg : (if nI n = 0 then Q_add_179 κr τ σ F nu x1 x2 (nI n) t 0 (nI (κr 0)) else Q_add_179 κr τ σ F nu x1 x2 (nI n) t 0 ((Au (Au (Au τ 2 (nI (κr 0)).toNatClampNeg x1) 3 (nI (κr 0)).toNatClampNeg x2) 4 (nI (κr 0)).toNatClampNeg (nI n)) 5 ((Au (Au (Au τ 2 (nI (κr 0)).toNatClampNeg x1) 3 (nI (κr 0)).toNatClampNeg x2) 4 (nI (κr 0)).toNatClampNeg (nI n)) 7 ((nI (κr 1)) - nI n).toNatClampNeg).toNatClampNeg)) = Q_add_179 κr τ σ F nu x1 x2 (nI n) t 0 (nI (tX b (κr 0) n)) := by
        by_cases hn0 : n = 0
        · subst hn0; rw [if_pos (show nI 0 = 0 from rfl)]; rfl
        · rw [if_neg (by rw [show (0 : Int32) = nI 0 from rfl, j_eq (by omega) (by omega)]; exact hn0)]
          obtain ⟨m, rfl⟩ : ∃ m, n = m + 1 := ⟨n - 1, by omega⟩
          have hb : ∀ c, c < κr 0 → b c ≤ c := fun c hc => (hTR.1 c hc).2
          obtain ⟨u1, u2⟩ := hTR.2.2 m (by omega)
          have hle := tX_le hb (Nat.le_refl (κr 0)) m
          obtain ⟨q, hq⟩ : ∃ q, tX b (κr 0) m = q + 1 := ⟨tX b (κr 0) m - 1, by omega⟩
          have e7 : (Au (Au (Au τ 2 (nI (κr 0)).toNatClampNeg x1) 3 (nI (κr 0)).toNatClampNeg x2) 4 (nI (κr 0)).toNatClampNeg (nI (m + 1))) 7 = τ 7 := rfl
          have e5 : (Au (Au (Au τ 2 (nI (κr 0)).toNatClampNeg x1) 3 (nI (κr 0)).toNatClampNeg x2) 4 (nI (κr 0)).toNatClampNeg (nI (m + 1))) 5 = τ 5 := rfl
          have es : nI (κr 1) - nI (m + 1) = nI (κr 1 - (m + 1)) := by
            apply Int32.toInt_inj.mp
            rw [Int32.toInt_sub, nI_toInt (by omega), nI_toInt (by omega), nI_toInt (by omega), Int.bmod_eq_of_le (by omega) (by omega)]; omega
          rw [e7, e5, es, nI_clamp (by omega), show κr 1 - (m + 1) = κr 1 - 1 - m by omega, u2, hq, nI_clamp (by omega), show q + 1 - 1 = q from rfl, (hTR.1 q (by omega)).1, ← tX_s hq]
      rw [hbeg]
      unfold Q_add_179
      rw [e0, enn]
      have hlow : ∀ q, 16 ≤ q → (Au (Au (Au (Au (Au τ 2 (κr 0) x1) 3 (κr 0) x2) 4 (κr 0) (nI n)) 5 (κr 0) (nI (tX b (κr 0) n))) 7 ((nI (κr 1)) - nI n).toNatClampNeg (nI (κr 0))) q = τ q := by
        intro q hq
        funext i
        simp only [au_a, show ¬ q = 7 by omega, show ¬ q = 5 by omega, show ¬ q = 4 by omega, show ¬ q = 3 by omega, show ¬ q = 2 by omega, false_and, if_false]
      obtain ⟨c6, c7, c9, c10, c15, c8⟩ := hcap
      have w6 := wl_ok (n := κ 6) (N := κr 0 + 1) i6 (by omega)
      have w7 := wl_ok (n := κ 7) (N := κr 0 + 1) i7 (by omega)
      have w9 := wl_ok (n := κ 9) (N := κr 0 + 1) i9 (by omega)
      have w10 := wl_ok (n := κ 10) (N := κr 0 + 1) i10 (by omega)
      have w15 := wl_ok (n := κ 15) (N := κr 0 + 1) i15 (by omega)
      refine ⟨⟨RS_tr hR ⟨rfl, rfl, rfl, rfl, rfl⟩ ⟨rfl, rfl, rfl, rfl⟩ hlow ⟨rfl, rfl, rfl⟩ rfl (fun q hq => funext (fun i => by show Au F 15 (κr 0) _ q i = F q i; rw [au_a, if_neg (fun h9 => hq h9.1)])) ?_, hS, ?_, ?_, w6.1, w7.1, w9.1, w10.1, w15.1, c8⟩, ?_⟩
      · show RTr _ (P_Trees_grow (κr 0) (κr 1) (κ 11) (φ 2) x1 x2 n).2 _ _
        refine ⟨rfl, fun k hk => ?_, fun k hk hkd => ?_⟩
        · have hk : k < κr 0 + 1 := hk
          by_cases hk' : k = κr 0
          · subst hk'
            rw [g3, g4, g5, g6]
            simp [au_a]
          · rw [g2 0 k (by decide) (by omega), g2 1 k (by decide) (by omega), g2 2 k (by decide) (by omega), g2 3 k (by decide) (by omega)]
            simp only [au_a, show ¬ k = κr 0 by omega, and_false, if_false, show ¬ (2 : Nat) = 7 by decide, show ¬ (3 : Nat) = 7 by decide, show ¬ (4 : Nat) = 7 by decide, show ¬ (5 : Nat) = 7 by decide, false_and]
            exact hTr.2.1 k (by omega)
        · have hk : k < κr 0 + 1 := hk
          by_cases hk' : k = κr 0
          · subst hk'
            simp only [au_a, show ¬ (2 : Nat) = 7 by decide, show ¬ (3 : Nat) = 7 by decide, show ¬ (2 : Nat) = 5 by decide, show ¬ (3 : Nat) = 5 by decide, show ¬ (2 : Nat) = 4 by decide, show ¬ (3 : Nat) = 4 by decide, show ¬ (2 : Nat) = 3 by decide, show ¬ (3 : Nat) = 2 by decide, false_and, if_false, and_self, if_true] at hkd ⊢
            rcases bn_t (x := x1) with ⟨z1, z2⟩ | ⟨z1, z2⟩
            · exact hbn z1
            · exact absurd hkd z2
          · simp only [au_a, show ¬ k = κr 0 by omega, and_false, if_false, show ¬ (2 : Nat) = 7 by decide, show ¬ (3 : Nat) = 7 by decide, false_and] at hkd ⊢
            exact hTr.2.2 k (by omega) hkd
      · intro o a1 a2
        dsimp only
        rw [hlow 22 (by decide)]; exact hW o a1 a2
      · show κr 1 + 1 - n = κr 1 - n + 1
        omega
      · intro k hk
        have hk : k < κr 0 + 1 := hk
        exact rkn_add (n := κr 0) (L := wl (κ 6) (κr 0 + 1)) (φ := φ) (F := F) (fun k hk => h.2 k (by omega)) rfl g1 (by omega) w6.2.2 (fun q hq k hk => mr7 hq (by show k < κ 6; omega)) rfl hk
  rw [hQ]
  unfold P_TypeBook_add P_TypeBook_add_25
  have hcase : ∀ t : Int32, (P_Trees_bearsName x1 = 0 ∧ t = 0) ∨ (P_Trees_bearsName x1 = 1 ∧ t = 1) → STEPK (if x1 < 0 then (2, 0, κ, φ, ψ) else if 99 < x1 then (2, 0, κ, φ, ψ) else if x3 < 0 then (2, 0, κ, φ, ψ) else if x3 ≤ nI (κ 1) then (if P_Trees_bearsName x1 = 0 then P_TypeBook_add_59 κ φ ψ x1 x2 x3 else if P_TypeBook_isName x2 = 0 then (2, 0, κ, φ, ψ) else P_TypeBook_add_59 κ φ ψ x1 x2 x3) else (2, 0, κ, φ, ψ)) (Q_add_46 κr τ σ F nu x1 x2 x3 t) := by
    intro t ht
    unfold Q_add_46
    by_cases q1 : x1 < 0
    · rw [if_pos q1, if_pos q1]; exact hbad _
    · rw [if_neg q1, if_neg q1]
      by_cases q2 : 99 < x1
      · rw [if_pos q2, if_pos q2]; exact hbad _
      · rw [if_neg q2, if_neg q2]
        by_cases q3 : x3 < 0
        · rw [if_pos q3, if_pos q3]; exact hbad _
        · rw [if_neg q3, if_neg q3]
          by_cases q4 : x3 ≤ nI (κ 1)
          · rw [if_pos q4, if_neg (show ¬ nI (κr 1) < x3 by rw [← h1]; exact Int32.not_lt.mpr q4)]
            rcases ht with ⟨t1, t2⟩ | ⟨t1, t2⟩
            · rw [if_pos t1, if_pos t2]
              exact hok t q3 q4 (fun h9 => by rw [t1] at h9; exact absurd h9 (by decide))
            · rw [if_neg (show ¬ P_Trees_bearsName x1 = 0 by rw [t1]; decide), if_neg (show ¬ t = 0 by rw [t2]; decide)]
              rcases gn_t (x := x2) with ⟨g1, g2⟩ | ⟨g1, g2, v, g3, g4⟩
              · rw [if_pos g1, if_pos g2]; exact hbad _
              · rw [if_neg (show ¬ P_TypeBook_isName x2 = 0 by rw [g1]; decide), if_neg (show ¬ Q_goodName x2 = 0 by rw [g2]; decide)]
                exact hok t q3 q4 (fun _ => ⟨v, g3, g4⟩)
          · rw [if_neg q4, if_pos (show nI (κr 1) < x3 by rw [← h1]; exact Int32.not_le.mp q4)]; exact hbad _
  rcases bn_t (x := x1) with ⟨z1, z2⟩ | ⟨z1, z2⟩
  · rw [if_pos z2]; exact hcase 1 (Or.inr ⟨z1, rfl⟩)
  · rw [if_neg z2]; exact hcase 0 (Or.inl ⟨z1, rfl⟩)
theorem sk_check {κ κr b mn : Nat → Nat} {φ : gF} {ψ : gG} {ν : Nat → Int32} {τ : gf} {σ : gs} {F : gf} {nu : gg} {x1 x2 : Int32} (hI : IL κ) (hT : ST κr b mn ν τ) (h : RXK κ φ ψ κr τ F nu) : STEPK (P_TypeBook_check κ φ ψ x1 x2) (Q_check κr τ σ F nu x1 x2) := by
  have hC := CK_of hI hT h.1
  obtain ⟨hR, hS, hW, h1, c6, c7, c9, c10, c15, c8⟩ := id h.1
  obtain ⟨⟨s0, s1, s2, s3, s4, s5, s6⟩, _⟩ := id hT
  obtain ⟨i6, i7, i8, i9, i10, i11, i12, i13, i14, i15⟩ := hI.1
  have h0 : κ 0 = κr 0 := hR.2.1.1
  have h4 : κ 4 = κr 2 := hR.2.2.2.2.1.1
  have hbad : STEPK (1, 0, κ, φ, ψ) (Q_check_22 κr τ σ F nu x1 x2) := by
    unfold Q_check_22 Q_check_27
    simp (decide := true) only [cd_up, reduceIte]
    exact h
  -- a node, and no type or one that is
  have hgo : ∀ r, r < κ 0 → x1 = nI r → (x2 = -1 ∨ ∃ t, t < κ 4 ∧ x2 = nI t) → STEPK (P_TypeBook_check_37 κ φ ψ x1 x2) (Q_check_26 κr τ σ F nu x1 x2) := by
    intro r hr er hx2
    subst er
    obtain ⟨hTW, lk⟩ := look_rx (σ := upd σ 0 0) (m := r + 1) hI hT h.1 hr (Or.inl rfl)
    have ep : nI (r + 1) - 1 = nI r := nI_pred r
    rw [ep] at lk
    obtain ⟨l1, l2, l3, l4⟩ := lk
    unfold P_TypeBook_check_37 Q_check_26 Q_check_27 Q_check_73 Q_wrong P_TypeBook_refused
    rw [nI_clamp (show r < 2 ^ 31 by omega)]
    simp (decide := true) only [cd_up, reduceIte]
    generalize P_Looker_look κ φ ψ (nI r) (nI r) = oc at l1 l3 l4 ⊢
    generalize Q_goThrough κr τ (upd σ 0 0) F nu (τ 5 r) (nI r) = om at l2 l4 ⊢
    obtain ⟨oc1, φ', ψ'⟩ := oc
    obtain ⟨om1, σ', F', nu'⟩ := om
    dsimp only at l1 l2 l3 l4 ⊢
    have hfr := h.fr l1 l2
    rcases l4 with ⟨g1, g2⟩ | ⟨g1, g2, g3⟩
    · rw [if_neg (jd_bad g1), if_neg (Int32.not_le.mpr g2)]
      exact hfr.fault
    · subst g1; subst g2
      simp (decide := true) only [reduceIte]
      have hr0 : ¬ hdn τ r (r + 1) := fun ⟨a, a1, a2, _⟩ => by omega
      have hbr := (hTW r hr).2.2.1
      have hlr := g3 r hbr (by omega) hr0
      -- both judge
      have hend : STEPK (0, 0, κ, up ((P_Looker_tell κ φ' ψ' (nI r) (nI r)).1) 1 (Au (((P_Looker_tell κ φ' ψ' (nI r) (nI r)).1) 1) 1 0 (-1)), (P_Looker_tell κ φ' ψ' (nI r) (nI r)).2) (0, κr, τ, σ', (Q_keep κr τ σ' F' nu' (τ 5 r) (nI r)).2.1, (Q_keep κr τ σ' F' nu' (τ 5 r) (nI r)).2.2) := by
        obtain ⟨f7, g8, e1, e2, e3⟩ := tell_t (κ := κ) (κr := κr) (φ := φ') (ψ := ψ') (τ := τ) (r := r) (m := r + 1) hTW hfr.1.1.2.1 hC.1 ⟨c6, c7, c9, c10, c15⟩ ⟨i6, i7, i9, i10, i15⟩ hr (Or.inl rfl) l3
        obtain ⟨F2, nu2, k1, k2, k3, k4, k5, k6⟩ := keep_t (κ := κr) (τ := τ) (σ := σ') (F := F') (nu := nu') (f := bg τ r) (m := r + 1) (by rw [← h0]; exact hTW) (by omega) (by omega) (by omega) (fun k a1 a2 a3 => (g3 k a1 a2 a3).2.2.2.2.2.1)
        rw [ep] at e1 k1
        rw [(hTW r hr).2.1, e1, k1]
        exact (hfr.tk e2 e3 k2 k3 k4 k5 k6 (by omega) g3).fault
      rcases hx2 with hx2 | ⟨t, ht, hx2⟩
      · subst hx2
        rw [jd_none]
        simp (decide := true) only [reduceIte]
        exact hend
      · subst hx2
        have hj := jd_ok (κ := κ) (κr := κr) (φ := φ') (ψ := ψ') (τ := τ) (σ := σ') (F := F') (nu := nu') (x4 := 0) (show r < κ 7 by omega) i7 hfr.1.1.2.2.2.2.1 ht hlr
        rw [if_neg (neg1 (show t < 2 ^ 31 by omega))]
        by_cases hq : Q_fits κr τ σ' F' nu' (nI r) (nI t) = 0
        · rw [if_pos (show P_Looker_judge κ φ' ψ' 0 (nI r) (nI t) 0 = 0 by rw [hj]; exact ⟨Or.inl rfl, hq⟩), if_pos (show Q_fits κr τ σ' F' nu' (nI r) (nI t) ≤ 0 by rw [fi_le]; exact hq)]
          exact hend
        · rw [if_neg (show ¬ P_Looker_judge κ φ' ψ' 0 (nI r) (nI t) 0 = 0 by rw [hj]; exact fun h9 => hq h9.2), if_neg (show ¬ Q_fits κr τ σ' F' nu' (nI r) (nI t) ≤ 0 by rw [fi_le]; exact hq)]
          exact hfr.fault
  unfold P_TypeBook_check P_TypeBook_check_27 Q_check
  rcases hn_t (N := κ 0) (r := κ 1) (L := κ 11) (f := φ 2) (x := x1) (by omega) with ⟨a1, a2⟩ | ⟨a1, r, a2, a3⟩
  · rcases nn_t (κ := κr) (τ := τ) (σ := σ) (F := F) (nu := nu) (x := x1) (by omega) with ⟨b1, b2⟩ | ⟨b1, b2⟩
    · rw [a1, b1]; simp (decide := true) only [reduceIte]; exact hbad
    · rw [h0] at a2; exact absurd b2 a2
  · rcases nn_t (κ := κr) (τ := τ) (σ := σ) (F := F) (nu := nu) (x := x1) (by omega) with ⟨b1, b2⟩ | ⟨b1, b2⟩
    · rw [h0] at a2; exact absurd ⟨r, a2, a3⟩ b2
    · rw [a1, b1]; simp (decide := true) only [reduceIte]
      by_cases hx2 : x2 = -1
      · rw [if_pos hx2, if_pos hx2]; exact hgo r a2 a3 (Or.inl hx2)
      · rw [if_neg hx2, if_neg hx2]
        rcases has_t (N := κ 4) (L := κ 13) (f := φ 4) (x := x2) (by omega) with ⟨c1, c2⟩ | ⟨c1, t, c2, c3⟩
        · rcases nt_t (κ := κr) (τ := τ) (σ := σ) (F := F) (nu := nu) (x := x2) (by omega) with ⟨d1, d2⟩ | ⟨d1, d2⟩
          · rw [c1, d1]; simp (decide := true) only [reduceIte]; exact hbad
          · rw [h4] at c2; exact absurd d2 c2
        · rcases nt_t (κ := κr) (τ := τ) (σ := σ) (F := F) (nu := nu) (x := x2) (by omega) with ⟨d1, d2⟩ | ⟨d1, d2⟩
          · rw [h4] at c2; exact absurd ⟨t, c2, c3⟩ d2
          · rw [c1, d1]; simp (decide := true) only [reduceIte]; exact hgo r a2 a3 (Or.inr ⟨t, c2, c3⟩)
theorem bg_0 {κr b mn : Nat → Nat} {ν : Nat → Int32} {τ : gf} {r : Nat} (hT : ST κr b mn ν τ) (hr : r < κr 0) (h : τ 4 r = nI 0) : bg τ r = r := by
  obtain ⟨hs, _, ⟨h1, h2, _⟩, _⟩ := hT
  have hs0 := hs.1
  obtain ⟨a1, a2⟩ := h1 r hr
  obtain ⟨c1, c2, c3, c4⟩ := h2 r hr
  have hm : mn r = 0 := (j_eq (by omega) (by omega)).mp (c1.symm.trans h)
  rw [hm] at c4
  have c4 : b r = r := c4
  unfold bg
  rw [a1, c4, nI_clamp (by omega)]
theorem sk_type {κ κr b mn : Nat → Nat} {φ : gF} {ψ : gG} {ν : Nat → Int32} {τ : gf} {σ : gs} {F : gf} {nu : gg} {x1 : Int32} (hI : IL κ) (hT : ST κr b mn ν τ) (h : RXK κ φ ψ κr τ F nu) : STEPK (P_TypeBook_type κ φ ψ x1) (Q_type κr τ σ F nu x1) := by
  have hC := CK_of hI hT h.1
  obtain ⟨hR, hS, hW, h1, c6, c7, c9, c10, c15, c8⟩ := id h.1
  obtain ⟨⟨s0, s1, s2, s3, s4, s5, s6⟩, _⟩ := id hT
  obtain ⟨i6, i7, i8, i9, i10, i11, i12, i13, i14, i15⟩ := hI.1
  have h0 : κ 0 = κr 0 := hR.2.1.1
  have h4 : κ 4 = κr 2 := hR.2.2.2.2.1.1
  unfold P_TypeBook_type Q_type
  rcases hn_t (N := κ 0) (r := κ 1) (L := κ 11) (f := φ 2) (x := x1) (by omega) with ⟨a1, a2⟩ | ⟨a1, r, hr, a3⟩
  · rcases nn_t (κ := κr) (τ := τ) (σ := σ) (F := F) (nu := nu) (x := x1) (by omega) with ⟨b1, b2⟩ | ⟨b1, b2⟩
    · rw [a1, b1]
      unfold Q_type_14
      simp (decide := true) only [cd_up, reduceIte]; exact h
    · rw [h0] at a2; exact absurd b2 a2
  · rcases nn_t (κ := κr) (τ := τ) (σ := σ) (F := F) (nu := nu) (x := x1) (by omega) with ⟨b1, b2⟩ | ⟨b1, b2⟩
    · rw [h0] at hr; exact absurd ⟨r, hr, a3⟩ b2
    · rw [a1, b1]
      subst a3
      have eN : (nI r).toNatClampNeg = r := nI_clamp (by omega)
      unfold Q_type_14
      simp (decide := true) only [cd_up, eN, reduceIte]
      have hTW : TW (κ 0) τ := by rw [h0]; exact (TW_of hT.2.2.1 hT.1.1).1
      obtain ⟨t1, t2, t3, t4⟩ := hR.2.1.2.1 r hr
      by_cases h25 : τ 2 r = 25
      · -- an attribute
        have f1 := lk_25 (ψ := ψ) hTW hR.2.1 hC.1 c15 i15 hr h25
        have f2 := go_fr (σ := upd σ 0 0) hC hR hW hTW c15 i15 hr
        generalize P_Looker_look κ φ ψ (nI r) (nI r - 1) = oc at f1 ⊢
        generalize hG : Q_goThrough κr τ (upd σ 0 0) F nu (τ 5 r) (nI r - 1) = om at f2 ⊢
        obtain ⟨oc1, φ', ψ'⟩ := oc
        obtain ⟨om1, σ', F', nu'⟩ := om
        dsimp only at f1 f2 ⊢
        have hfr := h.fr f1 f2
        have hkd : P_Trees_kindOf (κ 0) (κ 1) (κ 11) (φ' 2) (nI r) = 25 := by rw [f1.1 2 (by decide) (by decide), pt_0 hr (by omega), t1, h25]
        have htf : P_Looker_typeFault κ φ' ψ' (nI r) = 11 := by
          unfold P_Looker_typeFault
          simp (decide := true) only [hkd, reduceIte]
        have hcl : STEPK (if oc1 = 0 then (if P_Looker_typeFault κ φ' ψ' (nI r) = 0 then (if P_Trees_kindOf (κ 0) (κ 1) (κ 11) (φ' 2) (nI r) = 10 then P_TypeBook_type_88 κ φ' ψ' (nI r) (P_Looker_typeFault κ φ' ψ' (nI r)) 0 else P_TypeBook_type_88 κ φ' ψ' (nI r) (P_Looker_typeFault κ φ' ψ' (nI r)) 1) else (0, (P_TypeBook_refused κ φ' ψ' (P_Looker_typeFault κ φ' ψ' (nI r)) (nI r)).1, κ, (P_TypeBook_refused κ φ' ψ' (P_Looker_typeFault κ φ' ψ' (nI r)) (nI r)).2.1, (P_TypeBook_refused κ φ' ψ' (P_Looker_typeFault κ φ' ψ' (nI r)) (nI r)).2.2)) else (0, (P_TypeBook_refused κ φ' ψ' oc1 (φ' 1 2 0)).1, κ, (P_TypeBook_refused κ φ' ψ' oc1 (φ' 1 2 0)).2.1, (P_TypeBook_refused κ φ' ψ' oc1 (φ' 1 2 0)).2.2)) (0, κr, τ, σ', F', nu') := by
          rw [htf, if_neg (show ¬ (11 : Int32) = 0 by decide)]
          by_cases q : oc1 = 0
          · rw [if_pos q]; exact hfr.fault
          · rw [if_neg q]; exact hfr.fault
        by_cases q : om1 ≤ 0
        · simp (decide := true) only [if_pos q, h25, reduceIte, Q_type_163, eN, hG, Q_wrong]
          exact hcl
        · simp only [if_neg q]
          exact hcl
      · obtain ⟨_, lk⟩ := look_rx (σ := upd σ 0 0) (m := r) hI hT h.1 hr (Or.inr ⟨rfl, h25⟩)
        obtain ⟨l1, l2, l3, l4⟩ := lk
        generalize P_Looker_look κ φ ψ (nI r) (nI r - 1) = oc at l1 l3 l4 ⊢
        generalize hG : Q_goThrough κr τ (upd σ 0 0) F nu (τ 5 r) (nI r - 1) = om at l2 l4 ⊢
        obtain ⟨oc1, φ', ψ'⟩ := oc
        obtain ⟨om1, σ', F', nu'⟩ := om
        dsimp only at l1 l2 l3 l4 ⊢
        have hfr := h.fr l1 l2
        have hff : ∀ x y z σ'', STEPK (0, y, κ, up φ' 1 (Au (φ' 1) 1 0 x), ψ') (z, κr, τ, σ'', F', nu') := fun x y z σ'' => hfr.fault
        rcases l4 with ⟨g1, g2⟩ | ⟨g1, g2, g3⟩
        · rw [if_neg g1, if_neg (Int32.not_le.mpr g2)]
          exact hff _ _ _ _
        · subst g1; subst g2
          simp (decide := true) only [reduceIte]
          have hkd : P_Trees_kindOf (κ 0) (κ 1) (κ 11) (φ' 2) (nI r) = τ 2 r := by rw [l1.1 2 (by decide) (by decide), pt_0 hr (by omega), t1]
          have hva : P_Trees_valueOf (κ 0) (κ 1) (κ 11) (φ' 2) (nI r) = τ 3 r := by rw [l1.1 2 (by decide) (by decide), pt_1 hr (by omega), t2]
          have hco : P_Trees_countOf (κ 0) (κ 1) (κ 11) (φ' 2) (nI r) = τ 4 r := by rw [l1.1 2 (by decide) (by decide), pt_2 hr (by omega), t3]
          obtain ⟨⟨n, n1, n2, n3⟩, n4, n5, n6⟩ := hTW r hr
          have hnh : ¬ hdn τ r r := fun ⟨a, q1, q2, _⟩ => by omega
          -- what is told and kept
          obtain ⟨f7, g8, e1, e2, e3⟩ := tell_t (κ := κ) (κr := κr) (φ := φ') (ψ := ψ') (τ := τ) (r := r) (m := r) hTW hfr.1.1.2.1 hC.1 ⟨c6, c7, c9, c10, c15⟩ ⟨i6, i7, i9, i10, i15⟩ hr (Or.inr rfl) l3
          obtain ⟨F2, nu2, k1, k2, k3, k4, k5, k6⟩ := keep_t (κ := κr) (τ := τ) (σ := σ') (F := F') (nu := nu') (f := bg τ r) (m := r) (by rw [← h0]; exact hTW) (by omega) (by omega) n5 (fun k a1 a2 a3 => (g3 k a1 a2 a3).2.2.2.2.2.1)
          rw [← n4] at k1
          have hkp : RXK κ (up (up φ' 7 f7) 1 (Au ((up φ' 7 f7) 1) 1 0 (-1))) (up ψ' 8 g8) κr τ F2 nu2 := (hfr.tk e2 e3 k2 k3 k4 k5 k6 (by omega) g3).fault
          have htl : n = 0 → RXK κ (up (up φ' 7 f7) 1 (Au ((up φ' 7 f7) 1) 1 0 (-1))) (up ψ' 8 g8) κr τ F' nu' := fun hn0 => ⟨(hfr.1.tl (f7 := f7) (g8 := g8)).fault, fun k hk => (hfr.2 k hk).cg (fun q _ => e3 k ((Nat.lt_or_ge k r).elim (fun h9 => Or.inl (by have := bg_0 hT (show r < κr 0 by omega) (by rw [n2, hn0]); omega)) (fun h9 => Or.inr (Or.inl h9))) q) rfl (fun _ _ _ => rfl)⟩
          by_cases hk10 : τ 2 r = 10
          · -- a type's name
            simp (decide := true) only [hkd, hk10, reduceIte]
            obtain ⟨v, hv, ev⟩ := hR.2.1.2.2 r hr (Or.inr (Or.inl hk10))
            have htf : P_Looker_typeFault κ φ' ψ' (nI r) = if n = 0 then (if P_Names_find (κ 2) (κ 3) (κ 12) (φ 3) (nI v) = -1 then 1 else if P_Names_sortOf (κ 2) (κ 3) (κ 12) (φ 3) (P_Names_find (κ 2) (κ 3) (κ 12) (φ 3) (nI v)) = 1 then 0 else 2) else 11 := by
              unfold P_Looker_typeFault P_Looker_namedTypeFault
              simp (decide := true) only [hkd, hk10, reduceIte, hco, n2, hva, ev, l1.1 3 (by decide) (by decide), show (0 : Int32) = nI 0 from rfl, j_eq (show n < 2 ^ 31 by omega) (show 0 < 2 ^ 31 by omega)]
            have hle : (nI n ≤ 0) = (n = 0) := by
              rw [show (0 : Int32) = nI 0 from rfl, j_le (by omega) (by omega)]; exact propext (by omega)
            rw [htf]
            simp only [n2, hle]
            by_cases hn0 : n = 0
            · simp only [if_pos hn0, ev]
              obtain ⟨σ2, e5, e6, e7, e8, e9⟩ := qf_find (κ := κr) (τ := τ) (σ := σ') (F := F') (nu := nu') (x := nI v) s4
              simp only [e5, e6]
              rcases nm_rel (κ := κ) (κr := κr) (f := φ 3) (τ := τ) hR.1 hR.2.2.1 hv with ⟨q1, q2⟩ | ⟨e, q1, q2, q3⟩
              · simp (decide := true) only [q1, q2, reduceIte]
                exact hff _ _ _ _
              · simp only [q2, if_neg (neg1 (show e < 2 ^ 31 by have := hR.1; omega)), (pn_1 q1 hR.1).1]
                generalize fnd τ (nI v) (κr 4) = fd at q3 ⊢
                have hno : ∀ z : Int32, ¬ z = 0 → ¬ z = 5 → ¬ φ 3 1 e = 1 → fd.1 = z → STEPK (if (if φ 3 1 e = 1 then (0 : Int32) else 2) = 0 then (P_TypeBook_type_88 κ φ' ψ' (nI r) (if φ 3 1 e = 1 then (0 : Int32) else 2) 0) else (0, (P_TypeBook_refused κ φ' ψ' (if φ 3 1 e = 1 then (0 : Int32) else 2) (nI r)).1, κ, (P_TypeBook_refused κ φ' ψ' (if φ 3 1 e = 1 then (0 : Int32) else 2) (nI r)).2.1, (P_TypeBook_refused κ φ' ψ' (if φ 3 1 e = 1 then (0 : Int32) else 2) (nI r)).2.2)) (if fd.1 = 5 then ((Q_wrong κr τ σ2 F' nu' (nI r) 1).1, κr, τ, (Q_wrong κr τ σ2 F' nu' (nI r) 1).2.1, F', nu') else if fd.1 = 0 then (σ2 33, κr, τ, σ2, F', nu') else ((Q_wrong κr τ σ2 F' nu' (nI r) 2).1, κr, τ, (Q_wrong κr τ σ2 F' nu' (nI r) 2).2.1, F', nu')) := by
                  intro z z0 z5 y1 y2
                  simp (decide := true) only [if_neg y1, reduceIte, y2, if_neg z5, if_neg z0]
                  exact hff _ _ _ _
                rcases q3 with ⟨y1, y2, y3⟩ | ⟨y1, y2, y3⟩ | ⟨y1, y2, y3⟩ | ⟨y1, y2⟩ | ⟨y1, y2, y3⟩ | ⟨y1, y2⟩
                · simp (decide := true) only [if_pos y1, y2, reduceIte]
                  unfold P_TypeBook_type_88 P_TypeBook_type_116
                  rw [if_pos rfl, if_pos rfl, e1]
                  exact htl hn0
                · exact hno 1 (by decide) (by decide) (by rw [y1]; decide) y2
                · exact hno 2 (by decide) (by decide) (by rw [y1]; decide) y2
                · exact hno 3 (by decide) (by decide) (by rw [y1]; decide) y2
                · exact hno 4 (by decide) (by decide) (by rw [y1]; decide) y2
                · exact hno 6 (by decide) (by decide) (by rw [y1]; decide) y2
            · simp only [if_neg hn0]
              simp (decide := true) only [reduceIte]
              exact hff _ _ _ _
          · simp only [hkd, if_neg hk10]
            by_cases hkk : τ 2 r = 11 ∨ τ 2 r = 12 ∨ τ 2 r = 13
            · have hq153 : STEPK (if P_Looker_typeFault κ φ' ψ' (nI r) = 0 then P_TypeBook_type_88 κ φ' ψ' (nI r) (P_Looker_typeFault κ φ' ψ' (nI r)) 1 else (0, (P_TypeBook_refused κ φ' ψ' (P_Looker_typeFault κ φ' ψ' (nI r)) (nI r)).1, κ, (P_TypeBook_refused κ φ' ψ' (P_Looker_typeFault κ φ' ψ' (nI r)) (nI r)).2.1, (P_TypeBook_refused κ φ' ψ' (P_Looker_typeFault κ φ' ψ' (nI r)) (nI r)).2.2)) (Q_type_153 κr τ σ F nu (nI r) 0) := by
                have e153 : Q_type_153 κr τ σ F nu (nI r) 0 = if τ 4 r = 2 then Q_type_189 κr τ σ F nu (nI r) 0 (if τ 2 r = 11 then 0 else 5) else Q_type_163 κr τ σ F nu (nI r) 0 := by
                  unfold Q_type_153
                  rw [eN]
                  by_cases w : τ 2 r = 11
                  · simp only [if_pos w]
                  · simp only [if_neg w]
                have w10 : ¬ τ 2 r < 11 := by rcases hkk with q | q | q <;> rw [q] <;> decide
                have w13 : ¬ 13 < τ 2 r := by rcases hkk with q | q | q <;> rw [q] <;> decide
                rw [e153]
                by_cases hn2 : n = 2
                · subst hn2
                  obtain ⟨aa, q1, q2, q3⟩ := n3 0 (by omega)
                  obtain ⟨a, q4, q5, q6⟩ := n3 1 (by omega)
                  obtain rfl := ch_a0 (by omega) q2 q3
                  have r1 : 1 ≤ r := by omega
                  obtain ⟨u0, u1, u2, u4, uv⟩ := g3 a q4 q5 (ch_hid hTW hC.1 hr n2 n1 (show 1 < 2 by omega) q6 q5 h25 hnh)
                  obtain ⟨v0, v1, v2, v4, vv⟩ := g3 (r - 1) q1 q2 (ch_hid hTW hC.1 hr n2 n1 (show 0 < 2 by omega) q3 q2 h25 hnh)
                  have hc0 : ∀ σ F nu, Q_child κr τ σ F nu (nI r) 0 = nI (r - 1) := fun σ F nu => (qc_n (i := 0) (by omega)).trans q3
                  have hc1 : ∀ σ F nu, Q_child κr τ σ F nu (nI r) 1 = nI a := fun σ F nu => (qc_n (i := 1) (by omega)).trans q6
                  have hlf : ∀ f, f = φ' 2 → P_Trees_leftOfTwo (κ 0) (κ 1) (κ 11) f (nI r) = nI a := by
                    intro f hf
                    unfold P_Trees_leftOfTwo
                    rw [hf, l1.1 2 (by decide) (by decide), j_pred r1, pt_3 (by omega) (by omega), (hR.2.1.2.1 (r - 1) (by omega)).2.2.2, ← ch_a1 (by omega) r1]; exact q6
                  have ea : (nI a).toNatClampNeg = a := nI_clamp (by omega)
                  have ea0 : (nI (r - 1)).toNatClampNeg = r - 1 := nI_clamp (by omega)
                  have ep : nI r - 1 = nI (r - 1) := j_pred r1
                  have b7a : a < κ 7 := by omega
                  have b7r : r - 1 < κ 7 := by omega
                  have hfx1 : P_Looks_isFixed (κ 7) (φ' 9) (nI a) = F' 11 a := by rw [pl_4 b7a i7, u4]; rcases uv.2.1 with q | q <;> rw [q] <;> rfl
                  have hfx0 : P_Looks_isFixed (κ 7) (φ' 9) (nI (r - 1)) = F' 11 (r - 1) := by rw [pl_4 b7r i7, v4]; rcases vv.2.1 with q | q <;> rw [q] <;> rfl
                  have htf : P_Looker_typeFault κ φ' ψ' (nI r) = if τ 3 r = (if τ 2 r = 11 then 0 else 5) then (if F' 9 a = 2 then (if F' 9 (r - 1) = 2 then (if F' 11 a = 0 then 5 else if F' 11 (r - 1) = 0 then 5 else P_Looker_boundsFault (τ 2 r) (φ' 9 3 a) (φ' 9 3 (r - 1))) else 3) else 3) else 2 := by
                    unfold P_Looker_typeFault P_Looker_typeFault_67
                    simp only [hkd, hva, hco, n2, hlf _ rfl, ep, pl_0 b7a i7, pl_0 b7r i7, pl_3 b7a i7, pl_3 b7r i7, hfx1, hfx0, u0, v0, if_neg hk10, if_neg w10, if_neg w13, if_pos (show nI 2 = 2 from rfl)]
                    by_cases w : τ 2 r = 11
                    · simp only [if_pos w]
                    · simp only [if_neg w]
                  rw [htf, if_pos (show τ 4 r = 2 from n2)]
                  unfold Q_type_189
                  simp only [eN, hG, hc0, hc1, ea, ea0, Q_type_237, Q_type_264, Q_wrong, Q_constantFault]
                  by_cases p1 : τ 3 r = (if τ 2 r = 11 then 0 else 5)
                  · simp only [if_pos p1]
                    by_cases p2 : F' 9 a = 2
                    · simp only [if_pos p2]
                      by_cases p3 : F' 9 (r - 1) = 2
                      · simp only [if_pos p3]
                        by_cases p4 : F' 11 a = 0
                        · simp (decide := true) only [if_pos p4, reduceIte]
                          exact hff _ _ _ _
                        · simp only [if_neg p4]
                          by_cases p5 : F' 11 (r - 1) = 0
                          · simp (decide := true) only [if_pos p5, reduceIte]
                            exact hff _ _ _ _
                          · simp only [if_neg p5]
                            have hl64 := ((uv.2.2.2.2 (uv.2.1.resolve_left p4)).1 p2).1
                            have hr64 := ((vv.2.2.2.2 (vv.2.1.resolve_left p5)).1 p3).1
                            generalize hnl : φ' 9 3 a = nl at hl64 ⊢
                            generalize hnr : φ' 9 3 (r - 1) = nr at hr64 ⊢
                            have hend : ∀ (E : Int64) (t c x5 : Int32), vp_nar .boolean x5 = (if 0 ≤ c then 0 else 1) → (if 0 ≤ c then c else 0 - c) = E.toInt32 → ((τ 2 r = 11 ∧ c = 0 ∧ x5 = 0) ∨ (τ 2 r = 12 ∧ c = (P_Looker_elementsOf 12 nl.toInt64 nr.toInt64).toInt32 ∧ x5 = 0) ∨ (τ 2 r = 13 ∧ c = -(P_Looker_elementsOf 13 nl.toInt64 nr.toInt64).toInt32 ∧ x5 = 1)) → (¬ τ 2 r = 11 → ∃ l r n : Nat, nl = nI l ∧ nr = nI r ∧ E.toInt32 = nI n ∧ l < 2 ^ 31 ∧ r < 2 ^ 31 ∧ 1 ≤ n ∧ n ≤ 64 ∧ (((if 0 ≤ c then (0 : Int32) else 1) = 0 ∧ r + 1 = l + n) ∨ ((if 0 ≤ c then (0 : Int32) else 1) = 1 ∧ l + 1 = r + n))) →
                                STEPK (P_TypeBook_type_88 κ φ' ψ' (nI r) 0 1) (Q_type_400 κr τ σ F nu (nI r) 0 t E) := by
                              intro E t c x5 w1 w2 w3 w4
                              unfold P_TypeBook_type_88 Q_type_400
                              have z1 : (nI (κ 4) < 1000) = (κ 4 < 1000) := by rw [show (1000 : Int32) = nI 1000 from rfl, j_lt (by omega) (by omega)]
                              have z2 : (nI (κr 2) = 1000) = (κr 2 = 1000) := by rw [show (1000 : Int32) = nI 1000 from rfl, j_eq (by omega) (by omega)]
                              simp only [z1, z2, eN, hG]
                              by_cases hfull : κr 2 = 1000
                              · simp (decide := true) only [if_pos hfull, if_neg (show ¬ κ 4 < 1000 by omega), reduceIte]
                                exact hfr
                              · simp (decide := true) only [if_neg hfull, if_pos (show κ 4 < 1000 by omega), reduceIte]
                                unfold P_TypeBook_type_116
                                simp (decide := true) only [e1, reduceIte]
                                have g2 : (up (up φ' 7 f7) 1 (Au ((up φ' 7 f7) 1) 1 0 (-1))) 2 = φ' 2 := rfl
                                have g9 : (up (up φ' 7 f7) 1 (Au ((up φ' 7 f7) 1) 1 0 (-1))) 9 = φ' 9 := rfl
                                have g4 : (up (up φ' 7 f7) 1 (Au ((up φ' 7 f7) 1) 1 0 (-1))) 4 = φ' 4 := rfl
                                unfold P_Looker_newType P_Looker_newType_90
                                simp only [g2, g9, g4, hkd, hlf _ rfl, ep, pl_3 b7a i7, pl_3 b7r i7, hnl, hnr]
                                unfold Q_type_448 Q_type_469
                                have k1' : Q_keep κr τ σ' F' nu' (τ 5 r) (nI (r - 1)) = (σ', F2, nu2) := by rw [← ep]; exact k1
                                have hG' : Q_goThrough κr τ (upd σ 0 0) F nu (τ 5 r) (nI (r - 1)) = (0, σ', F', nu') := by rw [← ep]; exact hG
                                simp only [eN, ep, hG', hc0, hc1, ea, ea0, k1', ← hl64, ← hr64, i64_z]
                                have w2' := w2
                                rcases w3 with ⟨y1, y2, y3⟩ | ⟨y1, y2, y3⟩ | ⟨y1, y2, y3⟩
                                · simp (decide := true) only [y1, reduceIte]
                                  subst y2; subst y3
                                  exact RXK_type hI hkp (by omega) w1 w2 (by decide) (fun h9 => absurd h9 (by decide))
                                · simp (decide := true) only [y1, reduceIte]
                                  subst y3
                                  rw [← y2]
                                  exact RXK_type hI hkp (by omega) w1 w2 (by decide) (fun _ => w4 (by rw [y1]; decide))
                                · simp (decide := true) only [y1, reduceIte]
                                  subst y3
                                  rw [← y2]
                                  exact RXK_type hI hkp (by omega) w1 w2 (by decide) (fun _ => w4 (by rw [y1]; decide))
                            rw [← hl64, ← hr64]
                            have hi := i32_b nl
                            have hi2 := i32_b nr
                            have hlt0 : ∀ x : Int32, (lg_cmp x.toInt64 0 < 0) = (x < 0) := fun x => i64_lt (m := 0) (by rw [Int32.toInt_toInt64])
                            have hge0 : ∀ x : Int32, (0 ≤ lg_cmp x.toInt64 0) = ¬ (x < 0) := fun x => by
                              rw [lg_ge, Int32.toInt_toInt64, Int32.lt_iff_toInt_lt]
                              exact propext ⟨fun h9 h8 => by have h9 : 0 ≤ x.toInt := h9; have h8 : x.toInt < 0 := h8; omega, fun h9 => by have h9 : ¬ x.toInt < 0 := h9; show 0 ≤ x.toInt; omega⟩
                            have hkE : ∀ (E : Int64) (t : Int32) (kd : Int32), τ 2 r = kd → (kd = 12 ∨ kd = 13) → P_Looker_elementsOf kd nl.toInt64 nr.toInt64 = E → STEPK (if P_Looker_boundsFault kd nl nr = 0 then P_TypeBook_type_88 κ φ' ψ' (nI r) (P_Looker_boundsFault kd nl nr) 1 else (0, (P_TypeBook_refused κ φ' ψ' (P_Looker_boundsFault kd nl nr) (nI r)).1, κ, (P_TypeBook_refused κ φ' ψ' (P_Looker_boundsFault kd nl nr) (nI r)).2.1, (P_TypeBook_refused κ φ' ψ' (P_Looker_boundsFault kd nl nr) (nI r)).2.2)) (Q_type_346 κr τ σ F nu (nI r) 0 t E) := by
                              intro E t kd y1 y2 y3
                              have yk : ¬ kd = 11 := by rcases y2 with y | y <;> rw [y] <;> decide
                              have yk2 : ¬ kd ≤ 11 := by rcases y2 with y | y <;> rw [y] <;> decide
                              have hbf : P_Looker_boundsFault kd nl nr = if E.toInt ≤ 64 then (if nl < 0 then 6 else if nr < 0 then 6 else if 1 ≤ E.toInt then 0 else 6) else 4 := by
                                unfold P_Looker_boundsFault P_Looker_boundsFault_51
                                rw [if_neg yk, y3]
                                simp only [lg_le, lg_ge]
                                rfl
                              have hq : Q_type_346 κr τ σ F nu (nI r) 0 t E = if E.toInt ≤ 64 then (if E.toInt < 1 then Q_type_392 κr τ σ F nu (nI r) 0 t E else if nl < 0 then Q_type_392 κr τ σ F nu (nI r) 0 t E else if nr < 0 then Q_type_392 κr τ σ F nu (nI r) 0 t E else Q_type_400 κr τ σ F nu (nI r) 0 t E) else (-4, κr, τ, upd σ' 1 (nI r), F', nu') := by
                                unfold Q_type_346
                                simp only [eN, hG, hc0, hc1, ea, ea0, Q_wrong, ← hl64, ← hr64, hlt0, hge0, y1, if_neg yk2]
                                simp only [lg_le, lg_lt, ite_not]
                                rfl
                              have h392 : ∀ z, ¬ z = 0 → STEPK (if z = 0 then P_TypeBook_type_88 κ φ' ψ' (nI r) z 1 else (0, (P_TypeBook_refused κ φ' ψ' z (nI r)).1, κ, (P_TypeBook_refused κ φ' ψ' z (nI r)).2.1, (P_TypeBook_refused κ φ' ψ' z (nI r)).2.2)) (Q_type_392 κr τ σ F nu (nI r) 0 t E) := by
                                intro z hz
                                simp only [if_neg hz, Q_type_392, eN, hG, Q_wrong]
                                exact hff _ _ _ _
                              rw [hbf, hq]
                              by_cases y4 : E.toInt ≤ 64
                              · simp only [if_pos y4]
                                by_cases y5 : nl < 0
                                · simp only [if_pos y5, ite_self]; exact h392 6 (by decide)
                                · simp only [if_neg y5]
                                  by_cases y6 : nr < 0
                                  · simp only [if_pos y6, ite_self]; exact h392 6 (by decide)
                                  · simp only [if_neg y6]
                                    by_cases y7 : 1 ≤ E.toInt
                                    · simp only [if_pos y7, if_neg (show ¬ E.toInt < 1 by omega), if_true]
                                      obtain ⟨ll, hll, ell⟩ := nI_of y5
                                      obtain ⟨rr', hrr, err⟩ := nI_of y6
                                      have hEn : E.toInt32 = nI E.toInt.toNat := i64_nI (by omega) (by omega)
                                      have hpos : (0 : Int32) ≤ nI E.toInt.toNat := by rw [show (0 : Int32) = nI 0 from rfl, j_le (by omega) (by omega)]; omega
                                      have hneg : ¬ (0 : Int32) ≤ -(nI E.toInt.toNat) := by
                                        rw [Int32.le_iff_toInt_le, Int32.toInt_neg, nI_toInt (by omega), show (0 : Int32).toInt = 0 from rfl, Int.bmod_eq_of_le (by omega) (by omega)]; omega
                                      rcases y2 with y | y
                                      · subst y
                                        have hE : E.toInt = nr.toInt - nl.toInt + 1 := by rw [← y3]; exact i64_el
                                        rw [ell, err, nI_toInt hll, nI_toInt hrr] at hE
                                        refine hend E t E.toInt32 0 (by rw [hEn, if_pos hpos]; rfl) (by rw [hEn, if_pos hpos]) (Or.inr (Or.inl ⟨y1, by rw [y3], rfl⟩)) (fun _ => ⟨ll, rr', E.toInt.toNat, ell, err, hEn, hll, hrr, by omega, by omega, Or.inl ⟨by rw [hEn, if_pos hpos], by omega⟩⟩)
                                      · subst y
                                        have hE : E.toInt = nl.toInt - nr.toInt + 1 := by rw [← y3]; exact i64_el
                                        rw [ell, err, nI_toInt hll, nI_toInt hrr] at hE
                                        refine hend E t (-E.toInt32) 1 (by rw [hEn, if_neg hneg]; rfl) (by rw [hEn, if_neg hneg]; simp) (Or.inr (Or.inr ⟨y1, by rw [y3], rfl⟩)) (fun _ => ⟨ll, rr', E.toInt.toNat, ell, err, hEn, hll, hrr, by omega, by omega, Or.inr ⟨by rw [hEn, if_neg hneg], by omega⟩⟩)
                                    · simp only [if_neg y7, if_pos (show E.toInt < 1 by omega)]; exact h392 6 (by decide)
                              · simp (decide := true) only [if_neg y4, reduceIte]; exact hff _ _ _ _
                            unfold Q_type_311
                            simp only [eN, hG, hc0, hc1, ea, ea0, ← hl64, ← hr64]
                            rcases hkk with y | y | y
                            · have hbf : P_Looker_boundsFault 11 nl nr = if nl ≤ nr then 0 else 8 := by unfold P_Looker_boundsFault; rw [if_pos rfl]
                              have hcm : (lg_cmp nl.toInt64 nr.toInt64 ≤ 0) = (nl ≤ nr) := i64_le (by rw [Int32.toInt_toInt64])
                              simp (decide := true) only [y, hbf, hcm, reduceIte]
                              by_cases yl : nl ≤ nr
                              · simp only [if_pos yl, if_true]
                                unfold Q_type_346
                                rw [if_pos (show lg_cmp 0 64 ≤ 0 by rw [lg_le]; decide), eN, if_pos (show τ 2 r ≤ 11 by rw [y]; decide)]
                                exact hend 0 _ 0 0 rfl rfl (Or.inl ⟨y, rfl, rfl⟩) (fun h9 => absurd y h9)
                              · simp (decide := true) only [if_neg yl, reduceIte]; exact hff _ _ _ _
                            · simp (decide := true) only [y, reduceIte]
                              exact hkE _ _ 12 y (Or.inl rfl) (by unfold P_Looker_elementsOf; rw [if_pos rfl])
                            · simp (decide := true) only [y, reduceIte]
                              exact hkE _ _ 13 y (Or.inr rfl) (by unfold P_Looker_elementsOf; rw [if_neg (by decide)])
                      · simp (decide := true) only [if_neg p3, reduceIte]
                        exact hff _ _ _ _
                    · simp (decide := true) only [if_neg p2, reduceIte]
                      exact hff _ _ _ _
                  · simp (decide := true) only [if_neg p1, reduceIte]
                    exact hff _ _ _ _
                · have w2 : ¬ τ 4 r = 2 := by rw [n2, show (2 : Int32) = nI 2 from rfl, j_eq (by omega) (by omega)]; exact hn2
                  have htf : P_Looker_typeFault κ φ' ψ' (nI r) = 11 := by
                    unfold P_Looker_typeFault
                    rw [hkd, hco, if_neg hk10, if_neg w10, if_neg w13, if_neg w2]
                  simp (decide := true) only [htf, if_neg w2, reduceIte, Q_type_163, eN, hG, Q_wrong]
                  exact hff _ _ _ _
              rcases hkk with q | q | q
              · simp only [if_pos q]; exact hq153
              · have w1 : ¬ τ 2 r = 11 := by rw [q]; decide
                simp only [if_neg w1, if_pos q]; exact hq153
              · have w1 : ¬ τ 2 r = 11 := by rw [q]; decide
                have w2 : ¬ τ 2 r = 12 := by rw [q]; decide
                simp only [if_neg w1, if_neg w2, if_pos q]; exact hq153
            · have z1 : ¬ τ 2 r = 11 := fun h9 => hkk (Or.inl h9)
              have z2 : ¬ τ 2 r = 12 := fun h9 => hkk (Or.inr (Or.inl h9))
              have z3 : ¬ τ 2 r = 13 := fun h9 => hkk (Or.inr (Or.inr h9))
              have htf : P_Looker_typeFault κ φ' ψ' (nI r) = 11 := by
                unfold P_Looker_typeFault
                rw [hkd, if_neg hk10]
                by_cases w1 : τ 2 r < 11
                · rw [if_pos w1]
                · rw [if_neg w1]
                  by_cases w2 : 13 < τ 2 r
                  · rw [if_pos w2]
                  · exfalso
                    rw [Int32.lt_iff_toInt_lt] at w1 w2
                    have w1 : ¬ (τ 2 r).toInt < 11 := w1
                    have w2 : ¬ 13 < (τ 2 r).toInt := w2
                    rcases (show (τ 2 r).toInt = 11 ∨ (τ 2 r).toInt = 12 ∨ (τ 2 r).toInt = 13 by omega) with w | w | w
                    · exact z1 (Int32.toInt_inj.mp w)
                    · exact z2 (Int32.toInt_inj.mp w)
                    · exact z3 (Int32.toInt_inj.mp w)
              simp (decide := true) only [htf, if_neg z1, if_neg z2, if_neg z3, reduceIte, Q_type_163, eN, hG, Q_wrong]
              exact hff _ _ _ _
theorem sk_declare {κ κr b mn : Nat → Nat} {φ : gF} {ψ : gG} {ν : Nat → Int32} {τ : gf} {σ : gs} {F : gf} {nu : gg} {x1 x2 x3 x4 : Int32} (hI : IL κ) (hT : ST κr b mn ν τ) (h : RXK κ φ ψ κr τ F nu) : STEPK (P_TypeBook_declare κ φ ψ x1 x2 x3 x4) (Q_declare κr τ σ F nu x1 x2 x3 x4) := by
  have hC := CK_of hI hT h.1
  obtain ⟨hR, hS, hW, h1, c6, c7, c9, c10, c15, c8⟩ := id h.1
  obtain ⟨⟨s0, s1, s2, s3, s4, s5, s6⟩, _⟩ := id hT
  obtain ⟨i6, i7, i8, i9, i10, i11, i12, i13, i14, i15⟩ := hI.1
  have h0 : κ 0 = κr 0 := hR.2.1.1
  have h4 : κ 4 = κr 2 := hR.2.2.2.2.1.1
  have h5 : κ 5 = κr 3 := hR.2.2.2.2.2.1
  have h2 : κ 2 = 12 + κr 4 := hR.2.2.1.1
  have hTW : TW (κ 0) τ := by rw [h0]; exact (TW_of hT.2.2.1 hT.1.1).1
  have hbad : ∀ t : Int32, ¬ t ≤ 0 → ∀ y, STEPK (y, 0, κ, φ, ψ) (Q_declare_47 κr τ σ F nu x1 x2 x3 x4 t) := by
    intro t ht y
    unfold Q_declare_47
    simp only [cd_up, if_neg ht]
    exact h
  -- the tail: name free, room, put
  have htail : ∀ (φ' : gF) (ψ' : gG) (σ' : gs) (F' : gf) (nu' : gg) (v t : Nat), RXK κ φ' ψ' κr τ F' nu' → φ' 3 = φ 3 → v < 10000 → x2 = nI v → t < κ 4 → x3 = nI t → (x1 = 0 ∨ x1 = 1 ∨ x1 = 2) →
      (x1 = 0 → ∃ r, r < κ 0 ∧ x4 = nI r ∧ F' 11 r = 1 ∧ Q_fits κr τ σ' F' nu' (nI r) (nI t) = 0 ∧ (∀ j, bg τ r ≤ j → j < r + 1 → (hdn τ j (r + 1) → φ' 1 0 j = 1) ∧ (¬ hdn τ j (r + 1) → φ' 1 0 j = 0)) ∧ ∀ a, bg τ r ≤ a → a < r + 1 → ¬ hdn τ a (r + 1) → LsK (κ 10) (φ' 9) (ψ' 10) F' nu' a) →
      STEPK (P_TypeBook_declare_93 κ φ' ψ' x1 x2 x3 x4 0) (Q_declare_141 κr τ σ F nu x1 x2 x3 x4 0 σ' F' nu') := by
    intro φ' ψ' σ' F' nu' v t hfr p3 hv ev ht et hx hnode
    subst ev; subst et
    unfold P_TypeBook_declare_93 Q_declare_141 P_TypeBook_declare_157 Q_declare_177
    have htk := tk_rel (κ := κ) (κr := κr) (f := φ 3) (τ := τ) (σ := σ') (F := F') (nu := nu') hR.1 hR.2.2.1 hS s5 s6 hv
    rw [if_pos rfl, p3]
    by_cases q1 : P_Names_isTaken (κ 2) (κ 3) (κ 12) (φ 3) (nI v) = 0
    · have q1' : Q_hasHere κr τ σ' F' nu' (nI v) = 0 := by rw [← htk]; exact q1
      rw [if_pos q1, if_pos q1', hr_t (show κ 2 ≤ 8192 by omega) (show 1 ≤ 5000 by omega)]
      have z1 : (2000 ≤ nI (κ 5)) = (2000 ≤ κ 5) := by rw [show (2000 : Int32) = nI 2000 from rfl, j_le (by omega) (by omega)]
      have z2 : (nI (κr 3) = 2000) = (κr 3 = 2000) := by rw [show (2000 : Int32) = nI 2000 from rfl, j_eq (by omega) (by omega)]
      have z3 : (nI (κr 4) = 3000) = (κr 4 = 3000) := by rw [show (3000 : Int32) = nI 3000 from rfl, j_eq (by omega) (by omega)]
      simp only [z1, z2, z3]
      by_cases q2 : κr 3 = 2000
      · simp only [if_pos q2, if_pos (show 2000 ≤ κ 5 by omega)]; exact hfr
      · simp only [if_neg q2, if_neg (show ¬ 2000 ≤ κ 5 by omega)]
        by_cases q3 : κr 4 = 3000
        · simp (decide := true) only [if_pos q3, if_neg (show ¬ κ 2 + 1 ≤ 3012 by omega), reduceIte]; exact hfr
        · simp (decide := true) only [if_neg q3, if_pos (show κ 2 + 1 ≤ 3012 by omega), reduceIte]
          obtain ⟨f5, e1, e2, e3, e4⟩ := po_put (φ := φ') (ψ := ψ') (x1 := x1) (x2 := nI t) (show κ 5 < 2000 by omega) hI.2.2.2.2.2.1
          have e3n : (nI (κr 3)).toNatClampNeg = κr 3 := nI_clamp (by omega)
          have hI1 := IL_ko hI (show κ 5 < 2000 by omega)
          have w8 := wl_ok (n := κ 8) (N := κ 5 + 1) i8 (by omega)
          -- the name behind
          have hname : ∀ (φ1 : gF) (ψ1 : gG) (F1 : gf) (nu1 : gg), RXK (ko κ) φ1 ψ1 (ku κr 3 (κr 3 + 1)) (Au (Au τ 22 (κr 3) x1) 23 (κr 3) (nI t)) F1 nu1 → STEPK (P_TypeBook_declare_212 κ φ1 ψ1 x1 (nI v) (nI t) x4 0 (nI (κ 5))) (Q_declare_246 κr τ σ F nu x1 (nI v) (nI t) x4 0 σ' F' nu' F1 nu1) := by
            intro φ1 ψ1 F1 nu1 hx1
            have := (RXK_name (x1 := nI v) (x2 := 2) (x3 := nI (κ 5)) (x4 := 0) (y2 := 1) (y3 := nI (κr 3)) (y4 := 0) (σ := upd σ' 1 (-1)) hI1 hx1 (show κr 4 < 3000 by omega) s5 s6 (Or.inr (Or.inl ⟨rfl, rfl, by rw [h5]⟩)) ⟨fun h9 => by rcases h9 with h9 | h9 <;> exact absurd h9 (by decide), fun _ => ⟨κr 3, by show κr 3 < κr 3 + 1; omega, rfl⟩⟩).fault (x := -1)
            unfold P_TypeBook_declare_212 Q_declare_246
            rw [e3n]
            have hk : ku (ku κr 4 (κr 4 + 1)) 3 ((ku κr 4 (κr 4 + 1)) 3 + 1) = ku (ku κr 3 (κr 3 + 1)) 4 ((ku κr 3 (κr 3 + 1)) 4 + 1) := by
              funext i
              show (if i = 3 then κr 3 + 1 else if i = 4 then κr 4 + 1 else κr i) = if i = 4 then κr 4 + 1 else if i = 3 then κr 3 + 1 else κr i
              by_cases h8 : i = 3
              · subst h8; rfl
              · rw [if_neg h8, if_neg h8]
            rw [hk]
            exact this
          rw [e1, e3n]
          dsimp only
          by_cases q0 : x1 = 0
          · rw [if_pos q0, if_pos q0]
            obtain ⟨r, hr, er, hx11, hfit, hh, hlk⟩ := hnode q0
            subst er
            have ep : nI (r + 1) - 1 = nI r := nI_pred r
            have hr0 : ¬ hdn τ r (r + 1) := fun ⟨a, a1, a2, _⟩ => by omega
            have hbr := (hTW r hr).2.2.1
            have hl := hlk r hbr (by omega) hr0
            have eN : (nI r).toNatClampNeg = r := nI_clamp (by omega)
            -- told
            obtain ⟨f7, g8, u1, u2, u3⟩ := tell_t (κ := ko κ) (κr := κr) (φ := up φ' 5 f5) (ψ := up ψ' 6 (P_Rows_makeRoom (κ 8) (ψ' 6) (κ 5 + 1))) (τ := τ) (r := r) (m := r + 1) hTW (by rw [up_n (by decide)]; exact hfr.1.1.2.1) hC.1 ⟨c6, c7, c9, c10, c15⟩ ⟨i6, i7, i9, i10, i15⟩ hr (Or.inl rfl) (fun j a b => by rw [up_n (by decide)]; exact hh j a b)
            rw [ep] at u1
            have u1' : P_Looker_tell (ku (ku (ku κ 14 (wl (κ 14) (κ 5 + 1))) 8 (wl (κ 8) (κ 5 + 1))) 5 (κ 5 + 1)) (up φ' 5 f5) (up ψ' 6 (P_Rows_makeRoom (κ 8) (ψ' 6) (κ 5 + 1))) (nI r) (nI r) = (up (up φ' 5 f5) 7 f7, up (up ψ' 6 (P_Rows_makeRoom (κ 8) (ψ' 6) (κ 5 + 1))) 8 g8) := u1
            rw [u1']
            obtain ⟨_, _, _, y3, _, y5⟩ := u2 r hbr (by omega) hr0
            -- kept by the object
            have hkeep : P_Objects_keep (ku (ku (ku κ 14 (wl (κ 14) (κ 5 + 1))) 8 (wl (κ 8) (κ 5 + 1))) 5 (κ 5 + 1)) (up (up φ' 5 f5) 7 f7) (up (up ψ' 6 (P_Rows_makeRoom (κ 8) (ψ' 6) (κ 5 + 1))) 8 g8) (nI (κ 5)) (nI r) = (up (up (up φ' 5 f5) 7 f7) 5 (Au f5 2 (κ 5) (f7 3 r)), up (up (up ψ' 6 (P_Rows_makeRoom (κ 8) (ψ' 6) (κ 5 + 1))) 8 g8) 6 (P_Rows_copy (wl (κ 8) (κ 5 + 1)) (κ 9) (P_Rows_makeRoom (κ 8) (ψ' 6) (κ 5 + 1)) g8 (nI (κ 5)) (nI r))) := by
              have hhas : ∀ f, P_Objects_has (κ 5 + 1) (wl (κ 14) (κ 5 + 1)) f (nI (κ 5)) = 1 := fun f => by
                unfold P_Objects_has
                rw [if_neg (nI_pos (by omega)), if_neg (by rw [j_le (by omega) (by omega)]; omega)]
              have hno : ∀ f : gf, P_Looks_numberOf (κ 6) f (nI r) = f 3 r := fun f => pl_3 (by omega) i6
              unfold P_Objects_keep
              show (if P_Objects_has (κ 5 + 1) (wl (κ 14) (κ 5 + 1)) f5 (nI (κ 5)) = 0 then _ else (up (up (up φ' 5 f5) 7 f7) 5 (Au f5 2 (nI (κ 5)).toNatClampNeg (P_Looks_numberOf (κ 6) f7 (nI r))), _)) = _
              rw [hhas, if_neg (by decide), hno, nI_clamp (by omega)]
              rfl
            dsimp only
            rw [hkeep]
            dsimp only
            -- the reference
            have hx01 : F' 11 r = 0 ∨ F' 11 r = 1 := Or.inr hx11
            have e8 : (8000 : Int32) + nI (κr 3) = nI (8000 + κr 3) := nI_add 8000 (κr 3)
            rw [e8, copy_t (by omega) (by omega) (by omega) hx01]
            dsimp only
            generalize hM : mt F' (8000 + κr 3) (F' 9 r) (F' 10 r) (F' 11 r) (F' 12 r) (fun j => bw (ee F' r j)) = M1
            have hMq : ∀ q j, ¬ q = 14 → ¬ j = 8000 + κr 3 → M1 q j = F' q j := fun q j a b => by subst hM; exact mt_a a b
            have hM14 : ∀ j, ¬ j / 64 = 8000 + κr 3 → M1 14 j = F' 14 j := fun j a => by subst hM; unfold mt; rw [if_pos rfl, if_neg a]
            have hMk := mt_k (F := F') (k := 8000 + κr 3) (c := F' 9 r) (e := F' 10 r) (x := F' 11 r) (m := F' 12 r) (r := fun j => bw (ee F' r j))
            rw [hM] at hMk
            generalize hτ1 : Au (Au τ 22 (κr 3) x1) 23 (κr 3) (nI t) = τ1
            have t2 : τ1 2 = τ 2 := by subst hτ1; rfl
            have t4 : τ1 4 = τ 4 := by subst hτ1; rfl
            have t5 : τ1 5 = τ 5 := by subst hτ1; rfl
            have hTW1 : TW (κr 0) τ1 := TW_cg t4 t5 (by rw [← h0]; exact hTW)
            obtain ⟨F2, nu2, k1, k2, k3, k4, k5, k6⟩ := keep_t (κ := κr) (τ := τ1) (σ := upd σ' 1 (-1)) (F := M1) (nu := vp_updL nu' (8000 + κr 3) (nu' r)) (f := bg τ r) (m := r + 1) hTW1 (by omega) (by omega) (by omega) (fun k a1 a2 a3 => by
              rw [hMq 11 k (by decide) (by omega)]
              exact (hlk k a1 a2 (fun h9 => a3 ((hdn_cg t2 t5).mpr h9))).2.2.2.2.2.1)
            rw [ep] at k1
            rw [t5, eN, (hTW r hr).2.1, k1]
            dsimp only
            obtain ⟨hL0, hL1, hL2, hL4, hLv⟩ := hl
            obtain ⟨g9, g10⟩ := fits_eq (show r < 4000 by omega) (show t < 1000 by have := hR.2.2.2.2.1.2.2.1; omega) hLv hfit
            have n9 : F2 9 (8000 + κ 5) = F' 9 r := by rw [h5, k3 9 _ (by decide) (by decide) (fun k e => by omega)]; exact hMk.1
            have n10 : F2 10 (8000 + κ 5) = F' 10 r := by rw [h5, k3 10 _ (by decide) (by decide) (fun k e => by omega)]; exact hMk.2.1
            have n11 : F2 11 (8000 + κ 5) = F' 11 r := by rw [h5, k3 11 _ (by decide) (by decide) (fun k e => by omega)]; exact hMk.2.2.1
            have nn : nu2 (8000 + κ 5) = nu' r := by rw [h5, k5 _ (fun k e => by omega), upl_a, if_pos rfl]
            have ne : ∀ j, j < 64 → ee F2 (8000 + κ 5) j = bw (ee F' r j) := fun j hj => by
              have a1 : ee F2 (8000 + κ 5) j = ee M1 (8000 + κ 5) j := k4 (64 * (8000 + κ 5) + j) (fun k e => by omega)
              rw [a1, h5]; exact hMk.2.2.2.2 j hj
            have hrow : ∀ s j, s < wl (κ 8) (κ 5 + 1) → j < 64 → rr (wl (κ 8) (κ 5 + 1)) (P_Rows_copy (wl (κ 8) (κ 5 + 1)) (κ 9) (P_Rows_makeRoom (κ 8) (ψ' 6) (κ 5 + 1)) g8 (nI (κ 5)) (nI r)) s j = if s = κ 5 then rr (κ 9) g8 r j else rr (wl (κ 8) (κ 5 + 1)) (P_Rows_makeRoom (κ 8) (ψ' 6) (κ 5 + 1)) s j := fun s j a1 a2 => rr_copy w8.2.2 i9 (by omega) (by omega) a1 a2
            have hkn : ∀ k, k < κ 0 → RKn (up (up (up φ' 5 f5) 7 f7) 5 (Au f5 2 (κ 5) (f7 3 r))) F2 k := fun k hk => by
              have hk1 : RKn (up φ' 5 f5) M1 k := (hfr.2 k hk).cg (fun _ _ => rfl) (hMq 15 k (by decide) (by omega)) (fun q a b => hMq q _ a (by omega))
              have hlk1 : ∀ a, bg τ r ≤ a → a < r + 1 → ¬ hdn τ1 a (r + 1) → LsQ (up φ' 5 f5) M1 a := fun a a1 a2 a3 => by
                have hA := lsq (hlk a a1 a2 (fun h9 => a3 ((hdn_cg t2 t5).mpr h9)))
                unfold LsQ
                rw [hMq 9 a (by decide) (by omega), hMq 10 a (by decide) (by omega), hMq 11 a (by decide) (by omega), hMq 12 a (by decide) (by omega)]
                exact hA
              exact (RKn_tk (κ := ko κ) (φ := up φ' 5 f5) (ψ := up ψ' 6 (P_Rows_makeRoom (κ 8) (ψ' 6) (κ 5 + 1))) hk1 (fun k a1 a2 a3 => u2 k a1 a2 (fun h9 => a3 ((hdn_cg t2 t5).mpr h9))) (fun k a1 => u3 k (a1.imp_right (fun a2 => a2.imp_right (fun a3 => (hdn_cg t2 t5).mp a3)))) k2 k3 k6 hlk1).cg (fun _ _ => rfl) rfl (fun _ _ _ => rfl)
            subst hτ1
            refine hname _ _ _ _ (RXK_obj hkn hI hfr (by omega) ht hx ?_ ?_ ?_ ⟨fun q e hq he => ?_, ?_, ?_⟩ (fun s j hs hj => ?_) (fun q i a b c d => ?_) (fun i a c => ?_) (fun i a c => ?_) (fun _ => ⟨by rw [n9]; exact g9, by rw [n10]; exact g10, by rw [n11]; exact hx11, ?_⟩))
            · rfl
            · rfl
            · rfl
            · rw [up_s, au_a, if_neg (by omega)]; exact e2 q e hq he
            · rw [up_s, au_a, if_neg (by omega)]; exact e3
            · rw [up_s, au_a, if_neg (by omega)]; exact e4
            · rw [up_s, hrow s j (by omega) hj, if_neg (by omega)]; exact rr_room i8 (by omega) (by omega) hj
            · rw [k3 q i a b (fun k e => by omega), hMq q i a (by omega)]
            · rw [k4 i (fun k e => by omega), hM14 i (by omega)]
            · rw [k5 i (fun k e => by omega), upl_a, if_neg (by omega)]
            · rw [← g9, ← g10, nn, up_s, up_s]
              obtain ⟨v1, v2, v3, v4, v5⟩ := hLv
              have v5' := v5 hx11
              have e32 : Au f5 2 (κ 5) (f7 3 r) 2 (κ 5) = φ' 9 3 r := by rw [au_a, if_pos ⟨rfl, rfl⟩, y3]; rfl
              rw [e32]
              refine ⟨v1, Or.inr rfl, v3, v4, fun _ => ⟨v5'.1, v5'.2.1, fun hc3 E j hE hE2 hj => ?_⟩⟩
              obtain ⟨m1, m2⟩ := v5'.2.2 hc3 E j hE hE2 hj
              have y5' : rr (κ 9) g8 r j = rr (κ 10) (ψ' 10) r j := y5 j (by omega)
              rw [hrow (κ 5) j (by omega) (by omega), if_pos rfl, y5', ne j (by omega), bw_n (m9 m2)]
              exact ⟨m1, m2⟩
          · rw [if_neg q0, if_neg q0]
            refine hname _ _ _ _ (RXK_obj (fun k hk => (hfr.2 k hk).cg (fun _ _ => rfl) rfl (fun _ _ _ => rfl)) hI hfr (by omega) ht hx rfl rfl rfl ⟨fun q e hq he => ?_, ?_, ?_⟩ (fun s j hs hj => ?_) (fun q i a b c d => rfl) (fun i a c => rfl) (fun i a c => rfl) (fun h9 => absurd h9 q0))
            · rw [up_s]; exact e2 q e hq he
            · rw [up_s]; exact e3
            · rw [up_s]; exact e4
            · rw [up_s]; exact rr_room i8 (by omega) (by omega) hj
    · have q1' : ¬ Q_hasHere κr τ σ' F' nu' (nI v) = 0 := by rw [← htk]; exact q1
      rw [if_neg q1, if_neg q1']
      exact hfr.fault
  -- types and nodes that are
  have hmain : ∀ t, t < κ 4 → x3 = nI t → (x1 = 0 → ∃ r, r < κ 0 ∧ x4 = nI r) → STEPK (P_TypeBook_declare_37 κ φ ψ x1 x2 x3 x4) (Q_declare_26 κr τ σ F nu x1 x2 x3 x4) := by
    intro t ht et hnode
    unfold P_TypeBook_declare_37 Q_declare_26 P_TypeBook_declare_53 Q_declare_42
    by_cases q1 : x1 < 0
    · rw [if_pos q1, if_pos q1]; exact hbad 2 (by decide) _
    · rw [if_neg q1, if_neg q1]
      by_cases q2 : 2 < x1
      · rw [if_pos q2, if_pos q2]; exact hbad 2 (by decide) _
      · rw [if_neg q2, if_neg q2]
        rcases gn_t (x := x2) with ⟨g1, g2⟩ | ⟨g1, g2, v, g3, g4⟩
        · rw [if_pos g1, if_pos g2]; exact hbad 2 (by decide) _
        · rw [if_neg (show ¬ P_TypeBook_isName x2 = 0 by rw [g1]; decide), if_neg (show ¬ Q_goodName x2 = 0 by rw [g2]; decide)]
          have hx : x1 = 0 ∨ x1 = 1 ∨ x1 = 2 := by
            rw [Int32.lt_iff_toInt_lt] at q1 q2
            have q1 : ¬ x1.toInt < 0 := q1
            have q2 : ¬ 2 < x1.toInt := q2
            rcases (show x1.toInt = 0 ∨ x1.toInt = 1 ∨ x1.toInt = 2 by omega) with w | w | w
            · exact Or.inl (Int32.toInt_inj.mp w)
            · exact Or.inr (Or.inl (Int32.toInt_inj.mp w))
            · exact Or.inr (Or.inr (Int32.toInt_inj.mp w))
          unfold Q_declare_47
          simp (decide := true) only [cd_up, reduceIte]
          by_cases q0 : x1 = 0
          · rw [if_pos q0, if_pos q0]
            obtain ⟨r, hr, er⟩ := hnode q0
            obtain ⟨_, lk⟩ := look_rx (σ := upd σ 0 0) (m := r + 1) hI hT h.1 hr (Or.inl rfl)
            have ep : nI (r + 1) - 1 = nI r := nI_pred r
            have eN : (nI r).toNatClampNeg = r := nI_clamp (by omega)
            rw [ep] at lk
            obtain ⟨l1, l2, l3, l4⟩ := lk
            have hsx := er
            subst er
            unfold Q_declare_127
            simp only [eN]
            generalize P_Looker_look κ φ ψ (nI r) (nI r) = oc at l1 l3 l4 ⊢
            generalize Q_goThrough κr τ (upd σ 0 0) F nu (τ 5 r) (nI r) = om at l2 l4 ⊢
            obtain ⟨oc1, φ', ψ'⟩ := oc
            obtain ⟨om1, σ', F', nu'⟩ := om
            dsimp only at l1 l2 l3 l4 ⊢
            have hfr := h.fr l1 l2
            have hrf : ∀ z, ¬ z = 0 → ∀ y σ2, STEPK (P_TypeBook_declare_93 κ φ' ψ' x1 x2 x3 (nI r) z) (y, κr, τ, σ2, F', nu') := by
              intro z hz y σ2
              unfold P_TypeBook_declare_93
              rw [if_neg hz]
              exact hfr.fault
            rcases l4 with ⟨k1, k2⟩ | ⟨k1, k2, k3⟩
            · rw [if_neg (Int32.not_le.mpr k2)]
              exact hrf _ (jd_bad k1) _ _
            · subst k1; subst k2; subst et
              have hr0 : ¬ hdn τ r (r + 1) := fun ⟨a, a1, a2, _⟩ => by omega
              have hl := k3 r (hTW r hr).2.2.1 (by omega) hr0
              have hj := jd_ok (κ := κ) (κr := κr) (φ := φ') (ψ := ψ') (τ := τ) (σ := σ') (F := F') (nu := nu') (x4 := 1) (show r < κ 7 by omega) i7 hfr.1.1.2.2.2.2.1 ht hl
              rw [if_pos (show (0 : Int32) ≤ 0 by decide)]
              by_cases w1 : F' 11 r = 1
              · rw [if_neg (show ¬ F' 11 r = 0 by rw [w1]; decide)]
                by_cases w2 : Q_fits κr τ σ' F' nu' (nI r) (nI t) = 0
                · have hjj : P_Looker_judge κ φ' ψ' 0 (nI r) (nI t) 1 = 0 := by rw [hj]; exact ⟨Or.inr w1, w2⟩
                  rw [hjj, w2]
                  simp (decide := true) only [reduceIte]
                  exact htail φ' ψ' σ' F' nu' v t hfr (l1.1 3 (by decide) (by decide)) g3 g4 ht rfl hx (fun _ => ⟨r, hr, rfl, w1, w2, l3, k3⟩)
                · have hjj : ¬ P_Looker_judge κ φ' ψ' 0 (nI r) (nI t) 1 = 0 := by rw [hj]; exact fun h9 => w2 h9.2
                  have hle : ¬ Q_fits κr τ σ' F' nu' (nI r) (nI t) ≤ 0 := by rw [fi_le]; exact w2
                  rw [if_neg hle, ite_self, ite_self]
                  exact hrf _ hjj _ _
              · have hw0 : F' 11 r = 0 := hl.2.2.2.2.2.1.resolve_right w1
                have hjj : ¬ P_Looker_judge κ φ' ψ' 0 (nI r) (nI t) 1 = 0 := by
                  rw [hj]
                  rintro ⟨h9 | h9, _⟩
                  · exact absurd h9 (by decide)
                  · exact w1 h9
                rw [if_pos hw0, if_neg (show ¬ (5 : Int32) ≤ 0 by decide)]
                by_cases y3 : Q_fits κr τ σ' F' nu' (nI r) (nI t) = 3
                · rw [if_pos y3, if_neg (by rw [y3]; decide)]; exact hrf _ hjj _ _
                · rw [if_neg y3]
                  by_cases y4 : Q_fits κr τ σ' F' nu' (nI r) (nI t) = 4
                  · rw [if_pos y4, if_neg (by rw [y4]; decide)]; exact hrf _ hjj _ _
                  · rw [if_neg y4]; exact hrf _ hjj _ _
          · rw [if_neg q0, if_neg q0]
            exact htail φ ψ (upd σ 0 0) F nu v t h rfl g3 g4 ht et hx (fun h9 => absurd h9 q0)
  unfold P_TypeBook_declare Q_declare P_TypeBook_declare_27 Q_declare_22
  rcases has_t (N := κ 4) (L := κ 13) (f := φ 4) (x := x3) (by omega) with ⟨a1, a2⟩ | ⟨a1, t, a2, a3⟩
  · rcases nt_t (κ := κr) (τ := τ) (σ := σ) (F := F) (nu := nu) (x := x3) (by omega) with ⟨b1, b2⟩ | ⟨b1, b2⟩
    · rw [a1, b1, if_pos rfl, if_neg (show ¬ (1 : Int32) = 0 by decide)]; exact hbad 1 (by decide) _
    · rw [h4] at a2; exact absurd b2 a2
  · rcases nt_t (κ := κr) (τ := τ) (σ := σ) (F := F) (nu := nu) (x := x3) (by omega) with ⟨b1, b2⟩ | ⟨b1, b2⟩
    · rw [h4] at a2; exact absurd ⟨t, a2, a3⟩ b2
    · rw [a1, b1, if_neg (show ¬ (1 : Int32) = 0 by decide), if_pos rfl]
      by_cases q0 : x1 = 0
      · rw [if_pos q0, if_pos q0]
        rcases hn_t (N := κ 0) (r := κ 1) (L := κ 11) (f := φ 2) (x := x4) (by omega) with ⟨d1, d2⟩ | ⟨d1, r, d2, d3⟩
        · rcases nn_t (κ := κr) (τ := τ) (σ := σ) (F := F) (nu := nu) (x := x4) (by omega) with ⟨k1, k2⟩ | ⟨k1, k2⟩
          · rw [d1, k1, if_pos rfl, if_neg (show ¬ (1 : Int32) = 0 by decide)]; exact hbad 1 (by decide) _
          · rw [h0] at d2; exact absurd k2 d2
        · rcases nn_t (κ := κr) (τ := τ) (σ := σ) (F := F) (nu := nu) (x := x4) (by omega) with ⟨k1, k2⟩ | ⟨k1, k2⟩
          · rw [h0] at d2; exact absurd ⟨r, d2, d3⟩ k2
          · rw [d1, k1, if_neg (show ¬ (1 : Int32) = 0 by decide), if_pos rfl]
            exact hmain t a2 a3 (fun _ => ⟨r, d2, d3⟩)
      · rw [if_neg q0, if_neg q0]
        exact hmain t a2 a3 (fun h9 => absurd h9 q0)
theorem ek_loop {κ κr : Nat → Nat} {φ0 : gF} {ψ : gG} {τ : gf} {σ : gs} {F : gf} {nu : gg} {r n : Nat} {t9 t0 i4 i3 i9 x2 x3 : Int32} (hI : IL κ) (h2 : κ 2 + 1 + n ≤ 3012) (h24 : κ 2 = 12 + κr 4) (h4 : κ 4 = κr 2) (h41 : κ 4 < 1000) (hr : r < κ 0) (hN : κ 0 ≤ 4000) (hn : n ≤ 64) (hnr : n ≤ r) (en : τ 4 r = nI n) (hTr : RTr κ (φ0 2) κr τ) (s5 : 1 ≤ κr 5) (s6 : κr 5 ≤ 32) :
    ∀ d j f1 f2 (φ : gF) (τ1 : gf), j + d = n → d < f1 → d < f2 → φ 2 = φ0 2 → τ1 3 = τ 3 → RXK (kE κ j) φ ψ (krE κr j) τ1 F nu →
      STEPK (P_TypeBook_enumeration_145 κ f1 φ ψ (nI r) x2 x3 (nI n) (nI (κ 4)) (nI j)) (Q_enumeration_342 κr τ σ F nu (nI r) 0 t0 i4 i3 (upd σ 0 0) F nu i9 0 f2 (krE κr j) τ1 (nI j)) ∧
      ANe (P_TypeBook_enumeration_145 κ f1 φ ψ (nI r) x2 x3 (nI n) (nI (κ 4)) (nI j)) (Q_enumeration_342 κr τ σ F nu (nI r) 0 t0 i4 i3 (upd σ 0 0) F nu i9 0 f2 (krE κr j) τ1 (nI j)) := by
  have eN : (nI r).toNatClampNeg = r := nI_clamp (by omega)
  have hnt : ∀ σ' F' nu' x1 x2 x3 x4 x5, (Q_newType κr τ σ' F' nu' x1 x2 x3 x4 x5).1 = nI (κ 4) := by
    intro σ' F' nu' x1 x2 x3 x4 x5
    show nI (κr 2) + 1 - 1 = _
    rw [← nI_succ, nI_pred, h4]
  intro d
  induction d with
  | zero =>
    intro j f1 f2 φ τ1 hj hf1 hf2 hφ hτ h
    obtain ⟨m1, rfl⟩ : ∃ m, f1 = m + 1 := ⟨f1 - 1, by omega⟩
    obtain ⟨m2, rfl⟩ : ∃ m, f2 = m + 1 := ⟨f2 - 1, by omega⟩
    obtain rfl : j = n := by omega
    have hle : nI j ≤ nI j := by rw [j_le (by omega) (by omega)]; omega
    have e1 : P_TypeBook_enumeration_145 κ (m1 + 1) φ ψ (nI r) x2 x3 (nI j) (nI (κ 4)) (nI j) = (0, nI (κ 4), kE κ j, up φ 1 (Au (φ 1) 1 0 (-1)), ψ) := by
      show (if nI j ≤ nI j then (0, nI (κ 4), (ku (ku (ku (ku κ 4 (κ 4 + 1)) 13 (wl (κ 13) (κ 4 + 1))) 2 (κ 2 + 1 + (nI j).toNatClampNeg)) 12 (LLn (κ 12) (κ 2) (nI j).toNatClampNeg)), (up φ 1 (Au (φ 1) 1 0 (-1))), ψ) else _) = _
      rw [if_pos hle, nI_clamp (by omega)]
      rfl
    have e2 : Q_enumeration_342 κr τ σ F nu (nI r) 0 t0 i4 i3 (upd σ 0 0) F nu i9 0 (m2 + 1) (krE κr j) τ1 (nI j) = (nI (κ 4), krE κr j, τ1, upd (upd (upd σ 0 0) 0 0) 1 (-1), F, nu) := by
      show (if τ 4 (nI r).toNatClampNeg ≤ nI j then ((Q_newType κr τ (upd (upd (upd σ 0 0) 0 0) 1 (-1)) F nu 4 0 (τ 4 (nI r).toNatClampNeg - 1) (τ 4 (nI r).toNatClampNeg) 0).1, krE κr j, τ1, upd (upd (upd σ 0 0) 0 0) 1 (-1), F, nu) else _) = _
      rw [eN, en, if_pos hle, hnt]
    rw [e1, e2]
    exact ⟨h.fault, ane_0 (by simp [upd]) rfl⟩
  | succ d ih =>
    intro j f1 f2 φ τ1 hj hf1 hf2 hφ hτ h
    obtain ⟨m1, rfl⟩ : ∃ m, f1 = m + 1 := ⟨f1 - 1, by omega⟩
    obtain ⟨m2, rfl⟩ : ∃ m, f2 = m + 1 := ⟨f2 - 1, by omega⟩
    have hle : ¬ nI n ≤ nI j := by rw [j_le (by omega) (by omega)]; omega
    have hix : nI r - nI n + nI j = nI (r - n + j) := by
      have hsub : nI r - nI n = nI (r - n) := by
        apply Int32.toInt_inj.mp
        rw [Int32.toInt_sub, nI_toInt (by omega), nI_toInt (by omega), nI_toInt (by omega), Int.bmod_eq_of_le (by omega) (by omega)]; omega
      rw [hsub, nI_add]
    have e1 : P_TypeBook_enumeration_145 κ (m1 + 1) φ ψ (nI r) x2 x3 (nI n) (nI (κ 4)) (nI j) = P_TypeBook_enumeration_145 κ m1 (up φ 3 (P_Names_put (kE κ j 2) (kE κ j 3) (kE κ j 12) (φ 3) (τ 3 (r - n + j)) 3 (nI (κ 4)) (nI j))) ψ (nI r) x2 x3 (nI n) (nI (κ 4)) (nI (j + 1)) := by
      show (if nI n ≤ nI j then _ else P_TypeBook_enumeration_145 κ m1 (up φ 3 (P_Names_put (κ 2 + 1 + (nI j).toNatClampNeg) (κ 3) (LLn (κ 12) (κ 2) (nI j).toNatClampNeg) (φ 3) (P_Trees_valueOf (κ 0) (κ 1) (κ 11) (φ 2) (nI r - nI n + nI j)) 3 (nI (κ 4)) (nI j))) ψ (nI r) x2 x3 (nI n) (nI (κ 4)) (nI j + 1)) = _
      rw [if_neg hle, hix, hφ, pt_1 (by omega) (by omega), (hTr.2.1 (r - n + j) (by omega)).2.1, nI_clamp (by omega), ← nI_succ]
      rfl
    have e2 : Q_enumeration_342 κr τ σ F nu (nI r) 0 t0 i4 i3 (upd σ 0 0) F nu i9 0 (m2 + 1) (krE κr j) τ1 (nI j) = Q_enumeration_342 κr τ σ F nu (nI r) 0 t0 i4 i3 (upd σ 0 0) F nu i9 0 m2 (ku (krE κr j) 4 (krE κr j 4 + 1)) (Q_name (krE κr j) τ1 (upd (upd (upd σ 0 0) 0 0) 1 (-1)) F nu (τ 3 (r - n + j)) 2 (nI (κ 4)) (nI j)).2.1 (nI (j + 1)) := by
      show (if τ 4 (nI r).toNatClampNeg ≤ nI j then _ else Q_enumeration_342 κr τ σ F nu (nI r) 0 t0 i4 i3 (upd σ 0 0) F nu i9 0 m2 (ku (krE κr j) 4 (krE κr j 4 + 1)) (Q_name (krE κr j) τ1 (upd (upd (upd σ 0 0) 0 0) 1 (-1)) F nu (τ1 3 (nI r - τ 4 (nI r).toNatClampNeg + nI j).toNatClampNeg) 2 (Q_newType κr τ (upd (upd (upd σ 0 0) 0 0) 1 (-1)) F nu 4 0 (τ 4 (nI r).toNatClampNeg - 1) (τ 4 (nI r).toNatClampNeg) 0).1 (nI j)).2.1 (nI j + 1)) = _
      rw [eN, en, if_neg hle, hnt, hix, nI_clamp (by omega), hτ, ← nI_succ]
    rw [e1, e2, krE_s]
    have hx := RXK_name (x1 := τ 3 (r - n + j)) (x2 := 3) (x3 := nI (κ 4)) (x4 := nI j) (y2 := 2) (y3 := nI (κ 4)) (y4 := nI j) (σ := upd (upd (upd σ 0 0) 0 0) 1 (-1)) (IL_kE hI (show κ 2 ≤ 3012 by omega) (by omega) (show j ≤ 64 by omega)) h (show κr 4 + 1 + j < 3000 by omega) s5 s6 (Or.inr (Or.inr (Or.inl ⟨rfl, rfl, rfl, rfl⟩))) ⟨fun _ => ⟨κ 4, by show κ 4 < κr 2 + 1; omega, rfl⟩, fun h9 => absurd h9 (by decide)⟩
    rw [kE_s, krE_s] at hx
    exact ih (j + 1) m1 m2 _ _ (by omega) (by omega) (by omega) (by rw [up_n (by decide)]; exact hφ) (by rw [nm_low (by decide)]; exact hτ) hx
theorem sk_enumeration {κ κr b mn : Nat → Nat} {φ : gF} {ψ : gG} {ν : Nat → Int32} {τ : gf} {σ : gs} {F : gf} {nu : gg} {x1 : Int32} (hI : IL κ) (hT : ST κr b mn ν τ) (h : RXK κ φ ψ κr τ F nu) : STEPK (P_TypeBook_enumeration κ φ ψ x1) (Q_enumeration κr τ σ F nu x1) ∧ ANe (P_TypeBook_enumeration κ φ ψ x1) (Q_enumeration κr τ σ F nu x1) := by
  have hC := CK_of hI hT h.1
  obtain ⟨hR, hS, hW, h1, hcap⟩ := id h.1
  obtain ⟨⟨s0, s1, s2, s3, s4, s5, s6⟩, _, hTR, _⟩ := id hT
  have h0 : κ 0 = κr 0 := hR.2.1.1
  have h4 : κ 4 = κr 2 := hR.2.2.2.2.1.1
  have h2 : κ 2 = 12 + κr 4 := hR.2.2.1.1
  have hf0 := fuel0
  unfold P_TypeBook_enumeration Q_enumeration
  rcases hn_t (N := κ 0) (r := κ 1) (L := κ 11) (f := φ 2) (x := x1) (by omega) with ⟨a1, a2⟩ | ⟨a1, r, hr, a3⟩
  · rcases nn_t (κ := κr) (τ := τ) (σ := σ) (F := F) (nu := nu) (x := x1) (by omega) with ⟨b1, b2⟩ | ⟨b1, b2⟩
    · rw [a1, b1]
      unfold Q_enumeration_14
      simp (decide := true) only [cd_up, reduceIte]
      exact ⟨h, Or.inr (Or.inl ⟨rfl, by show (upd σ 0 1) 0 = 1; exact cd_up⟩)⟩
    · rw [h0] at a2; exact absurd b2 a2
  · rcases nn_t (κ := κr) (τ := τ) (σ := σ) (F := F) (nu := nu) (x := x1) (by omega) with ⟨b1, b2⟩ | ⟨b1, b2⟩
    · rw [h0] at hr; exact absurd ⟨r, hr, a3⟩ b2
    · rw [a1, b1]
      subst a3
      have eN : (nI r).toNatClampNeg = r := nI_clamp (by omega)
      rw [if_neg (show ¬ (1 : Int32) = 0 by decide), if_pos (show (0 : Int32) = 0 from rfl)]
      unfold Q_enumeration_14
      simp (decide := true) only [cd_up, eN, reduceIte]
      obtain ⟨hTW, hbg⟩ := TW_of hTR s0
      obtain ⟨⟨n, n1, n2, n3⟩, n4, n5, n6⟩ := hTW r (by omega)
      obtain ⟨t1, t2, t3, t4⟩ := hR.2.1.2.1 r hr
      have hmn : mn r = n := by
        have := (hTR.2.1 r (by omega)).1
        rw [n2] at this
        exact ((j_eq (by omega) (by have := (hTR.2.1 r (by omega)).2.1; omega)).mp this).symm
      have hmal := mal_t (ψ := ψ) hR.2.1 hC.1 hr n1 n2 (fun i hi => by obtain ⟨a, _, q1, q2⟩ := n3 i hi; exact ⟨a, q1, q2⟩)
      have hbadE : ∀ w z, ¬ z = -1 → STEPK (if z = -1 then w else (0, (P_TypeBook_refused κ φ ψ 11 z).1, κ, (P_TypeBook_refused κ φ ψ 11 z).2.1, (P_TypeBook_refused κ φ ψ 11 z).2.2)) (-11, κr, τ, upd (upd σ 0 0) 1 (nI r), F, nu) ∧ ANe (if z = -1 then w else (0, (P_TypeBook_refused κ φ ψ 11 z).1, κ, (P_TypeBook_refused κ φ ψ 11 z).2.1, (P_TypeBook_refused κ φ ψ 11 z).2.2)) (-11, κr, τ, upd (upd σ 0 0) 1 (nI r), F, nu) := by
        intro w z hz
        rw [if_neg hz]
        exact ⟨h.fault, ane_0 (by simp [upd]) rfl⟩
      have h59 : Q_enumeration_59 κr τ σ F nu (nI r) 0 = (-11, κr, τ, upd (upd σ 0 0) 1 (nI r), F, nu) := by
        unfold Q_enumeration_59 Q_enumeration_60; exact q64_0
      have hl : (nI n < 1) = (n < 1) := j_lt (b := 1) (by omega) (by omega)
      have hl2 : (64 < nI n) = (64 < n) := j_lt (a := 64) (by omega) (by omega)
      simp only [n2, hl, hl2]
      by_cases q1 : τ 2 r = 53
      · rw [if_pos q1]
        by_cases q2 : n < 1
        · rw [if_pos q2, h59]; exact hbadE _ _ (by rw [hmal]; exact fun h9 => by omega)
        · rw [if_neg q2]
          by_cases q3 : 64 < n
          · rw [if_pos q3, h59]; exact hbadE _ _ (by rw [hmal]; exact fun h9 => by omega)
          · rw [if_neg q3]
            unfold Q_enumeration_60
            obtain ⟨g1, g2⟩ := q64_1 (κ := κr) (τ := τ) (σ := σ) (F := F) (nu := nu) (t0 := 1) (show r < 4000 by omega) n1 n2 n 0 ((2147483647 - (0 : Int32).toInt).toNat + 1) (by omega) (by omega)
            by_cases hg : ∀ j, 0 ≤ j → j < n → gd τ r j
            · have g1' : Q_enumeration_64 κr τ σ F nu (nI r) 0 1 ((2147483647 - (0 : Int32).toInt).toNat + 1) 0 1 = Q_enumeration_117 κr τ σ F nu (nI r) 0 1 (nI n) 1 := g1 hg
              have hm1 : P_TypeBook_malformedEnumNode κ φ ψ (nI r) = -1 := by rw [hmal]; exact ⟨q1, by omega, by omega, fun j hj => hg j (Nat.zero_le _) hj⟩
              rw [g1', hm1, if_pos rfl]
              have hsh := en_shape hTR s0 (show r < κr 0 by omega) (fun i hi => hg i (Nat.zero_le _) (by omega))
              have hnr : n ≤ r := (hsh n (by omega)).2
              have hbr : bg τ r = r - n := by rw [hbg r (by omega), (hTR.2.1 r (by omega)).2.2.2, hmn, (hsh n (by omega)).1]
              have hsub : nI r - nI n = nI (r - n) := by
                apply Int32.toInt_inj.mp
                rw [Int32.toInt_sub, nI_toInt (by omega), nI_toInt (by omega), nI_toInt (by omega), Int.bmod_eq_of_le (by omega) (by omega)]; omega
              obtain ⟨vr, hvr, evr⟩ := hR.2.1.2.2 r hr (by simp [q1])
              have hvi : ∀ i, r - n ≤ i → i < r → ∃ v, v < 10000 ∧ τ 3 i = nI v := by
                intro i a c
                refine hR.2.1.2.2 i (by omega) (Or.inl ?_)
                have := (hg (r - 1 - i) (Nat.zero_le _) (by omega)).1
                rw [chn_tX hTR s0 (show r ≤ κr 0 by omega) (r - 1 - i) (fun j hj => (hTR.2.1 r (by omega)).2.2.1 j (by omega)), (hsh (r - 1 - i) (by omega)).1, nI_clamp (by omega)] at this
                rw [show r - (r - 1 - i) - 1 = i by omega] at this
                exact this
              have htkr : (P_Names_isTaken (κ 2) (κ 3) (κ 12) (φ 3) (τ 3 r) = 0) = (Q_hasHere κr τ (upd σ 0 0) F nu (τ 3 r) = 0) := by
                rw [evr]; exact tk_rel hR.1 hR.2.2.1 hS s5 s6 hvr
              have htki : ∀ i, r - n ≤ i → i < r → (P_Names_isTaken (κ 2) (κ 3) (κ 12) (φ 3) (τ 3 i) = 0) = (Q_hasHere κr τ (upd σ 0 0) F nu (τ 3 i) = 0) := by
                intro i a c
                obtain ⟨v, hv, ev⟩ := hvi i a c
                rw [ev]; exact tk_rel hR.1 hR.2.2.1 hS s5 s6 hv
              have hval : P_Trees_valueOf (κ 0) (κ 1) (κ 11) (φ 2) (nI r) = τ 3 r := (pt_1 hr (by omega)).trans t2
              have hcnt : P_Trees_countOf (κ 0) (κ 1) (κ 11) (φ 2) (nI r) = nI n := by rw [pt_2 hr (by omega), t3, n2]
              have hfst : P_Trees_firstOf (κ 0) (κ 1) (κ 11) (φ 2) (nI r) = nI (r - n) := by rw [pt_3 hr (by omega), t4, n4, hbr]
              unfold Q_enumeration_117
              rw [if_neg (show ¬ (1 : Int32) = 0 by decide), eN, n2, hsub]
              have htak : ∀ w, (∃ u, w = (-7, κr, τ, upd (upd σ 0 0) 1 u, F, nu)) → ∀ y z, ¬ z = -1 → STEPK (if z = -1 then y else (0, (P_TypeBook_refused κ φ ψ 7 z).1, κ, (P_TypeBook_refused κ φ ψ 7 z).2.1, (P_TypeBook_refused κ φ ψ 7 z).2.2)) w ∧ ANe (if z = -1 then y else (0, (P_TypeBook_refused κ φ ψ 7 z).1, κ, (P_TypeBook_refused κ φ ψ 7 z).2.1, (P_TypeBook_refused κ φ ψ 7 z).2.2)) w := by
                rintro w ⟨u, rfl⟩ y z hz
                rw [if_neg hz]
                exact ⟨h.fault, ane_0 (by simp [upd]) rfl⟩
              have hfu : n < (2147483647 - (nI (r - n)).toInt).toNat + 1 := by rw [nI_toInt (by omega)]; omega
              by_cases w1 : P_Names_isTaken (κ 2) (κ 3) (κ 12) (φ 3) (τ 3 r) = 0
              · have w1' : Q_hasHere κr τ (upd σ 0 0) F nu (τ 3 r) = 0 := by rw [← htkr]; exact w1
                rw [if_pos w1']
                have htn : P_TypeBook_takenEnumNode κ φ ψ (nI r) = P_TypeBook_takenEnumNode_34 κ φ ψ ((2147483647 - (nI (r - n)).toInt).toNat + 1) (nI r) (τ 3 r) (nI (r - n)) (nI (r - n)) := by
                  unfold P_TypeBook_takenEnumNode
                  rw [hval, hfst, if_pos w1]
                have h34 := tk_34 (ψ := ψ) (f := r - n) hR.2.1 hC.1 hr n (r - n) ((2147483647 - (nI (r - n)).toInt).toNat + 1) (by omega) hfu (Nat.le_refl _)
                obtain ⟨e1, e2⟩ := q155 (κ := κ) (κr := κr) (f3 := φ 3) (τ := τ) (σ := σ) (F := F) (nu := nu) (t0 := 1) (i4 := nI n) (i3 := 1) (show r < 4000 by omega) hnr n2 htki n (r - n) ((2147483647 - (nI (r - n)).toInt).toNat + 1) (by omega) hfu (Nat.le_refl _)
                rw [htn]
                by_cases hb : ∀ j, r - n ≤ j → j < r → ¬ bad κ (φ 3) τ r (r - n) j
                · rw [e1 hb, show P_TypeBook_takenEnumNode_34 κ φ ψ ((2147483647 - (nI (r - n)).toInt).toNat + 1) (nI r) (τ 3 r) (nI (r - n)) (nI (r - n)) = -1 by rw [h34]; exact hb, if_pos rfl, hcnt]
                  unfold en_end P_TypeBook_enumeration_96 Q_enumeration_290 Q_enumeration_295
                  have z1 : (1000 ≤ nI (κ 4)) = (1000 ≤ κ 4) := j_le (a := 1000) (by omega) (by omega)
                  have z2 : (nI (κr 2) = 1000) = (κr 2 = 1000) := j_eq (b := 1000) (by omega) (by omega)
                  have z3 : (nI (κr 4) + nI n + 1 ≤ 3000) = (κr 4 + n + 1 ≤ 3000) := by
                    rw [nI_add, ← nI_succ]; exact j_le (b := 3000) (by omega) (by omega)
                  rw [hr_t (show κ 2 ≤ 8192 by omega) (show (nI n).toNatClampNeg + 1 ≤ 5000 by rw [nI_clamp (by omega)]; omega), nI_clamp (show n < 2 ^ 31 by omega), n2]
                  simp only [z1, z2, z3, cd_up]
                  have hno : STEPK (3, 0, κ, φ, ψ) (0, κr, τ, upd (upd σ 0 0) 0 2, F, nu) ∧ ANe (3, 0, κ, φ, ψ) (0, κr, τ, upd (upd σ 0 0) 0 2, F, nu) := ⟨h, Or.inr (Or.inr ⟨rfl, by show (upd (upd σ 0 0) 0 2) 0 = 2; exact cd_up⟩)⟩
                  by_cases y1 : κr 2 = 1000
                  · simp (decide := true) only [if_pos y1, if_pos (show 1000 ≤ κ 4 by omega), reduceIte]; exact hno
                  · simp only [if_neg y1, if_neg (show ¬ 1000 ≤ κ 4 by omega)]
                    by_cases y2 : κr 4 + n + 1 ≤ 3000
                    · simp (decide := true) only [if_pos y2, if_pos (show κ 2 + (n + 1) ≤ 3012 by omega), reduceIte]
                      have hpos : (0 : Int32) ≤ nI n := by rw [show (0 : Int32) = nI 0 from rfl, j_le (by omega) (by omega)]; omega
                      obtain ⟨p1, _⟩ := pt_put (N := κ 4) (L := κ 13) (f := φ 4) (x1 := 4) (x2 := 0) (x3 := nI n - 1) (x4 := nI n) (by omega) hI.2.2.2.2.1
                      have hx1 := RXK_type (x1 := 4) (x2 := 0) (x3 := nI n - 1) (x4 := nI n) (x5 := 0) (c := nI n) (σ := upd (upd (upd σ 0 0) 0 0) 1 (-1)) (F1 := F) (nu1 := nu) hI h (by omega) (by rw [if_pos hpos]; rfl) (by rw [if_pos hpos]) (by decide) (fun h9 => absurd h9 (by decide))
                      have hI4 : IL (ku (ku κ 4 (κ 4 + 1)) 13 (wl (κ 13) (κ 4 + 1))) := by
                        obtain ⟨⟨i6, i7, i8, i9, i10, i11, i12, i13, i14, i15⟩, j1, j2, j3, j4, j5, j6, j7⟩ := id hI
                        have w13 := wl_ok (n := κ 13) (N := κ 4 + 1) i13 (by omega)
                        exact ⟨⟨i6, i7, i8, i9, i10, i11, i12, w13.2.2, i14, i15⟩, j1, j2, j3, w13.1, j5, j6, j7⟩
                      have hx2 := RXK_name (x1 := τ 3 r) (x2 := 1) (x3 := nI (κ 4)) (x4 := 0) (y2 := 0) (y3 := nI (κ 4)) (y4 := 0) (σ := upd (upd (upd σ 0 0) 0 0) 1 (-1)) hI4 hx1 (show κr 4 < 3000 by omega) s5 s6 (Or.inl ⟨rfl, rfl, rfl⟩) ⟨fun _ => ⟨κ 4, by show κ 4 < κr 2 + 1; omega, rfl⟩, fun h9 => absurd h9 (by decide)⟩
                      have hnt : ∀ σ' F' nu' x1 x2 x3 x4 x5, (Q_newType κr τ σ' F' nu' x1 x2 x3 x4 x5).1 = nI (κ 4) := by
                        intro σ' F' nu' x1 x2 x3 x4 x5
                        show nI (κr 2) + 1 - 1 = _
                        rw [← nI_succ, nI_pred, h4]
                      have hlp := ek_loop (κ := κ) (κr := κr) (φ0 := φ) (ψ := ψ) (τ := τ) (σ := σ) (F := F) (nu := nu) (r := r) (n := n) (t9 := 0) (t0 := 1) (i4 := nI n) (i3 := 1) (i9 := nI r) (x2 := -1) (x3 := -1) hI (by omega) h2 h4 (by omega) hr hC.1 (by omega) hnr n2 hR.2.1 s5 s6 n 0 ((2147483647 - (0 : Int32).toInt).toNat + 1) ((2147483647 - (0 : Int32).toInt).toNat + 1) _ _ (by omega) (by omega) (by omega) (by rw [up_n (by decide), up_n (by decide)]) (by rw [nm_low (by decide), nt_low (by decide)]) hx2
                      have hval' : ∀ f, P_Trees_valueOf (κ 0) (κ 1) (κ 11) ((up φ 4 f) 2) (nI r) = τ 3 r := fun f => by rw [up_n (by decide)]; exact hval
                      rw [p1, hval', hnt, eN, n2, nt_low (show 3 < 16 by decide)]
                      exact hlp
                    · simp (decide := true) only [if_neg y2, if_neg (show ¬ κ 2 + (n + 1) ≤ 3012 by omega), reduceIte]; exact hno
                · exact htak _ (e2 hb) _ _ (by rw [h34]; exact hb)
              · have w1' : ¬ Q_hasHere κr τ (upd σ 0 0) F nu (τ 3 r) = 0 := by rw [← htkr]; exact w1
                rw [if_neg w1']
                have htn : P_TypeBook_takenEnumNode κ φ ψ (nI r) = nI r := by
                  unfold P_TypeBook_takenEnumNode
                  rw [hval, if_neg w1]
                rw [htn]
                exact htak _ ⟨_, rfl⟩ _ _ (neg1 (by omega))
            · have g2' : Q_enumeration_64 κr τ σ F nu (nI r) 0 1 ((2147483647 - (0 : Int32).toInt).toNat + 1) 0 1 = (-11, κr, τ, upd (upd σ 0 0) 1 (nI r), F, nu) := g2 hg
              rw [g2']
              exact hbadE _ _ (by rw [hmal]; exact fun h9 => hg (fun j _ hj => h9.2.2.2 j hj))
      · rw [if_neg q1, h59]; exact hbadE _ _ (by rw [hmal]; exact fun h9 => q1 h9.1)
theorem skp_same {κ κr : Nat → Nat} {φ : gF} {ψ : gG} {τ F : gf} {nu : gg} {o : XR} {q : XQ} (h : RXK κ φ ψ κr τ F nu) (h1 : o.2.2 = (κ, φ, ψ)) (h2 : q.2.1 = κr ∧ q.2.2.1 = τ ∧ q.2.2.2.2 = (F, nu)) : STEPK o q := by
  obtain ⟨o1, o2, o3⟩ := o
  obtain ⟨q1, q2, q3, q4, q5⟩ := q
  dsimp only at h1 h2
  obtain ⟨h21, h22, h23⟩ := h2
  subst h1; subst h21; subst h22; subst h23
  exact h
theorem sk_about {κ κr : Nat → Nat} {φ : gF} {ψ : gG} {τ : gf} {σ : gs} {F : gf} {nu : gg} {x1 x2 : Int32} (h : RXK κ φ ψ κr τ F nu) : STEPK (P_TypeBook_about κ φ ψ x1 x2) (Q_about κr τ σ F nu x1 x2) := by
  refine skp_same h ?_ ?_
  · unfold P_TypeBook_about P_TypeBook_about_20
    repeat' split
    all_goals rfl
  · unfold Q_about Q_about_18 Q_about_23
    repeat' split
    all_goals exact ⟨rfl, rfl, rfl⟩
theorem sk_value {κ κr : Nat → Nat} {φ : gF} {ψ : gG} {τ : gf} {σ : gs} {F : gf} {nu : gg} {x1 x2 : Int32} (h : RXK κ φ ψ κr τ F nu) : STEPK (P_TypeBook_value κ φ ψ x1 x2) (Q_value κr τ σ F nu x1 x2) := by
  refine skp_same h ?_ ?_
  · unfold P_TypeBook_value P_TypeBook_value_44 P_TypeBook_value_91
    repeat' split
    all_goals rfl
  · have h105 : ∀ a b c, (Q_value_105 κr τ σ F nu x1 x2 a b c).2.1 = κr ∧ (Q_value_105 κr τ σ F nu x1 x2 a b c).2.2.1 = τ ∧ (Q_value_105 κr τ σ F nu x1 x2 a b c).2.2.2.2 = (F, nu) := by
      intro a b c
      unfold Q_value_105
      repeat' split
      all_goals exact ⟨rfl, rfl, rfl⟩
    have h82 : ∀ a b, (Q_value_82 κr τ σ F nu x1 x2 a b).2.1 = κr ∧ (Q_value_82 κr τ σ F nu x1 x2 a b).2.2.1 = τ ∧ (Q_value_82 κr τ σ F nu x1 x2 a b).2.2.2.2 = (F, nu) := by
      intro a b
      unfold Q_value_82 Q_value_100
      repeat' split
      all_goals exact h105 _ _ _
    have h56 : ∀ a b, (Q_value_56 κr τ σ F nu x1 x2 a b).2.1 = κr ∧ (Q_value_56 κr τ σ F nu x1 x2 a b).2.2.1 = τ ∧ (Q_value_56 κr τ σ F nu x1 x2 a b).2.2.2.2 = (F, nu) := by
      intro a b
      unfold Q_value_56 Q_value_78
      repeat' split
      all_goals first | exact h82 _ _ | exact h105 _ _ _
    unfold Q_value Q_value_14 Q_value_55
    repeat' split
    all_goals first | exact h56 _ _ | exact ⟨rfl, rfl, rfl⟩
theorem sk_place {κ κr : Nat → Nat} {φ : gF} {ψ : gG} {τ : gf} {σ : gs} {F : gf} {nu : gg} (h : RXK κ φ ψ κr τ F nu) : STEPK (0, P_TypeBook_place κ φ ψ, κ, φ, ψ) (Q_place κr τ σ F nu) := h
theorem an_about {κ κr b mn : Nat → Nat} {φ : gF} {ψ : gG} {ν : Nat → Int32} {τ : gf} {σ : gs} {F : gf} {nu : gg} {x1 x2 : Int32} (hI : IL κ) (hT : ST κr b mn ν τ) (h : RXK κ φ ψ κr τ F nu) : AN (P_TypeBook_about κ φ ψ x1 x2) (Q_about κr τ σ F nu x1 x2) := by
  obtain ⟨⟨hR, hS, hW, h1, c6, c7, c9, c10, c15, c8⟩, hK⟩ := id h
  obtain ⟨⟨s0, s1, s2, s3, s4, s5, s6⟩, _⟩ := id hT
  obtain ⟨i6, i7, i8, i9, i10, i11, i12, i13, i14, i15⟩ := hI.1
  have h0 : κ 0 = κr 0 := hR.2.1.1
  unfold P_TypeBook_about P_TypeBook_about_20 Q_about Q_about_18 Q_about_23
  simp only [cd_up]
  rcases hn_t (N := κ 0) (r := κ 1) (L := κ 11) (f := φ 2) (x := x1) (by omega) with ⟨a1, a2⟩ | ⟨a1, r, hr, a3⟩
  · rcases nn_t (κ := κr) (τ := τ) (σ := σ) (F := F) (nu := nu) (x := x1) (by omega) with ⟨b1, b2⟩ | ⟨b1, b2⟩
    · rw [a1, b1]; simp (decide := true) only [reduceIte]; exact an_n (by decide) rfl
    · rw [h0] at a2; exact absurd b2 a2
  · rcases nn_t (κ := κr) (τ := τ) (σ := σ) (F := F) (nu := nu) (x := x1) (by omega) with ⟨b1, b2⟩ | ⟨b1, b2⟩
    · rw [h0] at hr; exact absurd ⟨r, hr, a3⟩ b2
    · rw [a1, b1]
      subst a3
      have eN : (nI r).toNatClampNeg = r := nI_clamp (by omega)
      have e4 : (4000 + nI r).toNatClampNeg = 4000 + r := by rw [n40]; exact nI_clamp (by omega)
      rw [pl_0 (by omega) i6, pl_1 (by omega) i6, pl_2 (by omega) i6, pl_4 (by omega) i6]
      simp (decide := true) only [eN, e4, cd_up, reduceIte]
      by_cases q0 : x2 < 0
      · simp only [if_pos q0]; exact an_n (by decide) rfl
      · by_cases q3 : x2 ≤ 3
        · simp only [if_neg q0, if_pos q3]
          rcases hK r hr with ⟨k1, k2⟩ | ⟨k1, k2, k3, k4, k5, k6, k7⟩
          · simp (decide := true) only [k1, k2, reduceIte]; exact an_0 rfl rfl
          · simp (decide := true) only [k1, k2, k3, k4, k5, if_neg k7, reduceIte]
            by_cases p0 : x2 = 0
            · simp only [if_pos p0]; exact an_0 rfl rfl
            · by_cases p1 : x2 = 1
              · simp only [if_neg p0, if_pos p1]; exact an_0 rfl rfl
              · by_cases p2 : x2 = 2
                · simp only [if_neg p0, if_neg p1, if_pos p2]
                  rcases k6 with k6 | k6
                  · simp (decide := true) only [k6, reduceIte]; exact an_0 rfl rfl
                  · simp (decide := true) only [k6, reduceIte]; exact an_0 rfl rfl
                · simp only [if_neg p0, if_neg p1, if_neg p2]; exact an_0 rfl rfl
        · simp only [if_neg q0, if_neg q3]; exact an_n (by decide) rfl
