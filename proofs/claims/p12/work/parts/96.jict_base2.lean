
theorem cmp_one {γ : gE} {Z : Nat → Prop} {ws : va_W} {H : Heap} {q0 : Nat × va_E} (hP : va_P γ.1 vwCl ws H) (i : Nat) (hi : ws[i]? = some q0) (hZ : Z q0.1) : cmp γ (fun w => w = [q0]) Z H := by
  refine ⟨_, rfl, fun k x hx => ?_, one_D hZ⟩
  cases k with
  | zero => cases hx; exact hP i _ hi
  | succ k => cases hx
theorem va_D_cons {A : Nat → Prop} {ws : va_W} {q : Nat × va_E} (hD : va_D A ws) (hq : A q.1) (hne : ∀ x ∈ ws, x.1 ≠ q.1) : va_D A (q :: ws) := by
  refine ⟨fun i j p r h1 h2 h3 => ?_, fun k r hr => ?_⟩
  · cases i with
    | zero => cases j with
      | zero => rfl
      | succ j => cases h1; exact absurd h3.symm (hne r (List.mem_of_getElem? h2))
    | succ i => cases j with
      | zero => cases h2; exact absurd h3 (hne p (List.mem_of_getElem? h1))
      | succ j => rw [hD.1 i j p r h1 h2 h3]
  · cases k with
    | zero => cases hr; exact hq
    | succ k => exact hD.2 k r hr
theorem va_P_cons {D : va_G} {cl : List vw_C} {ws : va_W} {q : Nat × va_E} {H : Heap} (hP : va_P D cl ws H) (hq : va_at D cl q H) : va_P D cl (q :: ws) H := fun k r hr => by
  cases k with
  | zero => cases hr; exact hq
  | succ k => exact hP k r hr
def oT (γ : gE) (a : Nat) : Nat → Nat
  | 0 => a
  | 1 => a + 1
  | 2 => a + 6
  | 3 => a + 14
  | 4 => a + 19
  | 5 => a + 23
  | 6 => a + 25
  | 7 => a + 31
  | 8 => a + 33
  | 9 => a + 34
  | 10 => a + 40
  | 11 => a + 42
  | 12 => a + 44
  | i => γ.2.2.2 i
def γT (γ : gE) (a : Nat) : gE := (γ.1, γ.2.1, γ.2.2.1, oT γ a)
def κT (i : Nat) : Nat := [0, 0, 12, 1, 5, 0, 64, 64, 16, 64, 64, 64, 64, 16, 16, 64].getD i 0
def rhoT (a q : Nat) : Nat := if q < a then 0 else if q < a + 1 then 1 else if q < a + 6 then 2 else if q < a + 14 then 3 else if q < a + 19 then 4 else if q < a + 23 then 5 else if q < a + 25 then 6 else if q < a + 31 then 7 else if q < a + 33 then 8 else if q < a + 34 then 1 else if q < a + 40 then 9 else if q < a + 42 then 10 else if q < a + 45 then 1 else 0
theorem rho_0 {a q : Nat} (h : iv (a + 0) (a + 1) q) : rhoT a q = 1 := by
  unfold iv at h
  unfold rhoT
  rw [if_neg (show ¬ q < a by omega), if_pos (show q < a + 1 by omega)]
theorem rho_1 {a q : Nat} (h : iv (a + 1) (a + 6) q) : rhoT a q = 2 := by
  unfold iv at h
  unfold rhoT
  rw [if_neg (show ¬ q < a by omega), if_neg (show ¬ q < a + 1 by omega), if_pos (show q < a + 6 by omega)]
theorem rho_6 {a q : Nat} (h : iv (a + 6) (a + 14) q) : rhoT a q = 3 := by
  unfold iv at h
  unfold rhoT
  rw [if_neg (show ¬ q < a by omega), if_neg (show ¬ q < a + 1 by omega), if_neg (show ¬ q < a + 6 by omega), if_pos (show q < a + 14 by omega)]
theorem rho_14 {a q : Nat} (h : iv (a + 14) (a + 19) q) : rhoT a q = 4 := by
  unfold iv at h
  unfold rhoT
  rw [if_neg (show ¬ q < a by omega), if_neg (show ¬ q < a + 1 by omega), if_neg (show ¬ q < a + 6 by omega), if_neg (show ¬ q < a + 14 by omega), if_pos (show q < a + 19 by omega)]
theorem rho_19 {a q : Nat} (h : iv (a + 19) (a + 23) q) : rhoT a q = 5 := by
  unfold iv at h
  unfold rhoT
  rw [if_neg (show ¬ q < a by omega), if_neg (show ¬ q < a + 1 by omega), if_neg (show ¬ q < a + 6 by omega), if_neg (show ¬ q < a + 14 by omega), if_neg (show ¬ q < a + 19 by omega), if_pos (show q < a + 23 by omega)]
theorem rho_23 {a q : Nat} (h : iv (a + 23) (a + 25) q) : rhoT a q = 6 := by
  unfold iv at h
  unfold rhoT
  rw [if_neg (show ¬ q < a by omega), if_neg (show ¬ q < a + 1 by omega), if_neg (show ¬ q < a + 6 by omega), if_neg (show ¬ q < a + 14 by omega), if_neg (show ¬ q < a + 19 by omega), if_neg (show ¬ q < a + 23 by omega), if_pos (show q < a + 25 by omega)]
theorem rho_25 {a q : Nat} (h : iv (a + 25) (a + 31) q) : rhoT a q = 7 := by
  unfold iv at h
  unfold rhoT
  rw [if_neg (show ¬ q < a by omega), if_neg (show ¬ q < a + 1 by omega), if_neg (show ¬ q < a + 6 by omega), if_neg (show ¬ q < a + 14 by omega), if_neg (show ¬ q < a + 19 by omega), if_neg (show ¬ q < a + 23 by omega), if_neg (show ¬ q < a + 25 by omega), if_pos (show q < a + 31 by omega)]
theorem rho_31 {a q : Nat} (h : iv (a + 31) (a + 33) q) : rhoT a q = 8 := by
  unfold iv at h
  unfold rhoT
  rw [if_neg (show ¬ q < a by omega), if_neg (show ¬ q < a + 1 by omega), if_neg (show ¬ q < a + 6 by omega), if_neg (show ¬ q < a + 14 by omega), if_neg (show ¬ q < a + 19 by omega), if_neg (show ¬ q < a + 23 by omega), if_neg (show ¬ q < a + 25 by omega), if_neg (show ¬ q < a + 31 by omega), if_pos (show q < a + 33 by omega)]
theorem rho_33 {a q : Nat} (h : iv (a + 33) (a + 34) q) : rhoT a q = 1 := by
  unfold iv at h
  unfold rhoT
  rw [if_neg (show ¬ q < a by omega), if_neg (show ¬ q < a + 1 by omega), if_neg (show ¬ q < a + 6 by omega), if_neg (show ¬ q < a + 14 by omega), if_neg (show ¬ q < a + 19 by omega), if_neg (show ¬ q < a + 23 by omega), if_neg (show ¬ q < a + 25 by omega), if_neg (show ¬ q < a + 31 by omega), if_neg (show ¬ q < a + 33 by omega), if_pos (show q < a + 34 by omega)]
theorem rho_34 {a q : Nat} (h : iv (a + 34) (a + 40) q) : rhoT a q = 9 := by
  unfold iv at h
  unfold rhoT
  rw [if_neg (show ¬ q < a by omega), if_neg (show ¬ q < a + 1 by omega), if_neg (show ¬ q < a + 6 by omega), if_neg (show ¬ q < a + 14 by omega), if_neg (show ¬ q < a + 19 by omega), if_neg (show ¬ q < a + 23 by omega), if_neg (show ¬ q < a + 25 by omega), if_neg (show ¬ q < a + 31 by omega), if_neg (show ¬ q < a + 33 by omega), if_neg (show ¬ q < a + 34 by omega), if_pos (show q < a + 40 by omega)]
theorem rho_40 {a q : Nat} (h : iv (a + 40) (a + 42) q) : rhoT a q = 10 := by
  unfold iv at h
  unfold rhoT
  rw [if_neg (show ¬ q < a by omega), if_neg (show ¬ q < a + 1 by omega), if_neg (show ¬ q < a + 6 by omega), if_neg (show ¬ q < a + 14 by omega), if_neg (show ¬ q < a + 19 by omega), if_neg (show ¬ q < a + 23 by omega), if_neg (show ¬ q < a + 25 by omega), if_neg (show ¬ q < a + 31 by omega), if_neg (show ¬ q < a + 33 by omega), if_neg (show ¬ q < a + 34 by omega), if_neg (show ¬ q < a + 40 by omega), if_pos (show q < a + 42 by omega)]
theorem rho_42 {a q : Nat} (h : iv (a + 42) (a + 45) q) : rhoT a q = 1 := by
  unfold iv at h
  unfold rhoT
  rw [if_neg (show ¬ q < a by omega), if_neg (show ¬ q < a + 1 by omega), if_neg (show ¬ q < a + 6 by omega), if_neg (show ¬ q < a + 14 by omega), if_neg (show ¬ q < a + 19 by omega), if_neg (show ¬ q < a + 23 by omega), if_neg (show ¬ q < a + 25 by omega), if_neg (show ¬ q < a + 31 by omega), if_neg (show ¬ q < a + 33 by omega), if_neg (show ¬ q < a + 34 by omega), if_neg (show ¬ q < a + 40 by omega), if_neg (show ¬ q < a + 42 by omega), if_pos (show q < a + 45 by omega)]
theorem rho_A {a q : Nat} (h : rhoT a q ≠ 0) : a ≤ q := by
  by_cases h9 : q < a
  · exact absurd (if_pos h9) h
  · omega
