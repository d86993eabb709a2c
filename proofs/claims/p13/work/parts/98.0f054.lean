def Q_lookSum_121 (κ : Nat → Nat) (τ : gf) (σ : Nat → Int32) (F : gf) (nu : gg) (x1 : Int32) (x2 : Int32) (x3 : Int32) (x4 : Int32) (t0_15 : Int32) (t0_33 : Int32) (t0_59 : Int32) (t0_121 : Int64) : Int32 × (Nat → Int32) × gf × gg := ((Q_integer κ τ σ F nu x1 t0_59 t0_121).1, ((Q_integer κ τ σ F nu x1 t0_59 t0_121).2.1), ((Q_integer κ τ σ F nu x1 t0_59 t0_121).2.2.1), ((Q_integer κ τ σ F nu x1 t0_59 t0_121).2.2.2))
def Q_lookSum_353 (κ : Nat → Nat) (τ : gf) (σ : Nat → Int32) (F : gf) (nu : gg) (x1 : Int32) (x2 : Int32) (x3 : Int32) (x4 : Int32) (t0_15 : Int32) (t0_33 : Int32) (t0_59 : Int32) (t0_210 : Int32) (t0_234 : Int64) (t0_257 : Int64) (t0_291 : Int32) (F_320 : gf) (F_323 : gf) (i13_323 : Int32) : Int32 × (Nat → Int32) × gf × gg := ((Q_known κ τ σ F_323 ((Q_fact κ τ σ F nu x1 3 t0_210 t0_59).2.2) x1).1, σ, ((Q_known κ τ σ F_323 ((Q_fact κ τ σ F nu x1 3 t0_210 t0_59).2.2) x1).2.2.1), ((Q_known κ τ σ F_323 ((Q_fact κ τ σ F nu x1 3 t0_210 t0_59).2.2) x1).2.2.2))
def Q_lookSum_323 (κ : Nat → Nat) (τ : gf) (σ : Nat → Int32) (F : gf) (nu : gg) (x1 : Int32) (x2 : Int32) (x3 : Int32) (x4 : Int32) (t0_15 : Int32) (t0_33 : Int32) (t0_59 : Int32) (t0_210 : Int32) (t0_234 : Int64) (t0_257 : Int64) (t0_291 : Int32) (F_320 : gf) : Nat → gf → Int32 → Int32 × (Nat → Int32) × gf × gg
  | 0, _, _ => default
  | n + 1, F_323, i13_323 => (if (F_323 10 x1.toNatClampNeg) ≤ i13_323 then (Q_lookSum_353 κ τ σ F nu x1 x2 x3 x4 t0_15 t0_33 t0_59 t0_210 t0_234 t0_257 t0_291 F_320 F_323 i13_323  ) else (if t0_291 = 0 then (Q_lookSum_323 κ τ σ F nu x1 x2 x3 x4 t0_15 t0_33 t0_59 t0_210 t0_234 t0_257 t0_291 F_320  n ((Q_setElement κ τ σ F_323 ((Q_fact κ τ σ F nu x1 3 t0_210 t0_59).2.2) x1 i13_323 1).2.1) (i13_323 + 1)) else (Q_lookSum_353 κ τ σ F nu x1 x2 x3 x4 t0_15 t0_33 t0_59 t0_210 t0_234 t0_257 t0_291 F_320 F_323 i13_323  )))
def Q_lookSum_320 (κ : Nat → Nat) (τ : gf) (σ : Nat → Int32) (F : gf) (nu : gg) (x1 : Int32) (x2 : Int32) (x3 : Int32) (x4 : Int32) (t0_15 : Int32) (t0_33 : Int32) (t0_59 : Int32) (t0_210 : Int32) (t0_234 : Int64) (t0_257 : Int64) (t0_291 : Int32) (F_320 : gf) : Int32 × (Nat → Int32) × gf × gg := (Q_lookSum_323 κ τ σ F nu x1 x2 x3 x4 t0_15 t0_33 t0_59 t0_210 t0_234 t0_257 t0_291 F_320  ((2147483647 - (0 : Int32).toInt).toNat + 1) F_320 0)
def Q_lookSum_317 (κ : Nat → Nat) (τ : gf) (σ : Nat → Int32) (F : gf) (nu : gg) (x1 : Int32) (x2 : Int32) (x3 : Int32) (x4 : Int32) (t0_15 : Int32) (t0_33 : Int32) (t0_59 : Int32) (t0_210 : Int32) (t0_234 : Int64) (t0_257 : Int64) (t0_291 : Int32) (t0_317 : Int64) : Int32 × (Nat → Int32) × gf × gg := (Q_lookSum_320 κ τ σ F nu x1 x2 x3 x4 t0_15 t0_33 t0_59 t0_210 t0_234 t0_257 t0_291  ((Q_bits κ τ σ ((Q_fact κ τ σ F nu x1 3 t0_210 t0_59).2.1) ((Q_fact κ τ σ F nu x1 3 t0_210 t0_59).2.2) x1 t0_317).2.1))
def Q_lookSum_291 (κ : Nat → Nat) (τ : gf) (σ : Nat → Int32) (F : gf) (nu : gg) (x1 : Int32) (x2 : Int32) (x3 : Int32) (x4 : Int32) (t0_15 : Int32) (t0_33 : Int32) (t0_59 : Int32) (t0_210 : Int32) (t0_234 : Int64) (t0_257 : Int64) (t0_291 : Int32) : Int32 × (Nat → Int32) × gf × gg := (if t0_291 = 0 then (Q_lookSum_320 κ τ σ F nu x1 x2 x3 x4 t0_15 t0_33 t0_59 t0_210 t0_234 t0_257 t0_291  ((Q_fact κ τ σ F nu x1 3 t0_210 t0_59).2.1)) else (if x2 = 0 then (Q_lookSum_317 κ τ σ F nu x1 x2 x3 x4 t0_15 t0_33 t0_59 t0_210 t0_234 t0_257 t0_291  (t0_234 + t0_257)) else (Q_lookSum_317 κ τ σ F nu x1 x2 x3 x4 t0_15 t0_33 t0_59 t0_210 t0_234 t0_257 t0_291  (t0_234 - t0_257))))
def Q_lookSum_286 (κ : Nat → Nat) (τ : gf) (σ : Nat → Int32) (F : gf) (nu : gg) (x1 : Int32) (x2 : Int32) (x3 : Int32) (x4 : Int32) (t0_15 : Int32) (t0_33 : Int32) (t0_59 : Int32) (t0_210 : Int32) (t0_234 : Int64) (t0_257 : Int64) : Int32 × (Nat → Int32) × gf × gg := (Q_lookSum_291 κ τ σ F nu x1 x2 x3 x4 t0_15 t0_33 t0_59 t0_210 t0_234 t0_257  1)
def Q_lookSum_290 (κ : Nat → Nat) (τ : gf) (σ : Nat → Int32) (F : gf) (nu : gg) (x1 : Int32) (x2 : Int32) (x3 : Int32) (x4 : Int32) (t0_15 : Int32) (t0_33 : Int32) (t0_59 : Int32) (t0_210 : Int32) (t0_234 : Int64) (t0_257 : Int64) : Int32 × (Nat → Int32) × gf × gg := (Q_lookSum_291 κ τ σ F nu x1 x2 x3 x4 t0_15 t0_33 t0_59 t0_210 t0_234 t0_257  0)
def Q_lookSum_272 (κ : Nat → Nat) (τ : gf) (σ : Nat → Int32) (F : gf) (nu : gg) (x1 : Int32) (x2 : Int32) (x3 : Int32) (x4 : Int32) (t0_15 : Int32) (t0_33 : Int32) (t0_59 : Int32) (t0_210 : Int32) (t0_234 : Int64) (t0_257 : Int64) : Int32 × (Nat → Int32) × gf × gg := (if t0_33 = 0 then (Q_lookSum_286 κ τ σ F nu x1 x2 x3 x4 t0_15 t0_33 t0_59 t0_210 t0_234 t0_257  ) else (if (Q_isClear κ τ σ ((Q_fact κ τ σ F nu x1 3 t0_210 t0_59).2.1) ((Q_fact κ τ σ F nu x1 3 t0_210 t0_59).2.2) x4) = 0 then (Q_lookSum_290 κ τ σ F nu x1 x2 x3 x4 t0_15 t0_33 t0_59 t0_210 t0_234 t0_257  ) else (Q_lookSum_286 κ τ σ F nu x1 x2 x3 x4 t0_15 t0_33 t0_59 t0_210 t0_234 t0_257  )))
def Q_lookSum_257 (κ : Nat → Nat) (τ : gf) (σ : Nat → Int32) (F : gf) (nu : gg) (x1 : Int32) (x2 : Int32) (x3 : Int32) (x4 : Int32) (t0_15 : Int32) (t0_33 : Int32) (t0_59 : Int32) (t0_210 : Int32) (t0_234 : Int64) (t0_257 : Int64) : Int32 × (Nat → Int32) × gf × gg := (if t0_15 = 0 then (Q_lookSum_272 κ τ σ F nu x1 x2 x3 x4 t0_15 t0_33 t0_59 t0_210 t0_234 t0_257  ) else (if (Q_isClear κ τ σ ((Q_fact κ τ σ F nu x1 3 t0_210 t0_59).2.1) ((Q_fact κ τ σ F nu x1 3 t0_210 t0_59).2.2) x3) = 0 then (Q_lookSum_290 κ τ σ F nu x1 x2 x3 x4 t0_15 t0_33 t0_59 t0_210 t0_234 t0_257  ) else (Q_lookSum_272 κ τ σ F nu x1 x2 x3 x4 t0_15 t0_33 t0_59 t0_210 t0_234 t0_257  )))
def Q_lookSum_234 (κ : Nat → Nat) (τ : gf) (σ : Nat → Int32) (F : gf) (nu : gg) (x1 : Int32) (x2 : Int32) (x3 : Int32) (x4 : Int32) (t0_15 : Int32) (t0_33 : Int32) (t0_59 : Int32) (t0_210 : Int32) (t0_234 : Int64) : Int32 × (Nat → Int32) × gf × gg := (if t0_33 = 0 then (Q_lookSum_257 κ τ σ F nu x1 x2 x3 x4 t0_15 t0_33 t0_59 t0_210 t0_234  (((Q_fact κ τ σ F nu x1 3 t0_210 t0_59).2.2) x4.toNatClampNeg)) else (Q_lookSum_257 κ τ σ F nu x1 x2 x3 x4 t0_15 t0_33 t0_59 t0_210 t0_234  (Q_numberOf κ τ σ ((Q_fact κ τ σ F nu x1 3 t0_210 t0_59).2.1) ((Q_fact κ τ σ F nu x1 3 t0_210 t0_59).2.2) x4)))
def Q_lookSum_210 (κ : Nat → Nat) (τ : gf) (σ : Nat → Int32) (F : gf) (nu : gg) (x1 : Int32) (x2 : Int32) (x3 : Int32) (x4 : Int32) (t0_15 : Int32) (t0_33 : Int32) (t0_59 : Int32) (t0_210 : Int32) : Int32 × (Nat → Int32) × gf × gg := (if t0_15 = 0 then (Q_lookSum_234 κ τ σ F nu x1 x2 x3 x4 t0_15 t0_33 t0_59 t0_210  (((Q_fact κ τ σ F nu x1 3 t0_210 t0_59).2.2) x3.toNatClampNeg)) else (Q_lookSum_234 κ τ σ F nu x1 x2 x3 x4 t0_15 t0_33 t0_59 t0_210  (Q_numberOf κ τ σ ((Q_fact κ τ σ F nu x1 3 t0_210 t0_59).2.1) ((Q_fact κ τ σ F nu x1 3 t0_210 t0_59).2.2) x3)))
def Q_lookSum_186 (κ : Nat → Nat) (τ : gf) (σ : Nat → Int32) (F : gf) (nu : gg) (x1 : Int32) (x2 : Int32) (x3 : Int32) (x4 : Int32) (t0_15 : Int32) (t0_33 : Int32) (t0_59 : Int32) : Int32 × (Nat → Int32) × gf × gg := (if t0_15 = 0 then (Q_lookSum_210 κ τ σ F nu x1 x2 x3 x4 t0_15 t0_33 t0_59  (F 10 x4.toNatClampNeg)) else (Q_lookSum_210 κ τ σ F nu x1 x2 x3 x4 t0_15 t0_33 t0_59  (F 10 x3.toNatClampNeg)))
def Q_lookSum_158 (κ : Nat → Nat) (τ : gf) (σ : Nat → Int32) (F : gf) (nu : gg) (x1 : Int32) (x2 : Int32) (x3 : Int32) (x4 : Int32) (t0_15 : Int32) (t0_33 : Int32) (t0_59 : Int32) : Int32 × (Nat → Int32) × gf × gg := (if t0_15 = 0 then (Q_lookSum_186 κ τ σ F nu x1 x2 x3 x4 t0_15 t0_33 t0_59  ) else (if t0_33 = 0 then (Q_lookSum_186 κ τ σ F nu x1 x2 x3 x4 t0_15 t0_33 t0_59  ) else (if (F 10 x3.toNatClampNeg) = (F 10 x4.toNatClampNeg) then (Q_lookSum_186 κ τ σ F nu x1 x2 x3 x4 t0_15 t0_33 t0_59  ) else (4, σ, F, nu))))
def Q_lookSum_140 (κ : Nat → Nat) (τ : gf) (σ : Nat → Int32) (F : gf) (nu : gg) (x1 : Int32) (x2 : Int32) (x3 : Int32) (x4 : Int32) (t0_15 : Int32) (t0_33 : Int32) (t0_59 : Int32) : Int32 × (Nat → Int32) × gf × gg := (if t0_33 = 0 then (if (F 9 x4.toNatClampNeg) = 2 then (Q_lookSum_158 κ τ σ F nu x1 x2 x3 x4 t0_15 t0_33 t0_59  ) else (3, σ, F, nu)) else (Q_lookSum_158 κ τ σ F nu x1 x2 x3 x4 t0_15 t0_33 t0_59  ))
def Q_lookSum_125 (κ : Nat → Nat) (τ : gf) (σ : Nat → Int32) (F : gf) (nu : gg) (x1 : Int32) (x2 : Int32) (x3 : Int32) (x4 : Int32) (t0_15 : Int32) (t0_33 : Int32) (t0_59 : Int32) : Int32 × (Nat → Int32) × gf × gg := (if t0_15 = 0 then (if (F 9 x3.toNatClampNeg) = 2 then (Q_lookSum_140 κ τ σ F nu x1 x2 x3 x4 t0_15 t0_33 t0_59  ) else (3, σ, F, nu)) else (Q_lookSum_140 κ τ σ F nu x1 x2 x3 x4 t0_15 t0_33 t0_59  ))
def Q_lookSum_59 (κ : Nat → Nat) (τ : gf) (σ : Nat → Int32) (F : gf) (nu : gg) (x1 : Int32) (x2 : Int32) (x3 : Int32) (x4 : Int32) (t0_15 : Int32) (t0_33 : Int32) (t0_59 : Int32) : Int32 × (Nat → Int32) × gf × gg := (if (F 9 x3.toNatClampNeg) = 2 then (if (F 9 x4.toNatClampNeg) = 2 then (if x2 = 0 then (Q_lookSum_121 κ τ σ F nu x1 x2 x3 x4 t0_15 t0_33 t0_59  ((nu x3.toNatClampNeg) + (nu x4.toNatClampNeg))) else (Q_lookSum_121 κ τ σ F nu x1 x2 x3 x4 t0_15 t0_33 t0_59  ((nu x3.toNatClampNeg) - (nu x4.toNatClampNeg)))) else (Q_lookSum_125 κ τ σ F nu x1 x2 x3 x4 t0_15 t0_33 t0_59  )) else (Q_lookSum_125 κ τ σ F nu x1 x2 x3 x4 t0_15 t0_33 t0_59  ))
def Q_lookSum_58 (κ : Nat → Nat) (τ : gf) (σ : Nat → Int32) (F : gf) (nu : gg) (x1 : Int32) (x2 : Int32) (x3 : Int32) (x4 : Int32) (t0_15 : Int32) (t0_33 : Int32) : Int32 × (Nat → Int32) × gf × gg := (Q_lookSum_59 κ τ σ F nu x1 x2 x3 x4 t0_15 t0_33  0)
def Q_lookSum_33 (κ : Nat → Nat) (τ : gf) (σ : Nat → Int32) (F : gf) (nu : gg) (x1 : Int32) (x2 : Int32) (x3 : Int32) (x4 : Int32) (t0_15 : Int32) (t0_33 : Int32) : Int32 × (Nat → Int32) × gf × gg := (if (F 11 x3.toNatClampNeg) = 0 then (Q_lookSum_58 κ τ σ F nu x1 x2 x3 x4 t0_15 t0_33  ) else (if (F 11 x4.toNatClampNeg) = 0 then (Q_lookSum_58 κ τ σ F nu x1 x2 x3 x4 t0_15 t0_33  ) else (Q_lookSum_59 κ τ σ F nu x1 x2 x3 x4 t0_15 t0_33  1)))
def Q_lookSum_15 (κ : Nat → Nat) (τ : gf) (σ : Nat → Int32) (F : gf) (nu : gg) (x1 : Int32) (x2 : Int32) (x3 : Int32) (x4 : Int32) (t0_15 : Int32) : Int32 × (Nat → Int32) × gf × gg := (if (F 9 x4.toNatClampNeg) = 3 then (Q_lookSum_33 κ τ σ F nu x1 x2 x3 x4 t0_15  1) else (Q_lookSum_33 κ τ σ F nu x1 x2 x3 x4 t0_15  0))
def Q_lookSum (κ : Nat → Nat) (τ : gf) (σ : Nat → Int32) (F : gf) (nu : gg) (x1 : Int32) (x2 : Int32) (x3 : Int32) (x4 : Int32) : Int32 × (Nat → Int32) × gf × gg := (if (F 9 x3.toNatClampNeg) = 3 then (Q_lookSum_15 κ τ σ F nu x1 x2 x3 x4  1) else (Q_lookSum_15 κ τ σ F nu x1 x2 x3 x4  0))
set_option maxHeartbeats 4000000 in
set_option maxRecDepth 100000 in
theorem n_lookSum (l : Launch) (γ : gE) (a : Nat) (B : Nat → Nat) (Z : Nat → Prop) (κ b mn : Nat → Nat) (ν : Nat → Int32) (τ : Nat → Nat → Int32) (σ : Nat → Int32) (F : Nat → Nat → Int32) (nu : Nat → Int64) (hT : ST κ b mn ν τ) (x1 : Int32) (x2 : Int32) (x3 : Int32) (x4 : Int32) (hx1 : vp_in x1 (κ 0)) (hx3 : vp_in x3 (κ 0)) (hx4 : vp_in x4 (κ 0)) (ha : x3.toNatClampNeg < x1.toNatClampNeg) (hbk : x4.toNatClampNeg < x1.toNatClampNeg) (hZ : SZ F) (hF : FD σ) : MU l yModel_lookSum bModel_lookSum 14 (some .int) 3 72 0 0 [.ref a, .int x1, .int x2, .int x3, .int x4] γ Z (MD γ a B Z ν τ σ F nu) (mQi (fun r H => ∃ (σ' : Nat → Int32) (F' : Nat → Nat → Int32) (nu' : Nat → Int64), Oq (Q_lookSum κ τ σ F nu x1 x2 x3 x4) (r, σ', F', nu') ∧ MD γ a B Z ν τ σ' F' nu' H ∧ SZ F' ∧ FD σ' ∧ SL x1.toNatClampNeg F nu F' nu' ∧ (¬ 0 < r → GK x1.toNatClampNeg F' nu')) Z) := by
  refine mu_openI (by decide) (Nat.le_of_ble_eq_true rfl) ?_
  intro p e s m args below meth c ls Q S hnm hC hA hM hE hl
  have hS : va_S Z s.heap s.heap [] := va_S.rf
  obtain ⟨hx, hb, hml, hown, hW⟩ := id S
  obtain ⟨⟨hs0, hs1, hs2, hs3, hs4, hs5, hs6⟩, ⟨hv6, hv8, hv21, hv24, hv30, hv31⟩, hTR, hTY, hOB, hNM⟩ := id hT
  have hL : SL x1.toNatClampNeg F nu F nu := SL.rf
  have hl : lv_has ls 14 [(0, .ref a), (1, .int x1), (2, .int x2), (3, .int x3), (4, .int x4)] := hl
  obtain ⟨OUT, hQ, hO⟩ : ∃ z, (z = Q_lookSum κ τ σ F nu x1 x2 x3 x4) ∧ Oq z (Q_lookSum κ τ σ F nu x1 x2 x3 x4) := ⟨_, rfl, rfl⟩
  rw [← hQ] at hE
  clear hQ
  refine lv_aload_n hx hb dModel_lookSum_0 rfl (lv_at hl 0 rfl) ?_
  refine md_gA S hC hM 9 (by decide) rfl qw_a119aeeca0 dModel_lookSum_1 ?_
  refine lv_iload_n hx hb dModel_lookSum_4 rfl (lv_at hl 3 rfl) ?_
  refine md_ild S hC hM 9 5 10000 (F 9) rfl rfl (by decide) rfl rfl (vin (by assumption) (by omega)) dModel_lookSum_5 ?_
  refine lv_topi (fun v1 ev1 => ?_)
  refine lv_iconst (v := 3) hx hb dModel_lookSum_6 (by decide) ?_
  have J15 : ∀ (ls : Array Slot) (t0_15 : Int32), (Oq OUT (Q_lookSum_15 κ τ σ F nu x1 x2 x3 x4   t0_15)) → lv_has ls 14 [(0, .ref a), (1, .int x1), (2, .int x2), (3, .int x3), (4, .int x4)] → W p l e (bs_rm 3 0 0 72) s m args below meth c s.heap [] 0 0 Q (F0 m 15 ls [.int t0_15]) := by
    intro ls t0_15 hO hl
    refine lv_istore (lv' := [(5, .int t0_15), (0, .ref a), (1, .int x1), (2, .int x2), (3, .int x3), (4, .int x4)]) hx hb dModel_lookSum_15 hl (by decide) rfl (fun ls hl => ?_)
    refine lv_aload_n hx hb dModel_lookSum_17 rfl (lv_at hl 1 rfl) ?_
    refine md_gA S hC hM 9 (by decide) rfl qw_a119aeeca0 dModel_lookSum_18 ?_
    refine lv_iload hx hb dModel_lookSum_21 (lv_at hl 5 rfl) ?_
    refine md_ild S hC hM 9 5 10000 (F 9) rfl rfl (by decide) rfl rfl (vin (by assumption) (by omega)) dModel_lookSum_23 ?_
    refine lv_topi (fun v59 ev59 => ?_)
    refine lv_iconst (v := 3) hx hb dModel_lookSum_24 (by decide) ?_
    have J33 : ∀ (ls : Array Slot) (t0_33 : Int32), (Oq OUT (Q_lookSum_33 κ τ σ F nu x1 x2 x3 x4 t0_15   t0_33)) → lv_has ls 14 [(0, .ref a), (1, .int x1), (2, .int x2), (3, .int x3), (4, .int x4), (5, .int t0_15)] → W p l e (bs_rm 3 0 0 72) s m args below meth c s.heap [] 0 0 Q (F0 m 33 ls [.int t0_33]) := by
      intro ls t0_33 hO hl
      refine lv_istore (lv' := [(6, .int t0_33), (0, .ref a), (1, .int x1), (2, .int x2), (3, .int x3), (4, .int x4), (5, .int t0_15)]) hx hb dModel_lookSum_33 hl (by decide) rfl (fun ls hl => ?_)
      refine lv_aload_n hx hb dModel_lookSum_35 rfl (lv_at hl 1 rfl) ?_
      refine md_gA S hC hM 11 (by decide) rfl qw_88b9028ba7 dModel_lookSum_36 ?_
      refine lv_iload_n hx hb dModel_lookSum_39 rfl (lv_at hl 4 rfl) ?_
      refine md_zld S hC hM 11 7 10000 (F 11) rfl rfl (by decide) rfl rfl (vin (by assumption) (by omega)) dModel_lookSum_40 ?_
      refine lv_topi (fun v115 ev115 => ?_)
      have J59 : ∀ (ls : Array Slot) (t0_59 : Int32), (Oq OUT (Q_lookSum_59 κ τ σ F nu x1 x2 x3 x4 t0_15 t0_33   t0_59)) → lv_has ls 14 [(0, .ref a), (1, .int x1), (2, .int x2), (3, .int x3), (4, .int x4), (5, .int t0_15), (6, .int t0_33)] → W p l e (bs_rm 3 0 0 72) s m args below meth c s.heap [] 0 0 Q (F0 m 59 ls [.int t0_59]) := by
        intro ls t0_59 hO hl
        refine lv_istore (lv' := [(7, .int t0_59), (0, .ref a), (1, .int x1), (2, .int x2), (3, .int x3), (4, .int x4), (5, .int t0_15), (6, .int t0_33)]) hx hb dModel_lookSum_59 hl (by decide) rfl (fun ls hl => ?_)
        refine lv_aload_n hx hb dModel_lookSum_61 rfl (lv_at hl 1 rfl) ?_
        refine md_gA S hC hM 9 (by decide) rfl qw_a119aeeca0 dModel_lookSum_62 ?_
        refine lv_iload_n hx hb dModel_lookSum_65 rfl (lv_at hl 4 rfl) ?_
        refine md_ild S hC hM 9 5 10000 (F 9) rfl rfl (by decide) rfl rfl (vin (by assumption) (by omega)) dModel_lookSum_66 ?_
        refine lv_topi (fun v169 ev169 => ?_)
        refine lv_iconst (v := 2) hx hb dModel_lookSum_67 (by decide) ?_
        have J125 : ∀ (ls : Array Slot), (Oq OUT (Q_lookSum_125 κ τ σ F nu x1 x2 x3 x4 t0_15 t0_33 t0_59   )) → lv_has ls 14 [(0, .ref a), (1, .int x1), (2, .int x2), (3, .int x3), (4, .int x4), (5, .int t0_15), (6, .int t0_33), (7, .int t0_59)] → W p l e (bs_rm 3 0 0 72) s m args below meth c s.heap [] 0 0 Q (F0 m 125 ls []) := by
          intro ls hO hl
          refine lv_iload hx hb dModel_lookSum_125 (lv_at hl 5 rfl) ?_
          have J140 : ∀ (ls : Array Slot), (Oq OUT (Q_lookSum_140 κ τ σ F nu x1 x2 x3 x4 t0_15 t0_33 t0_59   )) → lv_has ls 14 [(0, .ref a), (1, .int x1), (2, .int x2), (3, .int x3), (4, .int x4), (5, .int t0_15), (6, .int t0_33), (7, .int t0_59)] → W p l e (bs_rm 3 0 0 72) s m args below meth c s.heap [] 0 0 Q (F0 m 140 ls []) := by
            intro ls hO hl
            refine lv_iload hx hb dModel_lookSum_140 (lv_at hl 6 rfl) ?_
            have J158 : ∀ (ls : Array Slot), (Oq OUT (Q_lookSum_158 κ τ σ F nu x1 x2 x3 x4 t0_15 t0_33 t0_59   )) → lv_has ls 14 [(0, .ref a), (1, .int x1), (2, .int x2), (3, .int x3), (4, .int x4), (5, .int t0_15), (6, .int t0_33), (7, .int t0_59)] → W p l e (bs_rm 3 0 0 72) s m args below meth c s.heap [] 0 0 Q (F0 m 158 ls []) := by
              intro ls hO hl
              refine lv_iload hx hb dModel_lookSum_158 (lv_at hl 5 rfl) ?_
              have J186 : ∀ (ls : Array Slot), (Oq OUT (Q_lookSum_186 κ τ σ F nu x1 x2 x3 x4 t0_15 t0_33 t0_59   )) → lv_has ls 14 [(0, .ref a), (1, .int x1), (2, .int x2), (3, .int x3), (4, .int x4), (5, .int t0_15), (6, .int t0_33), (7, .int t0_59)] → W p l e (bs_rm 3 0 0 72) s m args below meth c s.heap [] 0 0 Q (F0 m 186 ls []) := by
                intro ls hO hl
                refine lv_aload_n hx hb dModel_lookSum_186 rfl (lv_at hl 0 rfl) ?_
                refine lv_iload_n hx hb dModel_lookSum_187 rfl (lv_at hl 1 rfl) ?_
                refine lv_iconst (v := 3) hx hb dModel_lookSum_188 (by decide) ?_
                refine lv_iload hx hb dModel_lookSum_189 (lv_at hl 5 rfl) ?_
                have J210 : ∀ (ls : Array Slot) (t0_210 : Int32), (∃ j, j ≤ 1000 ∧ t0_210 = nI j) → (Oq OUT (Q_lookSum_210 κ τ σ F nu x1 x2 x3 x4 t0_15 t0_33 t0_59   t0_210)) → lv_has ls 14 [(0, .ref a), (1, .int x1), (2, .int x2), (3, .int x3), (4, .int x4), (5, .int t0_15), (6, .int t0_33), (7, .int t0_59)] → W p l e (bs_rm 3 0 0 72) s m args below meth c s.heap [] 0 0 Q (F0 m 210 ls [.int t0_210, .int 3, .int x1, .ref a]) := by
                  intro ls t0_210 ht0_210 hO hl
                  refine lv_iload hx hb dModel_lookSum_210 (lv_at hl 7 rfl) ?_
                  have hnr351 : ∃ j, j ≤ 1000 ∧ t0_210 = nI j := ht0_210
                  refine mu_Vv (rest := []) S hC (fun q h => hA q (Nat.le_trans hS.1 h)) (fun q h => h) hS (n_fact l γ a B Z κ b mn ν τ σ F nu hT x1 3 t0_210 t0_59 (vin (by assumption) (by omega)) hnr351) meModel_fact qw_02871250ec ⟨Nat.le_of_ble_eq_true rfl, Nat.le_of_ble_eq_true rfl⟩ (md_rv hC hM) hM rfl hl.1 rfl (Nat.le_of_ble_eq_true rfl) dModel_lookSum_212 ⟨Nat.le_refl _, Nat.le_refl _⟩ (fun H locs hPO hS _ _ => ?_)
                  obtain ⟨Fr351, nur351, eOr351, hM, hqr351, hcr351⟩ := hPO
                  have eFr351 : Fr351 = (Q_fact κ τ σ F nu x1 3 t0_210 t0_59).2.1 := by rw [eOr351.eq]
                  have enur351 : nur351 = (Q_fact κ τ σ F nu x1 3 t0_210 t0_59).2.2 := by rw [eOr351.eq]
                  clear eOr351
                  have hZ : SZ Fr351 := hZ.slt hqr351 hnr351
                  have hL : SL x1.toNatClampNeg F nu Fr351 nur351 := hL.trans (SL.slt hqr351)
                  have hK : GK x1.toNatClampNeg Fr351 nur351 := GK.zero hqr351
                  refine lv_iload hx hb dModel_lookSum_215 (lv_at hl 5 rfl) ?_
                  have J234 : ∀ (ls : Array Slot) (t0_234 : Int64), (Oq OUT (Q_lookSum_234 κ τ σ F nu x1 x2 x3 x4 t0_15 t0_33 t0_59 t0_210   t0_234)) → lv_has ls 14 [(0, .ref a), (1, .int x1), (2, .int x2), (3, .int x3), (4, .int x4), (5, .int t0_15), (6, .int t0_33), (7, .int t0_59)] → W p l e (bs_rm 3 0 0 72) s m args below meth c H locs 0 0 Q (F0 m 234 ls [.long t0_234]) := by
                    intro ls t0_234 hO hl
                    refine lv_lstore (lv' := [(8, .long t0_234), (0, .ref a), (1, .int x1), (2, .int x2), (3, .int x3), (4, .int x4), (5, .int t0_15), (6, .int t0_33), (7, .int t0_59)]) hx hb dModel_lookSum_234 hl (by decide) rfl (fun ls hl => ?_)
                    refine lv_iload hx hb dModel_lookSum_236 (lv_at hl 7 rfl) ?_
                    have J257 : ∀ (ls : Array Slot) (t0_257 : Int64), (Oq OUT (Q_lookSum_257 κ τ σ F nu x1 x2 x3 x4 t0_15 t0_33 t0_59 t0_210 t0_234   t0_257)) → lv_has ls 14 [(0, .ref a), (1, .int x1), (2, .int x2), (3, .int x3), (4, .int x4), (5, .int t0_15), (6, .int t0_33), (7, .int t0_59), (8, .long t0_234)] → W p l e (bs_rm 3 0 0 72) s m args below meth c H locs 0 0 Q (F0 m 257 ls [.long t0_257]) := by
                      intro ls t0_257 hO hl
                      refine lv_lstore (lv' := [(10, .long t0_257), (0, .ref a), (1, .int x1), (2, .int x2), (3, .int x3), (4, .int x4), (5, .int t0_15), (6, .int t0_33), (7, .int t0_59), (8, .long t0_234)]) hx hb dModel_lookSum_257 hl (by decide) rfl (fun ls hl => ?_)
                      refine lv_iload hx hb dModel_lookSum_259 (lv_at hl 6 rfl) ?_
                      have J291 : ∀ (ls : Array Slot) (t0_291 : Int32), (Oq OUT (Q_lookSum_291 κ τ σ F nu x1 x2 x3 x4 t0_15 t0_33 t0_59 t0_210 t0_234 t0_257   t0_291)) → lv_has ls 14 [(0, .ref a), (1, .int x1), (2, .int x2), (3, .int x3), (4, .int x4), (5, .int t0_15), (6, .int t0_33), (7, .int t0_59), (8, .long t0_234), (10, .long t0_257)] → W p l e (bs_rm 3 0 0 72) s m args below meth c H locs 0 0 Q (F0 m 291 ls [.int t0_291]) := by
                        intro ls t0_291 hO hl
                        refine lv_istore (lv' := [(12, .int t0_291), (0, .ref a), (1, .int x1), (2, .int x2), (3, .int x3), (4, .int x4), (5, .int t0_15), (6, .int t0_33), (7, .int t0_59), (8, .long t0_234), (10, .long t0_257)]) hx hb dModel_lookSum_291 hl (by decide) rfl (fun ls hl => ?_)
                        refine lv_iload hx hb dModel_lookSum_293 (lv_at hl 0 rfl) ?_
                        have J320 : ∀ (ls : Array Slot) (H : Heap) (locs : List Loc) (F_320 : Nat → Nat → Int32), MD γ a B Z ν τ σ F_320 nur351 H → va_S Z s.heap H locs → (GK x1.toNatClampNeg F_320 nur351) → (SL x1.toNatClampNeg F nu F_320 nur351) → (SZ F_320) → (Oq OUT (Q_lookSum_320 κ τ σ F nu x1 x2 x3 x4 t0_15 t0_33 t0_59 t0_210 t0_234 t0_257 t0_291   F_320)) → lv_has ls 14 [(0, .ref a), (1, .int x1), (2, .int x2), (3, .int x3), (4, .int x4), (5, .int t0_15), (6, .int t0_33), (7, .int t0_59), (8, .long t0_234), (10, .long t0_257), (12, .int t0_291)] → W p l e (bs_rm 3 0 0 72) s m args below meth c H locs 0 0 Q (F0 m 320 ls []) := by
                          intro ls H locs F_320 hM hS hK hL hZ hO hl
                          refine lv_iconst (v := 0) hx hb dModel_lookSum_320 (by decide) ?_
                          refine lv_istore (lv' := [(13, .int 0), (0, .ref a), (1, .int x1), (2, .int x2), (3, .int x3), (4, .int x4), (5, .int t0_15), (6, .int t0_33), (7, .int t0_59), (8, .long t0_234), (10, .long t0_257), (12, .int t0_291)]) hx hb dModel_lookSum_321 hl (by decide) rfl (fun ls hl => ?_)
                          have J323 : ∀ (N323 : Nat) (ls : Array Slot) (H : Heap) (locs : List Loc) (F_323 : Nat → Nat → Int32) (i13_323 : Int32), MD γ a B Z ν τ σ F_323 nur351 H → va_S Z s.heap H locs → (GK x1.toNatClampNeg F_323 nur351) → (SL x1.toNatClampNeg F nu F_323 nur351) → (SZ F_323) → (¬ i13_323 < 0) → (Oq OUT (Q_lookSum_323 κ τ σ F nu x1 x2 x3 x4 t0_15 t0_33 t0_59 t0_210 t0_234 t0_257 t0_291 F_320  (N323 + 1) F_323 i13_323)) → (2147483647 - i13_323.toInt).toNat = N323 → lv_has ls 14 [(0, .ref a), (1, .int x1), (2, .int x2), (3, .int x3), (4, .int x4), (5, .int t0_15), (6, .int t0_33), (7, .int t0_59), (8, .long t0_234), (10, .long t0_257), (12, .int t0_291), (13, .int i13_323)] → W p l e (bs_rm 3 0 0 72) s m args below meth c H locs 0 0 Q (F0 m 323 ls []) := by
                            intro N323
                            induction N323 using Nat.strongRecOn with
                            | ind N323 ih323 =>
                              intro ls H locs F_323 i13_323 hM hS hK hL hZ hi13_323 hO hm323 hl
                              refine lv_iload hx hb dModel_lookSum_323 (lv_at hl 11 rfl) ?_
                              refine lv_aload_n hx hb dModel_lookSum_325 rfl (lv_at hl 0 rfl) ?_
                              refine md_gA S hC hM 10 (by decide) rfl qw_bd0251c605 dModel_lookSum_326 ?_
                              refine lv_iload_n hx hb dModel_lookSum_329 rfl (lv_at hl 1 rfl) ?_
                              refine md_ild S hC hM 10 6 10000 (F_323 10) rfl rfl (by decide) rfl rfl (vin (by assumption) (by omega)) dModel_lookSum_330 ?_
                              refine lv_topi (fun v423 ev423 => ?_)
                              have J353 : ∀ (ls : Array Slot), (Oq OUT (Q_lookSum_353 κ τ σ F nu x1 x2 x3 x4 t0_15 t0_33 t0_59 t0_210 t0_234 t0_257 t0_291 F_320 F_323 i13_323   )) → lv_has ls 14 [(0, .ref a), (1, .int x1), (2, .int x2), (3, .int x3), (4, .int x4), (5, .int t0_15), (6, .int t0_33), (7, .int t0_59), (8, .long t0_234), (10, .long t0_257), (12, .int t0_291), (13, .int i13_323)] → W p l e (bs_rm 3 0 0 72) s m args below meth c H locs 0 0 Q (F0 m 353 ls []) := by
                                intro ls hO hl
                                refine lv_aload_n hx hb dModel_lookSum_353 rfl (lv_at hl 0 rfl) ?_
                                refine lv_iload_n hx hb dModel_lookSum_354 rfl (lv_at hl 1 rfl) ?_
                                refine mu_Vi (rest := []) S hC (fun q h => hA q (Nat.le_trans hS.1 h)) (fun q h => h) hS (n_known l γ a B Z κ b mn ν τ σ F_323 nur351 hT x1 (vin (by assumption) (by omega))) meModel_known qw_aa15322dc3 ⟨Nat.le_of_ble_eq_true rfl, Nat.le_of_ble_eq_true rfl⟩ (md_rv hC hM) hM rfl hl.1 rfl (Nat.le_of_ble_eq_true rfl) dModel_lookSum_355 ⟨Nat.le_refl _, Nat.le_refl _⟩ (fun r429 H locs hPO hS _ _ => ?_)
                                obtain ⟨hrr429, Fr429, nur429, eOr429, hM, hqr429, hnr429⟩ := hPO
                                have er429 : r429 = (Q_known κ τ σ F_323 nur351 x1).1 := by rw [eOr429.eq]
                                have eFr429 : Fr429 = (Q_known κ τ σ F_323 nur351 x1).2.2.1 := by rw [eOr429.eq]
                                have enur429 : nur429 = (Q_known κ τ σ F_323 nur351 x1).2.2.2 := by rw [eOr429.eq]
                                clear eOr429
                                have hZ : SZ Fr429 := hZ.e14 hqr429
                                have hL : SL x1.toNatClampNeg F nu Fr429 nur429 := hL.trans (SL.kn hqr429 hnr429)
                                have hK : GK x1.toNatClampNeg Fr429 nur429 := hK.kn hqr429 hnr429
                                exact hE _ _ _ _ _ hS ⟨σ, Fr429, nur429, (by subst enur429 eFr429 er429 ev423 enur351 eFr351 ev169 ev115 ev59 ev1; exact hO.tr rfl), hM, hZ, hF, hL, (fun _ => hK)⟩ dModel_lookSum_358
                              refine lv_icmp_ge (tgt := 353) hx hb dModel_lookSum_331 (by decide) (fun c430 => ?_) (fun c430 => ?_)
                              · exact J353 ls (by subst ev423 enur351 eFr351 ev169 ev115 ev59 ev1; exact hO.tr (if_pos c430)) (lv_sub hl [0, 1, 2, 3, 4, 5, 6, 7, 8, 9, 10, 11] rfl)
                              · have hin13 : vp_in i13_323 1000 := vsz hZ (vix (vin hx1 (by omega))) (by assumption) (by assumption) (by assumption)
                                refine lv_iload hx hb dModel_lookSum_334 (lv_at hl 10 rfl) ?_
                                refine lv_if_ne (tgt := 353) hx hb dModel_lookSum_336 (by decide) (fun c431 => ?_) (fun c431 => ?_)
                                · exact J353 ls (by subst ev423 enur351 eFr351 ev169 ev115 ev59 ev1; exact hO.tr ((if_neg c430).trans (if_neg c431))) (lv_sub hl [0, 1, 2, 3, 4, 5, 6, 7, 8, 9, 10, 11] rfl)
                                · refine lv_aload_n hx hb dModel_lookSum_339 rfl (lv_at hl 0 rfl) ?_
                                  refine lv_iload_n hx hb dModel_lookSum_340 rfl (lv_at hl 1 rfl) ?_
                                  refine lv_iload hx hb dModel_lookSum_341 (lv_at hl 11 rfl) ?_
                                  refine lv_iconst (v := 1) hx hb dModel_lookSum_343 (by decide) ?_
                                  refine mu_Vv (rest := []) S hC (fun q h => hA q (Nat.le_trans hS.1 h)) (fun q h => h) hS (n_setElement l γ a B Z κ b mn ν τ σ F_323 nur351 hT x1 i13_323 1 (el_in (by assumption) (by assumption) (by omega))) meModel_setElement qw_143403ccb9 ⟨Nat.le_of_ble_eq_true rfl, Nat.le_of_ble_eq_true rfl⟩ (md_rv hC hM) hM rfl hl.1 rfl (Nat.le_of_ble_eq_true rfl) dModel_lookSum_344 ⟨Nat.le_refl _, Nat.le_refl _⟩ (fun H locs hPO hS _ _ => ?_)
                                  obtain ⟨Fr432, eOr432, hM, hqr432⟩ := hPO
                                  have eFr432 : Fr432 = (Q_setElement κ τ σ F_323 nur351 x1 i13_323 1).2.1 := by rw [eOr432.eq]
                                  clear eOr432
                                  have hZ : SZ Fr432 := hZ.e14 hqr432
                                  have hL : SL x1.toNatClampNeg F nu Fr432 nur351 := hL.trans (SL.e14 hqr432)
                                  have hK : GK x1.toNatClampNeg Fr432 nur351 := hK.e14 hqr432
                                  obtain ⟨v433, ev433⟩ : ∃ y : Int32, y = i13_323 + 1 := ⟨_, rfl⟩
                                  refine lv_iinc (v := v433) (lv' := [(13, .int v433), (0, .ref a), (1, .int x1), (2, .int x2), (3, .int x3), (4, .int x4), (5, .int t0_15), (6, .int t0_33), (7, .int t0_59), (8, .long t0_234), (10, .long t0_257), (12, .int t0_291)]) hx hb dModel_lookSum_347 hl (k := 11) rfl (by rw [ev433]; rfl) (by decide) rfl (fun ls hl => ?_)
                                  refine lv_goto (tgt := 323) hx hb dModel_lookSum_350 (by decide) ?_
                                  exact ih323 _ (by have q1 : i13_323.toInt < 2147483647 := (by first | assumption | exact (mu_up (k := i13_323) (by assumption)).2); have q2 := mu_lt q1; rw [← ev433] at q2; omega) ls _ _ Fr432 v433 hM hS hK hL hZ (by first | decide | exact nn_inc (by assumption) (by assumption) (by assumption)) (by have hN : N323 = (2147483647 - v433.toInt).toNat + 1 := (by have q1 : i13_323.toInt < 2147483647 := (by first | assumption | exact (mu_up (k := i13_323) (by assumption)).2); have q2 := mu_lt q1; rw [← ev433] at q2; omega); rw [← hN]; clear hN; subst ev433 eFr432 ev423 enur351 eFr351 ev169 ev115 ev59 ev1; exact hO.tr ((if_neg c430).trans (if_pos c431))) rfl (lv_sub hl [1, 2, 3, 4, 5, 6, 7, 8, 9, 10, 11, 0] rfl)
                          exact J323 _ ls _ _ F_320 0 hM hS hK hL hZ (by first | decide | exact nn_inc (by assumption) (by assumption) (by assumption)) (by subst enur351 eFr351 ev169 ev115 ev59 ev1; exact hO.tr rfl) rfl (lv_sub hl [1, 2, 3, 4, 5, 6, 7, 8, 9, 10, 11, 0] rfl)
                        refine lv_if_eq (tgt := 320) hx hb dModel_lookSum_295 (by decide) (fun c434 => ?_) (fun c434 => ?_)
                        · exact J320 ls _ _ Fr351 hM hS hK hL hZ (by subst enur351 eFr351 ev169 ev115 ev59 ev1; exact hO.tr (if_pos c434)) (lv_sub hl [1, 2, 3, 4, 5, 6, 7, 8, 9, 10, 0] rfl)
                        · refine lv_aload_n hx hb dModel_lookSum_298 rfl (lv_at hl 1 rfl) ?_
                          refine lv_iload_n hx hb dModel_lookSum_299 rfl (lv_at hl 2 rfl) ?_
                          refine lv_iload_n hx hb dModel_lookSum_300 rfl (lv_at hl 3 rfl) ?_
                          have J317 : ∀ (ls : Array Slot) (t0_317 : Int64), (Oq OUT (Q_lookSum_317 κ τ σ F nu x1 x2 x3 x4 t0_15 t0_33 t0_59 t0_210 t0_234 t0_257 t0_291   t0_317)) → lv_has ls 14 [(0, .ref a), (1, .int x1), (2, .int x2), (3, .int x3), (4, .int x4), (5, .int t0_15), (6, .int t0_33), (7, .int t0_59), (8, .long t0_234), (10, .long t0_257), (12, .int t0_291)] → W p l e (bs_rm 3 0 0 72) s m args below meth c H locs 0 0 Q (F0 m 317 ls [.long t0_317, .int x1, .ref a]) := by
                            intro ls t0_317 hO hl
                            refine mu_Vv (rest := []) S hC (fun q h => hA q (Nat.le_trans hS.1 h)) (fun q h => h) hS (n_bits l γ a B Z κ b mn ν τ σ Fr351 nur351 hT x1 t0_317 (vin (by assumption) (by omega)) hZ) meModel_bits qw_be891c2f99 ⟨Nat.le_of_ble_eq_true rfl, Nat.le_of_ble_eq_true rfl⟩ (md_rv hC hM) hM rfl hl.1 rfl (Nat.le_of_ble_eq_true rfl) dModel_lookSum_317 ⟨Nat.le_refl _, Nat.le_refl _⟩ (fun H locs hPO hS _ _ => ?_)
                            obtain ⟨Fr439, eOr439, hM, hqr439⟩ := hPO
                            have eFr439 : Fr439 = (Q_bits κ τ σ Fr351 nur351 x1 t0_317).2.1 := by rw [eOr439.eq]
                            clear eOr439
                            have hZ : SZ Fr439 := hZ.e14 hqr439
                            have hL : SL x1.toNatClampNeg F nu Fr439 nur351 := hL.trans (SL.e14 hqr439)
                            have hK : GK x1.toNatClampNeg Fr439 nur351 := hK.e14 hqr439
                            exact J320 ls _ _ Fr439 hM hS hK hL hZ (by subst eFr439 enur351 eFr351 ev169 ev115 ev59 ev1; exact hO.tr rfl) (lv_sub hl [0, 1, 2, 3, 4, 5, 6, 7, 8, 9, 10] rfl)
                          refine lv_if_eq (tgt := 312) hx hb dModel_lookSum_301 (by decide) (fun c440 => ?_) (fun c440 => ?_)
                          · refine lv_lload hx hb dModel_lookSum_312 (lv_at hl 9 rfl) ?_
                            refine lv_lload hx hb dModel_lookSum_314 (lv_at hl 10 rfl) ?_
                            refine lv_ladd hx hb dModel_lookSum_316 ?_
                            refine lv_topl (fun v441 ev441 => ?_)
                            exact J317 ls v441 (by subst ev441 enur351 eFr351 ev169 ev115 ev59 ev1; exact hO.tr ((if_neg c434).trans (if_pos c440))) (lv_sub hl [1, 2, 3, 4, 5, 6, 7, 8, 9, 10, 0] rfl)
                          · refine lv_lload hx hb dModel_lookSum_304 (lv_at hl 9 rfl) ?_
                            refine lv_lload hx hb dModel_lookSum_306 (lv_at hl 10 rfl) ?_
                            refine lv_lsub hx hb dModel_lookSum_308 ?_
                            refine lv_topl (fun v442 ev442 => ?_)
                            refine lv_goto (tgt := 317) hx hb dModel_lookSum_309 (by decide) ?_
                            exact J317 ls v442 (by subst ev442 enur351 eFr351 ev169 ev115 ev59 ev1; exact hO.tr ((if_neg c434).trans (if_neg c440))) (lv_sub hl [1, 2, 3, 4, 5, 6, 7, 8, 9, 10, 0] rfl)
                      have J290 : ∀ (ls : Array Slot), (Oq OUT (Q_lookSum_290 κ τ σ F nu x1 x2 x3 x4 t0_15 t0_33 t0_59 t0_210 t0_234 t0_257   )) → lv_has ls 14 [(0, .ref a), (1, .int x1), (2, .int x2), (3, .int x3), (4, .int x4), (5, .int t0_15), (6, .int t0_33), (7, .int t0_59), (8, .long t0_234), (10, .long t0_257)] → W p l e (bs_rm 3 0 0 72) s m args below meth c H locs 0 0 Q (F0 m 290 ls []) := by
                        intro ls hO hl
                        refine lv_iconst (v := 0) hx hb dModel_lookSum_290 (by decide) ?_
                        exact J291 ls 0 (by subst enur351 eFr351 ev169 ev115 ev59 ev1; exact hO.tr rfl) (lv_sub hl [0, 1, 2, 3, 4, 5, 6, 7, 8, 9] rfl)
                      have J272 : ∀ (ls : Array Slot), (Oq OUT (Q_lookSum_272 κ τ σ F nu x1 x2 x3 x4 t0_15 t0_33 t0_59 t0_210 t0_234 t0_257   )) → lv_has ls 14 [(0, .ref a), (1, .int x1), (2, .int x2), (3, .int x3), (4, .int x4), (5, .int t0_15), (6, .int t0_33), (7, .int t0_59), (8, .long t0_234), (10, .long t0_257)] → W p l e (bs_rm 3 0 0 72) s m args below meth c H locs 0 0 Q (F0 m 272 ls []) := by
                        intro ls hO hl
                        refine lv_iload hx hb dModel_lookSum_272 (lv_at hl 6 rfl) ?_
                        have J286 : ∀ (ls : Array Slot), (Oq OUT (Q_lookSum_286 κ τ σ F nu x1 x2 x3 x4 t0_15 t0_33 t0_59 t0_210 t0_234 t0_257   )) → lv_has ls 14 [(0, .ref a), (1, .int x1), (2, .int x2), (3, .int x3), (4, .int x4), (5, .int t0_15), (6, .int t0_33), (7, .int t0_59), (8, .long t0_234), (10, .long t0_257)] → W p l e (bs_rm 3 0 0 72) s m args below meth c H locs 0 0 Q (F0 m 286 ls []) := by
                          intro ls hO hl
                          refine lv_iconst (v := 1) hx hb dModel_lookSum_286 (by decide) ?_
                          refine lv_goto (tgt := 291) hx hb dModel_lookSum_287 (by decide) ?_
                          exact J291 ls 1 (by subst enur351 eFr351 ev169 ev115 ev59 ev1; exact hO.tr rfl) (lv_sub hl [0, 1, 2, 3, 4, 5, 6, 7, 8, 9] rfl)
                        refine lv_if_eq (tgt := 286) hx hb dModel_lookSum_274 (by decide) (fun c446 => ?_) (fun c446 => ?_)
                        · exact J286 ls (by subst enur351 eFr351 ev169 ev115 ev59 ev1; exact hO.tr (if_pos c446)) (lv_sub hl [0, 1, 2, 3, 4, 5, 6, 7, 8, 9] rfl)
                        · refine lv_aload_n hx hb dModel_lookSum_277 rfl (lv_at hl 0 rfl) ?_
                          refine lv_iload hx hb dModel_lookSum_278 (lv_at hl 4 rfl) ?_
                          refine pu_Vi (rest := []) S hC (n_isClear l γ a B Z κ b mn ν τ σ Fr351 nur351 hT x4 (vin (by assumption) (by omega)) hZ) meModel_isClear qw_f576e3fc3c ⟨Nat.le_of_ble_eq_true rfl, Nat.le_of_ble_eq_true rfl⟩ (md_rv hC hM) hM rfl hl.1 rfl (Nat.le_of_ble_eq_true rfl) dModel_lookSum_280 ⟨Nat.zero_le _, Nat.zero_le _⟩ (fun r447 hr447 => ?_)
                          obtain ⟨hr447, er447⟩ := hr447
                          refine lv_if_eq (tgt := 290) hx hb dModel_lookSum_283 (by decide) (fun c448 => ?_) (fun c448 => ?_)
                          · exact J290 ls (by subst er447 enur351 eFr351 ev169 ev115 ev59 ev1; exact hO.tr ((if_neg c446).trans (if_pos c448))) (lv_sub hl [0, 1, 2, 3, 4, 5, 6, 7, 8, 9] rfl)
                          · exact J286 ls (by subst er447 enur351 eFr351 ev169 ev115 ev59 ev1; exact hO.tr ((if_neg c446).trans (if_neg c448))) (lv_sub hl [0, 1, 2, 3, 4, 5, 6, 7, 8, 9] rfl)
                      refine lv_if_eq (tgt := 272) hx hb dModel_lookSum_261 (by decide) (fun c449 => ?_) (fun c449 => ?_)
                      · exact J272 ls (by subst enur351 eFr351 ev169 ev115 ev59 ev1; exact hO.tr (if_pos c449)) (lv_sub hl [1, 2, 3, 4, 5, 6, 7, 8, 9, 0] rfl)
                      · refine lv_aload_n hx hb dModel_lookSum_264 rfl (lv_at hl 1 rfl) ?_
                        refine lv_iload_n hx hb dModel_lookSum_265 rfl (lv_at hl 4 rfl) ?_
                        refine pu_Vi (rest := []) S hC (n_isClear l γ a B Z κ b mn ν τ σ Fr351 nur351 hT x3 (vin (by assumption) (by omega)) hZ) meModel_isClear qw_f576e3fc3c ⟨Nat.le_of_ble_eq_true rfl, Nat.le_of_ble_eq_true rfl⟩ (md_rv hC hM) hM rfl hl.1 rfl (Nat.le_of_ble_eq_true rfl) dModel_lookSum_266 ⟨Nat.zero_le _, Nat.zero_le _⟩ (fun r450 hr450 => ?_)
                        obtain ⟨hr450, er450⟩ := hr450
                        refine lv_if_eq (tgt := 290) hx hb dModel_lookSum_269 (by decide) (fun c451 => ?_) (fun c451 => ?_)
                        · exact J290 ls (by subst er450 enur351 eFr351 ev169 ev115 ev59 ev1; exact hO.tr ((if_neg c449).trans (if_pos c451))) (lv_sub hl [1, 2, 3, 4, 5, 6, 7, 8, 9, 0] rfl)
                        · exact J272 ls (by subst er450 enur351 eFr351 ev169 ev115 ev59 ev1; exact hO.tr ((if_neg c449).trans (if_neg c451))) (lv_sub hl [1, 2, 3, 4, 5, 6, 7, 8, 9, 0] rfl)
                    refine lv_if_eq (tgt := 250) hx hb dModel_lookSum_238 (by decide) (fun c452 => ?_) (fun c452 => ?_)
                    · refine lv_aload_n hx hb dModel_lookSum_250 rfl (lv_at hl 1 rfl) ?_
                      refine md_gA S hC hM 13 (by decide) rfl qw_7b809afc8c dModel_lookSum_251 ?_
                      refine lv_iload hx hb dModel_lookSum_254 (lv_at hl 5 rfl) ?_
                      refine md_lld S hC hM (vin (by assumption) (by omega)) dModel_lookSum_256 ?_
                      refine lv_topl (fun v453 ev453 => ?_)
                      have ev453 : v453 = nur351 x4.toNatClampNeg := ev453
                      exact J257 ls v453 (by subst ev453 enur351 eFr351 ev169 ev115 ev59 ev1; exact hO.tr (if_pos c452)) (lv_sub hl [1, 2, 3, 4, 5, 6, 7, 8, 0] rfl)
                    · refine lv_aload_n hx hb dModel_lookSum_241 rfl (lv_at hl 1 rfl) ?_
                      refine lv_iload hx hb dModel_lookSum_242 (lv_at hl 5 rfl) ?_
                      refine pu_Vl (rest := []) S hC (n_numberOf l γ a B Z κ b mn ν τ σ Fr351 nur351 hT x4 (vin (by assumption) (by omega)) hZ) meModel_numberOf qw_75e699d051 ⟨Nat.le_of_ble_eq_true rfl, Nat.le_of_ble_eq_true rfl⟩ (md_rv hC hM) hM rfl hl.1 rfl (Nat.le_of_ble_eq_true rfl) dModel_lookSum_244 ⟨Nat.zero_le _, Nat.zero_le _⟩ (fun r454 hr454 => ?_)
                      obtain ⟨hr454, er454⟩ := hr454
                      refine lv_goto (tgt := 257) hx hb dModel_lookSum_247 (by decide) ?_
                      exact J257 ls r454 (by subst er454 enur351 eFr351 ev169 ev115 ev59 ev1; exact hO.tr (if_neg c452)) (lv_sub hl [1, 2, 3, 4, 5, 6, 7, 8, 0] rfl)
                  refine lv_if_eq (tgt := 228) hx hb dModel_lookSum_217 (by decide) (fun c455 => ?_) (fun c455 => ?_)
                  · refine lv_aload_n hx hb dModel_lookSum_228 rfl (lv_at hl 0 rfl) ?_
                    refine md_gA S hC hM 13 (by decide) rfl qw_7b809afc8c dModel_lookSum_229 ?_
                    refine lv_iload_n hx hb dModel_lookSum_232 rfl (lv_at hl 3 rfl) ?_
                    refine md_lld S hC hM (vin (by assumption) (by omega)) dModel_lookSum_233 ?_
                    refine lv_topl (fun v456 ev456 => ?_)
                    have ev456 : v456 = nur351 x3.toNatClampNeg := ev456
                    exact J234 ls v456 (by subst ev456 enur351 eFr351 ev169 ev115 ev59 ev1; exact hO.tr (if_pos c455)) (lv_sub hl [0, 1, 2, 3, 4, 5, 6, 7] rfl)
                  · refine lv_aload_n hx hb dModel_lookSum_220 rfl (lv_at hl 0 rfl) ?_
                    refine lv_iload_n hx hb dModel_lookSum_221 rfl (lv_at hl 3 rfl) ?_
                    refine pu_Vl (rest := []) S hC (n_numberOf l γ a B Z κ b mn ν τ σ Fr351 nur351 hT x3 (vin (by assumption) (by omega)) hZ) meModel_numberOf qw_75e699d051 ⟨Nat.le_of_ble_eq_true rfl, Nat.le_of_ble_eq_true rfl⟩ (md_rv hC hM) hM rfl hl.1 rfl (Nat.le_of_ble_eq_true rfl) dModel_lookSum_222 ⟨Nat.zero_le _, Nat.zero_le _⟩ (fun r457 hr457 => ?_)
                    obtain ⟨hr457, er457⟩ := hr457
                    refine lv_goto (tgt := 234) hx hb dModel_lookSum_225 (by decide) ?_
                    exact J234 ls r457 (by subst er457 enur351 eFr351 ev169 ev115 ev59 ev1; exact hO.tr (if_neg c455)) (lv_sub hl [0, 1, 2, 3, 4, 5, 6, 7] rfl)
                refine lv_if_eq (tgt := 203) hx hb dModel_lookSum_191 (by decide) (fun c458 => ?_) (fun c458 => ?_)
                · refine lv_aload_n hx hb dModel_lookSum_203 rfl (lv_at hl 0 rfl) ?_
                  refine md_gA S hC hM 10 (by decide) rfl qw_bd0251c605 dModel_lookSum_204 ?_
                  refine lv_iload hx hb dModel_lookSum_207 (lv_at hl 4 rfl) ?_
                  refine md_ild S hC hM 10 6 10000 (F 10) rfl rfl (by decide) rfl rfl (vin (by assumption) (by omega)) dModel_lookSum_209 ?_
                  refine lv_topi (fun v459 ev459 => ?_)
                  exact J210 ls v459 (by rw [ev459]; exact hZ _ (vix (vin (by assumption) (by omega)))) (by subst ev459 ev169 ev115 ev59 ev1; exact hO.tr (if_pos c458)) (lv_sub hl [0, 1, 2, 3, 4, 5, 6, 7] rfl)
                · refine lv_aload_n hx hb dModel_lookSum_194 rfl (lv_at hl 0 rfl) ?_
                  refine md_gA S hC hM 10 (by decide) rfl qw_bd0251c605 dModel_lookSum_195 ?_
                  refine lv_iload_n hx hb dModel_lookSum_198 rfl (lv_at hl 3 rfl) ?_
                  refine md_ild S hC hM 10 6 10000 (F 10) rfl rfl (by decide) rfl rfl (vin (by assumption) (by omega)) dModel_lookSum_199 ?_
                  refine lv_topi (fun v460 ev460 => ?_)
                  refine lv_goto (tgt := 210) hx hb dModel_lookSum_200 (by decide) ?_
                  exact J210 ls v460 (by rw [ev460]; exact hZ _ (vix (vin (by assumption) (by omega)))) (by subst ev460 ev169 ev115 ev59 ev1; exact hO.tr (if_neg c458)) (lv_sub hl [0, 1, 2, 3, 4, 5, 6, 7] rfl)
              refine lv_if_eq (tgt := 186) hx hb dModel_lookSum_160 (by decide) (fun c461 => ?_) (fun c461 => ?_)
              · exact J186 ls (by subst ev169 ev115 ev59 ev1; exact hO.tr (if_pos c461)) (lv_sub hl [0, 1, 2, 3, 4, 5, 6, 7] rfl)
              · refine lv_iload hx hb dModel_lookSum_163 (lv_at hl 6 rfl) ?_
                refine lv_if_eq (tgt := 186) hx hb dModel_lookSum_165 (by decide) (fun c462 => ?_) (fun c462 => ?_)
                · exact J186 ls (by subst ev169 ev115 ev59 ev1; exact hO.tr ((if_neg c461).trans (if_pos c462))) (lv_sub hl [0, 1, 2, 3, 4, 5, 6, 7] rfl)
                · refine lv_aload_n hx hb dModel_lookSum_168 rfl (lv_at hl 0 rfl) ?_
                  refine md_gA S hC hM 10 (by decide) rfl qw_bd0251c605 dModel_lookSum_169 ?_
                  refine lv_iload_n hx hb dModel_lookSum_172 rfl (lv_at hl 3 rfl) ?_
                  refine md_ild S hC hM 10 6 10000 (F 10) rfl rfl (by decide) rfl rfl (vin (by assumption) (by omega)) dModel_lookSum_173 ?_
                  refine lv_topi (fun v463 ev463 => ?_)
                  refine lv_aload_n hx hb dModel_lookSum_174 rfl (lv_at hl 0 rfl) ?_
                  refine md_gA S hC hM 10 (by decide) rfl qw_bd0251c605 dModel_lookSum_175 ?_
                  refine lv_iload hx hb dModel_lookSum_178 (lv_at hl 4 rfl) ?_
                  refine md_ild S hC hM 10 6 10000 (F 10) rfl rfl (by decide) rfl rfl (vin (by assumption) (by omega)) dModel_lookSum_180 ?_
                  refine lv_topi (fun v464 ev464 => ?_)
                  refine lv_icmp_eq (tgt := 186) hx hb dModel_lookSum_181 (by decide) (fun c465 => ?_) (fun c465 => ?_)
                  · exact J186 ls (by subst ev464 ev463 ev169 ev115 ev59 ev1; exact hO.tr ((if_neg c461).trans ((if_neg c462).trans (if_pos c465)))) (lv_sub hl [0, 1, 2, 3, 4, 5, 6, 7] rfl)
                  · refine lv_iconst (v := 4) hx hb dModel_lookSum_184 (by decide) ?_
                    exact hE _ _ _ _ _ hS ⟨σ, F, nu, (by subst ev464 ev463 ev169 ev115 ev59 ev1; exact hO.tr ((if_neg c461).trans ((if_neg c462).trans (if_neg c465)))), hM, hZ, hF, hL, (fun h9 => absurd (show (0 : Int32) < 4 by decide) h9)⟩ dModel_lookSum_185
            refine lv_if_ne (tgt := 158) hx hb dModel_lookSum_142 (by decide) (fun c466 => ?_) (fun c466 => ?_)
            · exact J158 ls (by subst ev169 ev115 ev59 ev1; exact hO.tr (if_neg c466)) (lv_sub hl [0, 1, 2, 3, 4, 5, 6, 7] rfl)
            · refine lv_aload_n hx hb dModel_lookSum_145 rfl (lv_at hl 0 rfl) ?_
              refine md_gA S hC hM 9 (by decide) rfl qw_a119aeeca0 dModel_lookSum_146 ?_
              refine lv_iload hx hb dModel_lookSum_149 (lv_at hl 4 rfl) ?_
              refine md_ild S hC hM 9 5 10000 (F 9) rfl rfl (by decide) rfl rfl (vin (by assumption) (by omega)) dModel_lookSum_151 ?_
              refine lv_topi (fun v467 ev467 => ?_)
              refine lv_iconst (v := 2) hx hb dModel_lookSum_152 (by decide) ?_
              refine lv_icmp_eq (tgt := 158) hx hb dModel_lookSum_153 (by decide) (fun c468 => ?_) (fun c468 => ?_)
              · exact J158 ls (by subst ev467 ev169 ev115 ev59 ev1; exact hO.tr ((if_pos c466).trans (if_pos c468))) (lv_sub hl [0, 1, 2, 3, 4, 5, 6, 7] rfl)
              · refine lv_iconst (v := 3) hx hb dModel_lookSum_156 (by decide) ?_
                exact hE _ _ _ _ _ hS ⟨σ, F, nu, (by subst ev467 ev169 ev115 ev59 ev1; exact hO.tr ((if_pos c466).trans (if_neg c468))), hM, hZ, hF, hL, (fun h9 => absurd (show (0 : Int32) < 3 by decide) h9)⟩ dModel_lookSum_157
          refine lv_if_ne (tgt := 140) hx hb dModel_lookSum_127 (by decide) (fun c469 => ?_) (fun c469 => ?_)
          · exact J140 ls (by subst ev169 ev115 ev59 ev1; exact hO.tr (if_neg c469)) (lv_sub hl [0, 1, 2, 3, 4, 5, 6, 7] rfl)
          · refine lv_aload_n hx hb dModel_lookSum_130 rfl (lv_at hl 0 rfl) ?_
            refine md_gA S hC hM 9 (by decide) rfl qw_a119aeeca0 dModel_lookSum_131 ?_
            refine lv_iload_n hx hb dModel_lookSum_134 rfl (lv_at hl 3 rfl) ?_
            refine md_ild S hC hM 9 5 10000 (F 9) rfl rfl (by decide) rfl rfl (vin (by assumption) (by omega)) dModel_lookSum_135 ?_
            refine lv_topi (fun v470 ev470 => ?_)
            refine lv_iconst (v := 2) hx hb dModel_lookSum_136 (by decide) ?_
            refine lv_icmp_ne (tgt := 156) hx hb dModel_lookSum_137 (by decide) (fun c471 => ?_) (fun c471 => ?_)
            · refine lv_iconst (v := 3) hx hb dModel_lookSum_156 (by decide) ?_
              exact hE _ _ _ _ _ hS ⟨σ, F, nu, (by subst ev470 ev169 ev115 ev59 ev1; exact hO.tr ((if_pos c469).trans (if_neg c471))), hM, hZ, hF, hL, (fun h9 => absurd (show (0 : Int32) < 3 by decide) h9)⟩ dModel_lookSum_157
            · exact J140 ls (by subst ev470 ev169 ev115 ev59 ev1; exact hO.tr ((if_pos c469).trans (if_pos c471))) (lv_sub hl [0, 1, 2, 3, 4, 5, 6, 7] rfl)
        refine lv_icmp_ne (tgt := 125) hx hb dModel_lookSum_68 (by decide) (fun c472 => ?_) (fun c472 => ?_)
        · exact J125 ls (by subst ev169 ev115 ev59 ev1; exact hO.tr (if_neg c472)) (lv_sub hl [1, 2, 3, 4, 5, 6, 7, 0] rfl)
        · refine lv_aload_n hx hb dModel_lookSum_71 rfl (lv_at hl 1 rfl) ?_
          refine md_gA S hC hM 9 (by decide) rfl qw_a119aeeca0 dModel_lookSum_72 ?_
          refine lv_iload hx hb dModel_lookSum_75 (lv_at hl 5 rfl) ?_
          refine md_ild S hC hM 9 5 10000 (F 9) rfl rfl (by decide) rfl rfl (vin (by assumption) (by omega)) dModel_lookSum_77 ?_
          refine lv_topi (fun v473 ev473 => ?_)
          refine lv_iconst (v := 2) hx hb dModel_lookSum_78 (by decide) ?_
          refine lv_icmp_ne (tgt := 125) hx hb dModel_lookSum_79 (by decide) (fun c474 => ?_) (fun c474 => ?_)
          · exact J125 ls (by subst ev473 ev169 ev115 ev59 ev1; exact hO.tr ((if_pos c472).trans (if_neg c474))) (lv_sub hl [1, 2, 3, 4, 5, 6, 7, 0] rfl)
          · refine lv_aload_n hx hb dModel_lookSum_82 rfl (lv_at hl 1 rfl) ?_
            refine lv_iload_n hx hb dModel_lookSum_83 rfl (lv_at hl 2 rfl) ?_
            refine lv_iload hx hb dModel_lookSum_84 (lv_at hl 0 rfl) ?_
            refine lv_iload_n hx hb dModel_lookSum_86 rfl (lv_at hl 3 rfl) ?_
            have J121 : ∀ (ls : Array Slot) (t0_121 : Int64), (Oq OUT (Q_lookSum_121 κ τ σ F nu x1 x2 x3 x4 t0_15 t0_33 t0_59   t0_121)) → lv_has ls 14 [(0, .ref a), (1, .int x1), (2, .int x2), (3, .int x3), (4, .int x4), (5, .int t0_15), (6, .int t0_33), (7, .int t0_59)] → W p l e (bs_rm 3 0 0 72) s m args below meth c s.heap [] 0 0 Q (F0 m 121 ls [.long t0_121, .int t0_59, .int x1, .ref a]) := by
              intro ls t0_121 hO hl
              refine mu_Vi (rest := []) S hC (fun q h => hA q (Nat.le_trans hS.1 h)) (fun q h => h) hS (n_integer l γ a B Z κ b mn ν τ σ F nu hT x1 t0_59 t0_121 (vin (by assumption) (by omega)) hZ hF) meModel_integer qw_fff04f2807 ⟨Nat.le_of_ble_eq_true rfl, Nat.le_of_ble_eq_true rfl⟩ (md_rv hC hM) hM rfl hl.1 rfl (Nat.le_of_ble_eq_true rfl) dModel_lookSum_121 ⟨Nat.le_refl _, Nat.le_refl _⟩ (fun r483 H locs hPO hS _ _ => ?_)
              obtain ⟨σr483, Fr483, nur483, eOr483, hM, hZ, hF, hLr483, hRr483⟩ := hPO
              have er483 : r483 = (Q_integer κ τ σ F nu x1 t0_59 t0_121).1 := by rw [eOr483.eq]
              have eσr483 : σr483 = (Q_integer κ τ σ F nu x1 t0_59 t0_121).2.1 := by rw [eOr483.eq]
              have eFr483 : Fr483 = (Q_integer κ τ σ F nu x1 t0_59 t0_121).2.2.1 := by rw [eOr483.eq]
              have enur483 : nur483 = (Q_integer κ τ σ F nu x1 t0_59 t0_121).2.2.2 := by rw [eOr483.eq]
              clear eOr483
              have hL : SL x1.toNatClampNeg F nu Fr483 nur483 := hL.trans hLr483
              exact hE _ _ _ _ _ hS ⟨σr483, Fr483, nur483, (by subst enur483 eFr483 eσr483 er483 ev473 ev169 ev115 ev59 ev1; exact hO.tr rfl), hM, hZ, hF, hL, hRr483⟩ dModel_lookSum_124
            refine lv_if_eq (tgt := 107) hx hb dModel_lookSum_87 (by decide) (fun c484 => ?_) (fun c484 => ?_)
            · refine lv_aload_n hx hb dModel_lookSum_107 rfl (lv_at hl 1 rfl) ?_
              refine md_gA S hC hM 13 (by decide) rfl qw_7b809afc8c dModel_lookSum_108 ?_
              refine lv_iload_n hx hb dModel_lookSum_111 rfl (lv_at hl 4 rfl) ?_
              refine md_lld S hC hM (vin (by assumption) (by omega)) dModel_lookSum_112 ?_
              refine lv_topl (fun v485 ev485 => ?_)
              have ev485 : v485 = nu x3.toNatClampNeg := ev485
              refine lv_aload_n hx hb dModel_lookSum_113 rfl (lv_at hl 1 rfl) ?_
              refine md_gA S hC hM 13 (by decide) rfl qw_7b809afc8c dModel_lookSum_114 ?_
              refine lv_iload hx hb dModel_lookSum_117 (lv_at hl 5 rfl) ?_
              refine md_lld S hC hM (vin (by assumption) (by omega)) dModel_lookSum_119 ?_
              refine lv_topl (fun v486 ev486 => ?_)
              have ev486 : v486 = nu x4.toNatClampNeg := ev486
              refine lv_ladd hx hb dModel_lookSum_120 ?_
              refine lv_topl (fun v487 ev487 => ?_)
              exact J121 ls v487 (by subst ev487 ev486 ev485 ev473 ev169 ev115 ev59 ev1; exact hO.tr ((if_pos c472).trans ((if_pos c474).trans (if_pos c484)))) (lv_sub hl [1, 2, 3, 4, 5, 6, 7, 0] rfl)
            · refine lv_aload_n hx hb dModel_lookSum_90 rfl (lv_at hl 1 rfl) ?_
              refine md_gA S hC hM 13 (by decide) rfl qw_7b809afc8c dModel_lookSum_91 ?_
              refine lv_iload_n hx hb dModel_lookSum_94 rfl (lv_at hl 4 rfl) ?_
              refine md_lld S hC hM (vin (by assumption) (by omega)) dModel_lookSum_95 ?_
              refine lv_topl (fun v488 ev488 => ?_)
              have ev488 : v488 = nu x3.toNatClampNeg := ev488
              refine lv_aload_n hx hb dModel_lookSum_96 rfl (lv_at hl 1 rfl) ?_
              refine md_gA S hC hM 13 (by decide) rfl qw_7b809afc8c dModel_lookSum_97 ?_
              refine lv_iload hx hb dModel_lookSum_100 (lv_at hl 5 rfl) ?_
              refine md_lld S hC hM (vin (by assumption) (by omega)) dModel_lookSum_102 ?_
              refine lv_topl (fun v489 ev489 => ?_)
              have ev489 : v489 = nu x4.toNatClampNeg := ev489
              refine lv_lsub hx hb dModel_lookSum_103 ?_
              refine lv_topl (fun v490 ev490 => ?_)
              refine lv_goto (tgt := 121) hx hb dModel_lookSum_104 (by decide) ?_
              exact J121 ls v490 (by subst ev490 ev489 ev488 ev473 ev169 ev115 ev59 ev1; exact hO.tr ((if_pos c472).trans ((if_pos c474).trans (if_neg c484)))) (lv_sub hl [1, 2, 3, 4, 5, 6, 7, 0] rfl)
      have J58 : ∀ (ls : Array Slot), (Oq OUT (Q_lookSum_58 κ τ σ F nu x1 x2 x3 x4 t0_15 t0_33   )) → lv_has ls 14 [(0, .ref a), (1, .int x1), (2, .int x2), (3, .int x3), (4, .int x4), (5, .int t0_15), (6, .int t0_33)] → W p l e (bs_rm 3 0 0 72) s m args below meth c s.heap [] 0 0 Q (F0 m 58 ls []) := by
        intro ls hO hl
        refine lv_iconst (v := 0) hx hb dModel_lookSum_58 (by decide) ?_
        exact J59 ls 0 (by subst ev115 ev59 ev1; exact hO.tr rfl) (lv_sub hl [0, 1, 2, 3, 4, 5, 6] rfl)
      refine lv_if_eq (tgt := 58) hx hb dModel_lookSum_41 (by decide) (fun c491 => ?_) (fun c491 => ?_)
      · exact J58 ls (by subst ev115 ev59 ev1; exact hO.tr (if_pos c491)) (lv_sub hl [1, 2, 3, 4, 5, 6, 0] rfl)
      · refine lv_aload_n hx hb dModel_lookSum_44 rfl (lv_at hl 1 rfl) ?_
        refine md_gA S hC hM 11 (by decide) rfl qw_88b9028ba7 dModel_lookSum_45 ?_
        refine lv_iload hx hb dModel_lookSum_48 (lv_at hl 5 rfl) ?_
        refine md_zld S hC hM 11 7 10000 (F 11) rfl rfl (by decide) rfl rfl (vin (by assumption) (by omega)) dModel_lookSum_50 ?_
        refine lv_topi (fun v492 ev492 => ?_)
        refine lv_if_eq (tgt := 58) hx hb dModel_lookSum_51 (by decide) (fun c493 => ?_) (fun c493 => ?_)
        · exact J58 ls (by subst ev492 ev115 ev59 ev1; exact hO.tr ((if_neg c491).trans (if_pos c493))) (lv_sub hl [1, 2, 3, 4, 5, 6, 0] rfl)
        · refine lv_iconst (v := 1) hx hb dModel_lookSum_54 (by decide) ?_
          refine lv_goto (tgt := 59) hx hb dModel_lookSum_55 (by decide) ?_
          exact J59 ls 1 (by subst ev492 ev115 ev59 ev1; exact hO.tr ((if_neg c491).trans (if_neg c493))) (lv_sub hl [1, 2, 3, 4, 5, 6, 0] rfl)
    refine lv_icmp_ne (tgt := 32) hx hb dModel_lookSum_25 (by decide) (fun c494 => ?_) (fun c494 => ?_)
    · refine lv_iconst (v := 0) hx hb dModel_lookSum_32 (by decide) ?_
      exact J33 ls 0 (by subst ev59 ev1; exact hO.tr (if_neg c494)) (lv_sub hl [1, 2, 3, 4, 5, 0] rfl)
    · refine lv_iconst (v := 1) hx hb dModel_lookSum_28 (by decide) ?_
      refine lv_goto (tgt := 33) hx hb dModel_lookSum_29 (by decide) ?_
      exact J33 ls 1 (by subst ev59 ev1; exact hO.tr (if_pos c494)) (lv_sub hl [1, 2, 3, 4, 5, 0] rfl)
  refine lv_icmp_ne (tgt := 14) hx hb dModel_lookSum_7 (by decide) (fun c495 => ?_) (fun c495 => ?_)
  · refine lv_iconst (v := 0) hx hb dModel_lookSum_14 (by decide) ?_
    exact J15 ls 0 (by subst ev1; exact hO.tr (if_neg c495)) (lv_sub hl [0, 1, 2, 3, 4] rfl)
  · refine lv_iconst (v := 1) hx hb dModel_lookSum_10 (by decide) ?_
    refine lv_goto (tgt := 15) hx hb dModel_lookSum_11 (by decide) ?_
    exact J15 ls 1 (by subst ev1; exact hO.tr (if_pos c495)) (lv_sub hl [0, 1, 2, 3, 4] rfl)
def Q_lookJoined_220 (κ : Nat → Nat) (τ : gf) (σ : Nat → Int32) (F : gf) (nu : gg) (x1 : Int32) (x2 : Int32) (x3 : Int32) (t0_59 : Int32) (t0_80 : Int32) (t0_125 : Int32) (F_131 : gf) (i6_131 : Int32) (F_180 : gf) (i6_180 : Int32) (k180 : gf → Int32 → Int32 × (Nat → Int32) × gf × gg) (t0_220 : Int32) : Int32 × (Nat → Int32) × gf × gg := (k180 ((Q_setElement κ τ σ F_180 ((Q_fact κ τ σ F nu x1 3 (t0_59 + t0_80) t0_125).2.2) x1 (t0_80 + i6_180) t0_220).2.1) (i6_180 + 1))
def Q_lookJoined_180 (κ : Nat → Nat) (τ : gf) (σ : Nat → Int32) (F : gf) (nu : gg) (x1 : Int32) (x2 : Int32) (x3 : Int32) (t0_59 : Int32) (t0_80 : Int32) (t0_125 : Int32) (F_131 : gf) (i6_131 : Int32) : Nat → gf → Int32 → Int32 × (Nat → Int32) × gf × gg
  | 0, _, _ => default
  | n + 1, F_180, i6_180 => (if t0_59 ≤ i6_180 then ((Q_known κ τ σ F_180 ((Q_fact κ τ σ F nu x1 3 (t0_59 + t0_80) t0_125).2.2) x1).1, σ, ((Q_known κ τ σ F_180 ((Q_fact κ τ σ F nu x1 3 (t0_59 + t0_80) t0_125).2.2) x1).2.2.1), ((Q_known κ τ σ F_180 ((Q_fact κ τ σ F nu x1 3 (t0_59 + t0_80) t0_125).2.2) x1).2.2.2)) else (if (F_180 9 x2.toNatClampNeg) = 0 then (Q_lookJoined_220 κ τ σ F nu x1 x2 x3 t0_59 t0_80 t0_125 F_131 i6_131 F_180 i6_180 (fun a0 a1 => Q_lookJoined_180 κ τ σ F nu x1 x2 x3 t0_59 t0_80 t0_125 F_131 i6_131  n a0 a1) ((((Q_fact κ τ σ F nu x1 3 (t0_59 + t0_80) t0_125).2.2) x2.toNatClampNeg).toInt32)) else (Q_lookJoined_220 κ τ σ F nu x1 x2 x3 t0_59 t0_80 t0_125 F_131 i6_131 F_180 i6_180 (fun a0 a1 => Q_lookJoined_180 κ τ σ F nu x1 x2 x3 t0_59 t0_80 t0_125 F_131 i6_131  n a0 a1) (Q_element κ τ σ F_180 ((Q_fact κ τ σ F nu x1 3 (t0_59 + t0_80) t0_125).2.2) x2 i6_180))))
def Q_lookJoined_168 (κ : Nat → Nat) (τ : gf) (σ : Nat → Int32) (F : gf) (nu : gg) (x1 : Int32) (x2 : Int32) (x3 : Int32) (t0_59 : Int32) (t0_80 : Int32) (t0_125 : Int32) (F_131 : gf) (i6_131 : Int32) (k131 : gf → Int32 → Int32 × (Nat → Int32) × gf × gg) (t0_168 : Int32) : Int32 × (Nat → Int32) × gf × gg := (k131 ((Q_setElement κ τ σ F_131 ((Q_fact κ τ σ F nu x1 3 (t0_59 + t0_80) t0_125).2.2) x1 i6_131 t0_168).2.1) (i6_131 + 1))
def Q_lookJoined_131 (κ : Nat → Nat) (τ : gf) (σ : Nat → Int32) (F : gf) (nu : gg) (x1 : Int32) (x2 : Int32) (x3 : Int32) (t0_59 : Int32) (t0_80 : Int32) (t0_125 : Int32) : Nat → gf → Int32 → Int32 × (Nat → Int32) × gf × gg
  | 0, _, _ => default
  | n + 1, F_131, i6_131 => (if t0_80 ≤ i6_131 then (Q_lookJoined_180 κ τ σ F nu x1 x2 x3 t0_59 t0_80 t0_125 F_131 i6_131  ((2147483647 - (0 : Int32).toInt).toNat + 1) F_131 0) else (if (F_131 9 x3.toNatClampNeg) = 0 then (Q_lookJoined_168 κ τ σ F nu x1 x2 x3 t0_59 t0_80 t0_125 F_131 i6_131 (fun a0 a1 => Q_lookJoined_131 κ τ σ F nu x1 x2 x3 t0_59 t0_80 t0_125  n a0 a1) ((((Q_fact κ τ σ F nu x1 3 (t0_59 + t0_80) t0_125).2.2) x3.toNatClampNeg).toInt32)) else (Q_lookJoined_168 κ τ σ F nu x1 x2 x3 t0_59 t0_80 t0_125 F_131 i6_131 (fun a0 a1 => Q_lookJoined_131 κ τ σ F nu x1 x2 x3 t0_59 t0_80 t0_125  n a0 a1) (Q_element κ τ σ F_131 ((Q_fact κ τ σ F nu x1 3 (t0_59 + t0_80) t0_125).2.2) x3 i6_131))))
def Q_lookJoined_125 (κ : Nat → Nat) (τ : gf) (σ : Nat → Int32) (F : gf) (nu : gg) (x1 : Int32) (x2 : Int32) (x3 : Int32) (t0_59 : Int32) (t0_80 : Int32) (t0_125 : Int32) : Int32 × (Nat → Int32) × gf × gg := (Q_lookJoined_131 κ τ σ F nu x1 x2 x3 t0_59 t0_80 t0_125  ((2147483647 - (0 : Int32).toInt).toNat + 1) ((Q_fact κ τ σ F nu x1 3 (t0_59 + t0_80) t0_125).2.1) 0)
def Q_lookJoined_124 (κ : Nat → Nat) (τ : gf) (σ : Nat → Int32) (F : gf) (nu : gg) (x1 : Int32) (x2 : Int32) (x3 : Int32) (t0_59 : Int32) (t0_80 : Int32) : Int32 × (Nat → Int32) × gf × gg := (Q_lookJoined_125 κ τ σ F nu x1 x2 x3 t0_59 t0_80  0)
def Q_lookJoined_80 (κ : Nat → Nat) (τ : gf) (σ : Nat → Int32) (F : gf) (nu : gg) (x1 : Int32) (x2 : Int32) (x3 : Int32) (t0_59 : Int32) (t0_80 : Int32) : Int32 × (Nat → Int32) × gf × gg := (if (t0_59 + t0_80) ≤ 64 then (if (F 11 x2.toNatClampNeg) = 0 then (Q_lookJoined_124 κ τ σ F nu x1 x2 x3 t0_59 t0_80  ) else (if (F 11 x3.toNatClampNeg) = 0 then (Q_lookJoined_124 κ τ σ F nu x1 x2 x3 t0_59 t0_80  ) else (Q_lookJoined_125 κ τ σ F nu x1 x2 x3 t0_59 t0_80  1))) else (4, σ, F, nu))
def Q_lookJoined_59 (κ : Nat → Nat) (τ : gf) (σ : Nat → Int32) (F : gf) (nu : gg) (x1 : Int32) (x2 : Int32) (x3 : Int32) (t0_59 : Int32) : Int32 × (Nat → Int32) × gf × gg := (if (F 9 x3.toNatClampNeg) = 0 then (Q_lookJoined_80 κ τ σ F nu x1 x2 x3 t0_59  1) else (Q_lookJoined_80 κ τ σ F nu x1 x2 x3 t0_59  (F 10 x3.toNatClampNeg)))
def Q_lookJoined_40 (κ : Nat → Nat) (τ : gf) (σ : Nat → Int32) (F : gf) (nu : gg) (x1 : Int32) (x2 : Int32) (x3 : Int32) : Int32 × (Nat → Int32) × gf × gg := (if (F 9 x2.toNatClampNeg) = 0 then (Q_lookJoined_59 κ τ σ F nu x1 x2 x3  1) else (Q_lookJoined_59 κ τ σ F nu x1 x2 x3  (F 10 x2.toNatClampNeg)))
def Q_lookJoined_19 (κ : Nat → Nat) (τ : gf) (σ : Nat → Int32) (F : gf) (nu : gg) (x1 : Int32) (x2 : Int32) (x3 : Int32) : Int32 × (Nat → Int32) × gf × gg := (if (F 9 x3.toNatClampNeg) = 0 then (Q_lookJoined_40 κ τ σ F nu x1 x2 x3  ) else (if (F 9 x3.toNatClampNeg) = 3 then (Q_lookJoined_40 κ τ σ F nu x1 x2 x3  ) else (3, σ, F, nu)))
def Q_lookJoined (κ : Nat → Nat) (τ : gf) (σ : Nat → Int32) (F : gf) (nu : gg) (x1 : Int32) (x2 : Int32) (x3 : Int32) : Int32 × (Nat → Int32) × gf × gg := (if (F 9 x2.toNatClampNeg) = 0 then (Q_lookJoined_19 κ τ σ F nu x1 x2 x3  ) else (if (F 9 x2.toNatClampNeg) = 3 then (Q_lookJoined_19 κ τ σ F nu x1 x2 x3  ) else (3, σ, F, nu)))
set_option maxHeartbeats 4000000 in
set_option maxRecDepth 100000 in
theorem n_lookJoined (l : Launch) (γ : gE) (a : Nat) (B : Nat → Nat) (Z : Nat → Prop) (κ b mn : Nat → Nat) (ν : Nat → Int32) (τ : Nat → Nat → Int32) (σ : Nat → Int32) (F : Nat → Nat → Int32) (nu : Nat → Int64) (hT : ST κ b mn ν τ) (x1 : Int32) (x2 : Int32) (x3 : Int32) (hx1 : vp_in x1 (κ 0)) (hx2 : vp_in x2 (κ 0)) (hx3 : vp_in x3 (κ 0)) (ha : x2.toNatClampNeg < x1.toNatClampNeg) (hbk : x3.toNatClampNeg < x1.toNatClampNeg) (hZ : SZ F) (hF : FD σ) : MU l yModel_lookJoined bModel_lookJoined 7 (some .int) 2 48 0 0 [.ref a, .int x1, .int x2, .int x3] γ Z (MD γ a B Z ν τ σ F nu) (mQi (fun r H => ∃ (σ' : Nat → Int32) (F' : Nat → Nat → Int32) (nu' : Nat → Int64), Oq (Q_lookJoined κ τ σ F nu x1 x2 x3) (r, σ', F', nu') ∧ MD γ a B Z ν τ σ' F' nu' H ∧ SZ F' ∧ FD σ' ∧ SL x1.toNatClampNeg F nu F' nu' ∧ (¬ 0 < r → GK x1.toNatClampNeg F' nu')) Z) := by
  refine mu_openI (by decide) (Nat.le_of_ble_eq_true rfl) ?_
  intro p e s m args below meth c ls Q S hnm hC hA hM hE hl
  have hS : va_S Z s.heap s.heap [] := va_S.rf
  obtain ⟨hx, hb, hml, hown, hW⟩ := id S
  obtain ⟨⟨hs0, hs1, hs2, hs3, hs4, hs5, hs6⟩, ⟨hv6, hv8, hv21, hv24, hv30, hv31⟩, hTR, hTY, hOB, hNM⟩ := id hT
  have hL : SL x1.toNatClampNeg F nu F nu := SL.rf
  have hl : lv_has ls 7 [(0, .ref a), (1, .int x1), (2, .int x2), (3, .int x3)] := hl
  obtain ⟨OUT, hQ, hO⟩ : ∃ z, (z = Q_lookJoined κ τ σ F nu x1 x2 x3) ∧ Oq z (Q_lookJoined κ τ σ F nu x1 x2 x3) := ⟨_, rfl, rfl⟩
  rw [← hQ] at hE
  clear hQ
  refine lv_aload_n hx hb dModel_lookJoined_0 rfl (lv_at hl 0 rfl) ?_
  refine md_gA S hC hM 9 (by decide) rfl qw_a119aeeca0 dModel_lookJoined_1 ?_
  refine lv_iload_n hx hb dModel_lookJoined_4 rfl (lv_at hl 2 rfl) ?_
  refine md_ild S hC hM 9 5 10000 (F 9) rfl rfl (by decide) rfl rfl (vin (by assumption) (by omega)) dModel_lookJoined_5 ?_
  refine lv_topi (fun v1 ev1 => ?_)
  have J19 : ∀ (ls : Array Slot), (Oq OUT (Q_lookJoined_19 κ τ σ F nu x1 x2 x3   )) → lv_has ls 7 [(0, .ref a), (1, .int x1), (2, .int x2), (3, .int x3)] → W p l e (bs_rm 2 0 0 48) s m args below meth c s.heap [] 0 0 Q (F0 m 19 ls []) := by
    intro ls hO hl
    refine lv_aload_n hx hb dModel_lookJoined_19 rfl (lv_at hl 0 rfl) ?_
    refine md_gA S hC hM 9 (by decide) rfl qw_a119aeeca0 dModel_lookJoined_20 ?_
    refine lv_iload_n hx hb dModel_lookJoined_23 rfl (lv_at hl 3 rfl) ?_
    refine md_ild S hC hM 9 5 10000 (F 9) rfl rfl (by decide) rfl rfl (vin (by assumption) (by omega)) dModel_lookJoined_24 ?_
    refine lv_topi (fun v41 ev41 => ?_)
    have J40 : ∀ (ls : Array Slot), (Oq OUT (Q_lookJoined_40 κ τ σ F nu x1 x2 x3   )) → lv_has ls 7 [(0, .ref a), (1, .int x1), (2, .int x2), (3, .int x3)] → W p l e (bs_rm 2 0 0 48) s m args below meth c s.heap [] 0 0 Q (F0 m 40 ls []) := by
      intro ls hO hl
      refine lv_aload_n hx hb dModel_lookJoined_40 rfl (lv_at hl 0 rfl) ?_
      refine md_gA S hC hM 9 (by decide) rfl qw_a119aeeca0 dModel_lookJoined_41 ?_
      refine lv_iload_n hx hb dModel_lookJoined_44 rfl (lv_at hl 2 rfl) ?_
      refine md_ild S hC hM 9 5 10000 (F 9) rfl rfl (by decide) rfl rfl (vin (by assumption) (by omega)) dModel_lookJoined_45 ?_
      refine lv_topi (fun v77 ev77 => ?_)
      have J59 : ∀ (ls : Array Slot) (t0_59 : Int32), (∃ j, j ≤ 1000 ∧ t0_59 = nI j) → (Oq OUT (Q_lookJoined_59 κ τ σ F nu x1 x2 x3   t0_59)) → lv_has ls 7 [(0, .ref a), (1, .int x1), (2, .int x2), (3, .int x3)] → W p l e (bs_rm 2 0 0 48) s m args below meth c s.heap [] 0 0 Q (F0 m 59 ls [.int t0_59]) := by
        intro ls t0_59 ht0_59 hO hl
        refine lv_istore (lv' := [(4, .int t0_59), (0, .ref a), (1, .int x1), (2, .int x2), (3, .int x3)]) hx hb dModel_lookJoined_59 hl (by decide) rfl (fun ls hl => ?_)
        refine lv_aload_n hx hb dModel_lookJoined_61 rfl (lv_at hl 1 rfl) ?_
        refine md_gA S hC hM 9 (by decide) rfl qw_a119aeeca0 dModel_lookJoined_62 ?_
        refine lv_iload_n hx hb dModel_lookJoined_65 rfl (lv_at hl 4 rfl) ?_
        refine md_ild S hC hM 9 5 10000 (F 9) rfl rfl (by decide) rfl rfl (vin (by assumption) (by omega)) dModel_lookJoined_66 ?_
        refine lv_topi (fun v109 ev109 => ?_)
        have J80 : ∀ (ls : Array Slot) (t0_80 : Int32), (∃ j, j ≤ 1000 ∧ t0_80 = nI j) → (Oq OUT (Q_lookJoined_80 κ τ σ F nu x1 x2 x3 t0_59   t0_80)) → lv_has ls 7 [(0, .ref a), (1, .int x1), (2, .int x2), (3, .int x3), (4, .int t0_59)] → W p l e (bs_rm 2 0 0 48) s m args below meth c s.heap [] 0 0 Q (F0 m 80 ls [.int t0_80]) := by
          intro ls t0_80 ht0_80 hO hl
          refine lv_istore (lv' := [(5, .int t0_80), (0, .ref a), (1, .int x1), (2, .int x2), (3, .int x3), (4, .int t0_59)]) hx hb dModel_lookJoined_80 hl (by decide) rfl (fun ls hl => ?_)
          refine lv_iload hx hb dModel_lookJoined_82 (lv_at hl 5 rfl) ?_
          refine lv_iload hx hb dModel_lookJoined_84 (lv_at hl 0 rfl) ?_
          refine lv_iadd hx hb dModel_lookJoined_86 ?_
          refine lv_topi (fun v138 ev138 => ?_)
          refine lv_bipush (v := 64) hx hb dModel_lookJoined_87 (by decide) ?_
          refine lv_icmp_le (tgt := 94) hx hb dModel_lookJoined_89 (by decide) (fun c139 => ?_) (fun c139 => ?_)
          · refine lv_aload_n hx hb dModel_lookJoined_94 rfl (lv_at hl 1 rfl) ?_
            refine lv_iload_n hx hb dModel_lookJoined_95 rfl (lv_at hl 2 rfl) ?_
            refine lv_iconst (v := 3) hx hb dModel_lookJoined_96 (by decide) ?_
            refine lv_iload hx hb dModel_lookJoined_97 (lv_at hl 5 rfl) ?_
            refine lv_iload hx hb dModel_lookJoined_99 (lv_at hl 0 rfl) ?_
            refine lv_iadd hx hb dModel_lookJoined_101 ?_
            refine lv_topi (fun v140 ev140 => ?_)
            refine lv_aload_n hx hb dModel_lookJoined_102 rfl (lv_at hl 1 rfl) ?_
            refine md_gA S hC hM 11 (by decide) rfl qw_88b9028ba7 dModel_lookJoined_103 ?_
            refine lv_iload_n hx hb dModel_lookJoined_106 rfl (lv_at hl 3 rfl) ?_
            refine md_zld S hC hM 11 7 10000 (F 11) rfl rfl (by decide) rfl rfl (vin (by assumption) (by omega)) dModel_lookJoined_107 ?_
            refine lv_topi (fun v141 ev141 => ?_)
            have J125 : ∀ (ls : Array Slot) (t0_125 : Int32), (Oq OUT (Q_lookJoined_125 κ τ σ F nu x1 x2 x3 t0_59 t0_80   t0_125)) → lv_has ls 7 [(0, .ref a), (1, .int x1), (2, .int x2), (3, .int x3), (4, .int t0_59), (5, .int t0_80)] → W p l e (bs_rm 2 0 0 48) s m args below meth c s.heap [] 0 0 Q (F0 m 125 ls [.int t0_125, .int v140, .int 3, .int x1, .ref a]) := by
              intro ls t0_125 hO hl
              have hnr164 : ∃ j, j ≤ 1000 ∧ v140 = nI j := (jn_ok ht0_59 ht0_80 ev138 (by assumption) ev140)
              refine mu_Vv (rest := []) S hC (fun q h => hA q (Nat.le_trans hS.1 h)) (fun q h => h) hS (n_fact l γ a B Z κ b mn ν τ σ F nu hT x1 3 v140 t0_125 (vin (by assumption) (by omega)) hnr164) meModel_fact qw_02871250ec ⟨Nat.le_of_ble_eq_true rfl, Nat.le_of_ble_eq_true rfl⟩ (md_rv hC hM) hM rfl hl.1 rfl (Nat.le_of_ble_eq_true rfl) dModel_lookJoined_125 ⟨Nat.le_refl _, Nat.le_refl _⟩ (fun H locs hPO hS _ _ => ?_)
              obtain ⟨Fr164, nur164, eOr164, hM, hqr164, hcr164⟩ := hPO
              have eFr164 : Fr164 = (Q_fact κ τ σ F nu x1 3 v140 t0_125).2.1 := by rw [eOr164.eq]
              have enur164 : nur164 = (Q_fact κ τ σ F nu x1 3 v140 t0_125).2.2 := by rw [eOr164.eq]
              clear eOr164
              have hZ : SZ Fr164 := hZ.slt hqr164 hnr164
              have hL : SL x1.toNatClampNeg F nu Fr164 nur164 := hL.trans (SL.slt hqr164)
              have hK : GK x1.toNatClampNeg Fr164 nur164 := GK.zero hqr164
              refine lv_iconst (v := 0) hx hb dModel_lookJoined_128 (by decide) ?_
              refine lv_istore (lv' := [(6, .int 0), (0, .ref a), (1, .int x1), (2, .int x2), (3, .int x3), (4, .int t0_59), (5, .int t0_80)]) hx hb dModel_lookJoined_129 hl (by decide) rfl (fun ls hl => ?_)
              have J131 : ∀ (N131 : Nat) (ls : Array Slot) (H : Heap) (locs : List Loc) (F_131 : Nat → Nat → Int32) (i6_131 : Int32), MD γ a B Z ν τ σ F_131 nur164 H → va_S Z s.heap H locs → (GK x1.toNatClampNeg F_131 nur164) → (SL x1.toNatClampNeg F nu F_131 nur164) → (SZ F_131) → (¬ i6_131 < 0) → (Oq OUT (Q_lookJoined_131 κ τ σ F nu x1 x2 x3 t0_59 t0_80 t0_125  (N131 + 1) F_131 i6_131)) → (2147483647 - i6_131.toInt).toNat = N131 → lv_has ls 7 [(0, .ref a), (1, .int x1), (2, .int x2), (3, .int x3), (4, .int t0_59), (5, .int t0_80), (6, .int i6_131)] → W p l e (bs_rm 2 0 0 48) s m args below meth c H locs 0 0 Q (F0 m 131 ls []) := by
                intro N131
                induction N131 using Nat.strongRecOn with
                | ind N131 ih131 =>
                  intro ls H locs F_131 i6_131 hM hS hK hL hZ hi6_131 hO hm131 hl
                  refine lv_iload hx hb dModel_lookJoined_131 (lv_at hl 6 rfl) ?_
                  refine lv_iload hx hb dModel_lookJoined_133 (lv_at hl 5 rfl) ?_
                  refine lv_icmp_ge (tgt := 177) hx hb dModel_lookJoined_135 (by decide) (fun c165 => ?_) (fun c165 => ?_)
                  · refine lv_iconst (v := 0) hx hb dModel_lookJoined_177 (by decide) ?_
                    refine lv_istore (lv' := [(6, .int 0), (0, .ref a), (1, .int x1), (2, .int x2), (3, .int x3), (4, .int t0_59), (5, .int t0_80)]) hx hb dModel_lookJoined_178 hl (by decide) rfl (fun ls hl => ?_)
                    have J180 : ∀ (N180 : Nat) (ls : Array Slot) (H : Heap) (locs : List Loc) (F_180 : Nat → Nat → Int32) (i6_180 : Int32), MD γ a B Z ν τ σ F_180 nur164 H → va_S Z s.heap H locs → (GK x1.toNatClampNeg F_180 nur164) → (SL x1.toNatClampNeg F nu F_180 nur164) → (SZ F_180) → (¬ i6_180 < 0) → (Oq OUT (Q_lookJoined_180 κ τ σ F nu x1 x2 x3 t0_59 t0_80 t0_125 F_131 i6_131  (N180 + 1) F_180 i6_180)) → (2147483647 - i6_180.toInt).toNat = N180 → lv_has ls 7 [(0, .ref a), (1, .int x1), (2, .int x2), (3, .int x3), (4, .int t0_59), (5, .int t0_80), (6, .int i6_180)] → W p l e (bs_rm 2 0 0 48) s m args below meth c H locs 0 0 Q (F0 m 180 ls []) := by
                      intro N180
                      induction N180 using Nat.strongRecOn with
                      | ind N180 ih180 =>
                        intro ls H locs F_180 i6_180 hM hS hK hL hZ hi6_180 hO hm180 hl
                        refine lv_iload hx hb dModel_lookJoined_180 (lv_at hl 6 rfl) ?_
                        refine lv_iload hx hb dModel_lookJoined_182 (lv_at hl 4 rfl) ?_
                        refine lv_icmp_ge (tgt := 229) hx hb dModel_lookJoined_184 (by decide) (fun c166 => ?_) (fun c166 => ?_)
                        · refine lv_aload_n hx hb dModel_lookJoined_229 rfl (lv_at hl 0 rfl) ?_
                          refine lv_iload_n hx hb dModel_lookJoined_230 rfl (lv_at hl 1 rfl) ?_
                          refine mu_Vi (rest := []) S hC (fun q h => hA q (Nat.le_trans hS.1 h)) (fun q h => h) hS (n_known l γ a B Z κ b mn ν τ σ F_180 nur164 hT x1 (vin (by assumption) (by omega))) meModel_known qw_aa15322dc3 ⟨Nat.le_of_ble_eq_true rfl, Nat.le_of_ble_eq_true rfl⟩ (md_rv hC hM) hM rfl hl.1 rfl (Nat.le_of_ble_eq_true rfl) dModel_lookJoined_231 ⟨Nat.le_refl _, Nat.le_refl _⟩ (fun r167 H locs hPO hS _ _ => ?_)
                          obtain ⟨hrr167, Fr167, nur167, eOr167, hM, hqr167, hnr167⟩ := hPO
                          have er167 : r167 = (Q_known κ τ σ F_180 nur164 x1).1 := by rw [eOr167.eq]
                          have eFr167 : Fr167 = (Q_known κ τ σ F_180 nur164 x1).2.2.1 := by rw [eOr167.eq]
                          have enur167 : nur167 = (Q_known κ τ σ F_180 nur164 x1).2.2.2 := by rw [eOr167.eq]
                          clear eOr167
                          have hZ : SZ Fr167 := hZ.e14 hqr167
                          have hL : SL x1.toNatClampNeg F nu Fr167 nur167 := hL.trans (SL.kn hqr167 hnr167)
                          have hK : GK x1.toNatClampNeg Fr167 nur167 := hK.kn hqr167 hnr167
                          exact hE _ _ _ _ _ hS ⟨σ, Fr167, nur167, (by subst enur167 eFr167 er167 enur164 eFr164 ev141 ev140 ev138 ev109 ev77 ev41 ev1; exact hO.tr (if_pos c166)), hM, hZ, hF, hL, (fun _ => hK)⟩ dModel_lookJoined_234
                        · have hin6 : vp_in i6_180 1000 := vle ht0_59 (by assumption) (by assumption)
                          refine lv_aload_n hx hb dModel_lookJoined_187 rfl (lv_at hl 0 rfl) ?_
                          refine lv_iload_n hx hb dModel_lookJoined_188 rfl (lv_at hl 1 rfl) ?_
                          refine lv_iload hx hb dModel_lookJoined_189 (lv_at hl 5 rfl) ?_
                          refine lv_iload hx hb dModel_lookJoined_191 (lv_at hl 6 rfl) ?_
                          refine lv_iadd hx hb dModel_lookJoined_193 ?_
                          refine lv_topi (fun v168 ev168 => ?_)
                          have hqi : vp_in v168 2000 := vadd ht0_80 hin6 ev168
                          refine lv_aload_n hx hb dModel_lookJoined_194 rfl (lv_at hl 0 rfl) ?_
                          refine md_gA S hC hM 9 (by decide) rfl qw_a119aeeca0 dModel_lookJoined_195 ?_
                          refine lv_iload_n hx hb dModel_lookJoined_198 rfl (lv_at hl 2 rfl) ?_
                          refine md_ild S hC hM 9 5 10000 (F_180 9) rfl rfl (by decide) rfl rfl (vin (by assumption) (by omega)) dModel_lookJoined_199 ?_
                          refine lv_topi (fun v169 ev169 => ?_)
                          have J220 : ∀ (ls : Array Slot) (t0_220 : Int32), (Oq OUT (Q_lookJoined_220 κ τ σ F nu x1 x2 x3 t0_59 t0_80 t0_125 F_131 i6_131 F_180 i6_180 (fun a0 a1 => Q_lookJoined_180 κ τ σ F nu x1 x2 x3 t0_59 t0_80 t0_125 F_131 i6_131  N180 a0 a1)  t0_220)) → lv_has ls 7 [(0, .ref a), (1, .int x1), (2, .int x2), (3, .int x3), (4, .int t0_59), (5, .int t0_80), (6, .int i6_180)] → W p l e (bs_rm 2 0 0 48) s m args below meth c H locs 0 0 Q (F0 m 220 ls [.int t0_220, .int v168, .int x1, .ref a]) := by
                            intro ls t0_220 hO hl
                            refine mu_Vv (rest := []) S hC (fun q h => hA q (Nat.le_trans hS.1 h)) (fun q h => h) hS (n_setElement l γ a B Z κ b mn ν τ σ F_180 nur164 hT x1 v168 t0_220 (el_in (by assumption) (by assumption) (by omega))) meModel_setElement qw_143403ccb9 ⟨Nat.le_of_ble_eq_true rfl, Nat.le_of_ble_eq_true rfl⟩ (md_rv hC hM) hM rfl hl.1 rfl (Nat.le_of_ble_eq_true rfl) dModel_lookJoined_220 ⟨Nat.le_refl _, Nat.le_refl _⟩ (fun H locs hPO hS _ _ => ?_)
                            obtain ⟨Fr176, eOr176, hM, hqr176⟩ := hPO
                            have eFr176 : Fr176 = (Q_setElement κ τ σ F_180 nur164 x1 v168 t0_220).2.1 := by rw [eOr176.eq]
                            clear eOr176
                            have hZ : SZ Fr176 := hZ.e14 hqr176
                            have hL : SL x1.toNatClampNeg F nu Fr176 nur164 := hL.trans (SL.e14 hqr176)
                            have hK : GK x1.toNatClampNeg Fr176 nur164 := hK.e14 hqr176
                            obtain ⟨v177, ev177⟩ : ∃ y : Int32, y = i6_180 + 1 := ⟨_, rfl⟩
                            refine lv_iinc (v := v177) (lv' := [(6, .int v177), (0, .ref a), (1, .int x1), (2, .int x2), (3, .int x3), (4, .int t0_59), (5, .int t0_80)]) hx hb dModel_lookJoined_223 hl (k := 6) rfl (by rw [ev177]; rfl) (by decide) rfl (fun ls hl => ?_)
                            refine lv_goto (tgt := 180) hx hb dModel_lookJoined_226 (by decide) ?_
                            exact ih180 _ (by have q1 : i6_180.toInt < 2147483647 := (by first | assumption | exact (mu_up (k := i6_180) (by assumption)).2); have q2 := mu_lt q1; rw [← ev177] at q2; omega) ls _ _ Fr176 v177 hM hS hK hL hZ (by first | decide | exact nn_inc (by assumption) (by assumption) (by assumption)) (by have hN : N180 = (2147483647 - v177.toInt).toNat + 1 := (by have q1 : i6_180.toInt < 2147483647 := (by first | assumption | exact (mu_up (k := i6_180) (by assumption)).2); have q2 := mu_lt q1; rw [← ev177] at q2; omega); rw [← hN]; clear hN; subst ev177 eFr176 ev169 ev168 enur164 eFr164 ev141 ev140 ev138 ev109 ev77 ev41 ev1; exact hO.tr rfl) rfl (lv_sub hl [1, 2, 3, 4, 5, 6, 0] rfl)
                          refine lv_if_ne (tgt := 213) hx hb dModel_lookJoined_200 (by decide) (fun c178 => ?_) (fun c178 => ?_)
                          · refine lv_aload_n hx hb dModel_lookJoined_213 rfl (lv_at hl 0 rfl) ?_
                            refine lv_iload_n hx hb dModel_lookJoined_214 rfl (lv_at hl 2 rfl) ?_
                            refine lv_iload hx hb dModel_lookJoined_215 (lv_at hl 6 rfl) ?_
                            refine pu_Vi (rest := [.int v168, .int x1, .ref a]) S hC (n_element l γ a B Z κ b mn ν τ σ F_180 nur164 hT x2 i6_180 (el_in (by assumption) (by assumption) (by omega))) meModel_element qw_ceb3d87d61 ⟨Nat.le_of_ble_eq_true rfl, Nat.le_of_ble_eq_true rfl⟩ (md_rv hC hM) hM rfl hl.1 rfl (Nat.le_of_ble_eq_true rfl) dModel_lookJoined_217 ⟨Nat.zero_le _, Nat.zero_le _⟩ (fun r179 hr179 => ?_)
                            obtain ⟨hr179, er179⟩ := hr179
                            exact J220 ls r179 (by subst er179 ev169 ev168 enur164 eFr164 ev141 ev140 ev138 ev109 ev77 ev41 ev1; exact hO.tr ((if_neg c166).trans (if_neg c178))) (lv_sub hl [0, 1, 2, 3, 4, 5, 6] rfl)
                          · refine lv_aload_n hx hb dModel_lookJoined_203 rfl (lv_at hl 0 rfl) ?_
                            refine md_gA S hC hM 13 (by decide) rfl qw_7b809afc8c dModel_lookJoined_204 ?_
                            refine lv_iload_n hx hb dModel_lookJoined_207 rfl (lv_at hl 2 rfl) ?_
                            refine md_lld S hC hM (vin (by assumption) (by omega)) dModel_lookJoined_208 ?_
                            refine lv_topl (fun v180 ev180 => ?_)
                            have ev180 : v180 = nur164 x2.toNatClampNeg := ev180
                            refine lv_l2i hx hb dModel_lookJoined_209 rfl ?_
                            refine lv_topi (fun v181 ev181 => ?_)
                            refine lv_goto (tgt := 220) hx hb dModel_lookJoined_210 (by decide) ?_
                            exact J220 ls v181 (by subst ev181 ev180 ev169 ev168 enur164 eFr164 ev141 ev140 ev138 ev109 ev77 ev41 ev1; exact hO.tr ((if_neg c166).trans (if_pos c178))) (lv_sub hl [0, 1, 2, 3, 4, 5, 6] rfl)
                    exact J180 _ ls _ _ F_131 0 hM hS hK hL hZ (by first | decide | exact nn_inc (by assumption) (by assumption) (by assumption)) (by subst enur164 eFr164 ev141 ev140 ev138 ev109 ev77 ev41 ev1; exact hO.tr (if_pos c165)) rfl (lv_sub hl [1, 2, 3, 4, 5, 6, 0] rfl)
                  · have hin6 : vp_in i6_131 1000 := vle ht0_80 (by assumption) (by assumption)
                    refine lv_aload_n hx hb dModel_lookJoined_138 rfl (lv_at hl 0 rfl) ?_
                    refine lv_iload_n hx hb dModel_lookJoined_139 rfl (lv_at hl 1 rfl) ?_
                    refine lv_iload hx hb dModel_lookJoined_140 (lv_at hl 6 rfl) ?_
                    refine lv_aload_n hx hb dModel_lookJoined_142 rfl (lv_at hl 0 rfl) ?_
                    refine md_gA S hC hM 9 (by decide) rfl qw_a119aeeca0 dModel_lookJoined_143 ?_
                    refine lv_iload_n hx hb dModel_lookJoined_146 rfl (lv_at hl 3 rfl) ?_
                    refine md_ild S hC hM 9 5 10000 (F_131 9) rfl rfl (by decide) rfl rfl (vin (by assumption) (by omega)) dModel_lookJoined_147 ?_
                    refine lv_topi (fun v182 ev182 => ?_)
                    have J168 : ∀ (ls : Array Slot) (t0_168 : Int32), (Oq OUT (Q_lookJoined_168 κ τ σ F nu x1 x2 x3 t0_59 t0_80 t0_125 F_131 i6_131 (fun a0 a1 => Q_lookJoined_131 κ τ σ F nu x1 x2 x3 t0_59 t0_80 t0_125  N131 a0 a1)  t0_168)) → lv_has ls 7 [(0, .ref a), (1, .int x1), (2, .int x2), (3, .int x3), (4, .int t0_59), (5, .int t0_80), (6, .int i6_131)] → W p l e (bs_rm 2 0 0 48) s m args below meth c H locs 0 0 Q (F0 m 168 ls [.int t0_168, .int i6_131, .int x1, .ref a]) := by
                      intro ls t0_168 hO hl
                      refine mu_Vv (rest := []) S hC (fun q h => hA q (Nat.le_trans hS.1 h)) (fun q h => h) hS (n_setElement l γ a B Z κ b mn ν τ σ F_131 nur164 hT x1 i6_131 t0_168 (el_in (by assumption) (by assumption) (by omega))) meModel_setElement qw_143403ccb9 ⟨Nat.le_of_ble_eq_true rfl, Nat.le_of_ble_eq_true rfl⟩ (md_rv hC hM) hM rfl hl.1 rfl (Nat.le_of_ble_eq_true rfl) dModel_lookJoined_168 ⟨Nat.le_refl _, Nat.le_refl _⟩ (fun H locs hPO hS _ _ => ?_)
                      obtain ⟨Fr189, eOr189, hM, hqr189⟩ := hPO
                      have eFr189 : Fr189 = (Q_setElement κ τ σ F_131 nur164 x1 i6_131 t0_168).2.1 := by rw [eOr189.eq]
                      clear eOr189
                      have hZ : SZ Fr189 := hZ.e14 hqr189
                      have hL : SL x1.toNatClampNeg F nu Fr189 nur164 := hL.trans (SL.e14 hqr189)
                      have hK : GK x1.toNatClampNeg Fr189 nur164 := hK.e14 hqr189
                      obtain ⟨v190, ev190⟩ : ∃ y : Int32, y = i6_131 + 1 := ⟨_, rfl⟩
                      refine lv_iinc (v := v190) (lv' := [(6, .int v190), (0, .ref a), (1, .int x1), (2, .int x2), (3, .int x3), (4, .int t0_59), (5, .int t0_80)]) hx hb dModel_lookJoined_171 hl (k := 6) rfl (by rw [ev190]; rfl) (by decide) rfl (fun ls hl => ?_)
                      refine lv_goto (tgt := 131) hx hb dModel_lookJoined_174 (by decide) ?_
                      exact ih131 _ (by have q1 : i6_131.toInt < 2147483647 := (by first | assumption | exact (mu_up (k := i6_131) (by assumption)).2); have q2 := mu_lt q1; rw [← ev190] at q2; omega) ls _ _ Fr189 v190 hM hS hK hL hZ (by first | decide | exact nn_inc (by assumption) (by assumption) (by assumption)) (by have hN : N131 = (2147483647 - v190.toInt).toNat + 1 := (by have q1 : i6_131.toInt < 2147483647 := (by first | assumption | exact (mu_up (k := i6_131) (by assumption)).2); have q2 := mu_lt q1; rw [← ev190] at q2; omega); rw [← hN]; clear hN; subst ev190 eFr189 ev182 enur164 eFr164 ev141 ev140 ev138 ev109 ev77 ev41 ev1; exact hO.tr rfl) rfl (lv_sub hl [1, 2, 3, 4, 5, 6, 0] rfl)
                    refine lv_if_ne (tgt := 161) hx hb dModel_lookJoined_148 (by decide) (fun c191 => ?_) (fun c191 => ?_)
                    · refine lv_aload_n hx hb dModel_lookJoined_161 rfl (lv_at hl 0 rfl) ?_
                      refine lv_iload_n hx hb dModel_lookJoined_162 rfl (lv_at hl 3 rfl) ?_
                      refine lv_iload hx hb dModel_lookJoined_163 (lv_at hl 6 rfl) ?_
                      refine pu_Vi (rest := [.int i6_131, .int x1, .ref a]) S hC (n_element l γ a B Z κ b mn ν τ σ F_131 nur164 hT x3 i6_131 (el_in (by assumption) (by assumption) (by omega))) meModel_element qw_ceb3d87d61 ⟨Nat.le_of_ble_eq_true rfl, Nat.le_of_ble_eq_true rfl⟩ (md_rv hC hM) hM rfl hl.1 rfl (Nat.le_of_ble_eq_true rfl) dModel_lookJoined_165 ⟨Nat.zero_le _, Nat.zero_le _⟩ (fun r192 hr192 => ?_)
                      obtain ⟨hr192, er192⟩ := hr192
                      exact J168 ls r192 (by subst er192 ev182 enur164 eFr164 ev141 ev140 ev138 ev109 ev77 ev41 ev1; exact hO.tr ((if_neg c165).trans (if_neg c191))) (lv_sub hl [0, 1, 2, 3, 4, 5, 6] rfl)
                    · refine lv_aload_n hx hb dModel_lookJoined_151 rfl (lv_at hl 0 rfl) ?_
                      refine md_gA S hC hM 13 (by decide) rfl qw_7b809afc8c dModel_lookJoined_152 ?_
                      refine lv_iload_n hx hb dModel_lookJoined_155 rfl (lv_at hl 3 rfl) ?_
                      refine md_lld S hC hM (vin (by assumption) (by omega)) dModel_lookJoined_156 ?_
                      refine lv_topl (fun v193 ev193 => ?_)
                      have ev193 : v193 = nur164 x3.toNatClampNeg := ev193
                      refine lv_l2i hx hb dModel_lookJoined_157 rfl ?_
                      refine lv_topi (fun v194 ev194 => ?_)
                      refine lv_goto (tgt := 168) hx hb dModel_lookJoined_158 (by decide) ?_
                      exact J168 ls v194 (by subst ev194 ev193 ev182 enur164 eFr164 ev141 ev140 ev138 ev109 ev77 ev41 ev1; exact hO.tr ((if_neg c165).trans (if_pos c191))) (lv_sub hl [0, 1, 2, 3, 4, 5, 6] rfl)
              exact J131 _ ls _ _ Fr164 0 hM hS hK hL hZ (by first | decide | exact nn_inc (by assumption) (by assumption) (by assumption)) (by subst enur164 eFr164 ev141 ev140 ev138 ev109 ev77 ev41 ev1; exact hO.tr rfl) rfl (lv_sub hl [1, 2, 3, 4, 5, 6, 0] rfl)
            have J124 : ∀ (ls : Array Slot), (Oq OUT (Q_lookJoined_124 κ τ σ F nu x1 x2 x3 t0_59 t0_80   )) → lv_has ls 7 [(0, .ref a), (1, .int x1), (2, .int x2), (3, .int x3), (4, .int t0_59), (5, .int t0_80)] → W p l e (bs_rm 2 0 0 48) s m args below meth c s.heap [] 0 0 Q (F0 m 124 ls [.int v140, .int 3, .int x1, .ref a]) := by
              intro ls hO hl
              refine lv_iconst (v := 0) hx hb dModel_lookJoined_124 (by decide) ?_
              exact J125 ls 0 (by subst ev141 ev140 ev138 ev109 ev77 ev41 ev1; exact hO.tr rfl) (lv_sub hl [0, 1, 2, 3, 4, 5] rfl)
            refine lv_if_eq (tgt := 124) hx hb dModel_lookJoined_108 (by decide) (fun c195 => ?_) (fun c195 => ?_)
            · exact J124 ls (by subst ev141 ev140 ev138 ev109 ev77 ev41 ev1; exact hO.tr ((if_pos c139).trans (if_pos c195))) (lv_sub hl [1, 2, 3, 4, 5, 0] rfl)
            · refine lv_aload_n hx hb dModel_lookJoined_111 rfl (lv_at hl 1 rfl) ?_
              refine md_gA S hC hM 11 (by decide) rfl qw_88b9028ba7 dModel_lookJoined_112 ?_
              refine lv_iload_n hx hb dModel_lookJoined_115 rfl (lv_at hl 4 rfl) ?_
              refine md_zld S hC hM 11 7 10000 (F 11) rfl rfl (by decide) rfl rfl (vin (by assumption) (by omega)) dModel_lookJoined_116 ?_
              refine lv_topi (fun v196 ev196 => ?_)
              refine lv_if_eq (tgt := 124) hx hb dModel_lookJoined_117 (by decide) (fun c197 => ?_) (fun c197 => ?_)
              · exact J124 ls (by subst ev196 ev141 ev140 ev138 ev109 ev77 ev41 ev1; exact hO.tr ((if_pos c139).trans ((if_neg c195).trans (if_pos c197)))) (lv_sub hl [1, 2, 3, 4, 5, 0] rfl)
              · refine lv_iconst (v := 1) hx hb dModel_lookJoined_120 (by decide) ?_
                refine lv_goto (tgt := 125) hx hb dModel_lookJoined_121 (by decide) ?_
                exact J125 ls 1 (by subst ev196 ev141 ev140 ev138 ev109 ev77 ev41 ev1; exact hO.tr ((if_pos c139).trans ((if_neg c195).trans (if_neg c197)))) (lv_sub hl [1, 2, 3, 4, 5, 0] rfl)
          · refine lv_iconst (v := 4) hx hb dModel_lookJoined_92 (by decide) ?_
            exact hE _ _ _ _ _ hS ⟨σ, F, nu, (by subst ev138 ev109 ev77 ev41 ev1; exact hO.tr (if_neg c139)), hM, hZ, hF, hL, (fun h9 => absurd (show (0 : Int32) < 4 by decide) h9)⟩ dModel_lookJoined_93
        refine lv_if_ne (tgt := 74) hx hb dModel_lookJoined_67 (by decide) (fun c198 => ?_) (fun c198 => ?_)
        · refine lv_aload_n hx hb dModel_lookJoined_74 rfl (lv_at hl 1 rfl) ?_
          refine md_gA S hC hM 10 (by decide) rfl qw_bd0251c605 dModel_lookJoined_75 ?_
          refine lv_iload_n hx hb dModel_lookJoined_78 rfl (lv_at hl 4 rfl) ?_
          refine md_ild S hC hM 10 6 10000 (F 10) rfl rfl (by decide) rfl rfl (vin (by assumption) (by omega)) dModel_lookJoined_79 ?_
          refine lv_topi (fun v199 ev199 => ?_)
          exact J80 ls v199 (by first | exact ⟨1, by omega, rfl⟩ | (rw [ev199]; exact hZ _ (vix (vin (by assumption) (by omega))))) (by subst ev199 ev109 ev77 ev41 ev1; exact hO.tr (if_neg c198)) (lv_sub hl [1, 2, 3, 4, 0] rfl)
        · refine lv_iconst (v := 1) hx hb dModel_lookJoined_70 (by decide) ?_
          refine lv_goto (tgt := 80) hx hb dModel_lookJoined_71 (by decide) ?_
          exact J80 ls 1 (by first | exact ⟨1, by omega, rfl⟩ | (rw [e1]; exact hZ _ (vix (vin (by assumption) (by omega))))) (by subst ev109 ev77 ev41 ev1; exact hO.tr (if_pos c198)) (lv_sub hl [1, 2, 3, 4, 0] rfl)
      refine lv_if_ne (tgt := 53) hx hb dModel_lookJoined_46 (by decide) (fun c200 => ?_) (fun c200 => ?_)
      · refine lv_aload_n hx hb dModel_lookJoined_53 rfl (lv_at hl 0 rfl) ?_
        refine md_gA S hC hM 10 (by decide) rfl qw_bd0251c605 dModel_lookJoined_54 ?_
        refine lv_iload_n hx hb dModel_lookJoined_57 rfl (lv_at hl 2 rfl) ?_
        refine md_ild S hC hM 10 6 10000 (F 10) rfl rfl (by decide) rfl rfl (vin (by assumption) (by omega)) dModel_lookJoined_58 ?_
        refine lv_topi (fun v201 ev201 => ?_)
        exact J59 ls v201 (by first | exact ⟨1, by omega, rfl⟩ | (rw [ev201]; exact hZ _ (vix (vin (by assumption) (by omega))))) (by subst ev201 ev77 ev41 ev1; exact hO.tr (if_neg c200)) (lv_sub hl [0, 1, 2, 3] rfl)
      · refine lv_iconst (v := 1) hx hb dModel_lookJoined_49 (by decide) ?_
        refine lv_goto (tgt := 59) hx hb dModel_lookJoined_50 (by decide) ?_
        exact J59 ls 1 (by first | exact ⟨1, by omega, rfl⟩ | (rw [e1]; exact hZ _ (vix (vin (by assumption) (by omega))))) (by subst ev77 ev41 ev1; exact hO.tr (if_pos c200)) (lv_sub hl [0, 1, 2, 3] rfl)
    refine lv_if_eq (tgt := 40) hx hb dModel_lookJoined_25 (by decide) (fun c202 => ?_) (fun c202 => ?_)
    · exact J40 ls (by subst ev41 ev1; exact hO.tr (if_pos c202)) (lv_sub hl [0, 1, 2, 3] rfl)
    · refine lv_aload_n hx hb dModel_lookJoined_28 rfl (lv_at hl 0 rfl) ?_
      refine md_gA S hC hM 9 (by decide) rfl qw_a119aeeca0 dModel_lookJoined_29 ?_
      refine lv_iload_n hx hb dModel_lookJoined_32 rfl (lv_at hl 3 rfl) ?_
      refine md_ild S hC hM 9 5 10000 (F 9) rfl rfl (by decide) rfl rfl (vin (by assumption) (by omega)) dModel_lookJoined_33 ?_
      refine lv_topi (fun v203 ev203 => ?_)
      refine lv_iconst (v := 3) hx hb dModel_lookJoined_34 (by decide) ?_
      refine lv_icmp_eq (tgt := 40) hx hb dModel_lookJoined_35 (by decide) (fun c204 => ?_) (fun c204 => ?_)
      · exact J40 ls (by subst ev203 ev41 ev1; exact hO.tr ((if_neg c202).trans (if_pos c204))) (lv_sub hl [0, 1, 2, 3] rfl)
      · refine lv_iconst (v := 3) hx hb dModel_lookJoined_38 (by decide) ?_
        exact hE _ _ _ _ _ hS ⟨σ, F, nu, (by subst ev203 ev41 ev1; exact hO.tr ((if_neg c202).trans (if_neg c204))), hM, hZ, hF, hL, (fun h9 => absurd (show (0 : Int32) < 3 by decide) h9)⟩ dModel_lookJoined_39
  refine lv_if_eq (tgt := 19) hx hb dModel_lookJoined_6 (by decide) (fun c205 => ?_) (fun c205 => ?_)
  · exact J19 ls (by subst ev1; exact hO.tr (if_pos c205)) (lv_sub hl [0, 1, 2, 3] rfl)
  · refine lv_aload_n hx hb dModel_lookJoined_9 rfl (lv_at hl 0 rfl) ?_
    refine md_gA S hC hM 9 (by decide) rfl qw_a119aeeca0 dModel_lookJoined_10 ?_
    refine lv_iload_n hx hb dModel_lookJoined_13 rfl (lv_at hl 2 rfl) ?_
    refine md_ild S hC hM 9 5 10000 (F 9) rfl rfl (by decide) rfl rfl (vin (by assumption) (by omega)) dModel_lookJoined_14 ?_
    refine lv_topi (fun v206 ev206 => ?_)
    refine lv_iconst (v := 3) hx hb dModel_lookJoined_15 (by decide) ?_
    refine lv_icmp_ne (tgt := 38) hx hb dModel_lookJoined_16 (by decide) (fun c207 => ?_) (fun c207 => ?_)
    · refine lv_iconst (v := 3) hx hb dModel_lookJoined_38 (by decide) ?_
      exact hE _ _ _ _ _ hS ⟨σ, F, nu, (by subst ev206 ev1; exact hO.tr ((if_neg c205).trans (if_neg c207))), hM, hZ, hF, hL, (fun h9 => absurd (show (0 : Int32) < 3 by decide) h9)⟩ dModel_lookJoined_39
    · exact J19 ls (by subst ev206 ev1; exact hO.tr ((if_neg c205).trans (if_pos c207))) (lv_sub hl [0, 1, 2, 3] rfl)
