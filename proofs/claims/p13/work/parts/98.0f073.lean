def Q_declare_177 (κ : Nat → Nat) (τ : gf) (σ : Nat → Int32) (F : gf) (nu : gg) (x1 : Int32) (x2 : Int32) (x3 : Int32) (x4 : Int32) (t0_47 : Int32) (σ_141 : gs) (F_141 : gf) (nu_141 : gg) : XQ := (0, κ, τ, (upd (upd σ_141 0 3) 1 ((upd σ 0 t0_47) 1)), F_141, nu_141)
def Q_declare_246 (κ : Nat → Nat) (τ : gf) (σ : Nat → Int32) (F : gf) (nu : gg) (x1 : Int32) (x2 : Int32) (x3 : Int32) (x4 : Int32) (t0_47 : Int32) (σ_141 : gs) (F_141 : gf) (nu_141 : gg) (F_246 : gf) (nu_246 : gg) : XQ := ((((nI ((ku κ 4 (κ 4 + 1)) 3)) + 1) - 1), ku (ku κ 4 (κ 4 + 1)) 3 ((ku κ 4 (κ 4 + 1)) 3 + 1), ((Q_name κ (Au (Au τ 22 (nI (κ 3)).toNatClampNeg x1) 23 (nI (κ 3)).toNatClampNeg x3) (upd σ_141 1 (-1)) F_246 nu_246 x2 1 (nI (κ 3)) 0).2.1), (upd σ_141 1 (-1)), F_246, nu_246)
def Q_declare_141 (κ : Nat → Nat) (τ : gf) (σ : Nat → Int32) (F : gf) (nu : gg) (x1 : Int32) (x2 : Int32) (x3 : Int32) (x4 : Int32) (t0_47 : Int32) (σ_141 : gs) (F_141 : gf) (nu_141 : gg) : XQ := (if (Q_hasHere κ τ σ_141 F_141 nu_141 x2) = 0 then (if (nI (κ 3)) = 2000 then (Q_declare_177 κ τ σ F nu x1 x2 x3 x4 t0_47 σ_141 F_141 nu_141  ) else (if (nI (κ 4)) = 3000 then (Q_declare_177 κ τ σ F nu x1 x2 x3 x4 t0_47 σ_141 F_141 nu_141  ) else (if x1 = 0 then (Q_declare_246 κ τ σ F nu x1 x2 x3 x4 t0_47 σ_141 F_141 nu_141  ((Q_keep κ (Au (Au τ 22 (nI (κ 3)).toNatClampNeg x1) 23 (nI (κ 3)).toNatClampNeg x3) (upd σ_141 1 (-1)) ((Q_copy κ (Au (Au τ 22 (nI (κ 3)).toNatClampNeg x1) 23 (nI (κ 3)).toNatClampNeg x3) (upd σ_141 1 (-1)) F_141 nu_141 x4 (8000 + (nI (κ 3)))).2.1) ((Q_copy κ (Au (Au τ 22 (nI (κ 3)).toNatClampNeg x1) 23 (nI (κ 3)).toNatClampNeg x3) (upd σ_141 1 (-1)) F_141 nu_141 x4 (8000 + (nI (κ 3)))).2.2) ((Au (Au τ 22 (nI (κ 3)).toNatClampNeg x1) 23 (nI (κ 3)).toNatClampNeg x3) 5 x4.toNatClampNeg) x4).2.1) ((Q_keep κ (Au (Au τ 22 (nI (κ 3)).toNatClampNeg x1) 23 (nI (κ 3)).toNatClampNeg x3) (upd σ_141 1 (-1)) ((Q_copy κ (Au (Au τ 22 (nI (κ 3)).toNatClampNeg x1) 23 (nI (κ 3)).toNatClampNeg x3) (upd σ_141 1 (-1)) F_141 nu_141 x4 (8000 + (nI (κ 3)))).2.1) ((Q_copy κ (Au (Au τ 22 (nI (κ 3)).toNatClampNeg x1) 23 (nI (κ 3)).toNatClampNeg x3) (upd σ_141 1 (-1)) F_141 nu_141 x4 (8000 + (nI (κ 3)))).2.2) ((Au (Au τ 22 (nI (κ 3)).toNatClampNeg x1) 23 (nI (κ 3)).toNatClampNeg x3) 5 x4.toNatClampNeg) x4).2.2)) else (Q_declare_246 κ τ σ F nu x1 x2 x3 x4 t0_47 σ_141 F_141 nu_141  F_141 nu_141)))) else ((Q_wrong κ τ σ_141 F_141 nu_141 (-1) 7).1, κ, τ, ((Q_wrong κ τ σ_141 F_141 nu_141 (-1) 7).2.1), F_141, nu_141))
def Q_declare_127 (κ : Nat → Nat) (τ : gf) (σ : Nat → Int32) (F : gf) (nu : gg) (x1 : Int32) (x2 : Int32) (x3 : Int32) (x4 : Int32) (t0_47 : Int32) (i6_127 : Int32) : XQ := (if i6_127 ≤ 0 then (Q_declare_141 κ τ σ F nu x1 x2 x3 x4 t0_47  ((Q_goThrough κ τ (upd σ 0 t0_47) F nu (τ 5 x4.toNatClampNeg) x4).2.1) ((Q_goThrough κ τ (upd σ 0 t0_47) F nu (τ 5 x4.toNatClampNeg) x4).2.2.1) ((Q_goThrough κ τ (upd σ 0 t0_47) F nu (τ 5 x4.toNatClampNeg) x4).2.2.2)) else ((Q_wrong κ τ ((Q_goThrough κ τ (upd σ 0 t0_47) F nu (τ 5 x4.toNatClampNeg) x4).2.1) ((Q_goThrough κ τ (upd σ 0 t0_47) F nu (τ 5 x4.toNatClampNeg) x4).2.2.1) ((Q_goThrough κ τ (upd σ 0 t0_47) F nu (τ 5 x4.toNatClampNeg) x4).2.2.2) x4 i6_127).1, κ, τ, ((Q_wrong κ τ ((Q_goThrough κ τ (upd σ 0 t0_47) F nu (τ 5 x4.toNatClampNeg) x4).2.1) ((Q_goThrough κ τ (upd σ 0 t0_47) F nu (τ 5 x4.toNatClampNeg) x4).2.2.1) ((Q_goThrough κ τ (upd σ 0 t0_47) F nu (τ 5 x4.toNatClampNeg) x4).2.2.2) x4 i6_127).2.1), ((Q_goThrough κ τ (upd σ 0 t0_47) F nu (τ 5 x4.toNatClampNeg) x4).2.2.1), ((Q_goThrough κ τ (upd σ 0 t0_47) F nu (τ 5 x4.toNatClampNeg) x4).2.2.2)))
def Q_declare_47 (κ : Nat → Nat) (τ : gf) (σ : Nat → Int32) (F : gf) (nu : gg) (x1 : Int32) (x2 : Int32) (x3 : Int32) (x4 : Int32) (t0_47 : Int32) : XQ := (if ((upd σ 0 t0_47) 0) ≤ 0 then (if x1 = 0 then (if ((Q_goThrough κ τ (upd σ 0 t0_47) F nu (τ 5 x4.toNatClampNeg) x4).1) ≤ 0 then (if (Q_fits κ τ ((Q_goThrough κ τ (upd σ 0 t0_47) F nu (τ 5 x4.toNatClampNeg) x4).2.1) ((Q_goThrough κ τ (upd σ 0 t0_47) F nu (τ 5 x4.toNatClampNeg) x4).2.2.1) ((Q_goThrough κ τ (upd σ 0 t0_47) F nu (τ 5 x4.toNatClampNeg) x4).2.2.2) x4 x3) = 3 then (Q_declare_127 κ τ σ F nu x1 x2 x3 x4 t0_47  (Q_fits κ τ ((Q_goThrough κ τ (upd σ 0 t0_47) F nu (τ 5 x4.toNatClampNeg) x4).2.1) ((Q_goThrough κ τ (upd σ 0 t0_47) F nu (τ 5 x4.toNatClampNeg) x4).2.2.1) ((Q_goThrough κ τ (upd σ 0 t0_47) F nu (τ 5 x4.toNatClampNeg) x4).2.2.2) x4 x3)) else (if (Q_fits κ τ ((Q_goThrough κ τ (upd σ 0 t0_47) F nu (τ 5 x4.toNatClampNeg) x4).2.1) ((Q_goThrough κ τ (upd σ 0 t0_47) F nu (τ 5 x4.toNatClampNeg) x4).2.2.1) ((Q_goThrough κ τ (upd σ 0 t0_47) F nu (τ 5 x4.toNatClampNeg) x4).2.2.2) x4 x3) = 4 then (Q_declare_127 κ τ σ F nu x1 x2 x3 x4 t0_47  (Q_fits κ τ ((Q_goThrough κ τ (upd σ 0 t0_47) F nu (τ 5 x4.toNatClampNeg) x4).2.1) ((Q_goThrough κ τ (upd σ 0 t0_47) F nu (τ 5 x4.toNatClampNeg) x4).2.2.1) ((Q_goThrough κ τ (upd σ 0 t0_47) F nu (τ 5 x4.toNatClampNeg) x4).2.2.2) x4 x3)) else (if (((Q_goThrough κ τ (upd σ 0 t0_47) F nu (τ 5 x4.toNatClampNeg) x4).2.2.1) 11 x4.toNatClampNeg) = 0 then (Q_declare_127 κ τ σ F nu x1 x2 x3 x4 t0_47  5) else (Q_declare_127 κ τ σ F nu x1 x2 x3 x4 t0_47  (Q_fits κ τ ((Q_goThrough κ τ (upd σ 0 t0_47) F nu (τ 5 x4.toNatClampNeg) x4).2.1) ((Q_goThrough κ τ (upd σ 0 t0_47) F nu (τ 5 x4.toNatClampNeg) x4).2.2.1) ((Q_goThrough κ τ (upd σ 0 t0_47) F nu (τ 5 x4.toNatClampNeg) x4).2.2.2) x4 x3))))) else ((-((Q_goThrough κ τ (upd σ 0 t0_47) F nu (τ 5 x4.toNatClampNeg) x4).1)), κ, τ, ((Q_goThrough κ τ (upd σ 0 t0_47) F nu (τ 5 x4.toNatClampNeg) x4).2.1), ((Q_goThrough κ τ (upd σ 0 t0_47) F nu (τ 5 x4.toNatClampNeg) x4).2.2.1), ((Q_goThrough κ τ (upd σ 0 t0_47) F nu (τ 5 x4.toNatClampNeg) x4).2.2.2))) else (Q_declare_141 κ τ σ F nu x1 x2 x3 x4 t0_47  (upd σ 0 t0_47) F nu)) else (0, κ, τ, (upd σ 0 t0_47), F, nu))
def Q_declare_42 (κ : Nat → Nat) (τ : gf) (σ : Nat → Int32) (F : gf) (nu : gg) (x1 : Int32) (x2 : Int32) (x3 : Int32) (x4 : Int32) : XQ := (Q_declare_47 κ τ σ F nu x1 x2 x3 x4  2)
def Q_declare_26 (κ : Nat → Nat) (τ : gf) (σ : Nat → Int32) (F : gf) (nu : gg) (x1 : Int32) (x2 : Int32) (x3 : Int32) (x4 : Int32) : XQ := (if x1 < 0 then (Q_declare_42 κ τ σ F nu x1 x2 x3 x4  ) else (if 2 < x1 then (Q_declare_42 κ τ σ F nu x1 x2 x3 x4  ) else (if (Q_goodName x2) = 0 then (Q_declare_42 κ τ σ F nu x1 x2 x3 x4  ) else (Q_declare_47 κ τ σ F nu x1 x2 x3 x4  0))))
def Q_declare_22 (κ : Nat → Nat) (τ : gf) (σ : Nat → Int32) (F : gf) (nu : gg) (x1 : Int32) (x2 : Int32) (x3 : Int32) (x4 : Int32) : XQ := (Q_declare_47 κ τ σ F nu x1 x2 x3 x4  1)
def Q_declare (κ : Nat → Nat) (τ : gf) (σ : Nat → Int32) (F : gf) (nu : gg) (x1 : Int32) (x2 : Int32) (x3 : Int32) (x4 : Int32) : XQ := (if (Q_noType κ τ σ F nu x3) = 0 then (if x1 = 0 then (if (Q_noNode κ τ σ F nu x4) = 0 then (Q_declare_26 κ τ σ F nu x1 x2 x3 x4  ) else (Q_declare_22 κ τ σ F nu x1 x2 x3 x4  )) else (Q_declare_26 κ τ σ F nu x1 x2 x3 x4  )) else (Q_declare_22 κ τ σ F nu x1 x2 x3 x4  ))
set_option maxHeartbeats 4000000 in
set_option maxRecDepth 100000 in
theorem n_declare (l : Launch) (γ : gE) (a : Nat) (B : Nat → Nat) (Z : Nat → Prop) (κ b mn : Nat → Nat) (ν : Nat → Int32) (τ : Nat → Nat → Int32) (σ : Nat → Int32) (F : Nat → Nat → Int32) (nu : Nat → Int64) (hT : ST κ b mn ν τ) (x1 : Int32) (x2 : Int32) (x3 : Int32) (x4 : Int32) (hZ : SZ F) (hF : FD σ) (hG : GD F nu) : MU l yModel_declare bModel_declare 7 (some .int) 7 177 0 0 [.ref a, .int x1, .int x2, .int x3, .int x4] γ Z (MD γ a B Z ν τ σ F nu) (mQi (fun r H => MIF γ a B Z (Q_declare κ τ σ F nu x1 x2 x3 x4) r H) Z) := by
  refine mu_openI (by decide) (Nat.le_of_ble_eq_true rfl) ?_
  intro p e s m args below meth c ls Q S hnm hC hA hM hE hl
  have hS : va_S Z s.heap s.heap [] := va_S.rf
  obtain ⟨hx, hb, hml, hown, hW⟩ := id S
  obtain ⟨⟨hs0, hs1, hs2, hs3, hs4, hs5, hs6⟩, ⟨hv6, hv8, hv21, hv24, hv30, hv31⟩, hTR, hTY, hOB, hNM⟩ := id hT
  have hl : lv_has ls 7 [(0, .ref a), (1, .int x1), (2, .int x2), (3, .int x3), (4, .int x4)] := hl
  obtain ⟨OUT, hQ, hO⟩ : ∃ z, (z = Q_declare κ τ σ F nu x1 x2 x3 x4) ∧ Oq z (Q_declare κ τ σ F nu x1 x2 x3 x4) := ⟨_, rfl, rfl⟩
  rw [← hQ] at hE
  clear hQ
  refine lv_aload_n hx hb dModel_declare_0 rfl (lv_at hl 0 rfl) ?_
  refine lv_aload_n hx hb dModel_declare_1 rfl (lv_at hl 0 rfl) ?_
  refine lv_iload_n hx hb dModel_declare_2 rfl (lv_at hl 3 rfl) ?_
  refine pu_Vi (rest := [.ref a]) S hC (n_noType l γ a B Z κ b mn ν τ σ F nu hT x3 ) meModel_noType qw_0ba745738d ⟨Nat.le_of_ble_eq_true rfl, Nat.le_of_ble_eq_true rfl⟩ (md_rv hC hM) hM rfl hl.1 rfl (Nat.le_of_ble_eq_true rfl) dModel_declare_3 ⟨Nat.zero_le _, Nat.zero_le _⟩ (fun r1 hr1 => ?_)
  obtain ⟨hr1, er1⟩ := hr1
  have J47 : ∀ (ls : Array Slot) (t0_47 : Int32), (0 < t0_47 ∨ (t0_47 = 0 ∧ vp_in x3 (κ 2) ∧ (x1 = 0 → vp_in x4 (κ 0)))) → (Oq OUT (Q_declare_47 κ τ σ F nu x1 x2 x3 x4   t0_47)) → lv_has ls 7 [(0, .ref a), (1, .int x1), (2, .int x2), (3, .int x3), (4, .int x4)] → W p l e (bs_rm 7 0 0 177) s m args below meth c s.heap [] 0 0 Q (F0 m 47 ls [.int t0_47, .ref a]) := by
    intro ls t0_47 ht0_47 hO hl
    refine md_pD S hC hM hS 0 rfl (by decide) rfl qw_53e275eed6 rfl (by decide +kernel) dModel_declare_47 (fun H locs hM hS => ?_)
    obtain ⟨σ57, eσ57⟩ : ∃ z : Nat → Int32, z = upd σ 0 t0_47 := ⟨_, rfl⟩
    rw [← eσ57] at hM
    have hF : FD σ57 := hF.up eσ57 (by decide) (by decide)
    refine lv_aload_n hx hb dModel_declare_50 rfl (lv_at hl 0 rfl) ?_
    refine md_gI S hC hM 0 (v := σ57 0) rfl (by decide) rfl qw_53e275eed6 dModel_declare_51 ?_
    refine lv_topi (fun v58 ev58 => ?_)
    refine lv_if_le (tgt := 59) hx hb dModel_declare_54 (by decide) (fun c59 => ?_) (fun c59 => ?_)
    · obtain ⟨hx3, hx40⟩ := cd_0 eσ57 ev58 (by assumption) ht0_47
      refine lv_aload_n hx hb dModel_declare_59 rfl (lv_at hl 0 rfl) ?_
      refine md_gI S hC hM 1 (v := σ57 1) rfl (by decide) rfl qw_d4a57461ea dModel_declare_60 ?_
      refine lv_topi (fun v60 ev60 => ?_)
      refine lv_istore (lv' := [(5, .int v60), (0, .ref a), (1, .int x1), (2, .int x2), (3, .int x3), (4, .int x4)]) hx hb dModel_declare_63 hl (by decide) rfl (fun ls hl => ?_)
      refine lv_iload_n hx hb dModel_declare_65 rfl (lv_at hl 2 rfl) ?_
      have J141 : ∀ (ls : Array Slot) (H : Heap) (locs : List Loc) (σ_141 : Nat → Int32) (F_141 : Nat → Nat → Int32) (nu_141 : Nat → Int64), MD γ a B Z ν τ σ_141 F_141 nu_141 H → va_S Z s.heap H locs → (FD σ_141) → (GD F_141 nu_141) → (SZ F_141) → (x1 = 0 → vp_in x4 (κ 0) ∧ ∀ j : Nat, b x4.toNatClampNeg ≤ j → (j : Int) ≤ x4.toInt → ¬ hid τ b j x4.toNatClampNeg → GK j F_141 nu_141) → (Oq OUT (Q_declare_141 κ τ σ F nu x1 x2 x3 x4 t0_47   σ_141 F_141 nu_141)) → lv_has ls 7 [(0, .ref a), (1, .int x1), (2, .int x2), (3, .int x3), (4, .int x4), (5, .int v60)] → W p l e (bs_rm 7 0 0 177) s m args below meth c H locs 0 0 Q (F0 m 141 ls []) := by
        intro ls H locs σ_141 F_141 nu_141 hM hS hF hG hZ hdc hO hl
        refine lv_aload_n hx hb dModel_declare_141 rfl (lv_at hl 0 rfl) ?_
        refine lv_iload_n hx hb dModel_declare_142 rfl (lv_at hl 2 rfl) ?_
        refine pu_Vi (rest := []) S hC (n_hasHere l γ a B Z κ b mn ν τ σ_141 F_141 nu_141 hT x2 ) meModel_hasHere qw_52fabcdf69 ⟨Nat.le_of_ble_eq_true rfl, Nat.le_of_ble_eq_true rfl⟩ (md_rv hC hM) hM rfl hl.1 rfl (Nat.le_of_ble_eq_true rfl) dModel_declare_143 ⟨Nat.zero_le _, Nat.zero_le _⟩ (fun r104 hr104 => ?_)
        obtain ⟨hr104, er104⟩ := hr104
        refine lv_if_eq (tgt := 157) hx hb dModel_declare_146 (by decide) (fun c105 => ?_) (fun c105 => ?_)
        · refine lv_aload_n hx hb dModel_declare_157 rfl (lv_at hl 0 rfl) ?_
          refine md_gI S hC hM 24 (v := nI (κ 3)) hv24 (by decide) rfl qw_5c346c7fc8 dModel_declare_158 ?_
          refine lv_topi (fun v106 ev106 => ?_)
          refine lv_sipush (v := 2000) hx hb dModel_declare_161 (by decide) ?_
          have J177 : ∀ (ls : Array Slot), (Oq OUT (Q_declare_177 κ τ σ F nu x1 x2 x3 x4 t0_47 σ_141 F_141 nu_141   )) → lv_has ls 7 [(0, .ref a), (1, .int x1), (2, .int x2), (3, .int x3), (4, .int x4), (5, .int v60)] → W p l e (bs_rm 7 0 0 177) s m args below meth c H locs 0 0 Q (F0 m 177 ls []) := by
            intro ls hO hl
            refine lv_aload_n hx hb dModel_declare_177 rfl (lv_at hl 0 rfl) ?_
            refine lv_iconst (v := 3) hx hb dModel_declare_178 (by decide) ?_
            refine md_pD S hC hM hS 0 rfl (by decide) rfl qw_53e275eed6 rfl (by decide +kernel) dModel_declare_179 (fun H locs hM hS => ?_)
            obtain ⟨σ134, eσ134⟩ : ∃ z : Nat → Int32, z = upd σ_141 0 3 := ⟨_, rfl⟩
            rw [← eσ134] at hM
            have hF : FD σ134 := hF.up eσ134 (by decide) (by decide)
            refine lv_aload_n hx hb dModel_declare_182 rfl (lv_at hl 0 rfl) ?_
            refine lv_iload hx hb dModel_declare_183 (lv_at hl 5 rfl) ?_
            refine md_pD S hC hM hS 1 rfl (by decide) rfl qw_d4a57461ea rfl (by decide +kernel) dModel_declare_185 (fun H locs hM hS => ?_)
            obtain ⟨σ135, eσ135⟩ : ∃ z : Nat → Int32, z = upd σ134 1 v60 := ⟨_, rfl⟩
            rw [← eσ135] at hM
            have hF : FD σ135 := hF.up eσ135 (by decide) (by decide)
            refine lv_iconst (v := 0) hx hb dModel_declare_188 (by decide) ?_
            exact hE _ _ _ _ _ hS ⟨κ, _, _, _, τ, σ135, F_141, nu_141, (by subst eσ135 eσ134 ev106 er104 ev60 ev58 eσ57 er1; exact hO.tr rfl), hT, hZ, hF, hG, hM⟩ dModel_declare_189
          refine lv_icmp_eq (tgt := 177) hx hb dModel_declare_164 (by decide) (fun c136 => ?_) (fun c136 => ?_)
          · exact J177 ls (by subst ev106 er104 ev60 ev58 eσ57 er1; exact hO.tr ((if_pos c105).trans (if_pos c136))) (lv_sub hl [0, 1, 2, 3, 4, 5] rfl)
          · refine lv_aload_n hx hb dModel_declare_167 rfl (lv_at hl 0 rfl) ?_
            refine md_gI S hC hM 30 (v := nI (κ 4)) hv30 (by decide) rfl qw_8d5d48b583 dModel_declare_168 ?_
            refine lv_topi (fun v137 ev137 => ?_)
            refine lv_sipush (v := 3000) hx hb dModel_declare_171 (by decide) ?_
            refine lv_icmp_ne (tgt := 190) hx hb dModel_declare_174 (by decide) (fun c138 => ?_) (fun c138 => ?_)
            · have hN3 : κ 3 < 2000 := ne_lt ev106 (by assumption) rfl hs3
              have hN4 : κ 4 < 3000 := ne_lt ev137 (by assumption) rfl hs4
              refine lv_aload_n hx hb dModel_declare_190 rfl (lv_at hl 0 rfl) ?_
              refine lv_iconst (v := (-1)) hx hb dModel_declare_191 (by decide) ?_
              refine md_pD S hC hM hS 1 rfl (by decide) rfl qw_d4a57461ea rfl (by decide +kernel) dModel_declare_192 (fun H locs hM hS => ?_)
              obtain ⟨σ139, eσ139⟩ : ∃ z : Nat → Int32, z = upd σ_141 1 (-1) := ⟨_, rfl⟩
              rw [← eσ139] at hM
              have hF : FD σ139 := hF.up eσ139 (by decide) (by decide)
              refine lv_aload_n hx hb dModel_declare_195 rfl (lv_at hl 0 rfl) ?_
              refine md_gA S hC hM 22 (by decide) rfl qw_50c5849686 dModel_declare_196 ?_
              refine lv_aload_n hx hb dModel_declare_199 rfl (lv_at hl 0 rfl) ?_
              refine md_gI S hC hM 24 (v := nI (κ 3)) hv24 (by decide) rfl qw_5c346c7fc8 dModel_declare_200 ?_
              refine lv_topi (fun v140 ev140 => ?_)
              refine lv_iload_n hx hb dModel_declare_203 rfl (lv_at hl 1 rfl) ?_
              refine md_istS S hC hM hS 22 17 2000 rfl rfl (by decide) rfl rfl (vin_of ev140 (by omega) (by omega)) dModel_declare_204 (fun H locs hM hS => ?_)
              obtain ⟨τ142, eτ142⟩ : ∃ z : Nat → Nat → Int32, z = Au τ 22 v140.toNatClampNeg x1 := ⟨_, rfl⟩
              rw [← eτ142] at hM
              refine lv_aload_n hx hb dModel_declare_205 rfl (lv_at hl 0 rfl) ?_
              refine md_gA S hC hM 23 (by decide) rfl qw_bd9bcb35cb dModel_declare_206 ?_
              refine lv_aload_n hx hb dModel_declare_209 rfl (lv_at hl 0 rfl) ?_
              refine md_gI S hC hM 24 (v := nI (κ 3)) hv24 (by decide) rfl qw_5c346c7fc8 dModel_declare_210 ?_
              refine lv_topi (fun v143 ev143 => ?_)
              refine lv_iload_n hx hb dModel_declare_213 rfl (lv_at hl 3 rfl) ?_
              refine md_istS S hC hM hS 23 18 2000 rfl rfl (by decide) rfl rfl (vin_of ev143 (by omega) (by omega)) dModel_declare_214 (fun H locs hM hS => ?_)
              obtain ⟨τ145, eτ145⟩ : ∃ z : Nat → Nat → Int32, z = Au τ142 23 v143.toNatClampNeg x3 := ⟨_, rfl⟩
              rw [← eτ145] at hM
              have hτ2 : τ145 2 = τ 2 := (by rw [eτ145, eτ142]; rfl)
              have hT_o146 : ST κ b mn ν τ145 := ob_st hT eτ142 eτ145 (vin hx3 (by omega))
              obtain ⟨⟨hs0_o146, hs1_o146, hs2_o146, hs3_o146, hs4_o146, hs5_o146, hs6_o146⟩, ⟨hv6_o146, hv8_o146, hv21_o146, hv24_o146, hv30_o146, hv31_o146⟩, hTR_o146, hTY_o146, hOB_o146, hNM_o146⟩ := id hT_o146
              refine lv_iload_n hx hb dModel_declare_215 rfl (lv_at hl 1 rfl) ?_
              have J246 : ∀ (ls : Array Slot) (H : Heap) (locs : List Loc) (F_246 : Nat → Nat → Int32) (nu_246 : Nat → Int64), MD γ a B Z ν τ145 σ139 F_246 nu_246 H → va_S Z s.heap H locs → (GD F_246 nu_246) → (SZ F_246) → (Oq OUT (Q_declare_246 κ τ σ F nu x1 x2 x3 x4 t0_47 σ_141 F_141 nu_141   F_246 nu_246)) → lv_has ls 7 [(0, .ref a), (1, .int x1), (2, .int x2), (3, .int x3), (4, .int x4), (5, .int v60)] → W p l e (bs_rm 7 0 0 177) s m args below meth c H locs 0 0 Q (F0 m 246 ls []) := by
                intro ls H locs F_246 nu_246 hM hS hG hZ hO hl
                refine lv_aload_n hx hb dModel_declare_246 rfl (lv_at hl 0 rfl) ?_
                refine lv_iload_n hx hb dModel_declare_247 rfl (lv_at hl 2 rfl) ?_
                refine lv_iconst (v := 1) hx hb dModel_declare_248 (by decide) ?_
                refine lv_aload_n hx hb dModel_declare_249 rfl (lv_at hl 0 rfl) ?_
                refine md_gI S hC hM 24 (v := nI (κ 3)) hv24_o146 (by decide) rfl qw_5c346c7fc8 dModel_declare_250 ?_
                refine lv_topi (fun v161 ev161 => ?_)
                refine lv_iconst (v := 0) hx hb dModel_declare_253 (by decide) ?_
                refine mu_Vv (rest := []) S hC (fun q h => hA q (Nat.le_trans hS.1 h)) (fun q h => h) hS (n_name l γ a B Z κ b mn ν τ145 σ139 F_246 nu_246 hT_o146 x2 1 v161 0 (by omega) ⟨fun _ => ⟨_, hN3, ev161⟩, fun h9 => absurd h9 (by decide), fun h9 => absurd h9 (by decide)⟩) meModel_name qw_8127fdf1ea ⟨Nat.le_of_ble_eq_true rfl, Nat.le_of_ble_eq_true rfl⟩ (md_rv hC hM) hM rfl hl.1 rfl (Nat.le_of_ble_eq_true rfl) dModel_declare_254 ⟨Nat.le_refl _, Nat.le_refl _⟩ (fun H locs hPO hS _ _ => ?_)
                obtain ⟨ν_r162, τ_r162, eOr162, hM, hT_r162⟩ := hPO
                have eτ_r162 : τ_r162 = (Q_name κ τ145 σ139 F_246 nu_246 x2 1 v161 0).2.1 := by rw [eOr162.eq]
                clear eOr162
                obtain ⟨κ_r162, hκ_r162⟩ : ∃ z : Nat → Nat, z = ku κ 4 (κ 4 + 1) := ⟨_, rfl⟩
                rw [← hκ_r162] at hT_r162
                obtain ⟨⟨hs0_r162, hs1_r162, hs2_r162, hs3_r162, hs4_r162, hs5_r162, hs6_r162⟩, ⟨hv6_r162, hv8_r162, hv21_r162, hv24_r162, hv30_r162, hv31_r162⟩, hTR_r162, hTY_r162, hOB_r162, hNM_r162⟩ := id hT_r162
                have hk3_r162 : κ_r162 3 = κ 3 := (by rw [hκ_r162]; rfl)
                refine lv_aload_n hx hb dModel_declare_257 rfl (lv_at hl 0 rfl) ?_
                refine lv_dup hx hb dModel_declare_258 rfl ?_
                refine md_gI S hC hM 24 (v := nI (κ_r162 3)) hv24_r162 (by decide) rfl qw_5c346c7fc8 dModel_declare_259 ?_
                refine lv_topi (fun v163 ev163 => ?_)
                refine lv_iconst (v := 1) hx hb dModel_declare_262 (by decide) ?_
                refine lv_iadd hx hb dModel_declare_263 ?_
                refine lv_topi (fun v164 ev164 => ?_)
                refine md_pS S hC hM hS 24 rfl (by decide) rfl qw_5c346c7fc8 rfl (by decide +kernel) dModel_declare_264 (fun H locs hM hS => ?_)
                obtain ⟨ν166, eν166⟩ : ∃ z : Nat → Int32, z = upd ν_r162 24 v164 := ⟨_, rfl⟩
                rw [← eν166] at hM
                refine lv_aload_n hx hb dModel_declare_267 rfl (lv_at hl 0 rfl) ?_
                refine md_gI S hC hM 24 (v := ν166 24) rfl (by decide) rfl qw_5c346c7fc8 dModel_declare_268 ?_
                refine lv_topi (fun v167 ev167 => ?_)
                refine lv_iconst (v := 1) hx hb dModel_declare_271 (by decide) ?_
                refine lv_isub hx hb dModel_declare_272 ?_
                refine lv_topi (fun v168 ev168 => ?_)
                exact hE _ _ _ _ _ hS ⟨(ku κ_r162 3 (κ_r162 3 + 1)), _, _, _, τ_r162, σ139, F_246, nu_246, (by subst ev168 ev167 eν166 ev164 ev163 hκ_r162 eτ_r162 ev161 eτ145 ev143 eτ142 ev140 eσ139 ev137 ev106 er104 ev60 ev58 eσ57 er1; exact hO.tr rfl), (st_3 hT_r162 (by omega) eν166 (inc_n ev163 ev164)), hZ, hF, hG, hM⟩ dModel_declare_273
              refine lv_if_ne (tgt := 246) hx hb dModel_declare_216 (by decide) (fun c169 => ?_) (fun c169 => ?_)
              · exact J246 ls _ _ F_141 nu_141 hM hS hG hZ (by subst eτ145 ev143 eτ142 ev140 eσ139 ev137 ev106 er104 ev60 ev58 eσ57 er1; exact hO.tr ((if_pos c105).trans ((if_neg c136).trans ((if_neg c138).trans (if_neg c169))))) (lv_sub hl [0, 1, 2, 3, 4, 5] rfl)
              · refine lv_aload_n hx hb dModel_declare_219 rfl (lv_at hl 0 rfl) ?_
                refine lv_iload hx hb dModel_declare_220 (lv_at hl 4 rfl) ?_
                refine lv_sipush (v := 8000) hx hb dModel_declare_222 (by decide) ?_
                refine lv_aload_n hx hb dModel_declare_225 rfl (lv_at hl 0 rfl) ?_
                refine md_gI S hC hM 24 (v := nI (κ 3)) hv24_o146 (by decide) rfl qw_5c346c7fc8 dModel_declare_226 ?_
                refine lv_topi (fun v170 ev170 => ?_)
                refine lv_iadd hx hb dModel_declare_229 ?_
                refine lv_topi (fun v171 ev171 => ?_)
                obtain ⟨hx4, hgj⟩ := hdc (by assumption)
                have h8 := vin8 (vin_of ev170 hN3 (by omega)) ev171
                have hgk4 : GK x4.toNatClampNeg F_141 nu_141 := hgj _ (hTR.1 _ (vix hx4)).2 (by rw [vin_int hx4]; exact Int.le_refl _) hid_self
                refine mu_Vv (rest := []) S hC (fun q h => hA q (Nat.le_trans hS.1 h)) (fun q h => h) hS (n_copy l γ a B Z κ b mn ν τ145 σ139 F_141 nu_141 hT_o146 x4 v171 (vin (by assumption) (by omega)) h8.1) meModel_copy qw_7581103c83 ⟨Nat.le_of_ble_eq_true rfl, Nat.le_of_ble_eq_true rfl⟩ (md_rv hC hM) hM rfl hl.1 rfl (Nat.le_of_ble_eq_true rfl) dModel_declare_230 ⟨Nat.le_refl _, Nat.le_refl _⟩ (fun H locs hPO hS _ _ => ?_)
                obtain ⟨Fr172, nur172, eOr172, hM, hqr172⟩ := hPO
                have eFr172 : Fr172 = (Q_copy κ τ145 σ139 F_141 nu_141 x4 v171).2.1 := by rw [eOr172.eq]
                have enur172 : nur172 = (Q_copy κ τ145 σ139 F_141 nu_141 x4 v171).2.2 := by rw [eOr172.eq]
                clear eOr172
                have hgj : ∀ j : Nat, b x4.toNatClampNeg ≤ j → (j : Int) ≤ x4.toInt → ¬ hid τ b j x4.toNatClampNeg → GK j Fr172 nur172 := (fun j h6 h7 h9 => (SL.slt hqr172).gk (by rw [h8.2]; have := vix hx4; have := vin_int hx4; omega) (hgj j h6 h7 h9))
                have hG : GD Fr172 nur172 := hG.cp hqr172 hgk4
                have hZ : SZ Fr172 := hZ.slt hqr172 (hZ _ (vix (vin hx4 (by omega))))
                refine lv_aload_n hx hb dModel_declare_233 rfl (lv_at hl 0 rfl) ?_
                refine lv_aload_n hx hb dModel_declare_234 rfl (lv_at hl 0 rfl) ?_
                refine md_gA S hC hM 5 (by decide) rfl qw_7e4081a75e dModel_declare_235 ?_
                refine lv_iload hx hb dModel_declare_238 (lv_at hl 4 rfl) ?_
                refine md_ild S hC hM 5 3 4000 (τ145 5) rfl rfl (by decide) rfl rfl (vin (by assumption) (by omega)) dModel_declare_240 ?_
                refine lv_topi (fun v173 ev173 => ?_)
                refine lv_iload hx hb dModel_declare_241 (lv_at hl 4 rfl) ?_
                have hbg2 := bg_ok hTR_o146 hs0_o146 hx4 ev173
                refine mu_Vv (rest := []) S hC (fun q h => hA q (Nat.le_trans hS.1 h)) (fun q h => h) hS (n_keep l γ a B Z κ b mn ν τ145 σ139 Fr172 nur172 hT_o146 v173 x4 hbg2.1 (x_int hx4) hZ hG (fun j h6 h7 h9 => hgj j (by rw [hbg2.2] at h6; exact h6) h7 (fun h5 => h9 (hid_cg hτ2 h5)))) meModel_keep qw_8cce6d7b5c ⟨Nat.le_of_ble_eq_true rfl, Nat.le_of_ble_eq_true rfl⟩ (md_rv hC hM) hM rfl hl.1 rfl (Nat.le_of_ble_eq_true rfl) dModel_declare_243 ⟨Nat.le_refl _, Nat.le_refl _⟩ (fun H locs hPO hS _ _ => ?_)
                obtain ⟨Fr174, nur174, eOr174, hM, hZ, hG⟩ := hPO
                have eFr174 : Fr174 = (Q_keep κ τ145 σ139 Fr172 nur172 v173 x4).2.1 := by rw [eOr174.eq]
                have enur174 : nur174 = (Q_keep κ τ145 σ139 Fr172 nur172 v173 x4).2.2 := by rw [eOr174.eq]
                clear eOr174
                exact J246 ls _ _ Fr174 nur174 hM hS hG hZ (by subst enur174 eFr174 ev173 enur172 eFr172 ev171 ev170 eτ145 ev143 eτ142 ev140 eσ139 ev137 ev106 er104 ev60 ev58 eσ57 er1; exact hO.tr ((if_pos c105).trans ((if_neg c136).trans ((if_neg c138).trans (if_pos c169))))) (lv_sub hl [0, 1, 2, 3, 4, 5] rfl)
            · exact J177 ls (by subst ev137 ev106 er104 ev60 ev58 eσ57 er1; exact hO.tr ((if_pos c105).trans ((if_neg c136).trans (if_pos c138)))) (lv_sub hl [0, 1, 2, 3, 4, 5] rfl)
        · refine lv_aload_n hx hb dModel_declare_149 rfl (lv_at hl 0 rfl) ?_
          refine lv_iconst (v := (-1)) hx hb dModel_declare_150 (by decide) ?_
          refine lv_bipush (v := 7) hx hb dModel_declare_151 (by decide) ?_
          refine mu_Vi (rest := []) S hC (fun q h => hA q (Nat.le_trans hS.1 h)) (fun q h => h) hS (n_wrong l γ a B Z κ b mn ν τ σ_141 F_141 nu_141 hT (-1) 7 hF) meModel_wrong qw_a6e9824456 ⟨Nat.le_of_ble_eq_true rfl, Nat.le_of_ble_eq_true rfl⟩ (md_rv hC hM) hM rfl hl.1 rfl (Nat.le_of_ble_eq_true rfl) dModel_declare_153 ⟨Nat.le_refl _, Nat.le_refl _⟩ (fun r175 H locs hPO hS _ _ => ?_)
          obtain ⟨σr175, eOr175, hM, hF, h0r175⟩ := hPO
          have er175 : r175 = (Q_wrong κ τ σ_141 F_141 nu_141 (-1) 7).1 := by rw [eOr175.eq]
          have eσr175 : σr175 = (Q_wrong κ τ σ_141 F_141 nu_141 (-1) 7).2.1 := by rw [eOr175.eq]
          clear eOr175
          exact hE _ _ _ _ _ hS ⟨κ, _, _, _, τ, σr175, F_141, nu_141, (by subst eσr175 er175 er104 ev60 ev58 eσ57 er1; exact hO.tr (if_neg c105)), hT, hZ, hF, hG, hM⟩ dModel_declare_156
      refine lv_if_ne (tgt := 141) hx hb dModel_declare_66 (by decide) (fun c176 => ?_) (fun c176 => ?_)
      · exact J141 ls _ _ σ57 F nu hM hS hF hG hZ (by first | exact (fun h9 => absurd h9 (by assumption)) | exact (fun _ => ⟨hx4, fun j h7 h8 h9 => hgtr63 (Int32.not_lt.mpr (by assumption)) j (by rw [hbg.2]; exact h7) h8 h9⟩)) (by subst ev60 ev58 eσ57 er1; exact hO.tr ((if_pos c59).trans (if_neg c176))) (lv_sub hl [1, 2, 3, 4, 5, 0] rfl)
      · have hx4 := hx40 (by assumption)
        refine lv_aload_n hx hb dModel_declare_69 rfl (lv_at hl 1 rfl) ?_
        refine lv_aload_n hx hb dModel_declare_70 rfl (lv_at hl 1 rfl) ?_
        refine md_gA S hC hM 5 (by decide) rfl qw_7e4081a75e dModel_declare_71 ?_
        refine lv_iload hx hb dModel_declare_74 (lv_at hl 5 rfl) ?_
        refine md_ild S hC hM 5 3 4000 (τ 5) rfl rfl (by decide) rfl rfl (vin (by assumption) (by omega)) dModel_declare_76 ?_
        refine lv_topi (fun v177 ev177 => ?_)
        refine lv_iload hx hb dModel_declare_77 (lv_at hl 5 rfl) ?_
        have hbg := bg_ok hTR hs0 hx4 ev177
        refine mu_Vi (rest := []) S hC (fun q h => hA q (Nat.le_trans hS.1 h)) (fun q h => h) hS (n_goThrough l γ a B Z κ b mn ν τ σ57 F nu hT v177 x4 hbg.1 (x_int hx4) (fun k h8 h9 => by rw [hbg.2] at h8 ⊢; exact rg_ge hTR (vix hx4) h8 (by rw [vin_int hx4] at h9; omega)) hZ hF hG) meModel_goThrough qw_fb32874592 ⟨Nat.le_of_ble_eq_true rfl, Nat.le_of_ble_eq_true rfl⟩ (md_rv hC hM) hM rfl hl.1 rfl (Nat.le_of_ble_eq_true rfl) dModel_declare_79 ⟨Nat.le_refl _, Nat.le_refl _⟩ (fun r178 H locs hPO hS _ _ => ?_)
        obtain ⟨σr178, Fr178, nur178, eOr178, hM, hZ, hF, hG, hgtr178⟩ := hPO
        have er178 : r178 = (Q_goThrough κ τ σ57 F nu v177 x4).1 := by rw [eOr178.eq]
        have eσr178 : σr178 = (Q_goThrough κ τ σ57 F nu v177 x4).2.1 := by rw [eOr178.eq]
        have eFr178 : Fr178 = (Q_goThrough κ τ σ57 F nu v177 x4).2.2.1 := by rw [eOr178.eq]
        have enur178 : nur178 = (Q_goThrough κ τ σ57 F nu v177 x4).2.2.2 := by rw [eOr178.eq]
        clear eOr178
        refine lv_istore (lv' := [(6, .int r178), (5, .int v60), (0, .ref a), (1, .int x1), (2, .int x2), (3, .int x3), (4, .int x4)]) hx hb dModel_declare_82 hl (by decide) rfl (fun ls hl => ?_)
        refine lv_iload hx hb dModel_declare_84 (lv_at hl 0 rfl) ?_
        refine lv_if_le (tgt := 93) hx hb dModel_declare_86 (by decide) (fun c179 => ?_) (fun c179 => ?_)
        · refine lv_aload_n hx hb dModel_declare_93 rfl (lv_at hl 2 rfl) ?_
          refine lv_iload hx hb dModel_declare_94 (lv_at hl 6 rfl) ?_
          refine lv_iload_n hx hb dModel_declare_96 rfl (lv_at hl 5 rfl) ?_
          refine pu_Vi (rest := []) S hC (n_fits l γ a B Z κ b mn ν τ σr178 Fr178 nur178 hT x4 x3 (vin (by assumption) (by omega)) (vin (by assumption) (by omega))) meModel_fits qw_17a2ee8d21 ⟨Nat.le_of_ble_eq_true rfl, Nat.le_of_ble_eq_true rfl⟩ (md_rv hC hM) hM rfl hl.1 rfl (Nat.le_of_ble_eq_true rfl) dModel_declare_97 ⟨Nat.zero_le _, Nat.zero_le _⟩ (fun r180 hr180 => ?_)
          obtain ⟨hr180, er180⟩ := hr180
          refine lv_istore (lv' := [(6, .int r180), (5, .int v60), (0, .ref a), (1, .int x1), (2, .int x2), (3, .int x3), (4, .int x4)]) hx hb dModel_declare_100 hl (by decide) rfl (fun ls hl => ?_)
          refine lv_iload hx hb dModel_declare_102 (lv_at hl 0 rfl) ?_
          refine lv_iconst (v := 3) hx hb dModel_declare_104 (by decide) ?_
          have J127 : ∀ (ls : Array Slot) (i6_127 : Int32), (Oq OUT (Q_declare_127 κ τ σ F nu x1 x2 x3 x4 t0_47   i6_127)) → lv_has ls 7 [(0, .ref a), (1, .int x1), (2, .int x2), (3, .int x3), (4, .int x4), (5, .int v60), (6, .int i6_127)] → W p l e (bs_rm 7 0 0 177) s m args below meth c H locs 0 0 Q (F0 m 127 ls []) := by
            intro ls i6_127 hO hl
            refine lv_iload hx hb dModel_declare_127 (lv_at hl 6 rfl) ?_
            refine lv_if_le (tgt := 141) hx hb dModel_declare_129 (by decide) (fun c187 => ?_) (fun c187 => ?_)
            · exact J141 ls _ _ σr178 Fr178 nur178 hM hS hF hG hZ (by first | exact (fun h9 => absurd h9 (by assumption)) | exact (fun _ => ⟨hx4, fun j h7 h8 h9 => hgtr178 (Int32.not_lt.mpr (by assumption)) j (by rw [hbg.2]; exact h7) h8 h9⟩)) (by subst er180 enur178 eFr178 eσr178 er178 ev177 ev60 ev58 eσ57 er1; exact hO.tr (if_pos c187)) (lv_sub hl [0, 1, 2, 3, 4, 5] rfl)
            · refine lv_aload_n hx hb dModel_declare_132 rfl (lv_at hl 0 rfl) ?_
              refine lv_iload hx hb dModel_declare_133 (lv_at hl 4 rfl) ?_
              refine lv_iload hx hb dModel_declare_135 (lv_at hl 6 rfl) ?_
              refine mu_Vi (rest := []) S hC (fun q h => hA q (Nat.le_trans hS.1 h)) (fun q h => h) hS (n_wrong l γ a B Z κ b mn ν τ σr178 Fr178 nur178 hT x4 i6_127 hF) meModel_wrong qw_a6e9824456 ⟨Nat.le_of_ble_eq_true rfl, Nat.le_of_ble_eq_true rfl⟩ (md_rv hC hM) hM rfl hl.1 rfl (Nat.le_of_ble_eq_true rfl) dModel_declare_137 ⟨Nat.le_refl _, Nat.le_refl _⟩ (fun r188 H locs hPO hS _ _ => ?_)
              obtain ⟨σr188, eOr188, hM, hF, h0r188⟩ := hPO
              have er188 : r188 = (Q_wrong κ τ σr178 Fr178 nur178 x4 i6_127).1 := by rw [eOr188.eq]
              have eσr188 : σr188 = (Q_wrong κ τ σr178 Fr178 nur178 x4 i6_127).2.1 := by rw [eOr188.eq]
              clear eOr188
              exact hE _ _ _ _ _ hS ⟨κ, _, _, _, τ, σr188, Fr178, nur178, (by subst eσr188 er188 er180 enur178 eFr178 eσr178 er178 ev177 ev60 ev58 eσ57 er1; exact hO.tr (if_neg c187)), hT, hZ, hF, hG, hM⟩ dModel_declare_140
          refine lv_icmp_eq (tgt := 127) hx hb dModel_declare_105 (by decide) (fun c189 => ?_) (fun c189 => ?_)
          · exact J127 ls r180 (by subst er180 enur178 eFr178 eσr178 er178 ev177 ev60 ev58 eσ57 er1; exact hO.tr ((if_pos c59).trans ((if_pos c176).trans ((if_pos c179).trans (if_pos c189))))) (lv_sub hl [2, 3, 4, 5, 6, 1, 0] rfl)
          · refine lv_iload hx hb dModel_declare_108 (lv_at hl 0 rfl) ?_
            refine lv_iconst (v := 4) hx hb dModel_declare_110 (by decide) ?_
            refine lv_icmp_eq (tgt := 127) hx hb dModel_declare_111 (by decide) (fun c190 => ?_) (fun c190 => ?_)
            · exact J127 ls r180 (by subst er180 enur178 eFr178 eσr178 er178 ev177 ev60 ev58 eσ57 er1; exact hO.tr ((if_pos c59).trans ((if_pos c176).trans ((if_pos c179).trans ((if_neg c189).trans (if_pos c190)))))) (lv_sub hl [2, 3, 4, 5, 6, 1, 0] rfl)
            · refine lv_aload_n hx hb dModel_declare_114 rfl (lv_at hl 2 rfl) ?_
              refine md_gA S hC hM 11 (by decide) rfl qw_88b9028ba7 dModel_declare_115 ?_
              refine lv_iload hx hb dModel_declare_118 (lv_at hl 6 rfl) ?_
              refine md_zld S hC hM 11 7 10000 (Fr178 11) rfl rfl (by decide) rfl rfl (vin (by assumption) (by omega)) dModel_declare_120 ?_
              refine lv_topi (fun v191 ev191 => ?_)
              refine lv_if_ne (tgt := 127) hx hb dModel_declare_121 (by decide) (fun c192 => ?_) (fun c192 => ?_)
              · exact J127 ls r180 (by subst ev191 er180 enur178 eFr178 eσr178 er178 ev177 ev60 ev58 eσ57 er1; exact hO.tr ((if_pos c59).trans ((if_pos c176).trans ((if_pos c179).trans ((if_neg c189).trans ((if_neg c190).trans (if_neg c192))))))) (lv_sub hl [2, 3, 4, 5, 6, 1, 0] rfl)
              · refine lv_iconst (v := 5) hx hb dModel_declare_124 (by decide) ?_
                refine lv_istore (lv' := [(6, .int 5), (5, .int v60), (0, .ref a), (1, .int x1), (2, .int x2), (3, .int x3), (4, .int x4)]) hx hb dModel_declare_125 hl (by decide) rfl (fun ls hl => ?_)
                exact J127 ls 5 (by subst ev191 er180 enur178 eFr178 eσr178 er178 ev177 ev60 ev58 eσ57 er1; exact hO.tr ((if_pos c59).trans ((if_pos c176).trans ((if_pos c179).trans ((if_neg c189).trans ((if_neg c190).trans (if_pos c192))))))) (lv_sub hl [2, 3, 4, 5, 6, 1, 0] rfl)
        · refine lv_iload hx hb dModel_declare_89 (lv_at hl 0 rfl) ?_
          refine lv_ineg hx hb dModel_declare_91 ?_
          refine lv_topi (fun v193 ev193 => ?_)
          exact hE _ _ _ _ _ hS ⟨κ, _, _, _, τ, σr178, Fr178, nur178, (by subst ev193 enur178 eFr178 eσr178 er178 ev177 ev60 ev58 eσ57 er1; exact hO.tr ((if_pos c59).trans ((if_pos c176).trans (if_neg c179)))), hT, hZ, hF, hG, hM⟩ dModel_declare_92
    · refine lv_iconst (v := 0) hx hb dModel_declare_57 (by decide) ?_
      exact hE _ _ _ _ _ hS ⟨κ, _, _, _, τ, σ57, F, nu, (by subst ev58 eσ57 er1; exact hO.tr (if_neg c59)), hT, hZ, hF, hG, hM⟩ dModel_declare_58
  have J22 : ∀ (ls : Array Slot), (Oq OUT (Q_declare_22 κ τ σ F nu x1 x2 x3 x4   )) → lv_has ls 7 [(0, .ref a), (1, .int x1), (2, .int x2), (3, .int x3), (4, .int x4)] → W p l e (bs_rm 7 0 0 177) s m args below meth c s.heap [] 0 0 Q (F0 m 22 ls [.ref a]) := by
    intro ls hO hl
    refine lv_iconst (v := 1) hx hb dModel_declare_22 (by decide) ?_
    refine lv_goto (tgt := 47) hx hb dModel_declare_23 (by decide) ?_
    exact J47 ls 1 (by first | exact Or.inl (by decide) | exact Or.inr ⟨rfl, h26⟩) (by subst er1; exact hO.tr rfl) (lv_sub hl [0, 1, 2, 3, 4] rfl)
  refine lv_if_ne (tgt := 22) hx hb dModel_declare_6 (by decide) (fun c194 => ?_) (fun c194 => ?_)
  · exact J22 ls (by subst er1; exact hO.tr (if_neg c194)) (lv_sub hl [0, 1, 2, 3, 4] rfl)
  · refine lv_iload_n hx hb dModel_declare_9 rfl (lv_at hl 1 rfl) ?_
    have J26 : ∀ (ls : Array Slot), (vp_in x3 (κ 2) ∧ (x1 = 0 → vp_in x4 (κ 0))) → (Oq OUT (Q_declare_26 κ τ σ F nu x1 x2 x3 x4   )) → lv_has ls 7 [(0, .ref a), (1, .int x1), (2, .int x2), (3, .int x3), (4, .int x4)] → W p l e (bs_rm 7 0 0 177) s m args below meth c s.heap [] 0 0 Q (F0 m 26 ls [.ref a]) := by
      intro ls h26 hO hl
      refine lv_iload_n hx hb dModel_declare_26 rfl (lv_at hl 1 rfl) ?_
      have J42 : ∀ (ls : Array Slot), (Oq OUT (Q_declare_42 κ τ σ F nu x1 x2 x3 x4   )) → lv_has ls 7 [(0, .ref a), (1, .int x1), (2, .int x2), (3, .int x3), (4, .int x4)] → W p l e (bs_rm 7 0 0 177) s m args below meth c s.heap [] 0 0 Q (F0 m 42 ls [.ref a]) := by
        intro ls hO hl
        refine lv_iconst (v := 2) hx hb dModel_declare_42 (by decide) ?_
        refine lv_goto (tgt := 47) hx hb dModel_declare_43 (by decide) ?_
        exact J47 ls 2 (by first | exact Or.inl (by decide) | exact Or.inr ⟨rfl, h26⟩) (by subst er1; exact hO.tr rfl) (lv_sub hl [0, 1, 2, 3, 4] rfl)
      refine lv_if_lt (tgt := 42) hx hb dModel_declare_27 (by decide) (fun c206 => ?_) (fun c206 => ?_)
      · exact J42 ls (by subst er1; exact hO.tr (if_pos c206)) (lv_sub hl [0, 1, 2, 3, 4] rfl)
      · refine lv_iload_n hx hb dModel_declare_30 rfl (lv_at hl 1 rfl) ?_
        refine lv_iconst (v := 2) hx hb dModel_declare_31 (by decide) ?_
        refine lv_icmp_gt (tgt := 42) hx hb dModel_declare_32 (by decide) (fun c207 => ?_) (fun c207 => ?_)
        · exact J42 ls (by subst er1; exact hO.tr ((if_neg c206).trans (if_pos c207))) (lv_sub hl [0, 1, 2, 3, 4] rfl)
        · refine lv_iload_n hx hb dModel_declare_35 rfl (lv_at hl 2 rfl) ?_
          refine pu_Si (rest := [.ref a]) S hC (n_goodName l γ _ x2) meModel_goodName qw_07c5ec0f25 ⟨Nat.le_of_ble_eq_true rfl, Nat.le_of_ble_eq_true rfl⟩ hM rfl hl.1 rfl (Nat.le_of_ble_eq_true rfl) dModel_declare_36 ⟨Nat.zero_le _, Nat.zero_le _⟩ (fun r208 hr208 => ?_)
          obtain ⟨hr208, er208⟩ := hr208
          refine lv_if_ne (tgt := 46) hx hb dModel_declare_39 (by decide) (fun c209 => ?_) (fun c209 => ?_)
          · refine lv_iconst (v := 0) hx hb dModel_declare_46 (by decide) ?_
            exact J47 ls 0 (by first | exact Or.inl (by decide) | exact Or.inr ⟨rfl, h26⟩) (by subst er208 er1; exact hO.tr ((if_neg c206).trans ((if_neg c207).trans (if_neg c209)))) (lv_sub hl [0, 1, 2, 3, 4] rfl)
          · exact J42 ls (by subst er208 er1; exact hO.tr ((if_neg c206).trans ((if_neg c207).trans (if_pos c209)))) (lv_sub hl [0, 1, 2, 3, 4] rfl)
    refine lv_if_ne (tgt := 26) hx hb dModel_declare_10 (by decide) (fun c210 => ?_) (fun c210 => ?_)
    · exact J26 ls (by first | exact ⟨hr1 (by assumption), fun h9 => absurd h9 (by assumption)⟩ | exact ⟨hr1 (by assumption), fun _ => hr196 (by assumption)⟩) (by subst er1; exact hO.tr ((if_pos c194).trans (if_neg c210))) (lv_sub hl [0, 1, 2, 3, 4] rfl)
    · refine lv_aload_n hx hb dModel_declare_13 rfl (lv_at hl 0 rfl) ?_
      refine lv_iload hx hb dModel_declare_14 (lv_at hl 4 rfl) ?_
      refine pu_Vi (rest := [.ref a]) S hC (n_noNode l γ a B Z κ b mn ν τ σ F nu hT x4 ) meModel_noNode qw_c926675227 ⟨Nat.le_of_ble_eq_true rfl, Nat.le_of_ble_eq_true rfl⟩ (md_rv hC hM) hM rfl hl.1 rfl (Nat.le_of_ble_eq_true rfl) dModel_declare_16 ⟨Nat.zero_le _, Nat.zero_le _⟩ (fun r211 hr211 => ?_)
      obtain ⟨hr211, er211⟩ := hr211
      refine lv_if_eq (tgt := 26) hx hb dModel_declare_19 (by decide) (fun c212 => ?_) (fun c212 => ?_)
      · exact J26 ls (by first | exact ⟨hr1 (by assumption), fun h9 => absurd h9 (by assumption)⟩ | exact ⟨hr1 (by assumption), fun _ => hr211 (by assumption)⟩) (by subst er211 er1; exact hO.tr ((if_pos c194).trans ((if_pos c210).trans (if_pos c212)))) (lv_sub hl [0, 1, 2, 3, 4] rfl)
      · exact J22 ls (by subst er211 er1; exact hO.tr ((if_pos c194).trans ((if_pos c210).trans (if_neg c212)))) (lv_sub hl [0, 1, 2, 3, 4] rfl)
def Q_enumeration_342 (κ : Nat → Nat) (τ : gf) (σ : Nat → Int32) (F : gf) (nu : gg) (x1 : Int32) (t0_14 : Int32) (t0_60 : Int32) (i4_64 : Int32) (i3_64 : Int32) (σ_155 : gs) (F_155 : gf) (nu_155 : gg) (i4_155 : Int32) (t0_295 : Int32) : Nat → (Nat → Nat) → gf → Int32 → XQ
  | 0, _, _, _ => default
  | n + 1, κ_342, τ_342, i5_342 => (if (τ 4 x1.toNatClampNeg) ≤ i5_342 then ((Q_newType κ τ (upd (upd σ_155 0 t0_295) 1 (-1)) F_155 nu_155 4 0 ((τ 4 x1.toNatClampNeg) - 1) (τ 4 x1.toNatClampNeg) 0).1, κ_342, τ_342, (upd (upd σ_155 0 t0_295) 1 (-1)), F_155, nu_155) else (Q_enumeration_342 κ τ σ F nu x1 t0_14 t0_60 i4_64 i3_64 σ_155 F_155 nu_155 i4_155 t0_295  n (ku κ_342 4 (κ_342 4 + 1)) ((Q_name κ_342 τ_342 (upd (upd σ_155 0 t0_295) 1 (-1)) F_155 nu_155 (τ_342 3 ((x1 - (τ 4 x1.toNatClampNeg)) + i5_342).toNatClampNeg) 2 ((Q_newType κ τ (upd (upd σ_155 0 t0_295) 1 (-1)) F_155 nu_155 4 0 ((τ 4 x1.toNatClampNeg) - 1) (τ 4 x1.toNatClampNeg) 0).1) i5_342).2.1) (i5_342 + 1)))
def Q_enumeration_295 (κ : Nat → Nat) (τ : gf) (σ : Nat → Int32) (F : gf) (nu : gg) (x1 : Int32) (t0_14 : Int32) (t0_60 : Int32) (i4_64 : Int32) (i3_64 : Int32) (σ_155 : gs) (F_155 : gf) (nu_155 : gg) (i4_155 : Int32) (t0_295 : Int32) : XQ := (if ((upd σ_155 0 t0_295) 0) ≤ 0 then (Q_enumeration_342 κ τ σ F nu x1 t0_14 t0_60 i4_64 i3_64 σ_155 F_155 nu_155 i4_155 t0_295  ((2147483647 - (0 : Int32).toInt).toNat + 1) (ku (ku κ 2 (κ 2 + 1)) 4 ((ku κ 2 (κ 2 + 1)) 4 + 1)) ((Q_name (ku κ 2 (κ 2 + 1)) ((Q_newType κ τ (upd (upd σ_155 0 t0_295) 1 (-1)) F_155 nu_155 4 0 ((τ 4 x1.toNatClampNeg) - 1) (τ 4 x1.toNatClampNeg) 0).2.2.1) (upd (upd σ_155 0 t0_295) 1 (-1)) F_155 nu_155 (((Q_newType κ τ (upd (upd σ_155 0 t0_295) 1 (-1)) F_155 nu_155 4 0 ((τ 4 x1.toNatClampNeg) - 1) (τ 4 x1.toNatClampNeg) 0).2.2.1) 3 x1.toNatClampNeg) 0 ((Q_newType κ τ (upd (upd σ_155 0 t0_295) 1 (-1)) F_155 nu_155 4 0 ((τ 4 x1.toNatClampNeg) - 1) (τ 4 x1.toNatClampNeg) 0).1) 0).2.1) 0) else (0, κ, τ, (upd σ_155 0 t0_295), F_155, nu_155))
def Q_enumeration_290 (κ : Nat → Nat) (τ : gf) (σ : Nat → Int32) (F : gf) (nu : gg) (x1 : Int32) (t0_14 : Int32) (t0_60 : Int32) (i4_64 : Int32) (i3_64 : Int32) (σ_155 : gs) (F_155 : gf) (nu_155 : gg) (i4_155 : Int32) : XQ := (Q_enumeration_295 κ τ σ F nu x1 t0_14 t0_60 i4_64 i3_64 σ_155 F_155 nu_155 i4_155  2)
def Q_enumeration_237 (κ : Nat → Nat) (τ : gf) (σ : Nat → Int32) (F : gf) (nu : gg) (x1 : Int32) (t0_14 : Int32) (t0_60 : Int32) (i4_64 : Int32) (i3_64 : Int32) (σ_155 : gs) (F_155 : gf) (nu_155 : gg) (i4_155 : Int32) (t0_196 : Int32) (i6_203 : Int32) (i5_203 : Int32) (k155 : gs → gf → gg → Int32 → XQ) (k203 : Int32 → Int32 → XQ) (t0_237 : Int32) : XQ := (k203 (i6_203 + 1) t0_237)
def Q_enumeration_232 (κ : Nat → Nat) (τ : gf) (σ : Nat → Int32) (F : gf) (nu : gg) (x1 : Int32) (t0_14 : Int32) (t0_60 : Int32) (i4_64 : Int32) (i3_64 : Int32) (σ_155 : gs) (F_155 : gf) (nu_155 : gg) (i4_155 : Int32) (t0_196 : Int32) (i6_203 : Int32) (i5_203 : Int32) (k155 : gs → gf → gg → Int32 → XQ) (k203 : Int32 → Int32 → XQ) : XQ := (Q_enumeration_237 κ τ σ F nu x1 t0_14 t0_60 i4_64 i3_64 σ_155 F_155 nu_155 i4_155 t0_196 i6_203 i5_203 k155 k203 1)
def Q_enumeration_203 (κ : Nat → Nat) (τ : gf) (σ : Nat → Int32) (F : gf) (nu : gg) (x1 : Int32) (t0_14 : Int32) (t0_60 : Int32) (i4_64 : Int32) (i3_64 : Int32) (σ_155 : gs) (F_155 : gf) (nu_155 : gg) (i4_155 : Int32) (t0_196 : Int32) (k155 : gs → gf → gg → Int32 → XQ) : Nat → Int32 → Int32 → XQ
  | 0, _, _ => default
  | n + 1, i6_203, i5_203 => (if i4_155 ≤ i6_203 then (if i5_203 = 0 then (k155 σ_155 F_155 nu_155 (i4_155 + 1)) else ((Q_wrong κ τ σ_155 F_155 nu_155 i4_155 7).1, κ, τ, ((Q_wrong κ τ σ_155 F_155 nu_155 i4_155 7).2.1), F_155, nu_155)) else (if i5_203 = 0 then (if (τ 3 i6_203.toNatClampNeg) = (τ 3 i4_155.toNatClampNeg) then (Q_enumeration_232 κ τ σ F nu x1 t0_14 t0_60 i4_64 i3_64 σ_155 F_155 nu_155 i4_155 t0_196 i6_203 i5_203 k155 (fun a0 a1 => Q_enumeration_203 κ τ σ F nu x1 t0_14 t0_60 i4_64 i3_64 σ_155 F_155 nu_155 i4_155 t0_196 k155 n a0 a1) ) else (Q_enumeration_237 κ τ σ F nu x1 t0_14 t0_60 i4_64 i3_64 σ_155 F_155 nu_155 i4_155 t0_196 i6_203 i5_203 k155 (fun a0 a1 => Q_enumeration_203 κ τ σ F nu x1 t0_14 t0_60 i4_64 i3_64 σ_155 F_155 nu_155 i4_155 t0_196 k155 n a0 a1) 0)) else (Q_enumeration_232 κ τ σ F nu x1 t0_14 t0_60 i4_64 i3_64 σ_155 F_155 nu_155 i4_155 t0_196 i6_203 i5_203 k155 (fun a0 a1 => Q_enumeration_203 κ τ σ F nu x1 t0_14 t0_60 i4_64 i3_64 σ_155 F_155 nu_155 i4_155 t0_196 k155 n a0 a1) )))
def Q_enumeration_196 (κ : Nat → Nat) (τ : gf) (σ : Nat → Int32) (F : gf) (nu : gg) (x1 : Int32) (t0_14 : Int32) (t0_60 : Int32) (i4_64 : Int32) (i3_64 : Int32) (σ_155 : gs) (F_155 : gf) (nu_155 : gg) (i4_155 : Int32) (k155 : gs → gf → gg → Int32 → XQ) (t0_196 : Int32) : XQ := (Q_enumeration_203 κ τ σ F nu x1 t0_14 t0_60 i4_64 i3_64 σ_155 F_155 nu_155 i4_155 t0_196 k155 ((2147483647 - (x1 - (τ 4 x1.toNatClampNeg)).toInt).toNat + 1) (x1 - (τ 4 x1.toNatClampNeg)) t0_196)
def Q_enumeration_191 (κ : Nat → Nat) (τ : gf) (σ : Nat → Int32) (F : gf) (nu : gg) (x1 : Int32) (t0_14 : Int32) (t0_60 : Int32) (i4_64 : Int32) (i3_64 : Int32) (σ_155 : gs) (F_155 : gf) (nu_155 : gg) (i4_155 : Int32) (k155 : gs → gf → gg → Int32 → XQ) : XQ := (Q_enumeration_196 κ τ σ F nu x1 t0_14 t0_60 i4_64 i3_64 σ_155 F_155 nu_155 i4_155 k155 1)
def Q_enumeration_155 (κ : Nat → Nat) (τ : gf) (σ : Nat → Int32) (F : gf) (nu : gg) (x1 : Int32) (t0_14 : Int32) (t0_60 : Int32) (i4_64 : Int32) (i3_64 : Int32) : Nat → gs → gf → gg → Int32 → XQ
  | 0, _, _, _, _ => default
  | n + 1, σ_155, F_155, nu_155, i4_155 => (if x1 ≤ i4_155 then (if (nI (κ 2)) = 1000 then (Q_enumeration_290 κ τ σ F nu x1 t0_14 t0_60 i4_64 i3_64 σ_155 F_155 nu_155 i4_155  ) else (if (((nI (κ 4)) + (τ 4 x1.toNatClampNeg)) + 1) ≤ 3000 then (Q_enumeration_295 κ τ σ F nu x1 t0_14 t0_60 i4_64 i3_64 σ_155 F_155 nu_155 i4_155  0) else (Q_enumeration_290 κ τ σ F nu x1 t0_14 t0_60 i4_64 i3_64 σ_155 F_155 nu_155 i4_155  ))) else (if (Q_hasHere κ τ σ_155 F_155 nu_155 (τ 3 i4_155.toNatClampNeg)) = 0 then (if (τ 3 i4_155.toNatClampNeg) = (τ 3 x1.toNatClampNeg) then (Q_enumeration_191 κ τ σ F nu x1 t0_14 t0_60 i4_64 i3_64 σ_155 F_155 nu_155 i4_155 (fun a0 a1 a2 a3 => Q_enumeration_155 κ τ σ F nu x1 t0_14 t0_60 i4_64 i3_64  n a0 a1 a2 a3) ) else (Q_enumeration_196 κ τ σ F nu x1 t0_14 t0_60 i4_64 i3_64 σ_155 F_155 nu_155 i4_155 (fun a0 a1 a2 a3 => Q_enumeration_155 κ τ σ F nu x1 t0_14 t0_60 i4_64 i3_64  n a0 a1 a2 a3) 0)) else (Q_enumeration_191 κ τ σ F nu x1 t0_14 t0_60 i4_64 i3_64 σ_155 F_155 nu_155 i4_155 (fun a0 a1 a2 a3 => Q_enumeration_155 κ τ σ F nu x1 t0_14 t0_60 i4_64 i3_64  n a0 a1 a2 a3) )))
def Q_enumeration_117 (κ : Nat → Nat) (τ : gf) (σ : Nat → Int32) (F : gf) (nu : gg) (x1 : Int32) (t0_14 : Int32) (t0_60 : Int32) (i4_64 : Int32) (i3_64 : Int32) : XQ := (if i3_64 = 0 then ((Q_wrong κ τ (upd σ 0 t0_14) F nu x1 11).1, κ, τ, ((Q_wrong κ τ (upd σ 0 t0_14) F nu x1 11).2.1), F, nu) else (if (Q_hasHere κ τ (upd σ 0 t0_14) F nu (τ 3 x1.toNatClampNeg)) = 0 then (Q_enumeration_155 κ τ σ F nu x1 t0_14 t0_60 i4_64 i3_64  ((2147483647 - (x1 - (τ 4 x1.toNatClampNeg)).toInt).toNat + 1) (upd σ 0 t0_14) F nu (x1 - (τ 4 x1.toNatClampNeg))) else ((Q_wrong κ τ (upd σ 0 t0_14) F nu x1 7).1, κ, τ, ((Q_wrong κ τ (upd σ 0 t0_14) F nu x1 7).2.1), F, nu)))
def Q_enumeration_110 (κ : Nat → Nat) (τ : gf) (σ : Nat → Int32) (F : gf) (nu : gg) (x1 : Int32) (t0_14 : Int32) (t0_60 : Int32) (i4_64 : Int32) (i3_64 : Int32) (k64 : Int32 → Int32 → XQ) (t0_110 : Int32) : XQ := (k64 (i4_64 + 1) t0_110)
def Q_enumeration_109 (κ : Nat → Nat) (τ : gf) (σ : Nat → Int32) (F : gf) (nu : gg) (x1 : Int32) (t0_14 : Int32) (t0_60 : Int32) (i4_64 : Int32) (i3_64 : Int32) (k64 : Int32 → Int32 → XQ) : XQ := (Q_enumeration_110 κ τ σ F nu x1 t0_14 t0_60 i4_64 i3_64 k64 0)
def Q_enumeration_64 (κ : Nat → Nat) (τ : gf) (σ : Nat → Int32) (F : gf) (nu : gg) (x1 : Int32) (t0_14 : Int32) (t0_60 : Int32) : Nat → Int32 → Int32 → XQ
  | 0, _, _ => default
  | n + 1, i4_64, i3_64 => (if (τ 4 x1.toNatClampNeg) ≤ i4_64 then (Q_enumeration_117 κ τ σ F nu x1 t0_14 t0_60 i4_64 i3_64  ) else (if i3_64 = 0 then (Q_enumeration_117 κ τ σ F nu x1 t0_14 t0_60 i4_64 i3_64  ) else (if (τ 2 (Q_child κ τ (upd σ 0 t0_14) F nu x1 i4_64).toNatClampNeg) = 1 then (if (τ 4 (Q_child κ τ (upd σ 0 t0_14) F nu x1 i4_64).toNatClampNeg) = 0 then (Q_enumeration_110 κ τ σ F nu x1 t0_14 t0_60 i4_64 i3_64 (fun a0 a1 => Q_enumeration_64 κ τ σ F nu x1 t0_14 t0_60  n a0 a1) 1) else (Q_enumeration_109 κ τ σ F nu x1 t0_14 t0_60 i4_64 i3_64 (fun a0 a1 => Q_enumeration_64 κ τ σ F nu x1 t0_14 t0_60  n a0 a1) )) else (Q_enumeration_109 κ τ σ F nu x1 t0_14 t0_60 i4_64 i3_64 (fun a0 a1 => Q_enumeration_64 κ τ σ F nu x1 t0_14 t0_60  n a0 a1) ))))
def Q_enumeration_60 (κ : Nat → Nat) (τ : gf) (σ : Nat → Int32) (F : gf) (nu : gg) (x1 : Int32) (t0_14 : Int32) (t0_60 : Int32) : XQ := (Q_enumeration_64 κ τ σ F nu x1 t0_14 t0_60  ((2147483647 - (0 : Int32).toInt).toNat + 1) 0 t0_60)
def Q_enumeration_59 (κ : Nat → Nat) (τ : gf) (σ : Nat → Int32) (F : gf) (nu : gg) (x1 : Int32) (t0_14 : Int32) : XQ := (Q_enumeration_60 κ τ σ F nu x1 t0_14  0)
def Q_enumeration_14 (κ : Nat → Nat) (τ : gf) (σ : Nat → Int32) (F : gf) (nu : gg) (x1 : Int32) (t0_14 : Int32) : XQ := (if ((upd σ 0 t0_14) 0) ≤ 0 then (if (τ 2 x1.toNatClampNeg) = 53 then (if (τ 4 x1.toNatClampNeg) < 1 then (Q_enumeration_59 κ τ σ F nu x1 t0_14  ) else (if 64 < (τ 4 x1.toNatClampNeg) then (Q_enumeration_59 κ τ σ F nu x1 t0_14  ) else (Q_enumeration_60 κ τ σ F nu x1 t0_14  1))) else (Q_enumeration_59 κ τ σ F nu x1 t0_14  )) else (0, κ, τ, (upd σ 0 t0_14), F, nu))
def Q_enumeration (κ : Nat → Nat) (τ : gf) (σ : Nat → Int32) (F : gf) (nu : gg) (x1 : Int32) : XQ := (if (Q_noNode κ τ σ F nu x1) = 0 then (Q_enumeration_14 κ τ σ F nu x1  0) else (Q_enumeration_14 κ τ σ F nu x1  1))
set_option maxHeartbeats 4000000 in
set_option maxRecDepth 100000 in
theorem n_enumeration (l : Launch) (γ : gE) (a : Nat) (B : Nat → Nat) (Z : Nat → Prop) (κ b mn : Nat → Nat) (ν : Nat → Int32) (τ : Nat → Nat → Int32) (σ : Nat → Int32) (F : Nat → Nat → Int32) (nu : Nat → Int64) (hT : ST κ b mn ν τ) (x1 : Int32) (hZ : SZ F) (hF : FD σ) (hG : GD F nu) : MU l yModel_enumeration bModel_enumeration 7 (some .int) 1 25 0 0 [.ref a, .int x1] γ Z (MD γ a B Z ν τ σ F nu) (mQi (fun r H => MIF γ a B Z (Q_enumeration κ τ σ F nu x1) r H) Z) := by
  refine mu_openI (by decide) (Nat.le_of_ble_eq_true rfl) ?_
  intro p e s m args below meth c ls Q S hnm hC hA hM hE hl
  have hS : va_S Z s.heap s.heap [] := va_S.rf
  obtain ⟨hx, hb, hml, hown, hW⟩ := id S
  obtain ⟨⟨hs0, hs1, hs2, hs3, hs4, hs5, hs6⟩, ⟨hv6, hv8, hv21, hv24, hv30, hv31⟩, hTR, hTY, hOB, hNM⟩ := id hT
  have hl : lv_has ls 7 [(0, .ref a), (1, .int x1)] := hl
  obtain ⟨OUT, hQ, hO⟩ : ∃ z, (z = Q_enumeration κ τ σ F nu x1) ∧ Oq z (Q_enumeration κ τ σ F nu x1) := ⟨_, rfl, rfl⟩
  rw [← hQ] at hE
  clear hQ
  refine lv_aload_n hx hb dModel_enumeration_0 rfl (lv_at hl 0 rfl) ?_
  refine lv_aload_n hx hb dModel_enumeration_1 rfl (lv_at hl 0 rfl) ?_
  refine lv_iload_n hx hb dModel_enumeration_2 rfl (lv_at hl 1 rfl) ?_
  refine pu_Vi (rest := [.ref a]) S hC (n_noNode l γ a B Z κ b mn ν τ σ F nu hT x1 ) meModel_noNode qw_c926675227 ⟨Nat.le_of_ble_eq_true rfl, Nat.le_of_ble_eq_true rfl⟩ (md_rv hC hM) hM rfl hl.1 rfl (Nat.le_of_ble_eq_true rfl) dModel_enumeration_3 ⟨Nat.zero_le _, Nat.zero_le _⟩ (fun r1 hr1 => ?_)
  obtain ⟨hr1, er1⟩ := hr1
  have J14 : ∀ (ls : Array Slot) (t0_14 : Int32), (0 < t0_14 ∨ (t0_14 = 0 ∧ vp_in x1 (κ 0))) → (Oq OUT (Q_enumeration_14 κ τ σ F nu x1   t0_14)) → lv_has ls 7 [(0, .ref a), (1, .int x1)] → W p l e (bs_rm 1 0 0 25) s m args below meth c s.heap [] 0 0 Q (F0 m 14 ls [.int t0_14, .ref a]) := by
    intro ls t0_14 ht0_14 hO hl
    refine md_pD S hC hM hS 0 rfl (by decide) rfl qw_53e275eed6 rfl (by decide +kernel) dModel_enumeration_14 (fun H locs hM hS => ?_)
    obtain ⟨σ64, eσ64⟩ : ∃ z : Nat → Int32, z = upd σ 0 t0_14 := ⟨_, rfl⟩
    rw [← eσ64] at hM
    have hF : FD σ64 := hF.up eσ64 (by decide) (by decide)
    refine lv_aload_n hx hb dModel_enumeration_17 rfl (lv_at hl 0 rfl) ?_
    refine md_gI S hC hM 0 (v := σ64 0) rfl (by decide) rfl qw_53e275eed6 dModel_enumeration_18 ?_
    refine lv_topi (fun v65 ev65 => ?_)
    refine lv_if_le (tgt := 26) hx hb dModel_enumeration_21 (by decide) (fun c66 => ?_) (fun c66 => ?_)
    · have hx1 : vp_in x1 (κ 0) := cd_0 eσ64 ev65 (by assumption) ht0_14
      refine lv_aload_n hx hb dModel_enumeration_26 rfl (lv_at hl 0 rfl) ?_
      refine md_gA S hC hM 4 (by decide) rfl qw_a8caa30de3 dModel_enumeration_27 ?_
      refine lv_iload_n hx hb dModel_enumeration_30 rfl (lv_at hl 1 rfl) ?_
      refine md_ild S hC hM 4 2 4000 (τ 4) rfl rfl (by decide) rfl rfl (vin (by assumption) (by omega)) dModel_enumeration_31 ?_
      refine lv_topi (fun v67 ev67 => ?_)
      refine lv_istore_n (lv' := [(2, .int v67), (0, .ref a), (1, .int x1)]) hx hb dModel_enumeration_32 rfl hl (by decide) rfl (fun ls hl => ?_)
      obtain ⟨hn2, hmx⟩ := mn_of hTR hx1 ev67
      refine lv_aload_n hx hb dModel_enumeration_33 rfl (lv_at hl 1 rfl) ?_
      refine md_gA S hC hM 2 (by decide) rfl qw_3471296067 dModel_enumeration_34 ?_
      refine lv_iload_n hx hb dModel_enumeration_37 rfl (lv_at hl 2 rfl) ?_
      refine md_ild S hC hM 2 0 4000 (τ 2) rfl rfl (by decide) rfl rfl (vin (by assumption) (by omega)) dModel_enumeration_38 ?_
      refine lv_topi (fun v68 ev68 => ?_)
      refine lv_bipush (v := 53) hx hb dModel_enumeration_39 (by decide) ?_
      have J60 : ∀ (ls : Array Slot) (t0_60 : Int32), (t0_60 = 0 ∨ mn x1.toNatClampNeg ≤ 64) → (Oq OUT (Q_enumeration_60 κ τ σ F nu x1 t0_14   t0_60)) → lv_has ls 7 [(0, .ref a), (1, .int x1), (2, .int v67)] → W p l e (bs_rm 1 0 0 25) s m args below meth c H locs 0 0 Q (F0 m 60 ls [.int t0_60]) := by
        intro ls t0_60 ht0_60 hO hl
        refine lv_istore_n (lv' := [(3, .int t0_60), (0, .ref a), (1, .int x1), (2, .int v67)]) hx hb dModel_enumeration_60 rfl hl (by decide) rfl (fun ls hl => ?_)
        refine lv_iconst (v := 0) hx hb dModel_enumeration_61 (by decide) ?_
        refine lv_istore (lv' := [(4, .int 0), (3, .int t0_60), (0, .ref a), (1, .int x1), (2, .int v67)]) hx hb dModel_enumeration_62 hl (by decide) rfl (fun ls hl => ?_)
        have J64 : ∀ (N64 : Nat) (ls : Array Slot) (i4_64 : Int32) (i3_64 : Int32), (¬ i4_64 < 0) → (i3_64 = 0 ∨ mn x1.toNatClampNeg ≤ 64) → (Oq OUT (Q_enumeration_64 κ τ σ F nu x1 t0_14 t0_60  (N64 + 1) i4_64 i3_64)) → (2147483647 - i4_64.toInt).toNat = N64 → lv_has ls 7 [(0, .ref a), (1, .int x1), (2, .int v67), (3, .int i3_64), (4, .int i4_64)] → W p l e (bs_rm 1 0 0 25) s m args below meth c H locs 0 0 Q (F0 m 64 ls []) := by
          intro N64
          induction N64 using Nat.strongRecOn with
          | ind N64 ih64 =>
            intro ls i4_64 i3_64 hi4_64 hi3_64 hO hm64 hl
            refine lv_iload hx hb dModel_enumeration_64 (lv_at hl 4 rfl) ?_
            refine lv_iload_n hx hb dModel_enumeration_66 rfl (lv_at hl 2 rfl) ?_
            have J117 : ∀ (ls : Array Slot), (Oq OUT (Q_enumeration_117 κ τ σ F nu x1 t0_14 t0_60 i4_64 i3_64   )) → lv_has ls 7 [(0, .ref a), (1, .int x1), (2, .int v67), (3, .int i3_64), (4, .int i4_64)] → W p l e (bs_rm 1 0 0 25) s m args below meth c H locs 0 0 Q (F0 m 117 ls []) := by
              intro ls hO hl
              refine lv_iload_n hx hb dModel_enumeration_117 rfl (lv_at hl 3 rfl) ?_
              refine lv_if_ne (tgt := 129) hx hb dModel_enumeration_118 (by decide) (fun c178 => ?_) (fun c178 => ?_)
              · have h64 : mn x1.toNatClampNeg ≤ 64 := hi3_64.resolve_left (by assumption)
                refine lv_aload_n hx hb dModel_enumeration_129 rfl (lv_at hl 0 rfl) ?_
                refine lv_aload_n hx hb dModel_enumeration_130 rfl (lv_at hl 0 rfl) ?_
                refine md_gA S hC hM 3 (by decide) rfl qw_9fb851a5fa dModel_enumeration_131 ?_
                refine lv_iload_n hx hb dModel_enumeration_134 rfl (lv_at hl 1 rfl) ?_
                refine md_ild S hC hM 3 1 4000 (τ 3) rfl rfl (by decide) rfl rfl (vin (by assumption) (by omega)) dModel_enumeration_135 ?_
                refine lv_topi (fun v179 ev179 => ?_)
                refine pu_Vi (rest := []) S hC (n_hasHere l γ a B Z κ b mn ν τ σ64 F nu hT v179 ) meModel_hasHere qw_52fabcdf69 ⟨Nat.le_of_ble_eq_true rfl, Nat.le_of_ble_eq_true rfl⟩ (md_rv hC hM) hM rfl hl.1 rfl (Nat.le_of_ble_eq_true rfl) dModel_enumeration_136 ⟨Nat.zero_le _, Nat.zero_le _⟩ (fun r180 hr180 => ?_)
                obtain ⟨hr180, er180⟩ := hr180
                refine lv_if_eq (tgt := 150) hx hb dModel_enumeration_139 (by decide) (fun c181 => ?_) (fun c181 => ?_)
                · refine lv_iload_n hx hb dModel_enumeration_150 rfl (lv_at hl 1 rfl) ?_
                  refine lv_iload_n hx hb dModel_enumeration_151 rfl (lv_at hl 2 rfl) ?_
                  refine lv_isub hx hb dModel_enumeration_152 ?_
                  refine lv_topi (fun v182 ev182 => ?_)
                  refine lv_istore (lv' := [(4, .int v182), (0, .ref a), (1, .int x1), (2, .int v67), (3, .int i3_64)]) hx hb dModel_enumeration_153 hl (by decide) rfl (fun ls hl => ?_)
                  have J155 : ∀ (N155 : Nat) (ls : Array Slot) (H : Heap) (locs : List Loc) (σ_155 : Nat → Int32) (F_155 : Nat → Nat → Int32) (nu_155 : Nat → Int64) (i4_155 : Int32), MD γ a B Z ν τ σ_155 F_155 nu_155 H → va_S Z s.heap H locs → (FD σ_155) → (GD F_155 nu_155) → (SZ F_155) → (¬ i4_155 < 0) → (Oq OUT (Q_enumeration_155 κ τ σ F nu x1 t0_14 t0_60 i4_64 i3_64  (N155 + 1) σ_155 F_155 nu_155 i4_155)) → (2147483647 - i4_155.toInt).toNat = N155 → lv_has ls 7 [(0, .ref a), (1, .int x1), (2, .int v67), (3, .int i3_64), (4, .int i4_155)] → W p l e (bs_rm 1 0 0 25) s m args below meth c H locs 0 0 Q (F0 m 155 ls []) := by
                    intro N155
                    induction N155 using Nat.strongRecOn with
                    | ind N155 ih155 =>
                      intro ls H locs σ_155 F_155 nu_155 i4_155 hM hS hF hG hZ hi4_155 hO hm155 hl
                      refine lv_iload hx hb dModel_enumeration_155 (lv_at hl 4 rfl) ?_
                      refine lv_iload_n hx hb dModel_enumeration_157 rfl (lv_at hl 1 rfl) ?_
                      refine lv_icmp_ge (tgt := 265) hx hb dModel_enumeration_158 (by decide) (fun c183 => ?_) (fun c183 => ?_)
                      · refine lv_aload_n hx hb dModel_enumeration_265 rfl (lv_at hl 0 rfl) ?_
                        refine lv_aload_n hx hb dModel_enumeration_266 rfl (lv_at hl 0 rfl) ?_
                        refine md_gI S hC hM 21 (v := nI (κ 2)) hv21 (by decide) rfl qw_c82bee9e97 dModel_enumeration_267 ?_
                        refine lv_topi (fun v184 ev184 => ?_)
                        refine lv_sipush (v := 1000) hx hb dModel_enumeration_270 (by decide) ?_
                        have J295 : ∀ (ls : Array Slot) (t0_295 : Int32), (0 < t0_295 ∨ (t0_295 = 0 ∧ κ 2 < 1000 ∧ κ 4 + mn x1.toNatClampNeg + 1 ≤ 3000)) → (Oq OUT (Q_enumeration_295 κ τ σ F nu x1 t0_14 t0_60 i4_64 i3_64 σ_155 F_155 nu_155 i4_155   t0_295)) → lv_has ls 7 [(0, .ref a), (1, .int x1), (2, .int v67), (3, .int i3_64), (4, .int i4_155)] → W p l e (bs_rm 1 0 0 25) s m args below meth c H locs 0 0 Q (F0 m 295 ls [.int t0_295, .ref a]) := by
                          intro ls t0_295 ht0_295 hO hl
                          refine md_pD S hC hM hS 0 rfl (by decide) rfl qw_53e275eed6 rfl (by decide +kernel) dModel_enumeration_295 (fun H locs hM hS => ?_)
                          obtain ⟨σ204, eσ204⟩ : ∃ z : Nat → Int32, z = upd σ_155 0 t0_295 := ⟨_, rfl⟩
                          rw [← eσ204] at hM
                          have hF : FD σ204 := hF.up eσ204 (by decide) (by decide)
                          refine lv_aload_n hx hb dModel_enumeration_298 rfl (lv_at hl 0 rfl) ?_
                          refine md_gI S hC hM 0 (v := σ204 0) rfl (by decide) rfl qw_53e275eed6 dModel_enumeration_299 ?_
                          refine lv_topi (fun v205 ev205 => ?_)
                          refine lv_if_le (tgt := 307) hx hb dModel_enumeration_302 (by decide) (fun c206 => ?_) (fun c206 => ?_)
                          · obtain ⟨hN2, hN4⟩ := cd_0 eσ204 ev205 (by assumption) ht0_295
                            refine lv_aload_n hx hb dModel_enumeration_307 rfl (lv_at hl 0 rfl) ?_
                            refine lv_iconst (v := (-1)) hx hb dModel_enumeration_308 (by decide) ?_
                            refine md_pD S hC hM hS 1 rfl (by decide) rfl qw_d4a57461ea rfl (by decide +kernel) dModel_enumeration_309 (fun H locs hM hS => ?_)
                            obtain ⟨σ207, eσ207⟩ : ∃ z : Nat → Int32, z = upd σ204 1 (-1) := ⟨_, rfl⟩
                            rw [← eσ207] at hM
                            have hF : FD σ207 := hF.up eσ207 (by decide) (by decide)
                            refine lv_aload_n hx hb dModel_enumeration_312 rfl (lv_at hl 0 rfl) ?_
                            refine lv_iconst (v := 4) hx hb dModel_enumeration_313 (by decide) ?_
                            refine lv_iconst (v := 0) hx hb dModel_enumeration_314 (by decide) ?_
                            refine lv_iload_n hx hb dModel_enumeration_315 rfl (lv_at hl 2 rfl) ?_
                            refine lv_iconst (v := 1) hx hb dModel_enumeration_316 (by decide) ?_
                            refine lv_isub hx hb dModel_enumeration_317 ?_
                            refine lv_topi (fun v208 ev208 => ?_)
                            refine lv_iload_n hx hb dModel_enumeration_318 rfl (lv_at hl 2 rfl) ?_
                            refine lv_iconst (v := 0) hx hb dModel_enumeration_319 (by decide) ?_
                            refine mu_Vi (rest := []) S hC (fun q h => hA q (Nat.le_trans hS.1 h)) (fun q h => h) hS (n_newType l γ a B Z κ b mn ν τ σ207 F_155 nu_155 hT 4 0 v208 v67 0 (by omega) (fun h9 => absurd h9 (by decide))) meModel_newType qw_90495fa5dd ⟨Nat.le_of_ble_eq_true rfl, Nat.le_of_ble_eq_true rfl⟩ (md_rv hC hM) hM rfl hl.1 rfl (Nat.le_of_ble_eq_true rfl) dModel_enumeration_320 ⟨Nat.le_refl _, Nat.le_refl _⟩ (fun r209 H locs hPO hS _ _ => ?_)
                            obtain ⟨hrr209, ν_r209, τ_r209, eOr209, hM, hT_r209⟩ := hPO
                            have er209 : r209 = (Q_newType κ τ σ207 F_155 nu_155 4 0 v208 v67 0).1 := by rw [eOr209.eq]
                            have eτ_r209 : τ_r209 = (Q_newType κ τ σ207 F_155 nu_155 4 0 v208 v67 0).2.2.1 := by rw [eOr209.eq]
                            clear eOr209
                            obtain ⟨κ_r209, hκ_r209⟩ : ∃ z : Nat → Nat, z = ku κ 2 (κ 2 + 1) := ⟨_, rfl⟩
                            rw [← hκ_r209] at hT_r209
                            obtain ⟨⟨hs0_r209, hs1_r209, hs2_r209, hs3_r209, hs4_r209, hs5_r209, hs6_r209⟩, ⟨hv6_r209, hv8_r209, hv21_r209, hv24_r209, hv30_r209, hv31_r209⟩, hTR_r209, hTY_r209, hOB_r209, hNM_r209⟩ := id hT_r209
                            have hk4_r209 : κ_r209 4 = κ 4 := (by rw [hκ_r209]; rfl)
                            have hk5_r209 : κ_r209 5 = κ 5 := (by rw [hκ_r209]; rfl)
                            have hk0_r209 : κ_r209 0 = κ 0 := (by rw [hκ_r209]; rfl)
                            have hk1_r209 : κ_r209 1 = κ 1 := (by rw [hκ_r209]; rfl)
                            refine lv_istore (lv' := [(4, .int r209), (0, .ref a), (1, .int x1), (2, .int v67), (3, .int i3_64)]) hx hb dModel_enumeration_323 hl (by decide) rfl (fun ls hl => ?_)
                            refine lv_aload_n hx hb dModel_enumeration_325 rfl (lv_at hl 1 rfl) ?_
                            refine lv_aload_n hx hb dModel_enumeration_326 rfl (lv_at hl 1 rfl) ?_
                            refine md_gA S hC hM 3 (by decide) rfl qw_9fb851a5fa dModel_enumeration_327 ?_
                            refine lv_iload_n hx hb dModel_enumeration_330 rfl (lv_at hl 2 rfl) ?_
                            refine md_ild S hC hM 3 1 4000 (τ_r209 3) rfl rfl (by decide) rfl rfl (vin (by assumption) (by omega)) dModel_enumeration_331 ?_
                            refine lv_topi (fun v210 ev210 => ?_)
                            refine lv_iconst (v := 0) hx hb dModel_enumeration_332 (by decide) ?_
                            refine lv_iload hx hb dModel_enumeration_333 (lv_at hl 0 rfl) ?_
                            refine lv_iconst (v := 0) hx hb dModel_enumeration_335 (by decide) ?_
                            refine mu_Vv (rest := []) S hC (fun q h => hA q (Nat.le_trans hS.1 h)) (fun q h => h) hS (n_name l γ a B Z κ_r209 b mn ν_r209 τ_r209 σ207 F_155 nu_155 hT_r209 v210 0 r209 0 (by omega) ⟨fun h9 => absurd h9 (by decide), fun h9 => absurd h9 (by decide), fun h9 => absurd h9 (by decide)⟩) meModel_name qw_8127fdf1ea ⟨Nat.le_of_ble_eq_true rfl, Nat.le_of_ble_eq_true rfl⟩ (md_rv hC hM) hM rfl hl.1 rfl (Nat.le_of_ble_eq_true rfl) dModel_enumeration_336 ⟨Nat.le_refl _, Nat.le_refl _⟩ (fun H locs hPO hS _ _ => ?_)
                            obtain ⟨ν_r211, τ_r211, eOr211, hM, hT_r211⟩ := hPO
                            have eτ_r211 : τ_r211 = (Q_name κ_r209 τ_r209 σ207 F_155 nu_155 v210 0 r209 0).2.1 := by rw [eOr211.eq]
                            clear eOr211
                            obtain ⟨κ_r211, hκ_r211⟩ : ∃ z : Nat → Nat, z = ku κ_r209 4 (κ_r209 4 + 1) := ⟨_, rfl⟩
                            rw [← hκ_r211] at hT_r211
                            obtain ⟨⟨hs0_r211, hs1_r211, hs2_r211, hs3_r211, hs4_r211, hs5_r211, hs6_r211⟩, ⟨hv6_r211, hv8_r211, hv21_r211, hv24_r211, hv30_r211, hv31_r211⟩, hTR_r211, hTY_r211, hOB_r211, hNM_r211⟩ := id hT_r211
                            have hk4_r211 : κ_r211 4 = κ_r209 4 + 1 := (by rw [hκ_r211]; rfl)
                            have hk5_r211 : κ_r211 5 = κ_r209 5 := (by rw [hκ_r211]; rfl)
                            have hk0_r211 : κ_r211 0 = κ_r209 0 := (by rw [hκ_r211]; rfl)
                            have hk1_r211 : κ_r211 1 = κ_r209 1 := (by rw [hκ_r211]; rfl)
                            refine lv_iconst (v := 0) hx hb dModel_enumeration_339 (by decide) ?_
                            refine lv_istore (lv' := [(5, .int 0), (4, .int r209), (0, .ref a), (1, .int x1), (2, .int v67), (3, .int i3_64)]) hx hb dModel_enumeration_340 hl (by decide) rfl (fun ls hl => ?_)
                            have J342 : ∀ (N342 : Nat) (ls : Array Slot) (H : Heap) (locs : List Loc) (κ_342 : Nat → Nat) (b_342 : Nat → Nat) (mn_342 : Nat → Nat) (ν_342 : Nat → Int32) (τ_342 : Nat → Nat → Int32) (i5_342 : Int32), MD γ a B Z ν_342 τ_342 σ207 F_155 nu_155 H → va_S Z s.heap H locs → ST κ_342 b_342 mn_342 ν_342 τ_342 → (¬ i5_342 < 0) → (κ_342 4 + mn x1.toNatClampNeg ≤ 3000 + i5_342.toNatClampNeg) → (κ_342 5 = κ 5 ∧ κ_342 0 = κ 0 ∧ κ_342 1 = κ 1) → (Oq OUT (Q_enumeration_342 κ τ σ F nu x1 t0_14 t0_60 i4_64 i3_64 σ_155 F_155 nu_155 i4_155 t0_295  (N342 + 1) κ_342 τ_342 i5_342)) → (2147483647 - i5_342.toInt).toNat = N342 → lv_has ls 7 [(0, .ref a), (1, .int x1), (2, .int v67), (3, .int i3_64), (4, .int r209), (5, .int i5_342)] → W p l e (bs_rm 1 0 0 25) s m args below meth c H locs 0 0 Q (F0 m 342 ls []) := by
                              intro N342
                              induction N342 using Nat.strongRecOn with
                              | ind N342 ih342 =>
                                intro ls H locs κ_342 b_342 mn_342 ν_342 τ_342 i5_342 hM hS hT_342 hi5_342 hk4 hk5 hO hm342 hl
                                obtain ⟨⟨hs0_342, hs1_342, hs2_342, hs3_342, hs4_342, hs5_342, hs6_342⟩, ⟨hv6_342, hv8_342, hv21_342, hv24_342, hv30_342, hv31_342⟩, hTR_342, hTY_342, hOB_342, hNM_342⟩ := id hT_342
                                refine lv_iload hx hb dModel_enumeration_342 (lv_at hl 5 rfl) ?_
                                refine lv_iload_n hx hb dModel_enumeration_344 rfl (lv_at hl 2 rfl) ?_
                                refine lv_icmp_ge (tgt := 374) hx hb dModel_enumeration_345 (by decide) (fun c212 => ?_) (fun c212 => ?_)
                                · refine lv_iload hx hb dModel_enumeration_374 (lv_at hl 4 rfl) ?_
                                  exact hE _ _ _ _ _ hS ⟨κ_342, _, _, _, τ_342, σ207, F_155, nu_155, (by subst hκ_r211 eτ_r211 ev210 hκ_r209 eτ_r209 er209 ev208 eσ207 ev205 eσ204 ev184 ev182 er180 ev179 ev68 ev67 ev65 eσ64 er1; exact hO.tr (if_pos c212)), hT_342, hZ, hF, hG, hM⟩ dModel_enumeration_376
                                · have hj5 : vp_in i5_342 (mn x1.toNatClampNeg) := vcmp (by assumption) hn2 (by assumption) (by omega)
                                  refine lv_aload_n hx hb dModel_enumeration_348 rfl (lv_at hl 0 rfl) ?_
                                  refine lv_aload_n hx hb dModel_enumeration_349 rfl (lv_at hl 0 rfl) ?_
                                  refine md_gA S hC hM 3 (by decide) rfl qw_9fb851a5fa dModel_enumeration_350 ?_
                                  refine lv_iload_n hx hb dModel_enumeration_353 rfl (lv_at hl 1 rfl) ?_
                                  refine lv_iload_n hx hb dModel_enumeration_354 rfl (lv_at hl 2 rfl) ?_
                                  refine lv_isub hx hb dModel_enumeration_355 ?_
                                  refine lv_topi (fun v213 ev213 => ?_)
                                  refine lv_iload hx hb dModel_enumeration_356 (lv_at hl 5 rfl) ?_
                                  refine lv_iadd hx hb dModel_enumeration_358 ?_
                                  refine lv_topi (fun v214 ev214 => ?_)
                                  refine md_ild S hC hM 3 1 4000 (τ_342 3) rfl rfl (by decide) rfl rfl (en_ix hTR hs0 hx1 hn2 ev213 hj5 ev214) dModel_enumeration_359 ?_
                                  refine lv_topi (fun v215 ev215 => ?_)
                                  refine lv_iconst (v := 2) hx hb dModel_enumeration_360 (by decide) ?_
                                  refine lv_iload hx hb dModel_enumeration_361 (lv_at hl 4 rfl) ?_
                                  refine lv_iload hx hb dModel_enumeration_363 (lv_at hl 5 rfl) ?_
                                  refine mu_Vv (rest := []) S hC (fun q h => hA q (Nat.le_trans hS.1 h)) (fun q h => h) hS (n_name l γ a B Z κ_342 b_342 mn_342 ν_342 τ_342 σ207 F_155 nu_155 hT_342 v215 2 r209 i5_342 (by have := vix hj5; omega) ⟨fun h9 => absurd h9 (by decide), fun _ => ⟨_, hs2, hrr209⟩, fun h9 => absurd h9 (by decide)⟩) meModel_name qw_8127fdf1ea ⟨Nat.le_of_ble_eq_true rfl, Nat.le_of_ble_eq_true rfl⟩ (md_rv hC hM) hM rfl hl.1 rfl (Nat.le_of_ble_eq_true rfl) dModel_enumeration_365 ⟨Nat.le_refl _, Nat.le_refl _⟩ (fun H locs hPO hS _ _ => ?_)
                                  obtain ⟨ν_r216, τ_r216, eOr216, hM, hT_r216⟩ := hPO
                                  have eτ_r216 : τ_r216 = (Q_name κ_342 τ_342 σ207 F_155 nu_155 v215 2 r209 i5_342).2.1 := by rw [eOr216.eq]
                                  clear eOr216
                                  obtain ⟨κ_r216, hκ_r216⟩ : ∃ z : Nat → Nat, z = ku κ_342 4 (κ_342 4 + 1) := ⟨_, rfl⟩
                                  rw [← hκ_r216] at hT_r216
                                  obtain ⟨⟨hs0_r216, hs1_r216, hs2_r216, hs3_r216, hs4_r216, hs5_r216, hs6_r216⟩, ⟨hv6_r216, hv8_r216, hv21_r216, hv24_r216, hv30_r216, hv31_r216⟩, hTR_r216, hTY_r216, hOB_r216, hNM_r216⟩ := id hT_r216
                                  have hk4_r216 : κ_r216 4 = κ_342 4 + 1 := (by rw [hκ_r216]; rfl)
                                  have hk5_r216 : κ_r216 5 = κ_342 5 := (by rw [hκ_r216]; rfl)
                                  have hk0_r216 : κ_r216 0 = κ_342 0 := (by rw [hκ_r216]; rfl)
                                  have hk1_r216 : κ_r216 1 = κ_342 1 := (by rw [hκ_r216]; rfl)
                                  obtain ⟨v217, ev217⟩ : ∃ y : Int32, y = i5_342 + 1 := ⟨_, rfl⟩
                                  refine lv_iinc (v := v217) (lv' := [(5, .int v217), (0, .ref a), (1, .int x1), (2, .int v67), (3, .int i3_64), (4, .int r209)]) hx hb dModel_enumeration_368 hl (k := 5) rfl (by rw [ev217]; rfl) (by decide) rfl (fun ls hl => ?_)
                                  refine lv_goto (tgt := 342) hx hb dModel_enumeration_371 (by decide) ?_
                                  exact ih342 _ (by have q1 : i5_342.toInt < 2147483647 := (by first | assumption | exact (mu_up (k := i5_342) (by assumption)).2); have q2 := mu_lt q1; rw [← ev217] at q2; omega) ls _ _ κ_r216 b_342 mn_342 ν_r216 τ_r216 v217 hM hS hT_r216 (by first | decide | exact nn_inc (by assumption) (by assumption) (by assumption)) (by rw [(ix_inc hj5 hmx ev217).1]; omega) (by omega) (by have hN : N342 = (2147483647 - v217.toInt).toNat + 1 := (by have q1 : i5_342.toInt < 2147483647 := (by first | assumption | exact (mu_up (k := i5_342) (by assumption)).2); have q2 := mu_lt q1; rw [← ev217] at q2; omega); rw [← hN]; clear hN; subst ev217 hκ_r216 eτ_r216 ev215 ev214 ev213 hκ_r211 eτ_r211 ev210 hκ_r209 eτ_r209 er209 ev208 eσ207 ev205 eσ204 ev184 ev182 er180 ev179 ev68 ev67 ev65 eσ64 er1; exact hO.tr (if_neg c212)) rfl (lv_sub hl [1, 2, 3, 4, 5, 0] rfl)
                            exact J342 _ ls _ _ κ_r211 b mn ν_r211 τ_r211 0 hM hS hT_r211 (by first | decide | exact nn_inc (by assumption) (by assumption) (by assumption)) (by show _ ≤ 3000 + 0; omega) (by omega) (by subst hκ_r211 eτ_r211 ev210 hκ_r209 eτ_r209 er209 ev208 eσ207 ev205 eσ204 ev184 ev182 er180 ev179 ev68 ev67 ev65 eσ64 er1; exact hO.tr (if_pos c206)) rfl (lv_sub hl [2, 3, 4, 5, 1, 0] rfl)
                          · refine lv_iconst (v := 0) hx hb dModel_enumeration_305 (by decide) ?_
                            exact hE _ _ _ _ _ hS ⟨κ, _, _, _, τ, σ204, F_155, nu_155, (by subst ev205 eσ204 ev184 ev182 er180 ev179 ev68 ev67 ev65 eσ64 er1; exact hO.tr (if_neg c206)), hT, hZ, hF, hG, hM⟩ dModel_enumeration_306
                        have J290 : ∀ (ls : Array Slot), (Oq OUT (Q_enumeration_290 κ τ σ F nu x1 t0_14 t0_60 i4_64 i3_64 σ_155 F_155 nu_155 i4_155   )) → lv_has ls 7 [(0, .ref a), (1, .int x1), (2, .int v67), (3, .int i3_64), (4, .int i4_155)] → W p l e (bs_rm 1 0 0 25) s m args below meth c H locs 0 0 Q (F0 m 290 ls [.ref a]) := by
                          intro ls hO hl
                          refine lv_iconst (v := 2) hx hb dModel_enumeration_290 (by decide) ?_
                          refine lv_goto (tgt := 295) hx hb dModel_enumeration_291 (by decide) ?_
                          exact J295 ls 2 (by first | exact Or.inl (by decide) | exact Or.inr ⟨rfl, ne_lt ev184 (by assumption) rfl hs2, en_le ev186 hn2 ev187 ev188 (by assumption) (by omega) (by omega)⟩) (by subst ev184 ev182 er180 ev179 ev68 ev67 ev65 eσ64 er1; exact hO.tr rfl) (lv_sub hl [0, 1, 2, 3, 4] rfl)
                        refine lv_icmp_eq (tgt := 290) hx hb dModel_enumeration_273 (by decide) (fun c218 => ?_) (fun c218 => ?_)
                        · exact J290 ls (by subst ev184 ev182 er180 ev179 ev68 ev67 ev65 eσ64 er1; exact hO.tr ((if_pos c183).trans (if_pos c218))) (lv_sub hl [0, 1, 2, 3, 4] rfl)
                        · refine lv_aload_n hx hb dModel_enumeration_276 rfl (lv_at hl 0 rfl) ?_
                          refine md_gI S hC hM 30 (v := nI (κ 4)) hv30 (by decide) rfl qw_8d5d48b583 dModel_enumeration_277 ?_
                          refine lv_topi (fun v219 ev219 => ?_)
                          refine lv_iload_n hx hb dModel_enumeration_280 rfl (lv_at hl 2 rfl) ?_
                          refine lv_iadd hx hb dModel_enumeration_281 ?_
                          refine lv_topi (fun v220 ev220 => ?_)
                          refine lv_iconst (v := 1) hx hb dModel_enumeration_282 (by decide) ?_
                          refine lv_iadd hx hb dModel_enumeration_283 ?_
                          refine lv_topi (fun v221 ev221 => ?_)
                          refine lv_sipush (v := 3000) hx hb dModel_enumeration_284 (by decide) ?_
                          refine lv_icmp_le (tgt := 294) hx hb dModel_enumeration_287 (by decide) (fun c222 => ?_) (fun c222 => ?_)
                          · refine lv_iconst (v := 0) hx hb dModel_enumeration_294 (by decide) ?_
                            exact J295 ls 0 (by first | exact Or.inl (by decide) | exact Or.inr ⟨rfl, ne_lt ev184 (by assumption) rfl hs2, en_le ev219 hn2 ev220 ev221 (by assumption) (by omega) (by omega)⟩) (by subst ev221 ev220 ev219 ev184 ev182 er180 ev179 ev68 ev67 ev65 eσ64 er1; exact hO.tr ((if_pos c183).trans ((if_neg c218).trans (if_pos c222)))) (lv_sub hl [0, 1, 2, 3, 4] rfl)
                          · exact J290 ls (by subst ev221 ev220 ev219 ev184 ev182 er180 ev179 ev68 ev67 ev65 eσ64 er1; exact hO.tr ((if_pos c183).trans ((if_neg c218).trans (if_neg c222)))) (lv_sub hl [0, 1, 2, 3, 4] rfl)
                      · have hin4 : vp_in i4_155 (κ 0) := vin (vcmp (by assumption) (vnI hx1) (by assumption) (by have := vix hx1; omega)) (Nat.le_of_lt (vix hx1))
                        refine lv_aload_n hx hb dModel_enumeration_161 rfl (lv_at hl 0 rfl) ?_
                        refine lv_aload_n hx hb dModel_enumeration_162 rfl (lv_at hl 0 rfl) ?_
                        refine md_gA S hC hM 3 (by decide) rfl qw_9fb851a5fa dModel_enumeration_163 ?_
                        refine lv_iload hx hb dModel_enumeration_166 (lv_at hl 4 rfl) ?_
                        refine md_ild S hC hM 3 1 4000 (τ 3) rfl rfl (by decide) rfl rfl (vin (by assumption) (by omega)) dModel_enumeration_168 ?_
                        refine lv_topi (fun v223 ev223 => ?_)
                        refine pu_Vi (rest := []) S hC (n_hasHere l γ a B Z κ b mn ν τ σ_155 F_155 nu_155 hT v223 ) meModel_hasHere qw_52fabcdf69 ⟨Nat.le_of_ble_eq_true rfl, Nat.le_of_ble_eq_true rfl⟩ (md_rv hC hM) hM rfl hl.1 rfl (Nat.le_of_ble_eq_true rfl) dModel_enumeration_169 ⟨Nat.zero_le _, Nat.zero_le _⟩ (fun r224 hr224 => ?_)
                        obtain ⟨hr224, er224⟩ := hr224
                        have J196 : ∀ (ls : Array Slot) (t0_196 : Int32), (Oq OUT (Q_enumeration_196 κ τ σ F nu x1 t0_14 t0_60 i4_64 i3_64 σ_155 F_155 nu_155 i4_155 (fun a0 a1 a2 a3 => Q_enumeration_155 κ τ σ F nu x1 t0_14 t0_60 i4_64 i3_64  N155 a0 a1 a2 a3)  t0_196)) → lv_has ls 7 [(0, .ref a), (1, .int x1), (2, .int v67), (3, .int i3_64), (4, .int i4_155)] → W p l e (bs_rm 1 0 0 25) s m args below meth c H locs 0 0 Q (F0 m 196 ls [.int t0_196]) := by
                          intro ls t0_196 hO hl
                          refine lv_istore (lv' := [(5, .int t0_196), (0, .ref a), (1, .int x1), (2, .int v67), (3, .int i3_64), (4, .int i4_155)]) hx hb dModel_enumeration_196 hl (by decide) rfl (fun ls hl => ?_)
                          refine lv_iload_n hx hb dModel_enumeration_198 rfl (lv_at hl 2 rfl) ?_
                          refine lv_iload_n hx hb dModel_enumeration_199 rfl (lv_at hl 3 rfl) ?_
                          refine lv_isub hx hb dModel_enumeration_200 ?_
                          refine lv_topi (fun v239 ev239 => ?_)
                          refine lv_istore (lv' := [(6, .int v239), (5, .int t0_196), (0, .ref a), (1, .int x1), (2, .int v67), (3, .int i3_64), (4, .int i4_155)]) hx hb dModel_enumeration_201 hl (by decide) rfl (fun ls hl => ?_)
                          have J203 : ∀ (N203 : Nat) (ls : Array Slot) (i6_203 : Int32) (i5_203 : Int32), (¬ i6_203 < 0) → (Oq OUT (Q_enumeration_203 κ τ σ F nu x1 t0_14 t0_60 i4_64 i3_64 σ_155 F_155 nu_155 i4_155 t0_196 (fun a0 a1 a2 a3 => Q_enumeration_155 κ τ σ F nu x1 t0_14 t0_60 i4_64 i3_64  N155 a0 a1 a2 a3) (N203 + 1) i6_203 i5_203)) → (2147483647 - i6_203.toInt).toNat = N203 → lv_has ls 7 [(0, .ref a), (1, .int x1), (2, .int v67), (3, .int i3_64), (4, .int i4_155), (5, .int i5_203), (6, .int i6_203)] → W p l e (bs_rm 1 0 0 25) s m args below meth c H locs 0 0 Q (F0 m 203 ls []) := by
                            intro N203
                            induction N203 using Nat.strongRecOn with
                            | ind N203 ih203 =>
                              intro ls i6_203 i5_203 hi6_203 hO hm203 hl
                              refine lv_iload hx hb dModel_enumeration_203 (lv_at hl 6 rfl) ?_
                              refine lv_iload hx hb dModel_enumeration_205 (lv_at hl 4 rfl) ?_
                              refine lv_icmp_ge (tgt := 245) hx hb dModel_enumeration_207 (by decide) (fun c240 => ?_) (fun c240 => ?_)
                              · refine lv_iload hx hb dModel_enumeration_245 (lv_at hl 5 rfl) ?_
                                refine lv_if_eq (tgt := 259) hx hb dModel_enumeration_247 (by decide) (fun c241 => ?_) (fun c241 => ?_)
                                · obtain ⟨v242, ev242⟩ : ∃ y : Int32, y = i4_155 + 1 := ⟨_, rfl⟩
                                  refine lv_iinc (v := v242) (lv' := [(4, .int v242), (0, .ref a), (1, .int x1), (2, .int v67), (3, .int i3_64), (5, .int i5_203), (6, .int i6_203)]) hx hb dModel_enumeration_259 hl (k := 4) rfl (by rw [ev242]; rfl) (by decide) rfl (fun ls hl => ?_)
                                  refine lv_goto (tgt := 155) hx hb dModel_enumeration_262 (by decide) ?_
                                  exact ih155 _ (by have q1 : i4_155.toInt < 2147483647 := (by first | assumption | exact (mu_up (k := i4_155) (by assumption)).2); have q2 := mu_lt q1; rw [← ev242] at q2; omega) ls _ _ σ_155 F_155 nu_155 v242 hM hS hF hG hZ (by first | exact (sub_nn hTR hs0 hx1 hn2 ev242).1 | exact nn_inc (by assumption) (by assumption) (by assumption)) (by have hN : N155 = (2147483647 - v242.toInt).toNat + 1 := (by have q1 : i4_155.toInt < 2147483647 := (by first | assumption | exact (mu_up (k := i4_155) (by assumption)).2); have q2 := mu_lt q1; rw [← ev242] at q2; omega); rw [← hN]; clear hN; subst ev242 ev239 er224 ev223 ev182 er180 ev179 ev68 ev67 ev65 eσ64 er1; exact hO.tr ((if_pos c240).trans (if_pos c241))) rfl (lv_sub hl [1, 2, 3, 4, 0] rfl)
                                · refine lv_aload_n hx hb dModel_enumeration_250 rfl (lv_at hl 0 rfl) ?_
                                  refine lv_iload hx hb dModel_enumeration_251 (lv_at hl 4 rfl) ?_
                                  refine lv_bipush (v := 7) hx hb dModel_enumeration_253 (by decide) ?_
                                  refine mu_Vi (rest := []) S hC (fun q h => hA q (Nat.le_trans hS.1 h)) (fun q h => h) hS (n_wrong l γ a B Z κ b mn ν τ σ_155 F_155 nu_155 hT i4_155 7 hF) meModel_wrong qw_a6e9824456 ⟨Nat.le_of_ble_eq_true rfl, Nat.le_of_ble_eq_true rfl⟩ (md_rv hC hM) hM rfl hl.1 rfl (Nat.le_of_ble_eq_true rfl) dModel_enumeration_255 ⟨Nat.le_refl _, Nat.le_refl _⟩ (fun r243 H locs hPO hS _ _ => ?_)
                                  obtain ⟨σr243, eOr243, hM, hF, h0r243⟩ := hPO
                                  have er243 : r243 = (Q_wrong κ τ σ_155 F_155 nu_155 i4_155 7).1 := by rw [eOr243.eq]
                                  have eσr243 : σr243 = (Q_wrong κ τ σ_155 F_155 nu_155 i4_155 7).2.1 := by rw [eOr243.eq]
                                  clear eOr243
                                  exact hE _ _ _ _ _ hS ⟨κ, _, _, _, τ, σr243, F_155, nu_155, (by subst eσr243 er243 ev239 er224 ev223 ev182 er180 ev179 ev68 ev67 ev65 eσ64 er1; exact hO.tr ((if_pos c240).trans (if_neg c241))), hT, hZ, hF, hG, hM⟩ dModel_enumeration_258
                              · have hin6 : vp_in i6_203 (κ 0) := vin (vcmp (by assumption) (vnI hin4) (by assumption) (by have := vix hin4; omega)) (Nat.le_of_lt (vix hin4))
                                refine lv_iload hx hb dModel_enumeration_210 (lv_at hl 5 rfl) ?_
                                have J237 : ∀ (ls : Array Slot) (t0_237 : Int32), (Oq OUT (Q_enumeration_237 κ τ σ F nu x1 t0_14 t0_60 i4_64 i3_64 σ_155 F_155 nu_155 i4_155 t0_196 i6_203 i5_203 (fun a0 a1 a2 a3 => Q_enumeration_155 κ τ σ F nu x1 t0_14 t0_60 i4_64 i3_64  N155 a0 a1 a2 a3) (fun a0 a1 => Q_enumeration_203 κ τ σ F nu x1 t0_14 t0_60 i4_64 i3_64 σ_155 F_155 nu_155 i4_155 t0_196 (fun a0 a1 a2 a3 => Q_enumeration_155 κ τ σ F nu x1 t0_14 t0_60 i4_64 i3_64  N155 a0 a1 a2 a3) N203 a0 a1)  t0_237)) → lv_has ls 7 [(0, .ref a), (1, .int x1), (2, .int v67), (3, .int i3_64), (4, .int i4_155), (5, .int i5_203), (6, .int i6_203)] → W p l e (bs_rm 1 0 0 25) s m args below meth c H locs 0 0 Q (F0 m 237 ls [.int t0_237]) := by
                                  intro ls t0_237 hO hl
                                  refine lv_istore (lv' := [(5, .int t0_237), (0, .ref a), (1, .int x1), (2, .int v67), (3, .int i3_64), (4, .int i4_155), (6, .int i6_203)]) hx hb dModel_enumeration_237 hl (by decide) rfl (fun ls hl => ?_)
                                  obtain ⟨v249, ev249⟩ : ∃ y : Int32, y = i6_203 + 1 := ⟨_, rfl⟩
                                  refine lv_iinc (v := v249) (lv' := [(6, .int v249), (5, .int t0_237), (0, .ref a), (1, .int x1), (2, .int v67), (3, .int i3_64), (4, .int i4_155)]) hx hb dModel_enumeration_239 hl (k := 6) rfl (by rw [ev249]; rfl) (by decide) rfl (fun ls hl => ?_)
                                  refine lv_goto (tgt := 203) hx hb dModel_enumeration_242 (by decide) ?_
                                  exact ih203 _ (by have q1 : i6_203.toInt < 2147483647 := (by first | assumption | exact (mu_up (k := i6_203) (by assumption)).2); have q2 := mu_lt q1; rw [← ev249] at q2; omega) ls v249 t0_237 (by first | exact (sub_nn hTR hs0 hx1 hn2 ev249).1 | exact nn_inc (by assumption) (by assumption) (by assumption)) (by have hN : N203 = (2147483647 - v249.toInt).toNat + 1 := (by have q1 : i6_203.toInt < 2147483647 := (by first | assumption | exact (mu_up (k := i6_203) (by assumption)).2); have q2 := mu_lt q1; rw [← ev249] at q2; omega); rw [← hN]; clear hN; subst ev249 ev239 er224 ev223 ev182 er180 ev179 ev68 ev67 ev65 eσ64 er1; exact hO.tr rfl) rfl (lv_sub hl [2, 3, 4, 5, 6, 1, 0] rfl)
                                have J232 : ∀ (ls : Array Slot), (Oq OUT (Q_enumeration_232 κ τ σ F nu x1 t0_14 t0_60 i4_64 i3_64 σ_155 F_155 nu_155 i4_155 t0_196 i6_203 i5_203 (fun a0 a1 a2 a3 => Q_enumeration_155 κ τ σ F nu x1 t0_14 t0_60 i4_64 i3_64  N155 a0 a1 a2 a3) (fun a0 a1 => Q_enumeration_203 κ τ σ F nu x1 t0_14 t0_60 i4_64 i3_64 σ_155 F_155 nu_155 i4_155 t0_196 (fun a0 a1 a2 a3 => Q_enumeration_155 κ τ σ F nu x1 t0_14 t0_60 i4_64 i3_64  N155 a0 a1 a2 a3) N203 a0 a1)  )) → lv_has ls 7 [(0, .ref a), (1, .int x1), (2, .int v67), (3, .int i3_64), (4, .int i4_155), (5, .int i5_203), (6, .int i6_203)] → W p l e (bs_rm 1 0 0 25) s m args below meth c H locs 0 0 Q (F0 m 232 ls []) := by
                                  intro ls hO hl
                                  refine lv_iconst (v := 1) hx hb dModel_enumeration_232 (by decide) ?_
                                  refine lv_goto (tgt := 237) hx hb dModel_enumeration_233 (by decide) ?_
                                  exact J237 ls 1 (by subst ev239 er224 ev223 ev182 er180 ev179 ev68 ev67 ev65 eσ64 er1; exact hO.tr rfl) (lv_sub hl [0, 1, 2, 3, 4, 5, 6] rfl)
                                refine lv_if_ne (tgt := 232) hx hb dModel_enumeration_212 (by decide) (fun c250 => ?_) (fun c250 => ?_)
                                · exact J232 ls (by subst ev239 er224 ev223 ev182 er180 ev179 ev68 ev67 ev65 eσ64 er1; exact hO.tr ((if_neg c240).trans (if_neg c250))) (lv_sub hl [0, 1, 2, 3, 4, 5, 6] rfl)
                                · refine lv_aload_n hx hb dModel_enumeration_215 rfl (lv_at hl 0 rfl) ?_
                                  refine md_gA S hC hM 3 (by decide) rfl qw_9fb851a5fa dModel_enumeration_216 ?_
                                  refine lv_iload hx hb dModel_enumeration_219 (lv_at hl 6 rfl) ?_
                                  refine md_ild S hC hM 3 1 4000 (τ 3) rfl rfl (by decide) rfl rfl (vin (by assumption) (by omega)) dModel_enumeration_221 ?_
                                  refine lv_topi (fun v251 ev251 => ?_)
                                  refine lv_aload_n hx hb dModel_enumeration_222 rfl (lv_at hl 0 rfl) ?_
                                  refine md_gA S hC hM 3 (by decide) rfl qw_9fb851a5fa dModel_enumeration_223 ?_
                                  refine lv_iload hx hb dModel_enumeration_226 (lv_at hl 4 rfl) ?_
                                  refine md_ild S hC hM 3 1 4000 (τ 3) rfl rfl (by decide) rfl rfl (vin (by assumption) (by omega)) dModel_enumeration_228 ?_
                                  refine lv_topi (fun v252 ev252 => ?_)
                                  refine lv_icmp_ne (tgt := 236) hx hb dModel_enumeration_229 (by decide) (fun c253 => ?_) (fun c253 => ?_)
                                  · refine lv_iconst (v := 0) hx hb dModel_enumeration_236 (by decide) ?_
                                    exact J237 ls 0 (by subst ev252 ev251 ev239 er224 ev223 ev182 er180 ev179 ev68 ev67 ev65 eσ64 er1; exact hO.tr ((if_neg c240).trans ((if_pos c250).trans (if_neg c253)))) (lv_sub hl [0, 1, 2, 3, 4, 5, 6] rfl)
                                  · exact J232 ls (by subst ev252 ev251 ev239 er224 ev223 ev182 er180 ev179 ev68 ev67 ev65 eσ64 er1; exact hO.tr ((if_neg c240).trans ((if_pos c250).trans (if_pos c253)))) (lv_sub hl [0, 1, 2, 3, 4, 5, 6] rfl)
                          exact J203 _ ls v239 t0_196 (by first | exact (sub_nn hTR hs0 hx1 hn2 ev239).1 | exact nn_inc (by assumption) (by assumption) (by assumption)) (by subst ev239 er224 ev223 ev182 er180 ev179 ev68 ev67 ev65 eσ64 er1; exact hO.tr rfl) rfl (lv_sub hl [2, 3, 4, 5, 6, 1, 0] rfl)
                        have J191 : ∀ (ls : Array Slot), (Oq OUT (Q_enumeration_191 κ τ σ F nu x1 t0_14 t0_60 i4_64 i3_64 σ_155 F_155 nu_155 i4_155 (fun a0 a1 a2 a3 => Q_enumeration_155 κ τ σ F nu x1 t0_14 t0_60 i4_64 i3_64  N155 a0 a1 a2 a3)  )) → lv_has ls 7 [(0, .ref a), (1, .int x1), (2, .int v67), (3, .int i3_64), (4, .int i4_155)] → W p l e (bs_rm 1 0 0 25) s m args below meth c H locs 0 0 Q (F0 m 191 ls []) := by
                          intro ls hO hl
                          refine lv_iconst (v := 1) hx hb dModel_enumeration_191 (by decide) ?_
                          refine lv_goto (tgt := 196) hx hb dModel_enumeration_192 (by decide) ?_
                          exact J196 ls 1 (by subst er224 ev223 ev182 er180 ev179 ev68 ev67 ev65 eσ64 er1; exact hO.tr rfl) (lv_sub hl [0, 1, 2, 3, 4] rfl)
                        refine lv_if_ne (tgt := 191) hx hb dModel_enumeration_172 (by decide) (fun c254 => ?_) (fun c254 => ?_)
                        · exact J191 ls (by subst er224 ev223 ev182 er180 ev179 ev68 ev67 ev65 eσ64 er1; exact hO.tr ((if_neg c183).trans (if_neg c254))) (lv_sub hl [0, 1, 2, 3, 4] rfl)
                        · refine lv_aload_n hx hb dModel_enumeration_175 rfl (lv_at hl 0 rfl) ?_
                          refine md_gA S hC hM 3 (by decide) rfl qw_9fb851a5fa dModel_enumeration_176 ?_
                          refine lv_iload hx hb dModel_enumeration_179 (lv_at hl 4 rfl) ?_
                          refine md_ild S hC hM 3 1 4000 (τ 3) rfl rfl (by decide) rfl rfl (vin (by assumption) (by omega)) dModel_enumeration_181 ?_
                          refine lv_topi (fun v255 ev255 => ?_)
                          refine lv_aload_n hx hb dModel_enumeration_182 rfl (lv_at hl 0 rfl) ?_
                          refine md_gA S hC hM 3 (by decide) rfl qw_9fb851a5fa dModel_enumeration_183 ?_
                          refine lv_iload_n hx hb dModel_enumeration_186 rfl (lv_at hl 1 rfl) ?_
                          refine md_ild S hC hM 3 1 4000 (τ 3) rfl rfl (by decide) rfl rfl (vin (by assumption) (by omega)) dModel_enumeration_187 ?_
                          refine lv_topi (fun v256 ev256 => ?_)
                          refine lv_icmp_ne (tgt := 195) hx hb dModel_enumeration_188 (by decide) (fun c257 => ?_) (fun c257 => ?_)
                          · refine lv_iconst (v := 0) hx hb dModel_enumeration_195 (by decide) ?_
                            exact J196 ls 0 (by subst ev256 ev255 er224 ev223 ev182 er180 ev179 ev68 ev67 ev65 eσ64 er1; exact hO.tr ((if_neg c183).trans ((if_pos c254).trans (if_neg c257)))) (lv_sub hl [0, 1, 2, 3, 4] rfl)
                          · exact J191 ls (by subst ev256 ev255 er224 ev223 ev182 er180 ev179 ev68 ev67 ev65 eσ64 er1; exact hO.tr ((if_neg c183).trans ((if_pos c254).trans (if_pos c257)))) (lv_sub hl [0, 1, 2, 3, 4] rfl)
                  exact J155 _ ls _ _ σ64 F nu v182 hM hS hF hG hZ (by first | exact (sub_nn hTR hs0 hx1 hn2 ev182).1 | exact nn_inc (by assumption) (by assumption) (by assumption)) (by subst ev182 er180 ev179 ev68 ev67 ev65 eσ64 er1; exact hO.tr ((if_neg c178).trans (if_pos c181))) rfl (lv_sub hl [1, 2, 3, 4, 0] rfl)
                · refine lv_aload_n hx hb dModel_enumeration_142 rfl (lv_at hl 0 rfl) ?_
                  refine lv_iload_n hx hb dModel_enumeration_143 rfl (lv_at hl 1 rfl) ?_
                  refine lv_bipush (v := 7) hx hb dModel_enumeration_144 (by decide) ?_
                  refine mu_Vi (rest := []) S hC (fun q h => hA q (Nat.le_trans hS.1 h)) (fun q h => h) hS (n_wrong l γ a B Z κ b mn ν τ σ64 F nu hT x1 7 hF) meModel_wrong qw_a6e9824456 ⟨Nat.le_of_ble_eq_true rfl, Nat.le_of_ble_eq_true rfl⟩ (md_rv hC hM) hM rfl hl.1 rfl (Nat.le_of_ble_eq_true rfl) dModel_enumeration_146 ⟨Nat.le_refl _, Nat.le_refl _⟩ (fun r258 H locs hPO hS _ _ => ?_)
                  obtain ⟨σr258, eOr258, hM, hF, h0r258⟩ := hPO
                  have er258 : r258 = (Q_wrong κ τ σ64 F nu x1 7).1 := by rw [eOr258.eq]
                  have eσr258 : σr258 = (Q_wrong κ τ σ64 F nu x1 7).2.1 := by rw [eOr258.eq]
                  clear eOr258
                  exact hE _ _ _ _ _ hS ⟨κ, _, _, _, τ, σr258, F, nu, (by subst eσr258 er258 er180 ev179 ev68 ev67 ev65 eσ64 er1; exact hO.tr ((if_neg c178).trans (if_neg c181))), hT, hZ, hF, hG, hM⟩ dModel_enumeration_149
              · refine lv_aload_n hx hb dModel_enumeration_121 rfl (lv_at hl 0 rfl) ?_
                refine lv_iload_n hx hb dModel_enumeration_122 rfl (lv_at hl 1 rfl) ?_
                refine lv_bipush (v := 11) hx hb dModel_enumeration_123 (by decide) ?_
                refine mu_Vi (rest := []) S hC (fun q h => hA q (Nat.le_trans hS.1 h)) (fun q h => h) hS (n_wrong l γ a B Z κ b mn ν τ σ64 F nu hT x1 11 hF) meModel_wrong qw_a6e9824456 ⟨Nat.le_of_ble_eq_true rfl, Nat.le_of_ble_eq_true rfl⟩ (md_rv hC hM) hM rfl hl.1 rfl (Nat.le_of_ble_eq_true rfl) dModel_enumeration_125 ⟨Nat.le_refl _, Nat.le_refl _⟩ (fun r259 H locs hPO hS _ _ => ?_)
                obtain ⟨σr259, eOr259, hM, hF, h0r259⟩ := hPO
                have er259 : r259 = (Q_wrong κ τ σ64 F nu x1 11).1 := by rw [eOr259.eq]
                have eσr259 : σr259 = (Q_wrong κ τ σ64 F nu x1 11).2.1 := by rw [eOr259.eq]
                clear eOr259
                exact hE _ _ _ _ _ hS ⟨κ, _, _, _, τ, σr259, F, nu, (by subst eσr259 er259 ev68 ev67 ev65 eσ64 er1; exact hO.tr (if_pos c178)), hT, hZ, hF, hG, hM⟩ dModel_enumeration_128
            refine lv_icmp_ge (tgt := 117) hx hb dModel_enumeration_67 (by decide) (fun c260 => ?_) (fun c260 => ?_)
            · exact J117 ls (by subst ev68 ev67 ev65 eσ64 er1; exact hO.tr (if_pos c260)) (lv_sub hl [0, 1, 2, 3, 4] rfl)
            · refine lv_iload_n hx hb dModel_enumeration_70 rfl (lv_at hl 3 rfl) ?_
              refine lv_if_eq (tgt := 117) hx hb dModel_enumeration_71 (by decide) (fun c261 => ?_) (fun c261 => ?_)
              · exact J117 ls (by subst ev68 ev67 ev65 eσ64 er1; exact hO.tr ((if_neg c260).trans (if_pos c261))) (lv_sub hl [0, 1, 2, 3, 4] rfl)
              · have hj4 : vp_in i4_64 (mn x1.toNatClampNeg) := vcmp (by assumption) hn2 (by assumption) (by omega)
                refine lv_aload_n hx hb dModel_enumeration_74 rfl (lv_at hl 0 rfl) ?_
                refine md_gA S hC hM 2 (by decide) rfl qw_3471296067 dModel_enumeration_75 ?_
                refine lv_aload_n hx hb dModel_enumeration_78 rfl (lv_at hl 0 rfl) ?_
                refine lv_iload_n hx hb dModel_enumeration_79 rfl (lv_at hl 1 rfl) ?_
                refine lv_iload hx hb dModel_enumeration_80 (lv_at hl 4 rfl) ?_
                have hpr262 : vp_in x1 (κ 0) := (vin (by assumption) (by omega))
                have hjr262 : vp_in i4_64 (mn x1.toNatClampNeg) := (by assumption)
                refine pu_Vi (rest := [.ref (B 2)]) S hC (n_child l γ a B Z κ b mn ν τ σ64 F nu hT x1 i4_64 hpr262 hjr262) meModel_child qw_a66d450e0a ⟨Nat.le_of_ble_eq_true rfl, Nat.le_of_ble_eq_true rfl⟩ (md_rv hC hM) hM rfl hl.1 rfl (Nat.le_of_ble_eq_true rfl) dModel_enumeration_82 ⟨Nat.zero_le _, Nat.zero_le _⟩ (fun r262 hr262 => ?_)
                obtain ⟨hr262, er262⟩ := hr262
                obtain ⟨hir262, hltr262, hxr262⟩ := ch_in hTR hs0 hpr262 hjr262 hr262
                refine md_ild S hC hM 2 0 4000 (τ 2) rfl rfl (by decide) rfl rfl (vin (by assumption) (by omega)) dModel_enumeration_85 ?_
                refine lv_topi (fun v263 ev263 => ?_)
                refine lv_iconst (v := 1) hx hb dModel_enumeration_86 (by decide) ?_
                have J110 : ∀ (ls : Array Slot) (t0_110 : Int32), (t0_110 = 0 ∨ mn x1.toNatClampNeg ≤ 64) → (Oq OUT (Q_enumeration_110 κ τ σ F nu x1 t0_14 t0_60 i4_64 i3_64 (fun a0 a1 => Q_enumeration_64 κ τ σ F nu x1 t0_14 t0_60  N64 a0 a1)  t0_110)) → lv_has ls 7 [(0, .ref a), (1, .int x1), (2, .int v67), (3, .int i3_64), (4, .int i4_64)] → W p l e (bs_rm 1 0 0 25) s m args below meth c H locs 0 0 Q (F0 m 110 ls [.int t0_110]) := by
                  intro ls t0_110 ht0_110 hO hl
                  refine lv_istore_n (lv' := [(3, .int t0_110), (0, .ref a), (1, .int x1), (2, .int v67), (4, .int i4_64)]) hx hb dModel_enumeration_110 rfl hl (by decide) rfl (fun ls hl => ?_)
                  obtain ⟨v269, ev269⟩ : ∃ y : Int32, y = i4_64 + 1 := ⟨_, rfl⟩
                  refine lv_iinc (v := v269) (lv' := [(4, .int v269), (3, .int t0_110), (0, .ref a), (1, .int x1), (2, .int v67)]) hx hb dModel_enumeration_111 hl (k := 4) rfl (by rw [ev269]; rfl) (by decide) rfl (fun ls hl => ?_)
                  refine lv_goto (tgt := 64) hx hb dModel_enumeration_114 (by decide) ?_
                  exact ih64 _ (by have q1 : i4_64.toInt < 2147483647 := (by first | assumption | exact (mu_up (k := i4_64) (by assumption)).2); have q2 := mu_lt q1; rw [← ev269] at q2; omega) ls v269 t0_110 (by first | decide | exact nn_inc (by assumption) (by assumption) (by assumption)) (by first | assumption | exact Or.inl rfl) (by have hN : N64 = (2147483647 - v269.toInt).toNat + 1 := (by have q1 : i4_64.toInt < 2147483647 := (by first | assumption | exact (mu_up (k := i4_64) (by assumption)).2); have q2 := mu_lt q1; rw [← ev269] at q2; omega); rw [← hN]; clear hN; subst ev269 ev263 er262 ev68 ev67 ev65 eσ64 er1; exact hO.tr rfl) rfl (lv_sub hl [2, 3, 4, 1, 0] rfl)
                have J109 : ∀ (ls : Array Slot), (Oq OUT (Q_enumeration_109 κ τ σ F nu x1 t0_14 t0_60 i4_64 i3_64 (fun a0 a1 => Q_enumeration_64 κ τ σ F nu x1 t0_14 t0_60  N64 a0 a1)  )) → lv_has ls 7 [(0, .ref a), (1, .int x1), (2, .int v67), (3, .int i3_64), (4, .int i4_64)] → W p l e (bs_rm 1 0 0 25) s m args below meth c H locs 0 0 Q (F0 m 109 ls []) := by
                  intro ls hO hl
                  refine lv_iconst (v := 0) hx hb dModel_enumeration_109 (by decide) ?_
                  exact J110 ls 0 (by first | exact Or.inl rfl | exact Or.inr (hi3_64.resolve_left (by assumption))) (by subst ev263 er262 ev68 ev67 ev65 eσ64 er1; exact hO.tr rfl) (lv_sub hl [0, 1, 2, 3, 4] rfl)
                refine lv_icmp_ne (tgt := 109) hx hb dModel_enumeration_87 (by decide) (fun c270 => ?_) (fun c270 => ?_)
                · exact J109 ls (by subst ev263 er262 ev68 ev67 ev65 eσ64 er1; exact hO.tr ((if_neg c260).trans ((if_neg c261).trans (if_neg c270)))) (lv_sub hl [0, 1, 2, 3, 4] rfl)
                · refine lv_aload_n hx hb dModel_enumeration_90 rfl (lv_at hl 0 rfl) ?_
                  refine md_gA S hC hM 4 (by decide) rfl qw_a8caa30de3 dModel_enumeration_91 ?_
                  refine lv_aload_n hx hb dModel_enumeration_94 rfl (lv_at hl 0 rfl) ?_
                  refine lv_iload_n hx hb dModel_enumeration_95 rfl (lv_at hl 1 rfl) ?_
                  refine lv_iload hx hb dModel_enumeration_96 (lv_at hl 4 rfl) ?_
                  have hpr271 : vp_in x1 (κ 0) := (vin (by assumption) (by omega))
                  have hjr271 : vp_in i4_64 (mn x1.toNatClampNeg) := (by assumption)
                  refine pu_Vi (rest := [.ref (B 4)]) S hC (n_child l γ a B Z κ b mn ν τ σ64 F nu hT x1 i4_64 hpr271 hjr271) meModel_child qw_a66d450e0a ⟨Nat.le_of_ble_eq_true rfl, Nat.le_of_ble_eq_true rfl⟩ (md_rv hC hM) hM rfl hl.1 rfl (Nat.le_of_ble_eq_true rfl) dModel_enumeration_98 ⟨Nat.zero_le _, Nat.zero_le _⟩ (fun r271 hr271 => ?_)
                  obtain ⟨hr271, er271⟩ := hr271
                  obtain ⟨hir271, hltr271, hxr271⟩ := ch_in hTR hs0 hpr271 hjr271 hr271
                  refine md_ild S hC hM 4 2 4000 (τ 4) rfl rfl (by decide) rfl rfl (vin (by assumption) (by omega)) dModel_enumeration_101 ?_
                  refine lv_topi (fun v272 ev272 => ?_)
                  refine lv_if_ne (tgt := 109) hx hb dModel_enumeration_102 (by decide) (fun c273 => ?_) (fun c273 => ?_)
                  · exact J109 ls (by subst ev272 er271 ev263 er262 ev68 ev67 ev65 eσ64 er1; exact hO.tr ((if_neg c260).trans ((if_neg c261).trans ((if_pos c270).trans (if_neg c273))))) (lv_sub hl [0, 1, 2, 3, 4] rfl)
                  · refine lv_iconst (v := 1) hx hb dModel_enumeration_105 (by decide) ?_
                    refine lv_goto (tgt := 110) hx hb dModel_enumeration_106 (by decide) ?_
                    exact J110 ls 1 (by first | exact Or.inl rfl | exact Or.inr (hi3_64.resolve_left (by assumption))) (by subst ev272 er271 ev263 er262 ev68 ev67 ev65 eσ64 er1; exact hO.tr ((if_neg c260).trans ((if_neg c261).trans ((if_pos c270).trans (if_pos c273))))) (lv_sub hl [0, 1, 2, 3, 4] rfl)
        exact J64 _ ls 0 t0_60 (by first | decide | exact nn_inc (by assumption) (by assumption) (by assumption)) (by first | assumption | exact Or.inl rfl) (by subst ev68 ev67 ev65 eσ64 er1; exact hO.tr rfl) rfl (lv_sub hl [2, 3, 4, 1, 0] rfl)
      have J59 : ∀ (ls : Array Slot), (Oq OUT (Q_enumeration_59 κ τ σ F nu x1 t0_14   )) → lv_has ls 7 [(0, .ref a), (1, .int x1), (2, .int v67)] → W p l e (bs_rm 1 0 0 25) s m args below meth c H locs 0 0 Q (F0 m 59 ls []) := by
        intro ls hO hl
        refine lv_iconst (v := 0) hx hb dModel_enumeration_59 (by decide) ?_
        exact J60 ls 0 (by first | exact Or.inl rfl | exact Or.inr (lr_64 hn2 (by omega) (by assumption))) (by subst ev68 ev67 ev65 eσ64 er1; exact hO.tr rfl) (lv_sub hl [0, 1, 2] rfl)
      refine lv_icmp_ne (tgt := 59) hx hb dModel_enumeration_41 (by decide) (fun c274 => ?_) (fun c274 => ?_)
      · exact J59 ls (by subst ev68 ev67 ev65 eσ64 er1; exact hO.tr ((if_pos c66).trans (if_neg c274))) (lv_sub hl [1, 2, 0] rfl)
      · refine lv_iload_n hx hb dModel_enumeration_44 rfl (lv_at hl 0 rfl) ?_
        refine lv_iconst (v := 1) hx hb dModel_enumeration_45 (by decide) ?_
        refine lv_icmp_lt (tgt := 59) hx hb dModel_enumeration_46 (by decide) (fun c275 => ?_) (fun c275 => ?_)
        · exact J59 ls (by subst ev68 ev67 ev65 eσ64 er1; exact hO.tr ((if_pos c66).trans ((if_pos c274).trans (if_pos c275)))) (lv_sub hl [1, 2, 0] rfl)
        · refine lv_iload_n hx hb dModel_enumeration_49 rfl (lv_at hl 0 rfl) ?_
          refine lv_bipush (v := 64) hx hb dModel_enumeration_50 (by decide) ?_
          refine lv_icmp_gt (tgt := 59) hx hb dModel_enumeration_52 (by decide) (fun c276 => ?_) (fun c276 => ?_)
          · exact J59 ls (by subst ev68 ev67 ev65 eσ64 er1; exact hO.tr ((if_pos c66).trans ((if_pos c274).trans ((if_neg c275).trans (if_pos c276))))) (lv_sub hl [1, 2, 0] rfl)
          · refine lv_iconst (v := 1) hx hb dModel_enumeration_55 (by decide) ?_
            refine lv_goto (tgt := 60) hx hb dModel_enumeration_56 (by decide) ?_
            exact J60 ls 1 (by first | exact Or.inl rfl | exact Or.inr (lr_64 hn2 (by omega) (by assumption))) (by subst ev68 ev67 ev65 eσ64 er1; exact hO.tr ((if_pos c66).trans ((if_pos c274).trans ((if_neg c275).trans (if_neg c276))))) (lv_sub hl [1, 2, 0] rfl)
    · refine lv_iconst (v := 0) hx hb dModel_enumeration_24 (by decide) ?_
      exact hE _ _ _ _ _ hS ⟨κ, _, _, _, τ, σ64, F, nu, (by subst ev65 eσ64 er1; exact hO.tr (if_neg c66)), hT, hZ, hF, hG, hM⟩ dModel_enumeration_25
  refine lv_if_eq (tgt := 13) hx hb dModel_enumeration_6 (by decide) (fun c277 => ?_) (fun c277 => ?_)
  · refine lv_iconst (v := 0) hx hb dModel_enumeration_13 (by decide) ?_
    exact J14 ls 0 (by first | exact Or.inl (by decide) | exact Or.inr ⟨rfl, hr1 (by assumption)⟩) (by subst er1; exact hO.tr (if_pos c277)) (lv_sub hl [0, 1] rfl)
  · refine lv_iconst (v := 1) hx hb dModel_enumeration_9 (by decide) ?_
    refine lv_goto (tgt := 14) hx hb dModel_enumeration_10 (by decide) ?_
    exact J14 ls 1 (by first | exact Or.inl (by decide) | exact Or.inr ⟨rfl, hr1 (by assumption)⟩) (by subst er1; exact hO.tr (if_neg c277)) (lv_sub hl [0, 1] rfl)
def Q_add_179 (κ : Nat → Nat) (τ : gf) (σ : Nat → Int32) (F : gf) (nu : gg) (x1 : Int32) (x2 : Int32) (x3 : Int32) (t0_46 : Int32) (t0_102 : Int32) (t0_179 : Int32) : XQ := ((((nI (κ 0)) + 1) - 1), ku (ku κ 0 (κ 0 + 1)) 1 (κ 1 - x3.toNatClampNeg + 1), (Au (Au (Au (Au (Au τ 2 (nI (κ 0)).toNatClampNeg x1) 3 (nI (κ 0)).toNatClampNeg x2) 4 (nI (κ 0)).toNatClampNeg x3) 5 (nI (κ 0)).toNatClampNeg t0_179) 7 ((nI (κ 1)) - x3).toNatClampNeg (nI (κ 0))), (upd σ 0 t0_102), (Au F 15 (nI (κ 0)).toNatClampNeg (vp_nar .boolean 0)), nu)
def Q_add_102 (κ : Nat → Nat) (τ : gf) (σ : Nat → Int32) (F : gf) (nu : gg) (x1 : Int32) (x2 : Int32) (x3 : Int32) (t0_46 : Int32) (t0_102 : Int32) : XQ := (if ((upd σ 0 t0_102) 0) ≤ 0 then (if x3 = 0 then (Q_add_179 κ τ σ F nu x1 x2 x3 t0_46 t0_102  (nI (κ 0))) else (Q_add_179 κ τ σ F nu x1 x2 x3 t0_46 t0_102  ((Au (Au (Au τ 2 (nI (κ 0)).toNatClampNeg x1) 3 (nI (κ 0)).toNatClampNeg x2) 4 (nI (κ 0)).toNatClampNeg x3) 5 ((Au (Au (Au τ 2 (nI (κ 0)).toNatClampNeg x1) 3 (nI (κ 0)).toNatClampNeg x2) 4 (nI (κ 0)).toNatClampNeg x3) 7 ((nI (κ 1)) - x3).toNatClampNeg).toNatClampNeg))) else (0, κ, τ, (upd σ 0 t0_102), F, nu))
def Q_add_83 (κ : Nat → Nat) (τ : gf) (σ : Nat → Int32) (F : gf) (nu : gg) (x1 : Int32) (x2 : Int32) (x3 : Int32) (t0_46 : Int32) : XQ := (Q_add_102 κ τ σ F nu x1 x2 x3 t0_46  1)
def Q_add_87 (κ : Nat → Nat) (τ : gf) (σ : Nat → Int32) (F : gf) (nu : gg) (x1 : Int32) (x2 : Int32) (x3 : Int32) (t0_46 : Int32) : XQ := (if (nI (κ 0)) = 4000 then (Q_add_102 κ τ σ F nu x1 x2 x3 t0_46  2) else (Q_add_102 κ τ σ F nu x1 x2 x3 t0_46  0))
def Q_add_46 (κ : Nat → Nat) (τ : gf) (σ : Nat → Int32) (F : gf) (nu : gg) (x1 : Int32) (x2 : Int32) (x3 : Int32) (t0_46 : Int32) : XQ := (if x1 < 0 then (Q_add_83 κ τ σ F nu x1 x2 x3 t0_46  ) else (if 99 < x1 then (Q_add_83 κ τ σ F nu x1 x2 x3 t0_46  ) else (if x3 < 0 then (Q_add_83 κ τ σ F nu x1 x2 x3 t0_46  ) else (if (nI (κ 1)) < x3 then (Q_add_83 κ τ σ F nu x1 x2 x3 t0_46  ) else (if t0_46 = 0 then (Q_add_87 κ τ σ F nu x1 x2 x3 t0_46  ) else (if (Q_goodName x2) = 0 then (Q_add_83 κ τ σ F nu x1 x2 x3 t0_46  ) else (Q_add_87 κ τ σ F nu x1 x2 x3 t0_46  )))))))
def Q_add_41 (κ : Nat → Nat) (τ : gf) (σ : Nat → Int32) (F : gf) (nu : gg) (x1 : Int32) (x2 : Int32) (x3 : Int32) : XQ := (Q_add_46 κ τ σ F nu x1 x2 x3  1)
def Q_add (κ : Nat → Nat) (τ : gf) (σ : Nat → Int32) (F : gf) (nu : gg) (x1 : Int32) (x2 : Int32) (x3 : Int32) : XQ := (if x1 = 1 then (Q_add_41 κ τ σ F nu x1 x2 x3  ) else (if x1 = 10 then (Q_add_41 κ τ σ F nu x1 x2 x3  ) else (if x1 = 22 then (Q_add_41 κ τ σ F nu x1 x2 x3  ) else (if x1 = 23 then (Q_add_41 κ τ σ F nu x1 x2 x3  ) else (if x1 = 24 then (Q_add_41 κ τ σ F nu x1 x2 x3  ) else (if x1 = 25 then (Q_add_41 κ τ σ F nu x1 x2 x3  ) else (if x1 = 53 then (Q_add_41 κ τ σ F nu x1 x2 x3  ) else (Q_add_46 κ τ σ F nu x1 x2 x3  0))))))))
set_option maxHeartbeats 4000000 in
set_option maxRecDepth 100000 in
theorem n_add (l : Launch) (γ : gE) (a : Nat) (B : Nat → Nat) (Z : Nat → Prop) (κ b mn : Nat → Nat) (ν : Nat → Int32) (τ : Nat → Nat → Int32) (σ : Nat → Int32) (F : Nat → Nat → Int32) (nu : Nat → Int64) (hT : ST κ b mn ν τ) (x1 : Int32) (x2 : Int32) (x3 : Int32) (hZ : SZ F) (hF : FD σ) (hG : GD F nu) : MU l yModel_add bModel_add 5 (some .int) 1 20 0 0 [.ref a, .int x1, .int x2, .int x3] γ Z (MD γ a B Z ν τ σ F nu) (mQi (fun r H => MIF γ a B Z (Q_add κ τ σ F nu x1 x2 x3) r H) Z) := by
  refine mu_openI (by decide) (Nat.le_of_ble_eq_true rfl) ?_
  intro p e s m args below meth c ls Q S hnm hC hA hM hE hl
  have hS : va_S Z s.heap s.heap [] := va_S.rf
  obtain ⟨hx, hb, hml, hown, hW⟩ := id S
  obtain ⟨⟨hs0, hs1, hs2, hs3, hs4, hs5, hs6⟩, ⟨hv6, hv8, hv21, hv24, hv30, hv31⟩, hTR, hTY, hOB, hNM⟩ := id hT
  have hl : lv_has ls 5 [(0, .ref a), (1, .int x1), (2, .int x2), (3, .int x3)] := hl
  obtain ⟨OUT, hQ, hO⟩ : ∃ z, (z = Q_add κ τ σ F nu x1 x2 x3) ∧ Oq z (Q_add κ τ σ F nu x1 x2 x3) := ⟨_, rfl, rfl⟩
  rw [← hQ] at hE
  clear hQ
  refine lv_iload_n hx hb dModel_add_0 rfl (lv_at hl 1 rfl) ?_
  refine lv_iconst (v := 1) hx hb dModel_add_1 (by decide) ?_
  have J46 : ∀ (ls : Array Slot) (t0_46 : Int32), ((t0_46 = 1 ∧ BN x1) ∨ (t0_46 = 0 ∧ ¬ BN x1)) → (Oq OUT (Q_add_46 κ τ σ F nu x1 x2 x3   t0_46)) → lv_has ls 5 [(0, .ref a), (1, .int x1), (2, .int x2), (3, .int x3)] → W p l e (bs_rm 1 0 0 20) s m args below meth c s.heap [] 0 0 Q (F0 m 46 ls [.int t0_46]) := by
    intro ls t0_46 ht0_46 hO hl
    refine lv_istore (lv' := [(4, .int t0_46), (0, .ref a), (1, .int x1), (2, .int x2), (3, .int x3)]) hx hb dModel_add_46 hl (by decide) rfl (fun ls hl => ?_)
    refine lv_aload_n hx hb dModel_add_48 rfl (lv_at hl 1 rfl) ?_
    refine lv_iload_n hx hb dModel_add_49 rfl (lv_at hl 2 rfl) ?_
    have J102 : ∀ (ls : Array Slot) (t0_102 : Int32), ((t0_102 = 1 ∧ BA (κ 1) x1 x2 x3) ∨ (t0_102 = 2 ∧ ¬ BA (κ 1) x1 x2 x3 ∧ κ 0 = 4000) ∨ (t0_102 = 0 ∧ ¬ BA (κ 1) x1 x2 x3 ∧ ¬ x3 < 0 ∧ ¬ nI (κ 1) < x3 ∧ κ 0 < 4000)) → (Oq OUT (Q_add_102 κ τ σ F nu x1 x2 x3 t0_46   t0_102)) → lv_has ls 5 [(0, .ref a), (1, .int x1), (2, .int x2), (3, .int x3), (4, .int t0_46)] → W p l e (bs_rm 1 0 0 20) s m args below meth c s.heap [] 0 0 Q (F0 m 102 ls [.int t0_102, .ref a]) := by
      intro ls t0_102 ht0_102 hO hl
      refine md_pD S hC hM hS 0 rfl (by decide) rfl qw_53e275eed6 rfl (by decide +kernel) dModel_add_102 (fun H locs hM hS => ?_)
      obtain ⟨σ110, eσ110⟩ : ∃ z : Nat → Int32, z = upd σ 0 t0_102 := ⟨_, rfl⟩
      rw [← eσ110] at hM
      have hF : FD σ110 := hF.up eσ110 (by decide) (by decide)
      refine lv_aload_n hx hb dModel_add_105 rfl (lv_at hl 0 rfl) ?_
      refine md_gI S hC hM 0 (v := σ110 0) rfl (by decide) rfl qw_53e275eed6 dModel_add_106 ?_
      refine lv_topi (fun v111 ev111 => ?_)
      refine lv_if_le (tgt := 114) hx hb dModel_add_109 (by decide) (fun c112 => ?_) (fun c112 => ?_)
      · have h114 := (by assumption : v111 ≤ 0)
        obtain ⟨hok, hx30, hx31, hN0⟩ := cd_0 eσ110 ev111 h114 (ad_cv ht0_102)
        obtain ⟨n3, hn3, hx3⟩ := le_n hx30 hx31 (by omega)
        have en3 : n3 = x3.toNatClampNeg := (by have h9 := congrArg Int32.toNatClampNeg hx3; rw [nI_clamp (by omega)] at h9; exact h9.symm)
        refine lv_aload_n hx hb dModel_add_114 rfl (lv_at hl 0 rfl) ?_
        refine md_gA S hC hM 2 (by decide) rfl qw_3471296067 dModel_add_115 ?_
        refine lv_aload_n hx hb dModel_add_118 rfl (lv_at hl 0 rfl) ?_
        refine md_gI S hC hM 6 (v := nI (κ 0)) hv6 (by decide) rfl qw_f42008621b dModel_add_119 ?_
        refine lv_topi (fun v113 ev113 => ?_)
        refine lv_iload_n hx hb dModel_add_122 rfl (lv_at hl 1 rfl) ?_
        refine md_istS S hC hM hS 2 0 4000 rfl rfl (by decide) rfl rfl (vin_of ev113 (by omega) (by omega)) dModel_add_123 (fun H locs hM hS => ?_)
        obtain ⟨τ115, eτ115⟩ : ∃ z : Nat → Nat → Int32, z = Au τ 2 v113.toNatClampNeg x1 := ⟨_, rfl⟩
        rw [← eτ115] at hM
        refine lv_aload_n hx hb dModel_add_124 rfl (lv_at hl 0 rfl) ?_
        refine md_gA S hC hM 3 (by decide) rfl qw_9fb851a5fa dModel_add_125 ?_
        refine lv_aload_n hx hb dModel_add_128 rfl (lv_at hl 0 rfl) ?_
        refine md_gI S hC hM 6 (v := nI (κ 0)) hv6 (by decide) rfl qw_f42008621b dModel_add_129 ?_
        refine lv_topi (fun v116 ev116 => ?_)
        refine lv_iload_n hx hb dModel_add_132 rfl (lv_at hl 2 rfl) ?_
        refine md_istS S hC hM hS 3 1 4000 rfl rfl (by decide) rfl rfl (vin_of ev116 (by omega) (by omega)) dModel_add_133 (fun H locs hM hS => ?_)
        obtain ⟨τ118, eτ118⟩ : ∃ z : Nat → Nat → Int32, z = Au τ115 3 v116.toNatClampNeg x2 := ⟨_, rfl⟩
        rw [← eτ118] at hM
        refine lv_aload_n hx hb dModel_add_134 rfl (lv_at hl 0 rfl) ?_
        refine md_gA S hC hM 4 (by decide) rfl qw_a8caa30de3 dModel_add_135 ?_
        refine lv_aload_n hx hb dModel_add_138 rfl (lv_at hl 0 rfl) ?_
        refine md_gI S hC hM 6 (v := nI (κ 0)) hv6 (by decide) rfl qw_f42008621b dModel_add_139 ?_
        refine lv_topi (fun v119 ev119 => ?_)
        refine lv_iload_n hx hb dModel_add_142 rfl (lv_at hl 3 rfl) ?_
        refine md_istS S hC hM hS 4 2 4000 rfl rfl (by decide) rfl rfl (vin_of ev119 (by omega) (by omega)) dModel_add_143 (fun H locs hM hS => ?_)
        obtain ⟨τ121, eτ121⟩ : ∃ z : Nat → Nat → Int32, z = Au τ118 4 v119.toNatClampNeg x3 := ⟨_, rfl⟩
        rw [← eτ121] at hM
        refine lv_aload_n hx hb dModel_add_144 rfl (lv_at hl 0 rfl) ?_
        refine md_gA S hC hM 5 (by decide) rfl qw_7e4081a75e dModel_add_145 ?_
        refine lv_aload_n hx hb dModel_add_148 rfl (lv_at hl 0 rfl) ?_
        refine md_gI S hC hM 6 (v := nI (κ 0)) hv6 (by decide) rfl qw_f42008621b dModel_add_149 ?_
        refine lv_topi (fun v122 ev122 => ?_)
        refine lv_iload_n hx hb dModel_add_152 rfl (lv_at hl 3 rfl) ?_
        have J179 : ∀ (ls : Array Slot) (t0_179 : Int32), (t0_179 = nI (tX b (κ 0) n3)) → (Oq OUT (Q_add_179 κ τ σ F nu x1 x2 x3 t0_46 t0_102   t0_179)) → lv_has ls 5 [(0, .ref a), (1, .int x1), (2, .int x2), (3, .int x3), (4, .int t0_46)] → W p l e (bs_rm 1 0 0 20) s m args below meth c H locs 0 0 Q (F0 m 179 ls [.int t0_179, .int v122, .ref (B 5)]) := by
          intro ls t0_179 ht0_179 hO hl
          refine md_istS S hC hM hS 5 3 4000 rfl rfl (by decide) rfl rfl (vin_of ev122 (by omega) (by omega)) dModel_add_179 (fun H locs hM hS => ?_)
          obtain ⟨τ152, eτ152⟩ : ∃ z : Nat → Nat → Int32, z = Au τ121 5 v122.toNatClampNeg t0_179 := ⟨_, rfl⟩
          rw [← eτ152] at hM
          refine lv_aload_n hx hb dModel_add_180 rfl (lv_at hl 0 rfl) ?_
          refine md_gA S hC hM 15 (by decide) rfl qw_bcd494e5c6 dModel_add_181 ?_
          refine lv_aload_n hx hb dModel_add_184 rfl (lv_at hl 0 rfl) ?_
          refine md_gI S hC hM 6 (v := nI (κ 0)) hv6 (by decide) rfl qw_f42008621b dModel_add_185 ?_
          refine lv_topi (fun v153 ev153 => ?_)
          refine lv_iconst (v := 0) hx hb dModel_add_188 (by decide) ?_
          refine md_zstD S hC hM hS 15 11 4000 rfl rfl (by decide) rfl rfl (vin_of ev153 (by omega) (by omega)) dModel_add_189 (fun H locs hM hS => ?_)
          obtain ⟨F154, eF154⟩ : ∃ z : Nat → Nat → Int32, z = Au F 15 v153.toNatClampNeg (vp_nar .boolean 0) := ⟨_, rfl⟩
          rw [← eF154] at hM
          have hZ : SZ F154 := hZ.au eF154 (by decide)
          have hG : GD F154 nu := hG.au eF154 (by decide)
          refine lv_aload_n hx hb dModel_add_190 rfl (lv_at hl 0 rfl) ?_
          refine lv_aload_n hx hb dModel_add_191 rfl (lv_at hl 0 rfl) ?_
          refine md_gI S hC hM 8 (v := nI (κ 1)) hv8 (by decide) rfl qw_0b242dc29a dModel_add_192 ?_
          refine lv_topi (fun v155 ev155 => ?_)
          refine lv_iload_n hx hb dModel_add_195 rfl (lv_at hl 3 rfl) ?_
          refine lv_isub hx hb dModel_add_196 ?_
          refine lv_topi (fun v156 ev156 => ?_)
          refine md_pS S hC hM hS 8 rfl (by decide) rfl qw_0b242dc29a rfl (by decide +kernel) dModel_add_197 (fun H locs hM hS => ?_)
          obtain ⟨ν158, eν158⟩ : ∃ z : Nat → Int32, z = upd ν 8 v156 := ⟨_, rfl⟩
          rw [← eν158] at hM
          refine lv_aload_n hx hb dModel_add_200 rfl (lv_at hl 0 rfl) ?_
          refine md_gA S hC hM 7 (by decide) rfl qw_398ffa5efc dModel_add_201 ?_
          refine lv_aload_n hx hb dModel_add_204 rfl (lv_at hl 0 rfl) ?_
          refine md_gI S hC hM 8 (v := ν158 8) rfl (by decide) rfl qw_0b242dc29a dModel_add_205 ?_
          refine lv_topi (fun v159 ev159 => ?_)
          refine lv_aload_n hx hb dModel_add_208 rfl (lv_at hl 0 rfl) ?_
          refine md_gI S hC hM 6 (v := ν158 6) rfl (by decide) rfl qw_f42008621b dModel_add_209 ?_
          refine lv_topi (fun v160 ev160 => ?_)
          have eqv160 : v160 = nI (κ 0) := by rw [ev160, eν158, pk_un (by decide)]; exact hv6
          have hj5 : v159 = nI (κ 1 - n3) := (by rw [ev159, eν158, pk_us]; exact ad_ix ev155 hx3 hn3 ev156)
          have hnd : v160 = nI (κ 0) := (by rw [ev160, eν158, pk_un (by decide)]; exact hv6)
          refine md_istS S hC hM hS 7 4 4000 rfl rfl (by decide) rfl rfl (vin_of hj5 (by omega) (by omega)) dModel_add_212 (fun H locs hM hS => ?_)
          obtain ⟨τ162, eτ162⟩ : ∃ z : Nat → Nat → Int32, z = Au τ152 7 v159.toNatClampNeg v160 := ⟨_, rfl⟩
          rw [← eτ162] at hM
          refine lv_aload_n hx hb dModel_add_213 rfl (lv_at hl 0 rfl) ?_
          refine lv_dup hx hb dModel_add_214 rfl ?_
          refine md_gI S hC hM 8 (v := ν158 8) rfl (by decide) rfl qw_0b242dc29a dModel_add_215 ?_
          refine lv_topi (fun v163 ev163 => ?_)
          refine lv_iconst (v := 1) hx hb dModel_add_218 (by decide) ?_
          refine lv_iadd hx hb dModel_add_219 ?_
          refine lv_topi (fun v164 ev164 => ?_)
          have hw2 : v164 = nI (κ 1 - n3 + 1) := inc_n (by rw [ev163, eν158, pk_us]; exact ad_ix ev155 hx3 hn3 ev156) ev164
          refine md_pS S hC hM hS 8 rfl (by decide) rfl qw_0b242dc29a rfl (by decide +kernel) dModel_add_220 (fun H locs hM hS => ?_)
          obtain ⟨ν166, eν166⟩ : ∃ z : Nat → Int32, z = upd ν158 8 v164 := ⟨_, rfl⟩
          rw [← eν166] at hM
          refine lv_aload_n hx hb dModel_add_223 rfl (lv_at hl 0 rfl) ?_
          refine lv_dup hx hb dModel_add_224 rfl ?_
          refine md_gI S hC hM 6 (v := ν166 6) rfl (by decide) rfl qw_f42008621b dModel_add_225 ?_
          refine lv_topi (fun v167 ev167 => ?_)
          have eqv167 : v167 = nI (κ 0) := by rw [ev167, eν166, pk_un (by decide), eν158, pk_un (by decide)]; exact hv6
          refine lv_iconst (v := 1) hx hb dModel_add_228 (by decide) ?_
          refine lv_iadd hx hb dModel_add_229 ?_
          refine lv_topi (fun v168 ev168 => ?_)
          have hw3 : v168 = nI (κ 0 + 1) := inc_n (by rw [ev167, eν166, pk_un (by decide), eν158, pk_un (by decide)]; exact hv6) ev168
          refine md_pS S hC hM hS 6 rfl (by decide) rfl qw_f42008621b rfl (by decide +kernel) dModel_add_230 (fun H locs hM hS => ?_)
          obtain ⟨ν170, eν170⟩ : ∃ z : Nat → Int32, z = upd ν166 6 v168 := ⟨_, rfl⟩
          rw [← eν170] at hM
          refine lv_aload_n hx hb dModel_add_233 rfl (lv_at hl 0 rfl) ?_
          refine md_gI S hC hM 6 (v := ν170 6) rfl (by decide) rfl qw_f42008621b dModel_add_234 ?_
          refine lv_topi (fun v171 ev171 => ?_)
          refine lv_iconst (v := 1) hx hb dModel_add_237 (by decide) ?_
          refine lv_isub hx hb dModel_add_238 ?_
          refine lv_topi (fun v172 ev172 => ?_)
          exact hE _ _ _ _ _ hS ⟨(ku (ku κ 0 (κ 0 + 1)) 1 (κ 1 - x3.toNatClampNeg + 1)), _, _, _, τ162, σ110, F154, nu, (by subst ev172 ev171 eν170 ev168 eqv167 eν166 ev164 ev163 eτ162 eqv160 ev159 eν158 ev156 ev155 eF154 ev153 eτ152 ev122 eτ121 ev119 eτ118 ev116 eτ115 ev113 ev111 eσ110; exact hO.tr rfl), (by rw [← en3]; exact ad_st hT hN0 hx3 hn3 eτ115 eτ118 eτ121 eτ152 eτ162 (ixn ev119 (by omega)) (ixn ev122 (by omega)) (ixn hj5 (by omega)) ht0_179 hnd eν158 eν166 eν170 hw2 hw3), hZ, hF, hG, hM⟩ dModel_add_239
        refine lv_if_ne (tgt := 163) hx hb dModel_add_153 (by decide) (fun c173 => ?_) (fun c173 => ?_)
        · have hn0 : 1 ≤ n3 := n_one hx3 (by assumption)
          refine lv_aload_n hx hb dModel_add_163 rfl (lv_at hl 0 rfl) ?_
          refine md_gA S hC hM 5 (by decide) rfl qw_7e4081a75e dModel_add_164 ?_
          refine lv_aload_n hx hb dModel_add_167 rfl (lv_at hl 0 rfl) ?_
          refine md_gA S hC hM 7 (by decide) rfl qw_398ffa5efc dModel_add_168 ?_
          refine lv_aload_n hx hb dModel_add_171 rfl (lv_at hl 0 rfl) ?_
          refine md_gI S hC hM 8 (v := nI (κ 1)) hv8 (by decide) rfl qw_0b242dc29a dModel_add_172 ?_
          refine lv_topi (fun v174 ev174 => ?_)
          refine lv_iload_n hx hb dModel_add_175 rfl (lv_at hl 3 rfl) ?_
          refine lv_isub hx hb dModel_add_176 ?_
          refine lv_topi (fun v175 ev175 => ?_)
          have hv3 : v175 = nI (κ 1 - n3) := ad_ix ev174 hx3 hn3 ev175
          refine md_ild S hC hM 7 4 4000 (τ121 7) rfl rfl (by decide) rfl rfl (vin_of hv3 (by omega) (by omega)) dModel_add_177 ?_
          refine lv_topi (fun v176 ev176 => ?_)
          have hu := ad_rt hTR hs0 hs1 hn3 hn0 (by rw [eτ121, eτ118, eτ115]; rfl) hv3 ev176
          refine md_ild S hC hM 5 3 4000 (τ121 5) rfl rfl (by decide) rfl rfl (vin_of hu.1 (by omega) (by omega)) dModel_add_178 ?_
          refine lv_topi (fun v177 ev177 => ?_)
          exact J179 ls v177 (by first | exact ad_b0 ev177 hx3 (by assumption) (by omega) | exact ad_b1 hTR hs0 hn0 (by rw [eτ121, eτ118, eτ115]; rfl) hu ev177) (by subst ev177 ev176 ev175 ev174 ev122 eτ121 ev119 eτ118 ev116 eτ115 ev113 ev111 eσ110; exact hO.tr ((if_pos c112).trans (if_neg c173))) (lv_sub hl [0, 1, 2, 3, 4] rfl)
        · refine lv_aload_n hx hb dModel_add_156 rfl (lv_at hl 0 rfl) ?_
          refine md_gI S hC hM 6 (v := nI (κ 0)) hv6 (by decide) rfl qw_f42008621b dModel_add_157 ?_
          refine lv_topi (fun v178 ev178 => ?_)
          refine lv_goto (tgt := 179) hx hb dModel_add_160 (by decide) ?_
          exact J179 ls v178 (by first | exact ad_b0 ev178 hx3 (by assumption) (by omega) | exact ad_b1 hTR hs0 hn0 (by rw [eτ121, eτ118, eτ115]; rfl) hu ev178) (by subst ev178 ev122 eτ121 ev119 eτ118 ev116 eτ115 ev113 ev111 eσ110; exact hO.tr ((if_pos c112).trans (if_pos c173))) (lv_sub hl [0, 1, 2, 3, 4] rfl)
      · refine lv_iconst (v := 0) hx hb dModel_add_112 (by decide) ?_
        exact hE _ _ _ _ _ hS ⟨κ, _, _, _, τ, σ110, F, nu, (by subst ev111 eσ110; exact hO.tr (if_neg c112)), hT, hZ, hF, hG, hM⟩ dModel_add_113
    have J83 : ∀ (ls : Array Slot), (BA (κ 1) x1 x2 x3) → (Oq OUT (Q_add_83 κ τ σ F nu x1 x2 x3 t0_46   )) → lv_has ls 5 [(0, .ref a), (1, .int x1), (2, .int x2), (3, .int x3), (4, .int t0_46)] → W p l e (bs_rm 1 0 0 20) s m args below meth c s.heap [] 0 0 Q (F0 m 83 ls [.ref a]) := by
      intro ls h83 hO hl
      refine lv_iconst (v := 1) hx hb dModel_add_83 (by decide) ?_
      refine lv_goto (tgt := 102) hx hb dModel_add_84 (by decide) ?_
      exact J102 ls 1 (by first | exact Or.inl ⟨rfl, h83⟩ | exact Or.inr (Or.inl ⟨rfl, (ba_ok2 (by assumption) (by assumption) (by assumption) (by rw [← ev62]; assumption) h87), eq_n ev67 (by assumption) rfl (by omega) (by omega)⟩) | exact Or.inr (Or.inr ⟨rfl, (ba_ok2 (by assumption) (by assumption) (by assumption) (by rw [← ev62]; assumption) h87), by assumption, (by rw [← ev62]; assumption), ne_lt ev67 (by assumption) rfl hs0⟩)) (by exact hO.tr rfl) (lv_sub hl [0, 1, 2, 3, 4] rfl)
    refine lv_if_lt (tgt := 83) hx hb dModel_add_50 (by decide) (fun c179 => ?_) (fun c179 => ?_)
    · exact J83 ls (by first | exact Or.inl (by assumption) | exact Or.inr (Or.inl (by assumption)) | exact Or.inr (Or.inr (Or.inl (by assumption))) | exact Or.inr (Or.inr (Or.inr (Or.inl (ba_m ev62 (by assumption))))) | exact Or.inr (Or.inr (Or.inr (Or.inr ⟨bt_t ht0_46 (by assumption), bt_f (P := GNm x2) (by assumption) (by assumption)⟩)))) (by exact hO.tr (if_pos c179)) (lv_sub hl [1, 2, 3, 4, 0] rfl)
    · refine lv_iload_n hx hb dModel_add_53 rfl (lv_at hl 2 rfl) ?_
      refine lv_bipush (v := 99) hx hb dModel_add_54 (by decide) ?_
      refine lv_icmp_gt (tgt := 83) hx hb dModel_add_56 (by decide) (fun c180 => ?_) (fun c180 => ?_)
      · exact J83 ls (by first | exact Or.inl (by assumption) | exact Or.inr (Or.inl (by assumption)) | exact Or.inr (Or.inr (Or.inl (by assumption))) | exact Or.inr (Or.inr (Or.inr (Or.inl (ba_m ev62 (by assumption))))) | exact Or.inr (Or.inr (Or.inr (Or.inr ⟨bt_t ht0_46 (by assumption), bt_f (P := GNm x2) (by assumption) (by assumption)⟩)))) (by exact hO.tr ((if_neg c179).trans (if_pos c180))) (lv_sub hl [1, 2, 3, 4, 0] rfl)
      · refine lv_iload_n hx hb dModel_add_59 rfl (lv_at hl 4 rfl) ?_
        refine lv_if_lt (tgt := 83) hx hb dModel_add_60 (by decide) (fun c181 => ?_) (fun c181 => ?_)
        · exact J83 ls (by first | exact Or.inl (by assumption) | exact Or.inr (Or.inl (by assumption)) | exact Or.inr (Or.inr (Or.inl (by assumption))) | exact Or.inr (Or.inr (Or.inr (Or.inl (ba_m ev62 (by assumption))))) | exact Or.inr (Or.inr (Or.inr (Or.inr ⟨bt_t ht0_46 (by assumption), bt_f (P := GNm x2) (by assumption) (by assumption)⟩)))) (by exact hO.tr ((if_neg c179).trans ((if_neg c180).trans (if_pos c181)))) (lv_sub hl [1, 2, 3, 4, 0] rfl)
        · refine lv_iload_n hx hb dModel_add_63 rfl (lv_at hl 4 rfl) ?_
          refine lv_aload_n hx hb dModel_add_64 rfl (lv_at hl 1 rfl) ?_
          refine md_gI S hC hM 8 (v := nI (κ 1)) hv8 (by decide) rfl qw_0b242dc29a dModel_add_65 ?_
          refine lv_topi (fun v182 ev182 => ?_)
          refine lv_icmp_gt (tgt := 83) hx hb dModel_add_68 (by decide) (fun c183 => ?_) (fun c183 => ?_)
          · exact J83 ls (by first | exact Or.inl (by assumption) | exact Or.inr (Or.inl (by assumption)) | exact Or.inr (Or.inr (Or.inl (by assumption))) | exact Or.inr (Or.inr (Or.inr (Or.inl (ba_m ev182 (by assumption))))) | exact Or.inr (Or.inr (Or.inr (Or.inr ⟨bt_t ht0_46 (by assumption), bt_f (P := GNm x2) (by assumption) (by assumption)⟩)))) (by subst ev182; exact hO.tr ((if_neg c179).trans ((if_neg c180).trans ((if_neg c181).trans (if_pos c183))))) (lv_sub hl [1, 2, 3, 4, 0] rfl)
          · refine lv_iload hx hb dModel_add_71 (lv_at hl 0 rfl) ?_
            have J87 : ∀ (ls : Array Slot), (¬ (BN x1 ∧ ¬ GNm x2)) → (Oq OUT (Q_add_87 κ τ σ F nu x1 x2 x3 t0_46   )) → lv_has ls 5 [(0, .ref a), (1, .int x1), (2, .int x2), (3, .int x3), (4, .int t0_46)] → W p l e (bs_rm 1 0 0 20) s m args below meth c s.heap [] 0 0 Q (F0 m 87 ls [.ref a]) := by
              intro ls h87 hO hl
              refine lv_aload_n hx hb dModel_add_87 rfl (lv_at hl 0 rfl) ?_
              refine md_gI S hC hM 6 (v := nI (κ 0)) hv6 (by decide) rfl qw_f42008621b dModel_add_88 ?_
              refine lv_topi (fun v189 ev189 => ?_)
              refine lv_sipush (v := 4000) hx hb dModel_add_91 (by decide) ?_
              refine lv_icmp_ne (tgt := 101) hx hb dModel_add_94 (by decide) (fun c190 => ?_) (fun c190 => ?_)
              · refine lv_iconst (v := 0) hx hb dModel_add_101 (by decide) ?_
                exact J102 ls 0 (by first | exact Or.inl ⟨rfl, h83⟩ | exact Or.inr (Or.inl ⟨rfl, (ba_ok2 (by assumption) (by assumption) (by assumption) (by rw [← ev182]; assumption) h87), eq_n ev189 (by assumption) rfl (by omega) (by omega)⟩) | exact Or.inr (Or.inr ⟨rfl, (ba_ok2 (by assumption) (by assumption) (by assumption) (by rw [← ev182]; assumption) h87), by assumption, (by rw [← ev182]; assumption), ne_lt ev189 (by assumption) rfl hs0⟩)) (by subst ev189 ev182; exact hO.tr (if_neg c190)) (lv_sub hl [0, 1, 2, 3, 4] rfl)
              · refine lv_iconst (v := 2) hx hb dModel_add_97 (by decide) ?_
                refine lv_goto (tgt := 102) hx hb dModel_add_98 (by decide) ?_
                exact J102 ls 2 (by first | exact Or.inl ⟨rfl, h83⟩ | exact Or.inr (Or.inl ⟨rfl, (ba_ok2 (by assumption) (by assumption) (by assumption) (by rw [← ev182]; assumption) h87), eq_n ev189 (by assumption) rfl (by omega) (by omega)⟩) | exact Or.inr (Or.inr ⟨rfl, (ba_ok2 (by assumption) (by assumption) (by assumption) (by rw [← ev182]; assumption) h87), by assumption, (by rw [← ev182]; assumption), ne_lt ev189 (by assumption) rfl hs0⟩)) (by subst ev189 ev182; exact hO.tr (if_pos c190)) (lv_sub hl [0, 1, 2, 3, 4] rfl)
            refine lv_if_eq (tgt := 87) hx hb dModel_add_73 (by decide) (fun c191 => ?_) (fun c191 => ?_)
            · exact J87 ls (by first | exact (fun h9 => bt_f ht0_46 (by assumption) h9.1) | exact (fun h9 => h9.2 (bt_t (P := GNm x2) (by assumption) (by assumption)))) (by subst ev182; exact hO.tr ((if_neg c179).trans ((if_neg c180).trans ((if_neg c181).trans ((if_neg c183).trans (if_pos c191)))))) (lv_sub hl [1, 2, 3, 4, 0] rfl)
            · refine lv_iload_n hx hb dModel_add_76 rfl (lv_at hl 3 rfl) ?_
              refine pu_Si (rest := [.ref a]) S hC (n_goodName l γ _ x2) meModel_goodName qw_07c5ec0f25 ⟨Nat.le_of_ble_eq_true rfl, Nat.le_of_ble_eq_true rfl⟩ hM rfl hl.1 rfl (Nat.le_of_ble_eq_true rfl) dModel_add_77 ⟨Nat.zero_le _, Nat.zero_le _⟩ (fun r192 hr192 => ?_)
              obtain ⟨hr192, er192⟩ := hr192
              refine lv_if_ne (tgt := 87) hx hb dModel_add_80 (by decide) (fun c193 => ?_) (fun c193 => ?_)
              · exact J87 ls (by first | exact (fun h9 => bt_f ht0_46 (by assumption) h9.1) | exact (fun h9 => h9.2 (bt_t (P := GNm x2) (by assumption) (by assumption)))) (by subst er192 ev182; exact hO.tr ((if_neg c179).trans ((if_neg c180).trans ((if_neg c181).trans ((if_neg c183).trans ((if_neg c191).trans (if_neg c193))))))) (lv_sub hl [1, 2, 3, 4, 0] rfl)
              · exact J83 ls (by first | exact Or.inl (by assumption) | exact Or.inr (Or.inl (by assumption)) | exact Or.inr (Or.inr (Or.inl (by assumption))) | exact Or.inr (Or.inr (Or.inr (Or.inl (ba_m ev182 (by assumption))))) | exact Or.inr (Or.inr (Or.inr (Or.inr ⟨bt_t ht0_46 (by assumption), bt_f (P := GNm x2) (by assumption) (by assumption)⟩)))) (by subst er192 ev182; exact hO.tr ((if_neg c179).trans ((if_neg c180).trans ((if_neg c181).trans ((if_neg c183).trans ((if_neg c191).trans (if_pos c193))))))) (lv_sub hl [1, 2, 3, 4, 0] rfl)
  have J41 : ∀ (ls : Array Slot), (BN x1) → (Oq OUT (Q_add_41 κ τ σ F nu x1 x2 x3   )) → lv_has ls 5 [(0, .ref a), (1, .int x1), (2, .int x2), (3, .int x3)] → W p l e (bs_rm 1 0 0 20) s m args below meth c s.heap [] 0 0 Q (F0 m 41 ls []) := by
    intro ls h41 hO hl
    refine lv_iconst (v := 1) hx hb dModel_add_41 (by decide) ?_
    refine lv_goto (tgt := 46) hx hb dModel_add_42 (by decide) ?_
    exact J46 ls 1 (by first | exact Or.inl ⟨rfl, h41⟩ | exact Or.inr ⟨rfl, bn_not (by assumption) (by assumption) (by assumption) (by assumption) (by assumption) (by assumption) (by assumption)⟩) (by exact hO.tr rfl) (lv_sub hl [0, 1, 2, 3] rfl)
  refine lv_icmp_eq (tgt := 41) hx hb dModel_add_2 (by decide) (fun c194 => ?_) (fun c194 => ?_)
  · exact J41 ls (bn_of (by first | exact Or.inl (by assumption) | exact Or.inr (Or.inl (by assumption)) | exact Or.inr (Or.inr (Or.inl (by assumption))) | exact Or.inr (Or.inr (Or.inr (Or.inl (by assumption)))) | exact Or.inr (Or.inr (Or.inr (Or.inr (Or.inl (by assumption))))) | exact Or.inr (Or.inr (Or.inr (Or.inr (Or.inr (Or.inl (by assumption)))))) | exact Or.inr (Or.inr (Or.inr (Or.inr (Or.inr (Or.inr ((by assumption))))))))) (by exact hO.tr (if_pos c194)) (lv_sub hl [0, 1, 2, 3] rfl)
  · refine lv_iload_n hx hb dModel_add_5 rfl (lv_at hl 1 rfl) ?_
    refine lv_bipush (v := 10) hx hb dModel_add_6 (by decide) ?_
    refine lv_icmp_eq (tgt := 41) hx hb dModel_add_8 (by decide) (fun c195 => ?_) (fun c195 => ?_)
    · exact J41 ls (bn_of (by first | exact Or.inl (by assumption) | exact Or.inr (Or.inl (by assumption)) | exact Or.inr (Or.inr (Or.inl (by assumption))) | exact Or.inr (Or.inr (Or.inr (Or.inl (by assumption)))) | exact Or.inr (Or.inr (Or.inr (Or.inr (Or.inl (by assumption))))) | exact Or.inr (Or.inr (Or.inr (Or.inr (Or.inr (Or.inl (by assumption)))))) | exact Or.inr (Or.inr (Or.inr (Or.inr (Or.inr (Or.inr ((by assumption))))))))) (by exact hO.tr ((if_neg c194).trans (if_pos c195))) (lv_sub hl [0, 1, 2, 3] rfl)
    · refine lv_iload_n hx hb dModel_add_11 rfl (lv_at hl 1 rfl) ?_
      refine lv_bipush (v := 22) hx hb dModel_add_12 (by decide) ?_
      refine lv_icmp_eq (tgt := 41) hx hb dModel_add_14 (by decide) (fun c196 => ?_) (fun c196 => ?_)
      · exact J41 ls (bn_of (by first | exact Or.inl (by assumption) | exact Or.inr (Or.inl (by assumption)) | exact Or.inr (Or.inr (Or.inl (by assumption))) | exact Or.inr (Or.inr (Or.inr (Or.inl (by assumption)))) | exact Or.inr (Or.inr (Or.inr (Or.inr (Or.inl (by assumption))))) | exact Or.inr (Or.inr (Or.inr (Or.inr (Or.inr (Or.inl (by assumption)))))) | exact Or.inr (Or.inr (Or.inr (Or.inr (Or.inr (Or.inr ((by assumption))))))))) (by exact hO.tr ((if_neg c194).trans ((if_neg c195).trans (if_pos c196)))) (lv_sub hl [0, 1, 2, 3] rfl)
      · refine lv_iload_n hx hb dModel_add_17 rfl (lv_at hl 1 rfl) ?_
        refine lv_bipush (v := 23) hx hb dModel_add_18 (by decide) ?_
        refine lv_icmp_eq (tgt := 41) hx hb dModel_add_20 (by decide) (fun c197 => ?_) (fun c197 => ?_)
        · exact J41 ls (bn_of (by first | exact Or.inl (by assumption) | exact Or.inr (Or.inl (by assumption)) | exact Or.inr (Or.inr (Or.inl (by assumption))) | exact Or.inr (Or.inr (Or.inr (Or.inl (by assumption)))) | exact Or.inr (Or.inr (Or.inr (Or.inr (Or.inl (by assumption))))) | exact Or.inr (Or.inr (Or.inr (Or.inr (Or.inr (Or.inl (by assumption)))))) | exact Or.inr (Or.inr (Or.inr (Or.inr (Or.inr (Or.inr ((by assumption))))))))) (by exact hO.tr ((if_neg c194).trans ((if_neg c195).trans ((if_neg c196).trans (if_pos c197))))) (lv_sub hl [0, 1, 2, 3] rfl)
        · refine lv_iload_n hx hb dModel_add_23 rfl (lv_at hl 1 rfl) ?_
          refine lv_bipush (v := 24) hx hb dModel_add_24 (by decide) ?_
          refine lv_icmp_eq (tgt := 41) hx hb dModel_add_26 (by decide) (fun c198 => ?_) (fun c198 => ?_)
          · exact J41 ls (bn_of (by first | exact Or.inl (by assumption) | exact Or.inr (Or.inl (by assumption)) | exact Or.inr (Or.inr (Or.inl (by assumption))) | exact Or.inr (Or.inr (Or.inr (Or.inl (by assumption)))) | exact Or.inr (Or.inr (Or.inr (Or.inr (Or.inl (by assumption))))) | exact Or.inr (Or.inr (Or.inr (Or.inr (Or.inr (Or.inl (by assumption)))))) | exact Or.inr (Or.inr (Or.inr (Or.inr (Or.inr (Or.inr ((by assumption))))))))) (by exact hO.tr ((if_neg c194).trans ((if_neg c195).trans ((if_neg c196).trans ((if_neg c197).trans (if_pos c198)))))) (lv_sub hl [0, 1, 2, 3] rfl)
          · refine lv_iload_n hx hb dModel_add_29 rfl (lv_at hl 1 rfl) ?_
            refine lv_bipush (v := 25) hx hb dModel_add_30 (by decide) ?_
            refine lv_icmp_eq (tgt := 41) hx hb dModel_add_32 (by decide) (fun c199 => ?_) (fun c199 => ?_)
            · exact J41 ls (bn_of (by first | exact Or.inl (by assumption) | exact Or.inr (Or.inl (by assumption)) | exact Or.inr (Or.inr (Or.inl (by assumption))) | exact Or.inr (Or.inr (Or.inr (Or.inl (by assumption)))) | exact Or.inr (Or.inr (Or.inr (Or.inr (Or.inl (by assumption))))) | exact Or.inr (Or.inr (Or.inr (Or.inr (Or.inr (Or.inl (by assumption)))))) | exact Or.inr (Or.inr (Or.inr (Or.inr (Or.inr (Or.inr ((by assumption))))))))) (by exact hO.tr ((if_neg c194).trans ((if_neg c195).trans ((if_neg c196).trans ((if_neg c197).trans ((if_neg c198).trans (if_pos c199))))))) (lv_sub hl [0, 1, 2, 3] rfl)
            · refine lv_iload_n hx hb dModel_add_35 rfl (lv_at hl 1 rfl) ?_
              refine lv_bipush (v := 53) hx hb dModel_add_36 (by decide) ?_
              refine lv_icmp_ne (tgt := 45) hx hb dModel_add_38 (by decide) (fun c200 => ?_) (fun c200 => ?_)
              · refine lv_iconst (v := 0) hx hb dModel_add_45 (by decide) ?_
                exact J46 ls 0 (by first | exact Or.inl ⟨rfl, h41⟩ | exact Or.inr ⟨rfl, bn_not (by assumption) (by assumption) (by assumption) (by assumption) (by assumption) (by assumption) (by assumption)⟩) (by exact hO.tr ((if_neg c194).trans ((if_neg c195).trans ((if_neg c196).trans ((if_neg c197).trans ((if_neg c198).trans ((if_neg c199).trans (if_neg c200)))))))) (lv_sub hl [0, 1, 2, 3] rfl)
              · exact J41 ls (bn_of (by first | exact Or.inl (by assumption) | exact Or.inr (Or.inl (by assumption)) | exact Or.inr (Or.inr (Or.inl (by assumption))) | exact Or.inr (Or.inr (Or.inr (Or.inl (by assumption)))) | exact Or.inr (Or.inr (Or.inr (Or.inr (Or.inl (by assumption))))) | exact Or.inr (Or.inr (Or.inr (Or.inr (Or.inr (Or.inl (by assumption)))))) | exact Or.inr (Or.inr (Or.inr (Or.inr (Or.inr (Or.inr ((by assumption))))))))) (by exact hO.tr ((if_neg c194).trans ((if_neg c195).trans ((if_neg c196).trans ((if_neg c197).trans ((if_neg c198).trans ((if_neg c199).trans (if_pos c200)))))))) (lv_sub hl [0, 1, 2, 3] rfl)
-- PURE: small ints and getters of the class's looks and trees
theorem j_le {a b : Nat} (ha : a < 2 ^ 31) (hb : b < 2 ^ 31) : (nI a ≤ nI b) = (a ≤ b) := propext (by rw [Int32.le_iff_toInt_le, nI_toInt ha, nI_toInt hb]; omega)
theorem j_lt {a b : Nat} (ha : a < 2 ^ 31) (hb : b < 2 ^ 31) : (nI a < nI b) = (a < b) := propext (by rw [Int32.lt_iff_toInt_lt, nI_toInt ha, nI_toInt hb]; omega)
theorem j_eq {a b : Nat} (ha : a < 2 ^ 31) (hb : b < 2 ^ 31) : (nI a = nI b) = (a = b) := propext ⟨fun h => by have := congrArg Int32.toInt h; rw [nI_toInt ha, nI_toInt hb] at this; omega, fun h => by rw [h]⟩
theorem j_pred {k : Nat} (h : 1 ≤ k) : nI k - 1 = nI (k - 1) := by obtain ⟨j, rfl⟩ : ∃ j, k = j + 1 := ⟨k - 1, by omega⟩; exact nI_pred j
theorem pl_has {L k : Nat} {f : gf} (h : k < L) (hL : L ≤ 8192) : P_Looks_has L f (nI k) = 1 := by
  unfold P_Looks_has
  rw [if_neg (nI_pos (by omega)), if_neg (by rw [j_le (by omega) (by omega)]; omega)]
theorem pl_0 {L k : Nat} {f : gf} (h : k < L) (hL : L ≤ 8192) : P_Looks_classOf L f (nI k) = f 0 k := by
  unfold P_Looks_classOf; rw [pl_has h hL, nI_clamp (by omega)]; rfl
theorem pl_1 {L k : Nat} {f : gf} (h : k < L) (hL : L ≤ 8192) : P_Looks_extentOf L f (nI k) = f 1 k := by
  unfold P_Looks_extentOf; rw [pl_has h hL, nI_clamp (by omega)]; rfl
theorem pl_2 {L k : Nat} {f : gf} (h : k < L) (hL : L ≤ 8192) : P_Looks_meaningOf L f (nI k) = f 2 k := by
  unfold P_Looks_meaningOf; rw [pl_has h hL, nI_clamp (by omega)]; rfl
theorem pl_3 {L k : Nat} {f : gf} (h : k < L) (hL : L ≤ 8192) : P_Looks_numberOf L f (nI k) = f 3 k := by
  unfold P_Looks_numberOf; rw [pl_has h hL, nI_clamp (by omega)]; rfl
theorem pl_4 {L k : Nat} {f : gf} (h : k < L) (hL : L ≤ 8192) : P_Looks_isFixed L f (nI k) = if f 4 k = 1 then 1 else 0 := by
  unfold P_Looks_isFixed; rw [pl_has h hL, nI_clamp (by omega)]; rfl
theorem pl_note {L k : Nat} {f : gf} {c e x : Int32} (h : k < L) (hL : L ≤ 8192) : P_Looks_note L f (nI k) c e x = Au (Au (Au f 0 k c) 1 k e) 4 k (if x = 0 then 0 else 1) := by
  unfold P_Looks_note; rw [pl_has h hL, nI_clamp (by omega)]; by_cases hx : x = 0 <;> simp [hx]
theorem pl_sm {L k : Nat} {f : gf} {x : Int32} (h : k < L) (hL : L ≤ 8192) : P_Looks_setMeaning L f (nI k) x = Au f 2 k x := by
  unfold P_Looks_setMeaning; rw [pl_has h hL, nI_clamp (by omega)]; rfl
theorem pl_sn {L k : Nat} {f : gf} {x : Int32} (h : k < L) (hL : L ≤ 8192) : P_Looks_setNumber L f (nI k) x = Au f 3 k x := by
  unfold P_Looks_setNumber; rw [pl_has h hL, nI_clamp (by omega)]; rfl
theorem pl_fg {L k : Nat} {f : gf} (h : k < L) (hL : L ≤ 8192) : P_Looks_forget L f (nI k) = Au (Au (Au (Au (Au f 0 k (-1)) 1 k 0) 2 k (-1)) 3 k 0) 4 k 0 := by
  unfold P_Looks_forget; rw [pl_has h hL, nI_clamp (by omega)]; rfl
theorem pt_has {N r L k : Nat} {f : gf} (h : k < N) (hL : N ≤ 8192) : P_Trees_has N r L f (nI k) = 1 := by
  unfold P_Trees_has
  rw [if_neg (nI_pos (by omega)), if_neg (by rw [j_le (by omega) (by omega)]; omega)]
theorem pt_0 {N r L k : Nat} {f : gf} (h : k < N) (hL : N ≤ 8192) : P_Trees_kindOf N r L f (nI k) = f 0 k := by
  unfold P_Trees_kindOf; rw [pt_has h hL, nI_clamp (by omega)]; rfl
theorem pt_1 {N r L k : Nat} {f : gf} (h : k < N) (hL : N ≤ 8192) : P_Trees_valueOf N r L f (nI k) = f 1 k := by
  unfold P_Trees_valueOf; rw [pt_has h hL, nI_clamp (by omega)]; rfl
theorem pt_2 {N r L k : Nat} {f : gf} (h : k < N) (hL : N ≤ 8192) : P_Trees_countOf N r L f (nI k) = f 2 k := by
  unfold P_Trees_countOf; rw [pt_has h hL, nI_clamp (by omega)]; rfl
theorem pt_3 {N r L k : Nat} {f : gf} (h : k < N) (hL : N ≤ 8192) : P_Trees_firstOf N r L f (nI k) = f 3 k := by
  unfold P_Trees_firstOf; rw [pt_has h hL, nI_clamp (by omega)]; rfl
theorem au_a {A : gf} {k i j q : Nat} {x : Int32} : Au A k i x j q = if j = k ∧ q = i then x else A j q := by
  unfold Au upd
  by_cases h : j = k
  · subst h; by_cases h2 : q = i <;> simp [h2]
  · simp [h]
theorem upl_a {g : gg} {i q : Nat} {x : Int64} : vp_updL g i x q = if q = i then x else g q := rfl
theorem up_up {α : Type} {f : Nat → α} {i : Nat} {x y : α} : up (up f i x) i y = up f i y := by
  funext j; unfold up; by_cases h : j = i <;> simp [h]
-- rows of the class: element k of slot s
def rr (M : Nat) (g : gg) (s k : Nat) : Int32 := P_Rows_get M g (nI s) (nI k)
theorem nib1 (w v : BitVec 64) (a b i : Nat) (ha : a < 16) (hb : b < 16) (hv : v.toNat < 16) : ((((w &&& ~~~((15#64) <<< (4 * a))) ||| (v <<< (4 * a))) >>> (4 * b)) &&& 15#64).getLsbD i = if a = b then v.getLsbD i else ((w >>> (4 * b)) &&& 15#64).getLsbD i := by
  have h15 : ∀ j, (15#64).getLsbD j = decide (j < 4) := by
    intro j
    by_cases hj : j < 64
    · have : ∀ j : Fin 64, (15#64).getLsbD j = decide ((j : Nat) < 4) := by decide
      exact this ⟨j, hj⟩
    · rw [BitVec.getLsbD_of_ge _ _ (by omega)]; simp; omega
  have hv2 : ∀ j, 4 ≤ j → v.getLsbD j = false := by
    intro j hj
    rw [BitVec.getLsbD, Nat.testBit_lt_two_pow (Nat.lt_of_lt_of_le hv (Nat.pow_le_pow_right (n := 2) (by decide) hj : 2 ^ 4 ≤ 2 ^ j))]
  simp only [BitVec.getLsbD_and, BitVec.getLsbD_ushiftRight, BitVec.getLsbD_or, BitVec.getLsbD_not, BitVec.getLsbD_shiftLeft, h15]
  by_cases hi : i < 4
  · by_cases hab : a = b
    · subst hab
      have e1 : 4 * a + i - 4 * a = i := by omega
      have e2 : ¬ (4 * a + i < 4 * a) := by omega
      have e3 : 4 * a + i < 64 := by omega
      simp [hi, e1, e2, e3]
    · simp only [hi, hab, if_false, decide_true, Bool.and_true]
      rcases Nat.lt_or_ge a b with h | h
      · have e1 : 4 ≤ 4 * b + i - 4 * a := by omega
        have e2 : ¬ (4 * b + i < 4 * a) := by omega
        have e3 : ¬ (4 * b + i - 4 * a < 4) := by omega
        have e4 : 4 * b + i < 64 := by omega
        simp [e2, e3, e4, hv2 _ e1]
      · have e2 : (4 * b + i < 4 * a) := by omega
        have e4 : 4 * b + i < 64 := by omega
        simp [e2, e4]
  · by_cases hab : a = b
    · simp [hi, hab, hv2 i (by omega)]
    · simp [hi, hab]
theorem nib (w v : BitVec 64) (a b : Nat) (ha : a < 16) (hb : b < 16) (hv : v.toNat < 16) : (((w &&& ~~~((15#64) <<< (4 * a))) ||| (v <<< (4 * a))) >>> (4 * b)) &&& 15#64 = if a = b then v else (w >>> (4 * b)) &&& 15#64 := by
  apply BitVec.eq_of_getLsbD_eq
  intro i _
  rw [nib1 w v a b i ha hb hv]
  by_cases h : a = b <;> simp [h]
