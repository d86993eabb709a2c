def Q_lookSlice_302 (κ : Nat → Nat) (τ : gf) (σ : Nat → Int32) (F : gf) (nu : gg) (x1 : Int32) (x2 : Int32) (x3 : Int32) (t0_93 : Int32) (t0_133 : Int64) (t0_208 : Int32) (t0_249 : Int64) (F_255 : gf) (i11_255 : Int32) : Int32 × (Nat → Int32) × gf × gg := (0, ((Q_rowObject κ τ σ F nu (τ 3 x1.toNatClampNeg)).2.1), (Au F_255 12 x1.toNatClampNeg (((Q_rowObject κ τ σ F nu (τ 3 x1.toNatClampNeg)).2.1) 33)), ((Q_fact κ τ ((Q_rowObject κ τ σ F nu (τ 3 x1.toNatClampNeg)).2.1) F nu x1 3 (t0_133.toInt32) t0_208).2.2))
def Q_lookSlice_255 (κ : Nat → Nat) (τ : gf) (σ : Nat → Int32) (F : gf) (nu : gg) (x1 : Int32) (x2 : Int32) (x3 : Int32) (t0_93 : Int32) (t0_133 : Int64) (t0_208 : Int32) (t0_249 : Int64) : Nat → gf → Int32 → Int32 × (Nat → Int32) × gf × gg
  | 0, _, _ => default
  | n + 1, F_255, i11_255 => (if 0 ≤ (lg_cmp (i11_255.toInt64) t0_133) then (Q_lookSlice_302 κ τ σ F nu x1 x2 x3 t0_93 t0_133 t0_208 t0_249 F_255 i11_255  ) else (if (τ 22 (((Q_rowObject κ τ σ F nu (τ 3 x1.toNatClampNeg)).2.1) 33).toNatClampNeg) = 0 then (Q_lookSlice_255 κ τ σ F nu x1 x2 x3 t0_93 t0_133 t0_208 t0_249  n ((Q_setElement κ τ ((Q_rowObject κ τ σ F nu (τ 3 x1.toNatClampNeg)).2.1) F_255 ((Q_fact κ τ ((Q_rowObject κ τ σ F nu (τ 3 x1.toNatClampNeg)).2.1) F nu x1 3 (t0_133.toInt32) t0_208).2.2) x1 i11_255 (Q_element κ τ ((Q_rowObject κ τ σ F nu (τ 3 x1.toNatClampNeg)).2.1) F_255 ((Q_fact κ τ ((Q_rowObject κ τ σ F nu (τ 3 x1.toNatClampNeg)).2.1) F nu x1 3 (t0_133.toInt32) t0_208).2.2) (8000 + (((Q_rowObject κ τ σ F nu (τ 3 x1.toNatClampNeg)).2.1) 33)) ((t0_249.toInt32) + i11_255))).2.1) (i11_255 + 1)) else (Q_lookSlice_302 κ τ σ F nu x1 x2 x3 t0_93 t0_133 t0_208 t0_249 F_255 i11_255  )))
def Q_lookSlice_249 (κ : Nat → Nat) (τ : gf) (σ : Nat → Int32) (F : gf) (nu : gg) (x1 : Int32) (x2 : Int32) (x3 : Int32) (t0_93 : Int32) (t0_133 : Int64) (t0_208 : Int32) (t0_249 : Int64) : Int32 × (Nat → Int32) × gf × gg := (Q_lookSlice_255 κ τ σ F nu x1 x2 x3 t0_93 t0_133 t0_208 t0_249  ((2147483647 - (0 : Int32).toInt).toNat + 1) ((Q_fact κ τ ((Q_rowObject κ τ σ F nu (τ 3 x1.toNatClampNeg)).2.1) F nu x1 3 (t0_133.toInt32) t0_208).2.1) 0)
def Q_lookSlice_208 (κ : Nat → Nat) (τ : gf) (σ : Nat → Int32) (F : gf) (nu : gg) (x1 : Int32) (x2 : Int32) (x3 : Int32) (t0_93 : Int32) (t0_133 : Int64) (t0_208 : Int32) : Int32 × (Nat → Int32) × gf × gg := (if t0_93 = 0 then (Q_lookSlice_249 κ τ σ F nu x1 x2 x3 t0_93 t0_133 t0_208  (((τ 18 (τ 23 (((Q_rowObject κ τ σ F nu (τ 3 x1.toNatClampNeg)).2.1) 33).toNatClampNeg).toNatClampNeg).toInt64) - (((Q_fact κ τ ((Q_rowObject κ τ σ F nu (τ 3 x1.toNatClampNeg)).2.1) F nu x1 3 (t0_133.toInt32) t0_208).2.2) x3.toNatClampNeg))) else (Q_lookSlice_249 κ τ σ F nu x1 x2 x3 t0_93 t0_133 t0_208  ((((Q_fact κ τ ((Q_rowObject κ τ σ F nu (τ 3 x1.toNatClampNeg)).2.1) F nu x1 3 (t0_133.toInt32) t0_208).2.2) x3.toNatClampNeg) - ((τ 18 (τ 23 (((Q_rowObject κ τ σ F nu (τ 3 x1.toNatClampNeg)).2.1) 33).toNatClampNeg).toNatClampNeg).toInt64))))
def Q_lookSlice_133 (κ : Nat → Nat) (τ : gf) (σ : Nat → Int32) (F : gf) (nu : gg) (x1 : Int32) (x2 : Int32) (x3 : Int32) (t0_93 : Int32) (t0_133 : Int64) : Int32 × (Nat → Int32) × gf × gg := (if t0_93 = (τ 20 (τ 23 (((Q_rowObject κ τ σ F nu (τ 3 x1.toNatClampNeg)).2.1) 33).toNatClampNeg).toNatClampNeg) then (if (lg_cmp t0_133 1) < 0 then (6, ((Q_rowObject κ τ σ F nu (τ 3 x1.toNatClampNeg)).2.1), F, nu) else (if (Q_within κ τ ((Q_rowObject κ τ σ F nu (τ 3 x1.toNatClampNeg)).2.1) F nu (τ 23 (((Q_rowObject κ τ σ F nu (τ 3 x1.toNatClampNeg)).2.1) 33).toNatClampNeg) (nu x2.toNatClampNeg)) = 0 then (6, ((Q_rowObject κ τ σ F nu (τ 3 x1.toNatClampNeg)).2.1), F, nu) else (if (Q_within κ τ ((Q_rowObject κ τ σ F nu (τ 3 x1.toNatClampNeg)).2.1) F nu (τ 23 (((Q_rowObject κ τ σ F nu (τ 3 x1.toNatClampNeg)).2.1) 33).toNatClampNeg) (nu x3.toNatClampNeg)) = 0 then (6, ((Q_rowObject κ τ σ F nu (τ 3 x1.toNatClampNeg)).2.1), F, nu) else (if (τ 22 (((Q_rowObject κ τ σ F nu (τ 3 x1.toNatClampNeg)).2.1) 33).toNatClampNeg) = 0 then (Q_lookSlice_208 κ τ σ F nu x1 x2 x3 t0_93 t0_133  1) else (Q_lookSlice_208 κ τ σ F nu x1 x2 x3 t0_93 t0_133  0))))) else (6, ((Q_rowObject κ τ σ F nu (τ 3 x1.toNatClampNeg)).2.1), F, nu))
def Q_lookSlice_93 (κ : Nat → Nat) (τ : gf) (σ : Nat → Int32) (F : gf) (nu : gg) (x1 : Int32) (x2 : Int32) (x3 : Int32) (t0_93 : Int32) : Int32 × (Nat → Int32) × gf × gg := (if t0_93 = 0 then (Q_lookSlice_133 κ τ σ F nu x1 x2 x3 t0_93  (((nu x3.toNatClampNeg) - (nu x2.toNatClampNeg)) + 1)) else (Q_lookSlice_133 κ τ σ F nu x1 x2 x3 t0_93  (((nu x2.toNatClampNeg) - (nu x3.toNatClampNeg)) + 1)))
def Q_lookSlice (κ : Nat → Nat) (τ : gf) (σ : Nat → Int32) (F : gf) (nu : gg) (x1 : Int32) (x2 : Int32) (x3 : Int32) : Int32 × (Nat → Int32) × gf × gg := (if ((Q_rowObject κ τ σ F nu (τ 3 x1.toNatClampNeg)).1) ≤ 0 then (if (F 9 x2.toNatClampNeg) = 2 then (if (F 9 x3.toNatClampNeg) = 2 then (if (F 11 x2.toNatClampNeg) = 0 then (5, ((Q_rowObject κ τ σ F nu (τ 3 x1.toNatClampNeg)).2.1), F, nu) else (if (F 11 x3.toNatClampNeg) = 0 then (5, ((Q_rowObject κ τ σ F nu (τ 3 x1.toNatClampNeg)).2.1), F, nu) else (if (τ 2 x1.toNatClampNeg) = 24 then (Q_lookSlice_93 κ τ σ F nu x1 x2 x3  1) else (Q_lookSlice_93 κ τ σ F nu x1 x2 x3  0)))) else (3, ((Q_rowObject κ τ σ F nu (τ 3 x1.toNatClampNeg)).2.1), F, nu)) else (3, ((Q_rowObject κ τ σ F nu (τ 3 x1.toNatClampNeg)).2.1), F, nu)) else ((Q_rowObject κ τ σ F nu (τ 3 x1.toNatClampNeg)).1, ((Q_rowObject κ τ σ F nu (τ 3 x1.toNatClampNeg)).2.1), F, nu))
set_option maxHeartbeats 4000000 in
set_option maxRecDepth 100000 in
theorem n_lookSlice (l : Launch) (γ : gE) (a : Nat) (B : Nat → Nat) (Z : Nat → Prop) (κ b mn : Nat → Nat) (ν : Nat → Int32) (τ : Nat → Nat → Int32) (σ : Nat → Int32) (F : Nat → Nat → Int32) (nu : Nat → Int64) (hT : ST κ b mn ν τ) (x1 : Int32) (x2 : Int32) (x3 : Int32) (hx1 : vp_in x1 (κ 0)) (hx2 : vp_in x2 (κ 0)) (hx3 : vp_in x3 (κ 0)) (ha : x2.toNatClampNeg < x1.toNatClampNeg) (hbk : x3.toNatClampNeg < x1.toNatClampNeg) (hZ : SZ F) (hF : FD σ) : MU l yModel_lookSlice bModel_lookSlice 12 (some .int) 2 48 0 0 [.ref a, .int x1, .int x2, .int x3] γ Z (MD γ a B Z ν τ σ F nu) (mQi (fun r H => ∃ (σ' : Nat → Int32) (F' : Nat → Nat → Int32) (nu' : Nat → Int64), Oq (Q_lookSlice κ τ σ F nu x1 x2 x3) (r, σ', F', nu') ∧ MD γ a B Z ν τ σ' F' nu' H ∧ SZ F' ∧ FD σ' ∧ SL x1.toNatClampNeg F nu F' nu' ∧ (¬ 0 < r → GK x1.toNatClampNeg F' nu')) Z) := by
  refine mu_openI (by decide) (Nat.le_of_ble_eq_true rfl) ?_
  intro p e s m args below meth c ls Q S hnm hC hA hM hE hl
  have hS : va_S Z s.heap s.heap [] := va_S.rf
  obtain ⟨hx, hb, hml, hown, hW⟩ := id S
  obtain ⟨⟨hs0, hs1, hs2, hs3, hs4, hs5, hs6⟩, ⟨hv6, hv8, hv21, hv24, hv30, hv31⟩, hTR, hTY, hOB, hNM⟩ := id hT
  have hL : SL x1.toNatClampNeg F nu F nu := SL.rf
  have hl : lv_has ls 12 [(0, .ref a), (1, .int x1), (2, .int x2), (3, .int x3)] := hl
  obtain ⟨OUT, hQ, hO⟩ : ∃ z, (z = Q_lookSlice κ τ σ F nu x1 x2 x3) ∧ Oq z (Q_lookSlice κ τ σ F nu x1 x2 x3) := ⟨_, rfl, rfl⟩
  rw [← hQ] at hE
  clear hQ
  refine lv_aload_n hx hb dModel_lookSlice_0 rfl (lv_at hl 0 rfl) ?_
  refine lv_aload_n hx hb dModel_lookSlice_1 rfl (lv_at hl 0 rfl) ?_
  refine md_gA S hC hM 3 (by decide) rfl qw_9fb851a5fa dModel_lookSlice_2 ?_
  refine lv_iload_n hx hb dModel_lookSlice_5 rfl (lv_at hl 1 rfl) ?_
  refine md_ild S hC hM 3 1 4000 (τ 3) rfl rfl (by decide) rfl rfl (vin (by assumption) (by omega)) dModel_lookSlice_6 ?_
  refine lv_topi (fun v1 ev1 => ?_)
  refine mu_Vi (rest := []) S hC (fun q h => hA q (Nat.le_trans hS.1 h)) (fun q h => h) hS (n_rowObject l γ a B Z κ b mn ν τ σ F nu hT v1 ) meModel_rowObject qw_f33503df7d ⟨Nat.le_of_ble_eq_true rfl, Nat.le_of_ble_eq_true rfl⟩ (md_rv hC hM) hM rfl hl.1 rfl (Nat.le_of_ble_eq_true rfl) dModel_lookSlice_7 ⟨Nat.le_refl _, Nat.le_refl _⟩ (fun r2 H locs hPO hS _ _ => ?_)
  obtain ⟨σr2, eOr2, hM, hF, hror2⟩ := hPO
  have er2 : r2 = (Q_rowObject κ τ σ F nu v1).1 := by rw [eOr2.eq]
  have eσr2 : σr2 = (Q_rowObject κ τ σ F nu v1).2.1 := by rw [eOr2.eq]
  clear eOr2
  refine lv_istore (lv' := [(4, .int r2), (0, .ref a), (1, .int x1), (2, .int x2), (3, .int x3)]) hx hb dModel_lookSlice_10 hl (by decide) rfl (fun ls hl => ?_)
  refine lv_iload hx hb dModel_lookSlice_12 (lv_at hl 0 rfl) ?_
  refine lv_if_le (tgt := 20) hx hb dModel_lookSlice_14 (by decide) (fun c3 => ?_) (fun c3 => ?_)
  · obtain ⟨o, t, ho, ht, hoe, hot, htc⟩ := hror2.resolve_left (Int32.not_lt.mpr (by assumption))
    obtain ⟨lo, hi, cn, h17, h18, h19, hlo, hhi, hd1, hd2, hcn, hup, hdn⟩ := hTY t ht htc
    refine lv_aload_n hx hb dModel_lookSlice_20 rfl (lv_at hl 1 rfl) ?_
    refine md_gI S hC hM 33 (v := σr2 33) rfl (by decide) rfl qw_c60a40a4a7 dModel_lookSlice_21 ?_
    refine lv_topi (fun v4 ev4 => ?_)
    refine lv_istore (lv' := [(5, .int v4), (4, .int r2), (0, .ref a), (1, .int x1), (2, .int x2), (3, .int x3)]) hx hb dModel_lookSlice_24 hl (by decide) rfl (fun ls hl => ?_)
    have hio : vp_in v4 2000 := vin_of (ev4.trans hoe) ho (by omega)
    refine lv_aload_n hx hb dModel_lookSlice_26 rfl (lv_at hl 2 rfl) ?_
    refine md_gA S hC hM 23 (by decide) rfl qw_bd9bcb35cb dModel_lookSlice_27 ?_
    refine lv_iload hx hb dModel_lookSlice_30 (lv_at hl 0 rfl) ?_
    refine md_ild S hC hM 23 18 2000 (τ 23) rfl rfl (by decide) rfl rfl hio dModel_lookSlice_32 ?_
    refine lv_topi (fun v5 ev5 => ?_)
    refine lv_istore (lv' := [(6, .int v5), (5, .int v4), (4, .int r2), (0, .ref a), (1, .int x1), (2, .int x2), (3, .int x3)]) hx hb dModel_lookSlice_33 hl (by decide) rfl (fun ls hl => ?_)
    have hit : vp_in v5 1000 := ob_in hOB hio ev5
    have hio2 : v4.toNatClampNeg = o := (by rw [ev4, hoe]; exact nI_clamp (by omega))
    have hit2 : v5.toNatClampNeg = t := (by rw [ev5, hio2, hot]; exact nI_clamp (by omega))
    refine lv_aload_n hx hb dModel_lookSlice_35 rfl (lv_at hl 3 rfl) ?_
    refine md_gA S hC hM 9 (by decide) rfl qw_a119aeeca0 dModel_lookSlice_36 ?_
    refine lv_iload_n hx hb dModel_lookSlice_39 rfl (lv_at hl 5 rfl) ?_
    refine md_ild S hC hM 9 5 10000 (F 9) rfl rfl (by decide) rfl rfl (vin (by assumption) (by omega)) dModel_lookSlice_40 ?_
    refine lv_topi (fun v6 ev6 => ?_)
    refine lv_iconst (v := 2) hx hb dModel_lookSlice_41 (by decide) ?_
    refine lv_icmp_ne (tgt := 55) hx hb dModel_lookSlice_42 (by decide) (fun c7 => ?_) (fun c7 => ?_)
    · refine lv_iconst (v := 3) hx hb dModel_lookSlice_55 (by decide) ?_
      exact hE _ _ _ _ _ hS ⟨σr2, F, nu, (by subst ev6 ev5 ev4 eσr2 er2 ev1; exact hO.tr ((if_pos c3).trans (if_neg c7))), hM, hZ, hF, hL, (fun h9 => absurd (show (0 : Int32) < 3 by decide) h9)⟩ dModel_lookSlice_56
    · refine lv_aload_n hx hb dModel_lookSlice_45 rfl (lv_at hl 3 rfl) ?_
      refine md_gA S hC hM 9 (by decide) rfl qw_a119aeeca0 dModel_lookSlice_46 ?_
      refine lv_iload_n hx hb dModel_lookSlice_49 rfl (lv_at hl 6 rfl) ?_
      refine md_ild S hC hM 9 5 10000 (F 9) rfl rfl (by decide) rfl rfl (vin (by assumption) (by omega)) dModel_lookSlice_50 ?_
      refine lv_topi (fun v8 ev8 => ?_)
      refine lv_iconst (v := 2) hx hb dModel_lookSlice_51 (by decide) ?_
      refine lv_icmp_eq (tgt := 57) hx hb dModel_lookSlice_52 (by decide) (fun c9 => ?_) (fun c9 => ?_)
      · refine lv_aload_n hx hb dModel_lookSlice_57 rfl (lv_at hl 3 rfl) ?_
        refine md_gA S hC hM 11 (by decide) rfl qw_88b9028ba7 dModel_lookSlice_58 ?_
        refine lv_iload_n hx hb dModel_lookSlice_61 rfl (lv_at hl 5 rfl) ?_
        refine md_zld S hC hM 11 7 10000 (F 11) rfl rfl (by decide) rfl rfl (vin (by assumption) (by omega)) dModel_lookSlice_62 ?_
        refine lv_topi (fun v10 ev10 => ?_)
        refine lv_if_eq (tgt := 75) hx hb dModel_lookSlice_63 (by decide) (fun c11 => ?_) (fun c11 => ?_)
        · refine lv_iconst (v := 5) hx hb dModel_lookSlice_75 (by decide) ?_
          exact hE _ _ _ _ _ hS ⟨σr2, F, nu, (by subst ev10 ev8 ev6 ev5 ev4 eσr2 er2 ev1; exact hO.tr ((if_pos c3).trans ((if_pos c7).trans ((if_pos c9).trans (if_pos c11))))), hM, hZ, hF, hL, (fun h9 => absurd (show (0 : Int32) < 5 by decide) h9)⟩ dModel_lookSlice_76
        · refine lv_aload_n hx hb dModel_lookSlice_66 rfl (lv_at hl 3 rfl) ?_
          refine md_gA S hC hM 11 (by decide) rfl qw_88b9028ba7 dModel_lookSlice_67 ?_
          refine lv_iload_n hx hb dModel_lookSlice_70 rfl (lv_at hl 6 rfl) ?_
          refine md_zld S hC hM 11 7 10000 (F 11) rfl rfl (by decide) rfl rfl (vin (by assumption) (by omega)) dModel_lookSlice_71 ?_
          refine lv_topi (fun v12 ev12 => ?_)
          refine lv_if_ne (tgt := 77) hx hb dModel_lookSlice_72 (by decide) (fun c13 => ?_) (fun c13 => ?_)
          · refine lv_aload_n hx hb dModel_lookSlice_77 rfl (lv_at hl 3 rfl) ?_
            refine md_gA S hC hM 2 (by decide) rfl qw_3471296067 dModel_lookSlice_78 ?_
            refine lv_iload_n hx hb dModel_lookSlice_81 rfl (lv_at hl 4 rfl) ?_
            refine md_ild S hC hM 2 0 4000 (τ 2) rfl rfl (by decide) rfl rfl (vin (by assumption) (by omega)) dModel_lookSlice_82 ?_
            refine lv_topi (fun v14 ev14 => ?_)
            refine lv_bipush (v := 24) hx hb dModel_lookSlice_83 (by decide) ?_
            have J93 : ∀ (ls : Array Slot) (t0_93 : Int32), (Oq OUT (Q_lookSlice_93 κ τ σ F nu x1 x2 x3   t0_93)) → lv_has ls 12 [(0, .ref a), (1, .int x1), (2, .int x2), (3, .int x3), (4, .int r2), (5, .int v4), (6, .int v5)] → W p l e (bs_rm 2 0 0 48) s m args below meth c H locs 0 0 Q (F0 m 93 ls [.int t0_93]) := by
              intro ls t0_93 hO hl
              refine lv_istore (lv' := [(7, .int t0_93), (0, .ref a), (1, .int x1), (2, .int x2), (3, .int x3), (4, .int r2), (5, .int v4), (6, .int v5)]) hx hb dModel_lookSlice_93 hl (by decide) rfl (fun ls hl => ?_)
              refine lv_iload hx hb dModel_lookSlice_95 (lv_at hl 0 rfl) ?_
              have J133 : ∀ (ls : Array Slot) (t0_133 : Int64), ((¬ t0_93 = 0 ∧ t0_133 = nu x2.toNatClampNeg - nu x3.toNatClampNeg + 1) ∨ (t0_93 = 0 ∧ t0_133 = nu x3.toNatClampNeg - nu x2.toNatClampNeg + 1)) → (Oq OUT (Q_lookSlice_133 κ τ σ F nu x1 x2 x3 t0_93   t0_133)) → lv_has ls 12 [(0, .ref a), (1, .int x1), (2, .int x2), (3, .int x3), (4, .int r2), (5, .int v4), (6, .int v5), (7, .int t0_93)] → W p l e (bs_rm 2 0 0 48) s m args below meth c H locs 0 0 Q (F0 m 133 ls [.long t0_133]) := by
                intro ls t0_133 ht0_133 hO hl
                refine lv_lstore (lv' := [(8, .long t0_133), (0, .ref a), (1, .int x1), (2, .int x2), (3, .int x3), (4, .int r2), (5, .int v4), (6, .int v5), (7, .int t0_93)]) hx hb dModel_lookSlice_133 hl (by decide) rfl (fun ls hl => ?_)
                refine lv_iload hx hb dModel_lookSlice_135 (lv_at hl 8 rfl) ?_
                refine lv_aload_n hx hb dModel_lookSlice_137 rfl (lv_at hl 1 rfl) ?_
                refine md_gA S hC hM 20 (by decide) rfl qw_1579022aeb dModel_lookSlice_138 ?_
                refine lv_iload hx hb dModel_lookSlice_141 (lv_at hl 7 rfl) ?_
                refine md_zld S hC hM 20 16 1000 (τ 20) rfl rfl (by decide) rfl rfl (vin (by assumption) (by omega)) dModel_lookSlice_143 ?_
                refine lv_topi (fun v104 ev104 => ?_)
                refine lv_icmp_ne (tgt := 184) hx hb dModel_lookSlice_144 (by decide) (fun c105 => ?_) (fun c105 => ?_)
                · refine lv_bipush (v := 6) hx hb dModel_lookSlice_184 (by decide) ?_
                  exact hE _ _ _ _ _ hS ⟨σr2, F, nu, (by subst ev104 ev14 ev12 ev10 ev8 ev6 ev5 ev4 eσr2 er2 ev1; exact hO.tr (if_neg c105)), hM, hZ, hF, hL, (fun h9 => absurd (show (0 : Int32) < 6 by decide) h9)⟩ dModel_lookSlice_186
                · refine lv_lload hx hb dModel_lookSlice_147 (lv_at hl 0 rfl) ?_
                  refine lv_lconst (v := 1) hx hb dModel_lookSlice_149 (by decide) ?_
                  refine W.lcmp hx hb dModel_lookSlice_150 ?_
                  refine lv_topi (fun v106 ev106 => ?_)
                  refine lv_if_lt (tgt := 184) hx hb dModel_lookSlice_151 (by decide) (fun c107 => ?_) (fun c107 => ?_)
                  · refine lv_bipush (v := 6) hx hb dModel_lookSlice_184 (by decide) ?_
                    exact hE _ _ _ _ _ hS ⟨σr2, F, nu, (by subst ev106 ev104 ev14 ev12 ev10 ev8 ev6 ev5 ev4 eσr2 er2 ev1; exact hO.tr ((if_pos c105).trans (if_pos c107))), hM, hZ, hF, hL, (fun h9 => absurd (show (0 : Int32) < 6 by decide) h9)⟩ dModel_lookSlice_186
                  · refine lv_aload_n hx hb dModel_lookSlice_154 rfl (lv_at hl 1 rfl) ?_
                    refine lv_iload hx hb dModel_lookSlice_155 (lv_at hl 7 rfl) ?_
                    refine lv_aload_n hx hb dModel_lookSlice_157 rfl (lv_at hl 1 rfl) ?_
                    refine md_gA S hC hM 13 (by decide) rfl qw_7b809afc8c dModel_lookSlice_158 ?_
                    refine lv_iload_n hx hb dModel_lookSlice_161 rfl (lv_at hl 3 rfl) ?_
                    refine md_lld S hC hM (vin (by assumption) (by omega)) dModel_lookSlice_162 ?_
                    refine lv_topl (fun v108 ev108 => ?_)
                    have ev108 : v108 = nu x2.toNatClampNeg := ev108
                    refine pu_Vi (rest := []) S hC (n_within l γ a B Z κ b mn ν τ σr2 F nu hT v5 v108 (vin (by assumption) (by omega))) meModel_within qw_5fce476f55 ⟨Nat.le_of_ble_eq_true rfl, Nat.le_of_ble_eq_true rfl⟩ (md_rv hC hM) hM rfl hl.1 rfl (Nat.le_of_ble_eq_true rfl) dModel_lookSlice_163 ⟨Nat.zero_le _, Nat.zero_le _⟩ (fun r109 hr109 => ?_)
                    obtain ⟨hr109, er109⟩ := hr109
                    refine lv_if_eq (tgt := 184) hx hb dModel_lookSlice_166 (by decide) (fun c110 => ?_) (fun c110 => ?_)
                    · refine lv_bipush (v := 6) hx hb dModel_lookSlice_184 (by decide) ?_
                      exact hE _ _ _ _ _ hS ⟨σr2, F, nu, (by subst er109 ev108 ev106 ev104 ev14 ev12 ev10 ev8 ev6 ev5 ev4 eσr2 er2 ev1; exact hO.tr ((if_pos c105).trans ((if_neg c107).trans (if_pos c110)))), hM, hZ, hF, hL, (fun h9 => absurd (show (0 : Int32) < 6 by decide) h9)⟩ dModel_lookSlice_186
                    · refine lv_aload_n hx hb dModel_lookSlice_169 rfl (lv_at hl 1 rfl) ?_
                      refine lv_iload hx hb dModel_lookSlice_170 (lv_at hl 7 rfl) ?_
                      refine lv_aload_n hx hb dModel_lookSlice_172 rfl (lv_at hl 1 rfl) ?_
                      refine md_gA S hC hM 13 (by decide) rfl qw_7b809afc8c dModel_lookSlice_173 ?_
                      refine lv_iload_n hx hb dModel_lookSlice_176 rfl (lv_at hl 4 rfl) ?_
                      refine md_lld S hC hM (vin (by assumption) (by omega)) dModel_lookSlice_177 ?_
                      refine lv_topl (fun v111 ev111 => ?_)
                      have ev111 : v111 = nu x3.toNatClampNeg := ev111
                      refine pu_Vi (rest := []) S hC (n_within l γ a B Z κ b mn ν τ σr2 F nu hT v5 v111 (vin (by assumption) (by omega))) meModel_within qw_5fce476f55 ⟨Nat.le_of_ble_eq_true rfl, Nat.le_of_ble_eq_true rfl⟩ (md_rv hC hM) hM rfl hl.1 rfl (Nat.le_of_ble_eq_true rfl) dModel_lookSlice_178 ⟨Nat.zero_le _, Nat.zero_le _⟩ (fun r112 hr112 => ?_)
                      obtain ⟨hr112, er112⟩ := hr112
                      refine lv_if_ne (tgt := 187) hx hb dModel_lookSlice_181 (by decide) (fun c113 => ?_) (fun c113 => ?_)
                      · have h1n : 1 ≤ t0_133.toInt := c_ge1 ev106 (by assumption)
                        have hwa := (hr109.resolve_left (by assumption)) lo hi (by rw [hit2]; exact h17) (by rw [hit2]; exact h18) hlo hhi
                        have hwb := (hr112.resolve_left (by assumption)) lo hi (by rw [hit2]; exact h17) (by rw [hit2]; exact h18) hlo hhi
                        rw [ev108] at hwa
                        rw [ev111] at hwb
                        have hsl := sl_ok hlo hhi hd1 hd2 (fun h9 => hup (by rw [← hit2, ← ev104]; exact h9)) (fun h9 => hdn (by rw [← hit2, ← ev104]; exact h9)) (by assumption) hwa hwb ht0_133 h1n
                        refine lv_aload_n hx hb dModel_lookSlice_187 rfl (lv_at hl 1 rfl) ?_
                        refine lv_iload_n hx hb dModel_lookSlice_188 rfl (lv_at hl 2 rfl) ?_
                        refine lv_iconst (v := 3) hx hb dModel_lookSlice_189 (by decide) ?_
                        refine lv_lload hx hb dModel_lookSlice_190 (lv_at hl 0 rfl) ?_
                        refine lv_l2i hx hb dModel_lookSlice_192 rfl ?_
                        refine lv_topi (fun v114 ev114 => ?_)
                        refine lv_aload_n hx hb dModel_lookSlice_193 rfl (lv_at hl 1 rfl) ?_
                        refine md_gA S hC hM 22 (by decide) rfl qw_50c5849686 dModel_lookSlice_194 ?_
                        refine lv_iload hx hb dModel_lookSlice_197 (lv_at hl 6 rfl) ?_
                        refine md_ild S hC hM 22 17 2000 (τ 22) rfl rfl (by decide) rfl rfl (vin (by assumption) (by omega)) dModel_lookSlice_199 ?_
                        refine lv_topi (fun v115 ev115 => ?_)
                        have J208 : ∀ (ls : Array Slot) (t0_208 : Int32), (Oq OUT (Q_lookSlice_208 κ τ σ F nu x1 x2 x3 t0_93 t0_133   t0_208)) → lv_has ls 12 [(0, .ref a), (1, .int x1), (2, .int x2), (3, .int x3), (4, .int r2), (5, .int v4), (6, .int v5), (7, .int t0_93), (8, .long t0_133)] → W p l e (bs_rm 2 0 0 48) s m args below meth c H locs 0 0 Q (F0 m 208 ls [.int t0_208, .int v114, .int 3, .int x1, .ref a]) := by
                          intro ls t0_208 hO hl
                          have hnr139 : ∃ j, j ≤ 1000 ∧ v114 = nI j := (sz_of h1n hsl.1 ev114)
                          refine mu_Vv (rest := []) S hC (fun q h => hA q (Nat.le_trans hS.1 h)) (fun q h => h) hS (n_fact l γ a B Z κ b mn ν τ σr2 F nu hT x1 3 v114 t0_208 (vin (by assumption) (by omega)) hnr139) meModel_fact qw_02871250ec ⟨Nat.le_of_ble_eq_true rfl, Nat.le_of_ble_eq_true rfl⟩ (md_rv hC hM) hM rfl hl.1 rfl (Nat.le_of_ble_eq_true rfl) dModel_lookSlice_208 ⟨Nat.le_refl _, Nat.le_refl _⟩ (fun H locs hPO hS _ _ => ?_)
                          obtain ⟨Fr139, nur139, eOr139, hM, hqr139, hcr139⟩ := hPO
                          have eFr139 : Fr139 = (Q_fact κ τ σr2 F nu x1 3 v114 t0_208).2.1 := by rw [eOr139.eq]
                          have enur139 : nur139 = (Q_fact κ τ σr2 F nu x1 3 v114 t0_208).2.2 := by rw [eOr139.eq]
                          clear eOr139
                          have hZ : SZ Fr139 := hZ.slt hqr139 hnr139
                          have hL : SL x1.toNatClampNeg F nu Fr139 nur139 := hL.trans (SL.slt hqr139)
                          have hK : GK x1.toNatClampNeg Fr139 nur139 := GK.zero hqr139
                          have hnn : nur139 x3.toNatClampNeg = nu x3.toNatClampNeg := sltnn hqr139 (Nat.ne_of_lt hbk)
                          refine lv_iload hx hb dModel_lookSlice_211 (lv_at hl 7 rfl) ?_
                          have J249 : ∀ (ls : Array Slot) (t0_249 : Int64), (0 ≤ t0_249.toInt ∧ t0_249.toInt + t0_133.toInt ≤ 64) → (Oq OUT (Q_lookSlice_249 κ τ σ F nu x1 x2 x3 t0_93 t0_133 t0_208   t0_249)) → lv_has ls 12 [(0, .ref a), (1, .int x1), (2, .int x2), (3, .int x3), (4, .int r2), (5, .int v4), (6, .int v5), (7, .int t0_93), (8, .long t0_133)] → W p l e (bs_rm 2 0 0 48) s m args below meth c H locs 0 0 Q (F0 m 249 ls [.long t0_249]) := by
                            intro ls t0_249 ht0_249 hO hl
                            refine lv_l2i hx hb dModel_lookSlice_249 rfl ?_
                            refine lv_topi (fun v161 ev161 => ?_)
                            refine lv_istore (lv' := [(10, .int v161), (0, .ref a), (1, .int x1), (2, .int x2), (3, .int x3), (4, .int r2), (5, .int v4), (6, .int v5), (7, .int t0_93), (8, .long t0_133)]) hx hb dModel_lookSlice_250 hl (by decide) rfl (fun ls hl => ?_)
                            refine lv_iconst (v := 0) hx hb dModel_lookSlice_252 (by decide) ?_
                            refine lv_istore (lv' := [(11, .int 0), (10, .int v161), (0, .ref a), (1, .int x1), (2, .int x2), (3, .int x3), (4, .int r2), (5, .int v4), (6, .int v5), (7, .int t0_93), (8, .long t0_133)]) hx hb dModel_lookSlice_253 hl (by decide) rfl (fun ls hl => ?_)
                            have J255 : ∀ (N255 : Nat) (ls : Array Slot) (H : Heap) (locs : List Loc) (F_255 : Nat → Nat → Int32) (i11_255 : Int32), MD γ a B Z ν τ σr2 F_255 nur139 H → va_S Z s.heap H locs → (GK x1.toNatClampNeg F_255 nur139) → (SL x1.toNatClampNeg F nu F_255 nur139) → (SZ F_255) → (¬ i11_255 < 0) → (Oq OUT (Q_lookSlice_255 κ τ σ F nu x1 x2 x3 t0_93 t0_133 t0_208 t0_249  (N255 + 1) F_255 i11_255)) → (2147483647 - i11_255.toInt).toNat = N255 → lv_has ls 12 [(0, .ref a), (1, .int x1), (2, .int x2), (3, .int x3), (4, .int r2), (5, .int v4), (6, .int v5), (7, .int t0_93), (8, .long t0_133), (10, .int v161), (11, .int i11_255)] → W p l e (bs_rm 2 0 0 48) s m args below meth c H locs 0 0 Q (F0 m 255 ls []) := by
                              intro N255
                              induction N255 using Nat.strongRecOn with
                              | ind N255 ih255 =>
                                intro ls H locs F_255 i11_255 hM hS hK hL hZ hi11_255 hO hm255 hl
                                refine lv_iload hx hb dModel_lookSlice_255 (lv_at hl 10 rfl) ?_
                                refine lv_i2l hx hb dModel_lookSlice_257 rfl ?_
                                refine lv_topl (fun v162 ev162 => ?_)
                                refine lv_lload hx hb dModel_lookSlice_258 (lv_at hl 8 rfl) ?_
                                refine W.lcmp hx hb dModel_lookSlice_260 ?_
                                refine lv_topi (fun v163 ev163 => ?_)
                                have J302 : ∀ (ls : Array Slot), (Oq OUT (Q_lookSlice_302 κ τ σ F nu x1 x2 x3 t0_93 t0_133 t0_208 t0_249 F_255 i11_255   )) → lv_has ls 12 [(0, .ref a), (1, .int x1), (2, .int x2), (3, .int x3), (4, .int r2), (5, .int v4), (6, .int v5), (7, .int t0_93), (8, .long t0_133), (10, .int v161), (11, .int i11_255)] → W p l e (bs_rm 2 0 0 48) s m args below meth c H locs 0 0 Q (F0 m 302 ls []) := by
                                  intro ls hO hl
                                  refine lv_aload_n hx hb dModel_lookSlice_302 rfl (lv_at hl 0 rfl) ?_
                                  refine md_gA S hC hM 12 (by decide) rfl qw_19df235c4a dModel_lookSlice_303 ?_
                                  refine lv_iload_n hx hb dModel_lookSlice_306 rfl (lv_at hl 1 rfl) ?_
                                  refine lv_iload hx hb dModel_lookSlice_307 (lv_at hl 5 rfl) ?_
                                  refine md_istD S hC hM hS 12 8 10000 rfl rfl (by decide) rfl rfl (vin (by assumption) (by omega)) dModel_lookSlice_309 (fun H locs hM hS => ?_)
                                  obtain ⟨F173, eF173⟩ : ∃ z : Nat → Nat → Int32, z = Au F_255 12 x1.toNatClampNeg v4 := ⟨_, rfl⟩
                                  rw [← eF173] at hM
                                  have hZ : SZ F173 := hZ.au eF173 (by decide)
                                  have hL : SL x1.toNatClampNeg F nu F173 nur139 := hL.au eF173 (by decide)
                                  have hK : GK x1.toNatClampNeg F173 nur139 := hK.au eF173 (by decide)
                                  refine lv_iconst (v := 0) hx hb dModel_lookSlice_310 (by decide) ?_
                                  exact hE _ _ _ _ _ hS ⟨σr2, F173, nur139, (by subst eF173 ev163 ev162 ev161 enur139 eFr139 ev115 ev114 er112 ev111 er109 ev108 ev106 ev104 ev14 ev12 ev10 ev8 ev6 ev5 ev4 eσr2 er2 ev1; exact hO.tr rfl), hM, hZ, hF, hL, (fun _ => hK)⟩ dModel_lookSlice_311
                                refine lv_if_ge (tgt := 302) hx hb dModel_lookSlice_261 (by decide) (fun c174 => ?_) (fun c174 => ?_)
                                · exact J302 ls (by subst ev163 ev162 ev161 enur139 eFr139 ev115 ev114 er112 ev111 er109 ev108 ev106 ev104 ev14 ev12 ev10 ev8 ev6 ev5 ev4 eσr2 er2 ev1; exact hO.tr (if_pos c174)) (lv_sub hl [0, 1, 2, 3, 4, 5, 6, 7, 8, 9, 10] rfl)
                                · obtain ⟨hj1, hj2, hj3⟩ := sl_j (by assumption) ev162 ev163 (by assumption) hsl.1
                                  refine lv_aload_n hx hb dModel_lookSlice_264 rfl (lv_at hl 0 rfl) ?_
                                  refine md_gA S hC hM 22 (by decide) rfl qw_50c5849686 dModel_lookSlice_265 ?_
                                  refine lv_iload hx hb dModel_lookSlice_268 (lv_at hl 5 rfl) ?_
                                  refine md_ild S hC hM 22 17 2000 (τ 22) rfl rfl (by decide) rfl rfl (vin (by assumption) (by omega)) dModel_lookSlice_270 ?_
                                  refine lv_topi (fun v175 ev175 => ?_)
                                  refine lv_if_ne (tgt := 302) hx hb dModel_lookSlice_271 (by decide) (fun c176 => ?_) (fun c176 => ?_)
                                  · exact J302 ls (by subst ev175 ev163 ev162 ev161 enur139 eFr139 ev115 ev114 er112 ev111 er109 ev108 ev106 ev104 ev14 ev12 ev10 ev8 ev6 ev5 ev4 eσr2 er2 ev1; exact hO.tr ((if_neg c174).trans (if_neg c176))) (lv_sub hl [0, 1, 2, 3, 4, 5, 6, 7, 8, 9, 10] rfl)
                                  · refine lv_aload_n hx hb dModel_lookSlice_274 rfl (lv_at hl 0 rfl) ?_
                                    refine lv_iload_n hx hb dModel_lookSlice_275 rfl (lv_at hl 1 rfl) ?_
                                    refine lv_iload hx hb dModel_lookSlice_276 (lv_at hl 10 rfl) ?_
                                    refine lv_aload_n hx hb dModel_lookSlice_278 rfl (lv_at hl 0 rfl) ?_
                                    refine lv_sipush (v := 8000) hx hb dModel_lookSlice_279 (by decide) ?_
                                    refine lv_iload hx hb dModel_lookSlice_282 (lv_at hl 5 rfl) ?_
                                    refine lv_iadd hx hb dModel_lookSlice_284 ?_
                                    refine lv_topi (fun v177 ev177 => ?_)
                                    refine lv_iload hx hb dModel_lookSlice_285 (lv_at hl 9 rfl) ?_
                                    refine lv_iload hx hb dModel_lookSlice_287 (lv_at hl 10 rfl) ?_
                                    refine lv_iadd hx hb dModel_lookSlice_289 ?_
                                    refine lv_topi (fun v178 ev178 => ?_)
                                    have h8 := (vin8 hio ev177).1
                                    have hle : vp_in v178 64 := sl_e ev161 ht0_249.1 ht0_249.2 hj1 hj3 ev178
                                    refine pu_Vi (rest := [.int i11_255, .int x1, .ref a]) S hC (n_element l γ a B Z κ b mn ν τ σr2 F_255 nur139 hT v177 v178 (el_in (by assumption) (by assumption) (by omega))) meModel_element qw_ceb3d87d61 ⟨Nat.le_of_ble_eq_true rfl, Nat.le_of_ble_eq_true rfl⟩ (md_rv hC hM) hM rfl hl.1 rfl (Nat.le_of_ble_eq_true rfl) dModel_lookSlice_290 ⟨Nat.zero_le _, Nat.zero_le _⟩ (fun r179 hr179 => ?_)
                                    obtain ⟨hr179, er179⟩ := hr179
                                    refine mu_Vv (rest := []) S hC (fun q h => hA q (Nat.le_trans hS.1 h)) (fun q h => h) hS (n_setElement l γ a B Z κ b mn ν τ σr2 F_255 nur139 hT x1 i11_255 r179 (el_in (by assumption) (by assumption) (by omega))) meModel_setElement qw_143403ccb9 ⟨Nat.le_of_ble_eq_true rfl, Nat.le_of_ble_eq_true rfl⟩ (md_rv hC hM) hM rfl hl.1 rfl (Nat.le_of_ble_eq_true rfl) dModel_lookSlice_293 ⟨Nat.le_refl _, Nat.le_refl _⟩ (fun H locs hPO hS _ _ => ?_)
                                    obtain ⟨Fr180, eOr180, hM, hqr180⟩ := hPO
                                    have eFr180 : Fr180 = (Q_setElement κ τ σr2 F_255 nur139 x1 i11_255 r179).2.1 := by rw [eOr180.eq]
                                    clear eOr180
                                    have hZ : SZ Fr180 := hZ.e14 hqr180
                                    have hL : SL x1.toNatClampNeg F nu Fr180 nur139 := hL.trans (SL.e14 hqr180)
                                    have hK : GK x1.toNatClampNeg Fr180 nur139 := hK.e14 hqr180
                                    obtain ⟨v181, ev181⟩ : ∃ y : Int32, y = i11_255 + 1 := ⟨_, rfl⟩
                                    refine lv_iinc (v := v181) (lv' := [(11, .int v181), (0, .ref a), (1, .int x1), (2, .int x2), (3, .int x3), (4, .int r2), (5, .int v4), (6, .int v5), (7, .int t0_93), (8, .long t0_133), (10, .int v161)]) hx hb dModel_lookSlice_296 hl (k := 10) rfl (by rw [ev181]; rfl) (by decide) rfl (fun ls hl => ?_)
                                    refine lv_goto (tgt := 255) hx hb dModel_lookSlice_299 (by decide) ?_
                                    exact ih255 _ (by have q1 : i11_255.toInt < 2147483647 := (by first | assumption | exact (mu_up (k := i11_255) (by assumption)).2); have q2 := mu_lt q1; rw [← ev181] at q2; omega) ls _ _ Fr180 v181 hM hS hK hL hZ (by first | decide | exact nn_inc2 (by assumption) (by assumption) hj2) (by have hN : N255 = (2147483647 - v181.toInt).toNat + 1 := (by have q1 : i11_255.toInt < 2147483647 := (by first | assumption | exact (mu_up (k := i11_255) (by assumption)).2); have q2 := mu_lt q1; rw [← ev181] at q2; omega); rw [← hN]; clear hN; subst ev181 eFr180 er179 ev178 ev177 ev175 ev163 ev162 ev161 enur139 eFr139 ev115 ev114 er112 ev111 er109 ev108 ev106 ev104 ev14 ev12 ev10 ev8 ev6 ev5 ev4 eσr2 er2 ev1; exact hO.tr ((if_neg c174).trans (if_pos c176))) rfl (lv_sub hl [1, 2, 3, 4, 5, 6, 7, 8, 9, 10, 0] rfl)
                            exact J255 _ ls _ _ Fr139 0 hM hS hK hL hZ (by first | decide | exact nn_inc2 (by assumption) (by assumption) hj2) (by subst ev161 enur139 eFr139 ev115 ev114 er112 ev111 er109 ev108 ev106 ev104 ev14 ev12 ev10 ev8 ev6 ev5 ev4 eσr2 er2 ev1; exact hO.tr rfl) rfl (lv_sub hl [2, 3, 4, 5, 6, 7, 8, 9, 10, 1, 0] rfl)
                          refine lv_if_eq (tgt := 234) hx hb dModel_lookSlice_213 (by decide) (fun c182 => ?_) (fun c182 => ?_)
                          · refine lv_aload_n hx hb dModel_lookSlice_234 rfl (lv_at hl 0 rfl) ?_
                            refine md_gA S hC hM 18 (by decide) rfl qw_82ee92f611 dModel_lookSlice_235 ?_
                            refine lv_iload hx hb dModel_lookSlice_238 (lv_at hl 6 rfl) ?_
                            refine md_ild S hC hM 18 14 1000 (τ 18) rfl rfl (by decide) rfl rfl (vin (by assumption) (by omega)) dModel_lookSlice_240 ?_
                            refine lv_topi (fun v183 ev183 => ?_)
                            refine lv_i2l hx hb dModel_lookSlice_241 rfl ?_
                            refine lv_topl (fun v184 ev184 => ?_)
                            refine lv_aload_n hx hb dModel_lookSlice_242 rfl (lv_at hl 0 rfl) ?_
                            refine md_gA S hC hM 13 (by decide) rfl qw_7b809afc8c dModel_lookSlice_243 ?_
                            refine lv_iload_n hx hb dModel_lookSlice_246 rfl (lv_at hl 3 rfl) ?_
                            refine md_lld S hC hM (vin (by assumption) (by omega)) dModel_lookSlice_247 ?_
                            refine lv_topl (fun v185 ev185 => ?_)
                            have ev185 : v185 = nur139 x3.toNatClampNeg := ev185
                            refine lv_lsub hx hb dModel_lookSlice_248 ?_
                            refine lv_topl (fun v186 ev186 => ?_)
                            exact J249 ls v186 (by first | exact sl_d1 hhi hsl.2 (by assumption) (ev145.trans hnn) (hi_int ev146 (by rw [hit2]; exact h18) ev147 hhi) ev186 h1n | exact sl_d2 hhi hsl.2 (by assumption) (ev185.trans hnn) (hi_int ev183 (by rw [hit2]; exact h18) ev184 hhi) ev186 h1n) (by subst ev186 ev185 ev184 ev183 enur139 eFr139 ev115 ev114 er112 ev111 er109 ev108 ev106 ev104 ev14 ev12 ev10 ev8 ev6 ev5 ev4 eσr2 er2 ev1; exact hO.tr (if_pos c182)) (lv_sub hl [0, 1, 2, 3, 4, 5, 6, 7, 8] rfl)
                          · refine lv_aload_n hx hb dModel_lookSlice_216 rfl (lv_at hl 0 rfl) ?_
                            refine md_gA S hC hM 13 (by decide) rfl qw_7b809afc8c dModel_lookSlice_217 ?_
                            refine lv_iload_n hx hb dModel_lookSlice_220 rfl (lv_at hl 3 rfl) ?_
                            refine md_lld S hC hM (vin (by assumption) (by omega)) dModel_lookSlice_221 ?_
                            refine lv_topl (fun v187 ev187 => ?_)
                            have ev187 : v187 = nur139 x3.toNatClampNeg := ev187
                            refine lv_aload_n hx hb dModel_lookSlice_222 rfl (lv_at hl 0 rfl) ?_
                            refine md_gA S hC hM 18 (by decide) rfl qw_82ee92f611 dModel_lookSlice_223 ?_
                            refine lv_iload hx hb dModel_lookSlice_226 (lv_at hl 6 rfl) ?_
                            refine md_ild S hC hM 18 14 1000 (τ 18) rfl rfl (by decide) rfl rfl (vin (by assumption) (by omega)) dModel_lookSlice_228 ?_
                            refine lv_topi (fun v188 ev188 => ?_)
                            refine lv_i2l hx hb dModel_lookSlice_229 rfl ?_
                            refine lv_topl (fun v189 ev189 => ?_)
                            refine lv_lsub hx hb dModel_lookSlice_230 ?_
                            refine lv_topl (fun v190 ev190 => ?_)
                            refine lv_goto (tgt := 249) hx hb dModel_lookSlice_231 (by decide) ?_
                            exact J249 ls v190 (by first | exact sl_d1 hhi hsl.2 (by assumption) (ev187.trans hnn) (hi_int ev188 (by rw [hit2]; exact h18) ev189 hhi) ev190 h1n | exact sl_d2 hhi hsl.2 (by assumption) (ev185.trans hnn) (hi_int ev183 (by rw [hit2]; exact h18) ev184 hhi) ev190 h1n) (by subst ev190 ev189 ev188 ev187 enur139 eFr139 ev115 ev114 er112 ev111 er109 ev108 ev106 ev104 ev14 ev12 ev10 ev8 ev6 ev5 ev4 eσr2 er2 ev1; exact hO.tr (if_neg c182)) (lv_sub hl [0, 1, 2, 3, 4, 5, 6, 7, 8] rfl)
                        refine lv_if_ne (tgt := 207) hx hb dModel_lookSlice_200 (by decide) (fun c191 => ?_) (fun c191 => ?_)
                        · refine lv_iconst (v := 0) hx hb dModel_lookSlice_207 (by decide) ?_
                          exact J208 ls 0 (by subst ev115 ev114 er112 ev111 er109 ev108 ev106 ev104 ev14 ev12 ev10 ev8 ev6 ev5 ev4 eσr2 er2 ev1; exact hO.tr ((if_pos c105).trans ((if_neg c107).trans ((if_neg c110).trans ((if_neg c113).trans (if_neg c191)))))) (lv_sub hl [1, 2, 3, 4, 5, 6, 7, 8, 0] rfl)
                        · refine lv_iconst (v := 1) hx hb dModel_lookSlice_203 (by decide) ?_
                          refine lv_goto (tgt := 208) hx hb dModel_lookSlice_204 (by decide) ?_
                          exact J208 ls 1 (by subst ev115 ev114 er112 ev111 er109 ev108 ev106 ev104 ev14 ev12 ev10 ev8 ev6 ev5 ev4 eσr2 er2 ev1; exact hO.tr ((if_pos c105).trans ((if_neg c107).trans ((if_neg c110).trans ((if_neg c113).trans (if_pos c191)))))) (lv_sub hl [1, 2, 3, 4, 5, 6, 7, 8, 0] rfl)
                      · refine lv_bipush (v := 6) hx hb dModel_lookSlice_184 (by decide) ?_
                        exact hE _ _ _ _ _ hS ⟨σr2, F, nu, (by subst er112 ev111 er109 ev108 ev106 ev104 ev14 ev12 ev10 ev8 ev6 ev5 ev4 eσr2 er2 ev1; exact hO.tr ((if_pos c105).trans ((if_neg c107).trans ((if_neg c110).trans (if_pos c113))))), hM, hZ, hF, hL, (fun h9 => absurd (show (0 : Int32) < 6 by decide) h9)⟩ dModel_lookSlice_186
              refine lv_if_eq (tgt := 118) hx hb dModel_lookSlice_97 (by decide) (fun c192 => ?_) (fun c192 => ?_)
              · refine lv_aload_n hx hb dModel_lookSlice_118 rfl (lv_at hl 1 rfl) ?_
                refine md_gA S hC hM 13 (by decide) rfl qw_7b809afc8c dModel_lookSlice_119 ?_
                refine lv_iload_n hx hb dModel_lookSlice_122 rfl (lv_at hl 4 rfl) ?_
                refine md_lld S hC hM (vin (by assumption) (by omega)) dModel_lookSlice_123 ?_
                refine lv_topl (fun v193 ev193 => ?_)
                have ev193 : v193 = nu x3.toNatClampNeg := ev193
                refine lv_aload_n hx hb dModel_lookSlice_124 rfl (lv_at hl 1 rfl) ?_
                refine md_gA S hC hM 13 (by decide) rfl qw_7b809afc8c dModel_lookSlice_125 ?_
                refine lv_iload_n hx hb dModel_lookSlice_128 rfl (lv_at hl 3 rfl) ?_
                refine md_lld S hC hM (vin (by assumption) (by omega)) dModel_lookSlice_129 ?_
                refine lv_topl (fun v194 ev194 => ?_)
                have ev194 : v194 = nu x2.toNatClampNeg := ev194
                refine lv_lsub hx hb dModel_lookSlice_130 ?_
                refine lv_topl (fun v195 ev195 => ?_)
                refine lv_lconst (v := 1) hx hb dModel_lookSlice_131 (by decide) ?_
                refine lv_ladd hx hb dModel_lookSlice_132 ?_
                refine lv_topl (fun v196 ev196 => ?_)
                exact J133 ls v196 (by first | exact Or.inl ⟨by assumption, by rw [ev196, ev195, ev194, ev193]⟩ | exact Or.inr ⟨by assumption, by rw [ev196, ev195, ev194, ev193]⟩) (by subst ev196 ev195 ev194 ev193 ev14 ev12 ev10 ev8 ev6 ev5 ev4 eσr2 er2 ev1; exact hO.tr (if_pos c192)) (lv_sub hl [1, 2, 3, 4, 5, 6, 7, 0] rfl)
              · refine lv_aload_n hx hb dModel_lookSlice_100 rfl (lv_at hl 1 rfl) ?_
                refine md_gA S hC hM 13 (by decide) rfl qw_7b809afc8c dModel_lookSlice_101 ?_
                refine lv_iload_n hx hb dModel_lookSlice_104 rfl (lv_at hl 3 rfl) ?_
                refine md_lld S hC hM (vin (by assumption) (by omega)) dModel_lookSlice_105 ?_
                refine lv_topl (fun v197 ev197 => ?_)
                have ev197 : v197 = nu x2.toNatClampNeg := ev197
                refine lv_aload_n hx hb dModel_lookSlice_106 rfl (lv_at hl 1 rfl) ?_
                refine md_gA S hC hM 13 (by decide) rfl qw_7b809afc8c dModel_lookSlice_107 ?_
                refine lv_iload_n hx hb dModel_lookSlice_110 rfl (lv_at hl 4 rfl) ?_
                refine md_lld S hC hM (vin (by assumption) (by omega)) dModel_lookSlice_111 ?_
                refine lv_topl (fun v198 ev198 => ?_)
                have ev198 : v198 = nu x3.toNatClampNeg := ev198
                refine lv_lsub hx hb dModel_lookSlice_112 ?_
                refine lv_topl (fun v199 ev199 => ?_)
                refine lv_lconst (v := 1) hx hb dModel_lookSlice_113 (by decide) ?_
                refine lv_ladd hx hb dModel_lookSlice_114 ?_
                refine lv_topl (fun v200 ev200 => ?_)
                refine lv_goto (tgt := 133) hx hb dModel_lookSlice_115 (by decide) ?_
                exact J133 ls v200 (by first | exact Or.inl ⟨by assumption, by rw [ev200, ev199, ev197, ev198]⟩ | exact Or.inr ⟨by assumption, by rw [ev200, ev199, ev197, ev198]⟩) (by subst ev200 ev199 ev198 ev197 ev14 ev12 ev10 ev8 ev6 ev5 ev4 eσr2 er2 ev1; exact hO.tr (if_neg c192)) (lv_sub hl [1, 2, 3, 4, 5, 6, 7, 0] rfl)
            refine lv_icmp_ne (tgt := 92) hx hb dModel_lookSlice_85 (by decide) (fun c201 => ?_) (fun c201 => ?_)
            · refine lv_iconst (v := 0) hx hb dModel_lookSlice_92 (by decide) ?_
              exact J93 ls 0 (by subst ev14 ev12 ev10 ev8 ev6 ev5 ev4 eσr2 er2 ev1; exact hO.tr ((if_pos c3).trans ((if_pos c7).trans ((if_pos c9).trans ((if_neg c11).trans ((if_neg c13).trans (if_neg c201))))))) (lv_sub hl [3, 4, 5, 6, 2, 1, 0] rfl)
            · refine lv_iconst (v := 1) hx hb dModel_lookSlice_88 (by decide) ?_
              refine lv_goto (tgt := 93) hx hb dModel_lookSlice_89 (by decide) ?_
              exact J93 ls 1 (by subst ev14 ev12 ev10 ev8 ev6 ev5 ev4 eσr2 er2 ev1; exact hO.tr ((if_pos c3).trans ((if_pos c7).trans ((if_pos c9).trans ((if_neg c11).trans ((if_neg c13).trans (if_pos c201))))))) (lv_sub hl [3, 4, 5, 6, 2, 1, 0] rfl)
          · refine lv_iconst (v := 5) hx hb dModel_lookSlice_75 (by decide) ?_
            exact hE _ _ _ _ _ hS ⟨σr2, F, nu, (by subst ev12 ev10 ev8 ev6 ev5 ev4 eσr2 er2 ev1; exact hO.tr ((if_pos c3).trans ((if_pos c7).trans ((if_pos c9).trans ((if_neg c11).trans (if_pos c13)))))), hM, hZ, hF, hL, (fun h9 => absurd (show (0 : Int32) < 5 by decide) h9)⟩ dModel_lookSlice_76
      · refine lv_iconst (v := 3) hx hb dModel_lookSlice_55 (by decide) ?_
        exact hE _ _ _ _ _ hS ⟨σr2, F, nu, (by subst ev8 ev6 ev5 ev4 eσr2 er2 ev1; exact hO.tr ((if_pos c3).trans ((if_pos c7).trans (if_neg c9)))), hM, hZ, hF, hL, (fun h9 => absurd (show (0 : Int32) < 3 by decide) h9)⟩ dModel_lookSlice_56
  · refine lv_iload hx hb dModel_lookSlice_17 (lv_at hl 0 rfl) ?_
    exact hE _ _ _ _ _ hS ⟨σr2, F, nu, (by subst eσr2 er2 ev1; exact hO.tr (if_neg c3)), hM, hZ, hF, hL, (fun h9 => absurd (Int32.not_le.mp (by assumption)) h9)⟩ dModel_lookSlice_19
def Q_lookAttribute_279 (κ : Nat → Nat) (τ : gf) (σ : Nat → Int32) (F : gf) (nu : gg) (x1 : Int32) (F_279 : gf) (nu_279 : gg) : Int32 × (Nat → Int32) × gf × gg := (0, ((Q_find κ τ σ F nu (τ 3 x1.toNatClampNeg)).1), (Au F_279 12 x1.toNatClampNeg (((Q_find κ τ σ F nu (τ 3 x1.toNatClampNeg)).1) 33)), nu_279)
def Q_lookAttribute_278 (κ : Nat → Nat) (τ : gf) (σ : Nat → Int32) (F : gf) (nu : gg) (x1 : Int32) (t0_278 : Int64) : Int32 × (Nat → Int32) × gf × gg := (Q_lookAttribute_279 κ τ σ F nu x1  ((Q_fact κ τ ((Q_find κ τ σ F nu (τ 3 x1.toNatClampNeg)).1) F nu x1 2 0 1).2.1) (vp_updL ((Q_fact κ τ ((Q_find κ τ σ F nu (τ 3 x1.toNatClampNeg)).1) F nu x1 2 0 1).2.2) x1.toNatClampNeg t0_278))
def Q_lookAttribute (κ : Nat → Nat) (τ : gf) (σ : Nat → Int32) (F : gf) (nu : gg) (x1 : Int32) : Int32 × (Nat → Int32) × gf × gg := (if (τ 4 x1.toNatClampNeg) = 1 then (if (τ 2 (x1 - 1).toNatClampNeg) = 1 then (if 0 < (τ 4 (x1 - 1).toNatClampNeg) then (11, σ, F, nu) else (if (τ 3 (x1 - 1).toNatClampNeg) < 15 then (11, σ, F, nu) else (if (τ 3 (x1 - 1).toNatClampNeg) ≤ 22 then (if (((Q_find κ τ σ F nu (τ 3 x1.toNatClampNeg)).1) 32) = 5 then (1, ((Q_find κ τ σ F nu (τ 3 x1.toNatClampNeg)).1), F, nu) else (if (((Q_find κ τ σ F nu (τ 3 x1.toNatClampNeg)).1) 32) = 1 then (if 18 ≤ (τ 3 (x1 - 1).toNatClampNeg) then (if (τ 16 (τ 23 (((Q_find κ τ σ F nu (τ 3 x1.toNatClampNeg)).1) 33).toNatClampNeg).toNatClampNeg) = 3 then (if (τ 3 (x1 - 1).toNatClampNeg) = 18 then (Q_lookAttribute_278 κ τ σ F nu x1  ((τ 19 (τ 23 (((Q_find κ τ σ F nu (τ 3 x1.toNatClampNeg)).1) 33).toNatClampNeg).toNatClampNeg).toInt64)) else (if (τ 3 (x1 - 1).toNatClampNeg) = 19 then (Q_lookAttribute_278 κ τ σ F nu x1  ((τ 17 (τ 23 (((Q_find κ τ σ F nu (τ 3 x1.toNatClampNeg)).1) 33).toNatClampNeg).toNatClampNeg).toInt64)) else (if (τ 3 (x1 - 1).toNatClampNeg) = 20 then (Q_lookAttribute_278 κ τ σ F nu x1  ((τ 18 (τ 23 (((Q_find κ τ σ F nu (τ 3 x1.toNatClampNeg)).1) 33).toNatClampNeg).toNatClampNeg).toInt64)) else (if (τ 3 (x1 - 1).toNatClampNeg) = 21 then (Q_lookAttribute_278 κ τ σ F nu x1  ((if (τ 17 (τ 23 (((Q_find κ τ σ F nu (τ 3 x1.toNatClampNeg)).1) 33).toNatClampNeg).toNatClampNeg) < (τ 18 (τ 23 (((Q_find κ τ σ F nu (τ 3 x1.toNatClampNeg)).1) 33).toNatClampNeg).toNatClampNeg) then (τ 18 (τ 23 (((Q_find κ τ σ F nu (τ 3 x1.toNatClampNeg)).1) 33).toNatClampNeg).toNatClampNeg) else (τ 17 (τ 23 (((Q_find κ τ σ F nu (τ 3 x1.toNatClampNeg)).1) 33).toNatClampNeg).toNatClampNeg)).toInt64)) else (Q_lookAttribute_278 κ τ σ F nu x1  ((if (τ 18 (τ 23 (((Q_find κ τ σ F nu (τ 3 x1.toNatClampNeg)).1) 33).toNatClampNeg).toNatClampNeg) < (τ 17 (τ 23 (((Q_find κ τ σ F nu (τ 3 x1.toNatClampNeg)).1) 33).toNatClampNeg).toNatClampNeg) then (τ 18 (τ 23 (((Q_find κ τ σ F nu (τ 3 x1.toNatClampNeg)).1) 33).toNatClampNeg).toNatClampNeg) else (τ 17 (τ 23 (((Q_find κ τ σ F nu (τ 3 x1.toNatClampNeg)).1) 33).toNatClampNeg).toNatClampNeg)).toInt64)))))) else (3, ((Q_find κ τ σ F nu (τ 3 x1.toNatClampNeg)).1), F, nu)) else (if (τ 22 (((Q_find κ τ σ F nu (τ 3 x1.toNatClampNeg)).1) 33).toNatClampNeg) = 1 then (if (τ 3 (x1 - 1).toNatClampNeg) = 17 then (Q_lookAttribute_279 κ τ σ F nu x1  ((Q_factOfType κ τ ((Q_find κ τ σ F nu (τ 3 x1.toNatClampNeg)).1) F nu x1 (τ 23 (((Q_find κ τ σ F nu (τ 3 x1.toNatClampNeg)).1) 33).toNatClampNeg)).2.1) ((Q_factOfType κ τ ((Q_find κ τ σ F nu (τ 3 x1.toNatClampNeg)).1) F nu x1 (τ 23 (((Q_find κ τ σ F nu (τ 3 x1.toNatClampNeg)).1) 33).toNatClampNeg)).2.2)) else (Q_lookAttribute_279 κ τ σ F nu x1  ((Q_fact κ τ ((Q_find κ τ σ F nu (τ 3 x1.toNatClampNeg)).1) F nu x1 1 0 0).2.1) ((Q_fact κ τ ((Q_find κ τ σ F nu (τ 3 x1.toNatClampNeg)).1) F nu x1 1 0 0).2.2))) else (2, ((Q_find κ τ σ F nu (τ 3 x1.toNatClampNeg)).1), F, nu))) else (2, ((Q_find κ τ σ F nu (τ 3 x1.toNatClampNeg)).1), F, nu))) else (11, σ, F, nu)))) else (11, σ, F, nu)) else (11, σ, F, nu))
set_option maxHeartbeats 4000000 in
set_option maxRecDepth 100000 in
theorem n_lookAttribute (l : Launch) (γ : gE) (a : Nat) (B : Nat → Nat) (Z : Nat → Prop) (κ b mn : Nat → Nat) (ν : Nat → Int32) (τ : Nat → Nat → Int32) (σ : Nat → Int32) (F : Nat → Nat → Int32) (nu : Nat → Int64) (hT : ST κ b mn ν τ) (x1 : Int32) (hx1 : vp_in x1 (κ 0)) (hZ : SZ F) (hF : FD σ) : MU l yModel_lookAttribute bModel_lookAttribute 5 (some .int) 3 70 0 0 [.ref a, .int x1] γ Z (MD γ a B Z ν τ σ F nu) (mQi (fun r H => ∃ (σ' : Nat → Int32) (F' : Nat → Nat → Int32) (nu' : Nat → Int64), Oq (Q_lookAttribute κ τ σ F nu x1) (r, σ', F', nu') ∧ MD γ a B Z ν τ σ' F' nu' H ∧ SZ F' ∧ FD σ' ∧ SL x1.toNatClampNeg F nu F' nu' ∧ (¬ 0 < r → GK x1.toNatClampNeg F' nu')) Z) := by
  refine mu_openI (by decide) (Nat.le_of_ble_eq_true rfl) ?_
  intro p e s m args below meth c ls Q S hnm hC hA hM hE hl
  have hS : va_S Z s.heap s.heap [] := va_S.rf
  obtain ⟨hx, hb, hml, hown, hW⟩ := id S
  obtain ⟨⟨hs0, hs1, hs2, hs3, hs4, hs5, hs6⟩, ⟨hv6, hv8, hv21, hv24, hv30, hv31⟩, hTR, hTY, hOB, hNM⟩ := id hT
  have hL : SL x1.toNatClampNeg F nu F nu := SL.rf
  have hl : lv_has ls 5 [(0, .ref a), (1, .int x1)] := hl
  obtain ⟨OUT, hQ, hO⟩ : ∃ z, (z = Q_lookAttribute κ τ σ F nu x1) ∧ Oq z (Q_lookAttribute κ τ σ F nu x1) := ⟨_, rfl, rfl⟩
  rw [← hQ] at hE
  clear hQ
  refine lv_aload_n hx hb dModel_lookAttribute_0 rfl (lv_at hl 0 rfl) ?_
  refine md_gA S hC hM 4 (by decide) rfl qw_a8caa30de3 dModel_lookAttribute_1 ?_
  refine lv_iload_n hx hb dModel_lookAttribute_4 rfl (lv_at hl 1 rfl) ?_
  refine md_ild S hC hM 4 2 4000 (τ 4) rfl rfl (by decide) rfl rfl (vin (by assumption) (by omega)) dModel_lookAttribute_5 ?_
  refine lv_topi (fun v1 ev1 => ?_)
  refine lv_iconst (v := 1) hx hb dModel_lookAttribute_6 (by decide) ?_
  refine lv_icmp_ne (tgt := 59) hx hb dModel_lookAttribute_7 (by decide) (fun c2 => ?_) (fun c2 => ?_)
  · refine lv_bipush (v := 11) hx hb dModel_lookAttribute_59 (by decide) ?_
    exact hE _ _ _ _ _ hS ⟨σ, F, nu, (by subst ev1; exact hO.tr (if_neg c2)), hM, hZ, hF, hL, (fun h9 => absurd (show (0 : Int32) < 11 by decide) h9)⟩ dModel_lookAttribute_61
  · have hm1 := mn_eq1 hTR hx1 ev1 (by assumption)
    refine lv_aload_n hx hb dModel_lookAttribute_10 rfl (lv_at hl 0 rfl) ?_
    refine md_gA S hC hM 2 (by decide) rfl qw_3471296067 dModel_lookAttribute_11 ?_
    refine lv_iload_n hx hb dModel_lookAttribute_14 rfl (lv_at hl 1 rfl) ?_
    refine lv_iconst (v := 1) hx hb dModel_lookAttribute_15 (by decide) ?_
    refine lv_isub hx hb dModel_lookAttribute_16 ?_
    refine lv_topi (fun v3 ev3 => ?_)
    refine md_ild S hC hM 2 0 4000 (τ 2) rfl rfl (by decide) rfl rfl (vin (pr_in hTR hs0 hx1 (by omega) ev3) (by omega)) dModel_lookAttribute_17 ?_
    refine lv_topi (fun v4 ev4 => ?_)
    refine lv_iconst (v := 1) hx hb dModel_lookAttribute_18 (by decide) ?_
    refine lv_icmp_ne (tgt := 59) hx hb dModel_lookAttribute_19 (by decide) (fun c5 => ?_) (fun c5 => ?_)
    · refine lv_bipush (v := 11) hx hb dModel_lookAttribute_59 (by decide) ?_
      exact hE _ _ _ _ _ hS ⟨σ, F, nu, (by subst ev4 ev3 ev1; exact hO.tr ((if_pos c2).trans (if_neg c5))), hM, hZ, hF, hL, (fun h9 => absurd (show (0 : Int32) < 11 by decide) h9)⟩ dModel_lookAttribute_61
    · refine lv_aload_n hx hb dModel_lookAttribute_22 rfl (lv_at hl 0 rfl) ?_
      refine md_gA S hC hM 4 (by decide) rfl qw_a8caa30de3 dModel_lookAttribute_23 ?_
      refine lv_iload_n hx hb dModel_lookAttribute_26 rfl (lv_at hl 1 rfl) ?_
      refine lv_iconst (v := 1) hx hb dModel_lookAttribute_27 (by decide) ?_
      refine lv_isub hx hb dModel_lookAttribute_28 ?_
      refine lv_topi (fun v6 ev6 => ?_)
      refine md_ild S hC hM 4 2 4000 (τ 4) rfl rfl (by decide) rfl rfl (vin (pr_in hTR hs0 hx1 (by omega) ev6) (by omega)) dModel_lookAttribute_29 ?_
      refine lv_topi (fun v7 ev7 => ?_)
      refine lv_if_gt (tgt := 59) hx hb dModel_lookAttribute_30 (by decide) (fun c8 => ?_) (fun c8 => ?_)
      · refine lv_bipush (v := 11) hx hb dModel_lookAttribute_59 (by decide) ?_
        exact hE _ _ _ _ _ hS ⟨σ, F, nu, (by subst ev7 ev6 ev4 ev3 ev1; exact hO.tr ((if_pos c2).trans ((if_pos c5).trans (if_pos c8)))), hM, hZ, hF, hL, (fun h9 => absurd (show (0 : Int32) < 11 by decide) h9)⟩ dModel_lookAttribute_61
      · refine lv_aload_n hx hb dModel_lookAttribute_33 rfl (lv_at hl 0 rfl) ?_
        refine md_gA S hC hM 3 (by decide) rfl qw_9fb851a5fa dModel_lookAttribute_34 ?_
        refine lv_iload_n hx hb dModel_lookAttribute_37 rfl (lv_at hl 1 rfl) ?_
        refine lv_iconst (v := 1) hx hb dModel_lookAttribute_38 (by decide) ?_
        refine lv_isub hx hb dModel_lookAttribute_39 ?_
        refine lv_topi (fun v9 ev9 => ?_)
        refine md_ild S hC hM 3 1 4000 (τ 3) rfl rfl (by decide) rfl rfl (vin (pr_in hTR hs0 hx1 (by omega) ev9) (by omega)) dModel_lookAttribute_40 ?_
        refine lv_topi (fun v10 ev10 => ?_)
        refine lv_bipush (v := 15) hx hb dModel_lookAttribute_41 (by decide) ?_
        refine lv_icmp_lt (tgt := 59) hx hb dModel_lookAttribute_43 (by decide) (fun c11 => ?_) (fun c11 => ?_)
        · refine lv_bipush (v := 11) hx hb dModel_lookAttribute_59 (by decide) ?_
          exact hE _ _ _ _ _ hS ⟨σ, F, nu, (by subst ev10 ev9 ev7 ev6 ev4 ev3 ev1; exact hO.tr ((if_pos c2).trans ((if_pos c5).trans ((if_neg c8).trans (if_pos c11))))), hM, hZ, hF, hL, (fun h9 => absurd (show (0 : Int32) < 11 by decide) h9)⟩ dModel_lookAttribute_61
        · refine lv_aload_n hx hb dModel_lookAttribute_46 rfl (lv_at hl 0 rfl) ?_
          refine md_gA S hC hM 3 (by decide) rfl qw_9fb851a5fa dModel_lookAttribute_47 ?_
          refine lv_iload_n hx hb dModel_lookAttribute_50 rfl (lv_at hl 1 rfl) ?_
          refine lv_iconst (v := 1) hx hb dModel_lookAttribute_51 (by decide) ?_
          refine lv_isub hx hb dModel_lookAttribute_52 ?_
          refine lv_topi (fun v12 ev12 => ?_)
          refine md_ild S hC hM 3 1 4000 (τ 3) rfl rfl (by decide) rfl rfl (vin (pr_in hTR hs0 hx1 (by omega) ev12) (by omega)) dModel_lookAttribute_53 ?_
          refine lv_topi (fun v13 ev13 => ?_)
          refine lv_bipush (v := 22) hx hb dModel_lookAttribute_54 (by decide) ?_
          refine lv_icmp_le (tgt := 62) hx hb dModel_lookAttribute_56 (by decide) (fun c14 => ?_) (fun c14 => ?_)
          · refine lv_aload_n hx hb dModel_lookAttribute_62 rfl (lv_at hl 0 rfl) ?_
            refine lv_aload_n hx hb dModel_lookAttribute_63 rfl (lv_at hl 0 rfl) ?_
            refine md_gA S hC hM 3 (by decide) rfl qw_9fb851a5fa dModel_lookAttribute_64 ?_
            refine lv_iload_n hx hb dModel_lookAttribute_67 rfl (lv_at hl 1 rfl) ?_
            refine md_ild S hC hM 3 1 4000 (τ 3) rfl rfl (by decide) rfl rfl (vin (by assumption) (by omega)) dModel_lookAttribute_68 ?_
            refine lv_topi (fun v15 ev15 => ?_)
            refine mu_Vv (rest := []) S hC (fun q h => hA q (Nat.le_trans hS.1 h)) (fun q h => h) hS (n_find l γ a B Z κ b mn ν τ σ F nu hT v15 ) meModel_find qw_ece0c598e8 ⟨Nat.le_of_ble_eq_true rfl, Nat.le_of_ble_eq_true rfl⟩ (md_rv hC hM) hM rfl hl.1 rfl (Nat.le_of_ble_eq_true rfl) dModel_lookAttribute_69 ⟨Nat.le_refl _, Nat.le_refl _⟩ (fun H locs hPO hS _ _ => ?_)
            obtain ⟨σr16, eOr16, hM, hF⟩ := hPO
            have eσr16 : σr16 = (Q_find κ τ σ F nu v15).1 := by rw [eOr16.eq]
            clear eOr16
            refine lv_aload_n hx hb dModel_lookAttribute_72 rfl (lv_at hl 0 rfl) ?_
            refine md_gI S hC hM 32 (v := σr16 32) rfl (by decide) rfl qw_9d5e299446 dModel_lookAttribute_73 ?_
            refine lv_topi (fun v17 ev17 => ?_)
            refine lv_iconst (v := 5) hx hb dModel_lookAttribute_76 (by decide) ?_
            refine lv_icmp_ne (tgt := 82) hx hb dModel_lookAttribute_77 (by decide) (fun c18 => ?_) (fun c18 => ?_)
            · refine lv_aload_n hx hb dModel_lookAttribute_82 rfl (lv_at hl 0 rfl) ?_
              refine md_gI S hC hM 32 (v := σr16 32) rfl (by decide) rfl qw_9d5e299446 dModel_lookAttribute_83 ?_
              refine lv_topi (fun v19 ev19 => ?_)
              refine lv_iconst (v := 1) hx hb dModel_lookAttribute_86 (by decide) ?_
              refine lv_icmp_eq (tgt := 92) hx hb dModel_lookAttribute_87 (by decide) (fun c20 => ?_) (fun c20 => ?_)
              · obtain ⟨o, ho, hoe⟩ := hF.1 (ev19.symm.trans (by assumption))
                refine lv_aload_n hx hb dModel_lookAttribute_92 rfl (lv_at hl 0 rfl) ?_
                refine md_gI S hC hM 33 (v := σr16 33) rfl (by decide) rfl qw_c60a40a4a7 dModel_lookAttribute_93 ?_
                refine lv_topi (fun v21 ev21 => ?_)
                refine lv_istore_n (lv' := [(2, .int v21), (0, .ref a), (1, .int x1)]) hx hb dModel_lookAttribute_96 rfl hl (by decide) rfl (fun ls hl => ?_)
                have hio : vp_in v21 2000 := vin_of (ev21.trans hoe) ho (by omega)
                refine lv_aload_n hx hb dModel_lookAttribute_97 rfl (lv_at hl 1 rfl) ?_
                refine md_gA S hC hM 23 (by decide) rfl qw_bd9bcb35cb dModel_lookAttribute_98 ?_
                refine lv_iload_n hx hb dModel_lookAttribute_101 rfl (lv_at hl 0 rfl) ?_
                refine md_ild S hC hM 23 18 2000 (τ 23) rfl rfl (by decide) rfl rfl hio dModel_lookAttribute_102 ?_
                refine lv_topi (fun v22 ev22 => ?_)
                refine lv_istore_n (lv' := [(3, .int v22), (2, .int v21), (0, .ref a), (1, .int x1)]) hx hb dModel_lookAttribute_103 rfl hl (by decide) rfl (fun ls hl => ?_)
                have hit : vp_in v22 1000 := ob_in hOB hio ev22
                refine lv_aload_n hx hb dModel_lookAttribute_104 rfl (lv_at hl 2 rfl) ?_
                refine md_gA S hC hM 3 (by decide) rfl qw_9fb851a5fa dModel_lookAttribute_105 ?_
                refine lv_iload_n hx hb dModel_lookAttribute_108 rfl (lv_at hl 3 rfl) ?_
                refine lv_iconst (v := 1) hx hb dModel_lookAttribute_109 (by decide) ?_
                refine lv_isub hx hb dModel_lookAttribute_110 ?_
                refine lv_topi (fun v23 ev23 => ?_)
                refine md_ild S hC hM 3 1 4000 (τ 3) rfl rfl (by decide) rfl rfl (vin (pr_in hTR hs0 hx1 (by omega) ev23) (by omega)) dModel_lookAttribute_111 ?_
                refine lv_topi (fun v24 ev24 => ?_)
                refine lv_istore (lv' := [(4, .int v24), (3, .int v22), (2, .int v21), (0, .ref a), (1, .int x1)]) hx hb dModel_lookAttribute_112 hl (by decide) rfl (fun ls hl => ?_)
                refine lv_iload hx hb dModel_lookAttribute_114 (lv_at hl 0 rfl) ?_
                refine lv_bipush (v := 18) hx hb dModel_lookAttribute_116 (by decide) ?_
                have J279 : ∀ (ls : Array Slot) (H : Heap) (locs : List Loc) (F_279 : Nat → Nat → Int32) (nu_279 : Nat → Int64), MD γ a B Z ν τ σr16 F_279 nu_279 H → va_S Z s.heap H locs → (GK x1.toNatClampNeg F_279 nu_279) → (SL x1.toNatClampNeg F nu F_279 nu_279) → (SZ F_279) → (Oq OUT (Q_lookAttribute_279 κ τ σ F nu x1   F_279 nu_279)) → lv_has ls 5 [(0, .ref a), (1, .int x1), (2, .int v21), (3, .int v22), (4, .int v24)] → W p l e (bs_rm 3 0 0 70) s m args below meth c H locs 0 0 Q (F0 m 279 ls []) := by
                  intro ls H locs F_279 nu_279 hM hS hK hL hZ hO hl
                  refine lv_aload_n hx hb dModel_lookAttribute_279 rfl (lv_at hl 0 rfl) ?_
                  refine md_gA S hC hM 12 (by decide) rfl qw_19df235c4a dModel_lookAttribute_280 ?_
                  refine lv_iload_n hx hb dModel_lookAttribute_283 rfl (lv_at hl 1 rfl) ?_
                  refine lv_iload_n hx hb dModel_lookAttribute_284 rfl (lv_at hl 2 rfl) ?_
                  refine md_istD S hC hM hS 12 8 10000 rfl rfl (by decide) rfl rfl (vin (by assumption) (by omega)) dModel_lookAttribute_285 (fun H locs hM hS => ?_)
                  obtain ⟨F54, eF54⟩ : ∃ z : Nat → Nat → Int32, z = Au F_279 12 x1.toNatClampNeg v21 := ⟨_, rfl⟩
                  rw [← eF54] at hM
                  have hZ : SZ F54 := hZ.au eF54 (by decide)
                  have hL : SL x1.toNatClampNeg F nu F54 nu_279 := hL.au eF54 (by decide)
                  have hK : GK x1.toNatClampNeg F54 nu_279 := hK.au eF54 (by decide)
                  refine lv_iconst (v := 0) hx hb dModel_lookAttribute_286 (by decide) ?_
                  exact hE _ _ _ _ _ hS ⟨σr16, F54, nu_279, (by subst eF54 ev24 ev23 ev22 ev21 ev19 ev17 eσr16 ev15 ev13 ev12 ev10 ev9 ev7 ev6 ev4 ev3 ev1; exact hO.tr rfl), hM, hZ, hF, hL, (fun _ => hK)⟩ dModel_lookAttribute_287
                refine lv_icmp_ge (tgt := 160) hx hb dModel_lookAttribute_118 (by decide) (fun c55 => ?_) (fun c55 => ?_)
                · refine lv_aload_n hx hb dModel_lookAttribute_160 rfl (lv_at hl 3 rfl) ?_
                  refine md_gA S hC hM 16 (by decide) rfl qw_9bd8ea24bb dModel_lookAttribute_161 ?_
                  refine lv_iload_n hx hb dModel_lookAttribute_164 rfl (lv_at hl 1 rfl) ?_
                  refine md_ild S hC hM 16 12 1000 (τ 16) rfl rfl (by decide) rfl rfl (vin (by assumption) (by omega)) dModel_lookAttribute_165 ?_
                  refine lv_topi (fun v56 ev56 => ?_)
                  refine lv_iconst (v := 3) hx hb dModel_lookAttribute_166 (by decide) ?_
                  refine lv_icmp_eq (tgt := 172) hx hb dModel_lookAttribute_167 (by decide) (fun c57 => ?_) (fun c57 => ?_)
                  · obtain ⟨lo, hi, cn, h17, h18, h19, hlo, hhi, hd1, hd2, hcn, hup, hdn⟩ := hTY _ (vix hit) (ev56.symm.trans (by assumption))
                    have k17 : ∀ v : Int32, v = τ 17 v22.toNatClampNeg → ∃ j, j < 2 ^ 31 ∧ v = nI j := fun v h9 => ⟨lo, hlo, h9.trans h17⟩
                    have k18 : ∀ v : Int32, v = τ 18 v22.toNatClampNeg → ∃ j, j < 2 ^ 31 ∧ v = nI j := fun v h9 => ⟨hi, hhi, h9.trans h18⟩
                    have k19 : ∀ v : Int32, v = τ 19 v22.toNatClampNeg → ∃ j, j < 2 ^ 31 ∧ v = nI j := fun v h9 => ⟨cn, by omega, h9.trans h19⟩
                    refine lv_aload_n hx hb dModel_lookAttribute_172 rfl (lv_at hl 3 rfl) ?_
                    refine lv_iload_n hx hb dModel_lookAttribute_173 rfl (lv_at hl 4 rfl) ?_
                    refine lv_iconst (v := 2) hx hb dModel_lookAttribute_174 (by decide) ?_
                    refine lv_iconst (v := 0) hx hb dModel_lookAttribute_175 (by decide) ?_
                    refine lv_iconst (v := 1) hx hb dModel_lookAttribute_176 (by decide) ?_
                    have hnr58 : ∃ j, j ≤ 1000 ∧ 0 = nI j := ⟨0, by omega, rfl⟩
                    refine mu_Vv (rest := []) S hC (fun q h => hA q (Nat.le_trans hS.1 h)) (fun q h => h) hS (n_fact l γ a B Z κ b mn ν τ σr16 F nu hT x1 2 0 1 (vin (by assumption) (by omega)) hnr58) meModel_fact qw_02871250ec ⟨Nat.le_of_ble_eq_true rfl, Nat.le_of_ble_eq_true rfl⟩ (md_rv hC hM) hM rfl hl.1 rfl (Nat.le_of_ble_eq_true rfl) dModel_lookAttribute_177 ⟨Nat.le_refl _, Nat.le_refl _⟩ (fun H locs hPO hS _ _ => ?_)
                    obtain ⟨Fr58, nur58, eOr58, hM, hqr58, hcr58⟩ := hPO
                    have eFr58 : Fr58 = (Q_fact κ τ σr16 F nu x1 2 0 1).2.1 := by rw [eOr58.eq]
                    have enur58 : nur58 = (Q_fact κ τ σr16 F nu x1 2 0 1).2.2 := by rw [eOr58.eq]
                    clear eOr58
                    have hZ : SZ Fr58 := hZ.slt hqr58 hnr58
                    have hL : SL x1.toNatClampNeg F nu Fr58 nur58 := hL.trans (SL.slt hqr58)
                    have hK : GK x1.toNatClampNeg Fr58 nur58 := GK.zero hqr58
                    refine lv_aload_n hx hb dModel_lookAttribute_180 rfl (lv_at hl 3 rfl) ?_
                    refine md_gA S hC hM 13 (by decide) rfl qw_7b809afc8c dModel_lookAttribute_181 ?_
                    refine lv_iload_n hx hb dModel_lookAttribute_184 rfl (lv_at hl 4 rfl) ?_
                    refine lv_iload hx hb dModel_lookAttribute_185 (lv_at hl 0 rfl) ?_
                    refine lv_bipush (v := 18) hx hb dModel_lookAttribute_187 (by decide) ?_
                    have J278 : ∀ (ls : Array Slot) (t0_278 : Int64), (-2147483648 < t0_278.toInt ∧ t0_278.toInt < 2147483648) → (Oq OUT (Q_lookAttribute_278 κ τ σ F nu x1   t0_278)) → lv_has ls 5 [(0, .ref a), (1, .int x1), (2, .int v21), (3, .int v22), (4, .int v24)] → W p l e (bs_rm 3 0 0 70) s m args below meth c H locs 0 0 Q (F0 m 278 ls [.long t0_278, .int x1, .ref (B 13)]) := by
                      intro ls t0_278 ht0_278 hO hl
                      have hgnu78 : Fr58 9 x1.toNatClampNeg = 2 → -2147483648 < (t0_278 : Int64).toInt ∧ (t0_278 : Int64).toInt < 2147483648 := (fun _ => ht0_278)
                      refine md_lst S hC hM hS (vin (by assumption) (by omega)) dModel_lookAttribute_278 (fun H locs hM hS => ?_)
                      obtain ⟨nu78, enu78⟩ : ∃ z : Nat → Int64, z = vp_updL nur58 x1.toNatClampNeg t0_278 := ⟨_, rfl⟩
                      rw [← enu78] at hM
                      have hL : SL x1.toNatClampNeg F nu Fr58 nu78 := hL.trans (by rw [enu78]; exact SL.num)
                      have hK : GK x1.toNatClampNeg Fr58 nu78 := by rw [enu78]; exact GK.num hgnu78
                      exact J279 ls _ _ Fr58 nu78 hM hS hK hL hZ (by subst enu78 enur58 eFr58 ev56 ev24 ev23 ev22 ev21 ev19 ev17 eσr16 ev15 ev13 ev12 ev10 ev9 ev7 ev6 ev4 ev3 ev1; exact hO.tr rfl) (lv_sub hl [0, 1, 2, 3, 4] rfl)
                    refine lv_icmp_ne (tgt := 202) hx hb dModel_lookAttribute_189 (by decide) (fun c79 => ?_) (fun c79 => ?_)
                    · refine lv_iload hx hb dModel_lookAttribute_202 (lv_at hl 0 rfl) ?_
                      refine lv_bipush (v := 19) hx hb dModel_lookAttribute_204 (by decide) ?_
                      refine lv_icmp_ne (tgt := 219) hx hb dModel_lookAttribute_206 (by decide) (fun c80 => ?_) (fun c80 => ?_)
                      · refine lv_iload hx hb dModel_lookAttribute_219 (lv_at hl 0 rfl) ?_
                        refine lv_bipush (v := 20) hx hb dModel_lookAttribute_221 (by decide) ?_
                        refine lv_icmp_ne (tgt := 236) hx hb dModel_lookAttribute_223 (by decide) (fun c81 => ?_) (fun c81 => ?_)
                        · refine lv_iload hx hb dModel_lookAttribute_236 (lv_at hl 0 rfl) ?_
                          refine lv_bipush (v := 21) hx hb dModel_lookAttribute_238 (by decide) ?_
                          refine lv_icmp_ne (tgt := 262) hx hb dModel_lookAttribute_240 (by decide) (fun c82 => ?_) (fun c82 => ?_)
                          · refine lv_aload_n hx hb dModel_lookAttribute_262 rfl (lv_at hl 3 rfl) ?_
                            refine md_gA S hC hM 17 (by decide) rfl qw_94306de345 dModel_lookAttribute_263 ?_
                            refine lv_iload_n hx hb dModel_lookAttribute_266 rfl (lv_at hl 1 rfl) ?_
                            refine md_ild S hC hM 17 13 1000 (τ 17) rfl rfl (by decide) rfl rfl (vin (by assumption) (by omega)) dModel_lookAttribute_267 ?_
                            refine lv_topi (fun v83 ev83 => ?_)
                            refine lv_aload_n hx hb dModel_lookAttribute_268 rfl (lv_at hl 3 rfl) ?_
                            refine md_gA S hC hM 18 (by decide) rfl qw_82ee92f611 dModel_lookAttribute_269 ?_
                            refine lv_iload_n hx hb dModel_lookAttribute_272 rfl (lv_at hl 1 rfl) ?_
                            refine md_ild S hC hM 18 14 1000 (τ 18) rfl rfl (by decide) rfl rfl (vin (by assumption) (by omega)) dModel_lookAttribute_273 ?_
                            refine lv_topi (fun v84 ev84 => ?_)
                            refine va_mmin (rest := [.int x1, .ref (B 13)]) hx hb (hml.trans hl.1.symm) hown (hW _ qw_31ea7262cf) (hW _ qw_1a05fe5770) (hW _ qw_0001fcaade) (hW _ qw_5e99ca5e66) (Nat.le_of_ble_eq_true rfl) (Nat.le_of_ble_eq_true rfl) (Nat.zero_le _) (Nat.zero_le _) dModel_lookAttribute_274 ?_
                            refine lv_topi (fun v85 ev85 => ?_)
                            refine lv_i2l hx hb dModel_lookAttribute_277 rfl ?_
                            refine lv_topl (fun v86 ev86 => ?_)
                            exact J278 ls v86 (at_b ev86 (by first | exact k19 _ ev85 | exact k17 _ ev85 | exact k18 _ ev85 | exact at_if ev85 (k17 _ ev83) (k18 _ ev84) | exact at_if ev85 (k18 _ ev84) (k17 _ ev83))) (by subst ev86 ev85 ev84 ev83 enur58 eFr58 ev56 ev24 ev23 ev22 ev21 ev19 ev17 eσr16 ev15 ev13 ev12 ev10 ev9 ev7 ev6 ev4 ev3 ev1; exact hO.tr ((if_pos c2).trans ((if_pos c5).trans ((if_neg c8).trans ((if_neg c11).trans ((if_pos c14).trans ((if_neg c18).trans ((if_pos c20).trans ((if_pos c55).trans ((if_pos c57).trans ((if_neg c79).trans ((if_neg c80).trans ((if_neg c81).trans (if_neg c82)))))))))))))) (lv_sub hl [3, 4, 2, 1, 0] rfl)
                          · refine lv_aload_n hx hb dModel_lookAttribute_243 rfl (lv_at hl 3 rfl) ?_
                            refine md_gA S hC hM 17 (by decide) rfl qw_94306de345 dModel_lookAttribute_244 ?_
                            refine lv_iload_n hx hb dModel_lookAttribute_247 rfl (lv_at hl 1 rfl) ?_
                            refine md_ild S hC hM 17 13 1000 (τ 17) rfl rfl (by decide) rfl rfl (vin (by assumption) (by omega)) dModel_lookAttribute_248 ?_
                            refine lv_topi (fun v87 ev87 => ?_)
                            refine lv_aload_n hx hb dModel_lookAttribute_249 rfl (lv_at hl 3 rfl) ?_
                            refine md_gA S hC hM 18 (by decide) rfl qw_82ee92f611 dModel_lookAttribute_250 ?_
                            refine lv_iload_n hx hb dModel_lookAttribute_253 rfl (lv_at hl 1 rfl) ?_
                            refine md_ild S hC hM 18 14 1000 (τ 18) rfl rfl (by decide) rfl rfl (vin (by assumption) (by omega)) dModel_lookAttribute_254 ?_
                            refine lv_topi (fun v88 ev88 => ?_)
                            refine va_mmax (rest := [.int x1, .ref (B 13)]) hx hb (hml.trans hl.1.symm) hown (hW _ qw_f0aff25a97) (hW _ qw_7cc87a9f9b) (hW _ qw_0001fcaade) (hW _ qw_6b973c1ba4) (Nat.le_of_ble_eq_true rfl) (Nat.le_of_ble_eq_true rfl) (Nat.zero_le _) (Nat.zero_le _) dModel_lookAttribute_255 ?_
                            refine lv_topi (fun v89 ev89 => ?_)
                            refine lv_i2l hx hb dModel_lookAttribute_258 rfl ?_
                            refine lv_topl (fun v90 ev90 => ?_)
                            refine lv_goto (tgt := 278) hx hb dModel_lookAttribute_259 (by decide) ?_
                            exact J278 ls v90 (at_b ev90 (by first | exact k19 _ ev89 | exact k17 _ ev89 | exact k18 _ ev89 | exact at_if ev89 (k17 _ ev87) (k18 _ ev88) | exact at_if ev89 (k18 _ ev88) (k17 _ ev87))) (by subst ev90 ev89 ev88 ev87 enur58 eFr58 ev56 ev24 ev23 ev22 ev21 ev19 ev17 eσr16 ev15 ev13 ev12 ev10 ev9 ev7 ev6 ev4 ev3 ev1; exact hO.tr ((if_pos c2).trans ((if_pos c5).trans ((if_neg c8).trans ((if_neg c11).trans ((if_pos c14).trans ((if_neg c18).trans ((if_pos c20).trans ((if_pos c55).trans ((if_pos c57).trans ((if_neg c79).trans ((if_neg c80).trans ((if_neg c81).trans (if_pos c82)))))))))))))) (lv_sub hl [3, 4, 2, 1, 0] rfl)
                        · refine lv_aload_n hx hb dModel_lookAttribute_226 rfl (lv_at hl 3 rfl) ?_
                          refine md_gA S hC hM 18 (by decide) rfl qw_82ee92f611 dModel_lookAttribute_227 ?_
                          refine lv_iload_n hx hb dModel_lookAttribute_230 rfl (lv_at hl 1 rfl) ?_
                          refine md_ild S hC hM 18 14 1000 (τ 18) rfl rfl (by decide) rfl rfl (vin (by assumption) (by omega)) dModel_lookAttribute_231 ?_
                          refine lv_topi (fun v91 ev91 => ?_)
                          refine lv_i2l hx hb dModel_lookAttribute_232 rfl ?_
                          refine lv_topl (fun v92 ev92 => ?_)
                          refine lv_goto (tgt := 278) hx hb dModel_lookAttribute_233 (by decide) ?_
                          exact J278 ls v92 (at_b ev92 (by first | exact k19 _ ev91 | exact k17 _ ev91 | exact k18 _ ev91 | exact at_if ev91 (k17 _ ev87) (k18 _ ev88) | exact at_if ev91 (k18 _ ev88) (k17 _ ev87))) (by subst ev92 ev91 enur58 eFr58 ev56 ev24 ev23 ev22 ev21 ev19 ev17 eσr16 ev15 ev13 ev12 ev10 ev9 ev7 ev6 ev4 ev3 ev1; exact hO.tr ((if_pos c2).trans ((if_pos c5).trans ((if_neg c8).trans ((if_neg c11).trans ((if_pos c14).trans ((if_neg c18).trans ((if_pos c20).trans ((if_pos c55).trans ((if_pos c57).trans ((if_neg c79).trans ((if_neg c80).trans (if_pos c81))))))))))))) (lv_sub hl [3, 4, 2, 1, 0] rfl)
                      · refine lv_aload_n hx hb dModel_lookAttribute_209 rfl (lv_at hl 3 rfl) ?_
                        refine md_gA S hC hM 17 (by decide) rfl qw_94306de345 dModel_lookAttribute_210 ?_
                        refine lv_iload_n hx hb dModel_lookAttribute_213 rfl (lv_at hl 1 rfl) ?_
                        refine md_ild S hC hM 17 13 1000 (τ 17) rfl rfl (by decide) rfl rfl (vin (by assumption) (by omega)) dModel_lookAttribute_214 ?_
                        refine lv_topi (fun v93 ev93 => ?_)
                        refine lv_i2l hx hb dModel_lookAttribute_215 rfl ?_
                        refine lv_topl (fun v94 ev94 => ?_)
                        refine lv_goto (tgt := 278) hx hb dModel_lookAttribute_216 (by decide) ?_
                        exact J278 ls v94 (at_b ev94 (by first | exact k19 _ ev93 | exact k17 _ ev93 | exact k18 _ ev93 | exact at_if ev93 (k17 _ ev87) (k18 _ ev88) | exact at_if ev93 (k18 _ ev88) (k17 _ ev87))) (by subst ev94 ev93 enur58 eFr58 ev56 ev24 ev23 ev22 ev21 ev19 ev17 eσr16 ev15 ev13 ev12 ev10 ev9 ev7 ev6 ev4 ev3 ev1; exact hO.tr ((if_pos c2).trans ((if_pos c5).trans ((if_neg c8).trans ((if_neg c11).trans ((if_pos c14).trans ((if_neg c18).trans ((if_pos c20).trans ((if_pos c55).trans ((if_pos c57).trans ((if_neg c79).trans (if_pos c80)))))))))))) (lv_sub hl [3, 4, 2, 1, 0] rfl)
                    · refine lv_aload_n hx hb dModel_lookAttribute_192 rfl (lv_at hl 3 rfl) ?_
                      refine md_gA S hC hM 19 (by decide) rfl qw_c139dbceda dModel_lookAttribute_193 ?_
                      refine lv_iload_n hx hb dModel_lookAttribute_196 rfl (lv_at hl 1 rfl) ?_
                      refine md_ild S hC hM 19 15 1000 (τ 19) rfl rfl (by decide) rfl rfl (vin (by assumption) (by omega)) dModel_lookAttribute_197 ?_
                      refine lv_topi (fun v95 ev95 => ?_)
                      refine lv_i2l hx hb dModel_lookAttribute_198 rfl ?_
                      refine lv_topl (fun v96 ev96 => ?_)
                      refine lv_goto (tgt := 278) hx hb dModel_lookAttribute_199 (by decide) ?_
                      exact J278 ls v96 (at_b ev96 (by first | exact k19 _ ev95 | exact k17 _ ev95 | exact k18 _ ev95 | exact at_if ev95 (k17 _ ev87) (k18 _ ev88) | exact at_if ev95 (k18 _ ev88) (k17 _ ev87))) (by subst ev96 ev95 enur58 eFr58 ev56 ev24 ev23 ev22 ev21 ev19 ev17 eσr16 ev15 ev13 ev12 ev10 ev9 ev7 ev6 ev4 ev3 ev1; exact hO.tr ((if_pos c2).trans ((if_pos c5).trans ((if_neg c8).trans ((if_neg c11).trans ((if_pos c14).trans ((if_neg c18).trans ((if_pos c20).trans ((if_pos c55).trans ((if_pos c57).trans (if_pos c79))))))))))) (lv_sub hl [3, 4, 2, 1, 0] rfl)
                  · refine lv_iconst (v := 3) hx hb dModel_lookAttribute_170 (by decide) ?_
                    exact hE _ _ _ _ _ hS ⟨σr16, F, nu, (by subst ev56 ev24 ev23 ev22 ev21 ev19 ev17 eσr16 ev15 ev13 ev12 ev10 ev9 ev7 ev6 ev4 ev3 ev1; exact hO.tr ((if_pos c2).trans ((if_pos c5).trans ((if_neg c8).trans ((if_neg c11).trans ((if_pos c14).trans ((if_neg c18).trans ((if_pos c20).trans ((if_pos c55).trans (if_neg c57)))))))))), hM, hZ, hF, hL, (fun h9 => absurd (show (0 : Int32) < 3 by decide) h9)⟩ dModel_lookAttribute_171
                · refine lv_aload_n hx hb dModel_lookAttribute_121 rfl (lv_at hl 3 rfl) ?_
                  refine md_gA S hC hM 22 (by decide) rfl qw_50c5849686 dModel_lookAttribute_122 ?_
                  refine lv_iload_n hx hb dModel_lookAttribute_125 rfl (lv_at hl 2 rfl) ?_
                  refine md_ild S hC hM 22 17 2000 (τ 22) rfl rfl (by decide) rfl rfl (vin (by assumption) (by omega)) dModel_lookAttribute_126 ?_
                  refine lv_topi (fun v97 ev97 => ?_)
                  refine lv_iconst (v := 1) hx hb dModel_lookAttribute_127 (by decide) ?_
                  refine lv_icmp_eq (tgt := 133) hx hb dModel_lookAttribute_128 (by decide) (fun c98 => ?_) (fun c98 => ?_)
                  · refine lv_iload hx hb dModel_lookAttribute_133 (lv_at hl 0 rfl) ?_
                    refine lv_bipush (v := 17) hx hb dModel_lookAttribute_135 (by decide) ?_
                    refine lv_icmp_ne (tgt := 149) hx hb dModel_lookAttribute_137 (by decide) (fun c99 => ?_) (fun c99 => ?_)
                    · refine lv_aload_n hx hb dModel_lookAttribute_149 rfl (lv_at hl 3 rfl) ?_
                      refine lv_iload_n hx hb dModel_lookAttribute_150 rfl (lv_at hl 4 rfl) ?_
                      refine lv_iconst (v := 1) hx hb dModel_lookAttribute_151 (by decide) ?_
                      refine lv_iconst (v := 0) hx hb dModel_lookAttribute_152 (by decide) ?_
                      refine lv_iconst (v := 0) hx hb dModel_lookAttribute_153 (by decide) ?_
                      have hnr100 : ∃ j, j ≤ 1000 ∧ 0 = nI j := ⟨0, by omega, rfl⟩
                      refine mu_Vv (rest := []) S hC (fun q h => hA q (Nat.le_trans hS.1 h)) (fun q h => h) hS (n_fact l γ a B Z κ b mn ν τ σr16 F nu hT x1 1 0 0 (vin (by assumption) (by omega)) hnr100) meModel_fact qw_02871250ec ⟨Nat.le_of_ble_eq_true rfl, Nat.le_of_ble_eq_true rfl⟩ (md_rv hC hM) hM rfl hl.1 rfl (Nat.le_of_ble_eq_true rfl) dModel_lookAttribute_154 ⟨Nat.le_refl _, Nat.le_refl _⟩ (fun H locs hPO hS _ _ => ?_)
                      obtain ⟨Fr100, nur100, eOr100, hM, hqr100, hcr100⟩ := hPO
                      have eFr100 : Fr100 = (Q_fact κ τ σr16 F nu x1 1 0 0).2.1 := by rw [eOr100.eq]
                      have enur100 : nur100 = (Q_fact κ τ σr16 F nu x1 1 0 0).2.2 := by rw [eOr100.eq]
                      clear eOr100
                      have hZ : SZ Fr100 := hZ.slt hqr100 hnr100
                      have hL : SL x1.toNatClampNeg F nu Fr100 nur100 := hL.trans (SL.slt hqr100)
                      have hK : GK x1.toNatClampNeg Fr100 nur100 := GK.zero hqr100
                      refine lv_goto (tgt := 279) hx hb dModel_lookAttribute_157 (by decide) ?_
                      exact J279 ls _ _ Fr100 nur100 hM hS hK hL hZ (by subst enur100 eFr100 ev97 ev24 ev23 ev22 ev21 ev19 ev17 eσr16 ev15 ev13 ev12 ev10 ev9 ev7 ev6 ev4 ev3 ev1; exact hO.tr ((if_pos c2).trans ((if_pos c5).trans ((if_neg c8).trans ((if_neg c11).trans ((if_pos c14).trans ((if_neg c18).trans ((if_pos c20).trans ((if_neg c55).trans ((if_pos c98).trans (if_neg c99))))))))))) (lv_sub hl [3, 4, 2, 1, 0] rfl)
                    · refine lv_aload_n hx hb dModel_lookAttribute_140 rfl (lv_at hl 3 rfl) ?_
                      refine lv_iload_n hx hb dModel_lookAttribute_141 rfl (lv_at hl 4 rfl) ?_
                      refine lv_iload_n hx hb dModel_lookAttribute_142 rfl (lv_at hl 1 rfl) ?_
                      refine mu_Vv (rest := []) S hC (fun q h => hA q (Nat.le_trans hS.1 h)) (fun q h => h) hS (n_factOfType l γ a B Z κ b mn ν τ σr16 F nu hT x1 v22 (vin (by assumption) (by omega)) (vin (by assumption) (by omega))) meModel_factOfType qw_7a050de5f5 ⟨Nat.le_of_ble_eq_true rfl, Nat.le_of_ble_eq_true rfl⟩ (md_rv hC hM) hM rfl hl.1 rfl (Nat.le_of_ble_eq_true rfl) dModel_lookAttribute_143 ⟨Nat.le_refl _, Nat.le_refl _⟩ (fun H locs hPO hS _ _ => ?_)
                      obtain ⟨Fr101, nur101, cr101, nr101, eOr101, hM, hqr101, hnr101⟩ := hPO
                      have eFr101 : Fr101 = (Q_factOfType κ τ σr16 F nu x1 v22).2.1 := by rw [eOr101.eq]
                      have enur101 : nur101 = (Q_factOfType κ τ σr16 F nu x1 v22).2.2 := by rw [eOr101.eq]
                      clear eOr101
                      have hZ : SZ Fr101 := hZ.slt hqr101 hnr101
                      have hL : SL x1.toNatClampNeg F nu Fr101 nur101 := hL.trans (SL.slt hqr101)
                      have hK : GK x1.toNatClampNeg Fr101 nur101 := GK.zero hqr101
                      refine lv_goto (tgt := 279) hx hb dModel_lookAttribute_146 (by decide) ?_
                      exact J279 ls _ _ Fr101 nur101 hM hS hK hL hZ (by subst enur101 eFr101 ev97 ev24 ev23 ev22 ev21 ev19 ev17 eσr16 ev15 ev13 ev12 ev10 ev9 ev7 ev6 ev4 ev3 ev1; exact hO.tr ((if_pos c2).trans ((if_pos c5).trans ((if_neg c8).trans ((if_neg c11).trans ((if_pos c14).trans ((if_neg c18).trans ((if_pos c20).trans ((if_neg c55).trans ((if_pos c98).trans (if_pos c99))))))))))) (lv_sub hl [3, 4, 2, 1, 0] rfl)
                  · refine lv_iconst (v := 2) hx hb dModel_lookAttribute_131 (by decide) ?_
                    exact hE _ _ _ _ _ hS ⟨σr16, F, nu, (by subst ev97 ev24 ev23 ev22 ev21 ev19 ev17 eσr16 ev15 ev13 ev12 ev10 ev9 ev7 ev6 ev4 ev3 ev1; exact hO.tr ((if_pos c2).trans ((if_pos c5).trans ((if_neg c8).trans ((if_neg c11).trans ((if_pos c14).trans ((if_neg c18).trans ((if_pos c20).trans ((if_neg c55).trans (if_neg c98)))))))))), hM, hZ, hF, hL, (fun h9 => absurd (show (0 : Int32) < 2 by decide) h9)⟩ dModel_lookAttribute_132
              · refine lv_iconst (v := 2) hx hb dModel_lookAttribute_90 (by decide) ?_
                exact hE _ _ _ _ _ hS ⟨σr16, F, nu, (by subst ev19 ev17 eσr16 ev15 ev13 ev12 ev10 ev9 ev7 ev6 ev4 ev3 ev1; exact hO.tr ((if_pos c2).trans ((if_pos c5).trans ((if_neg c8).trans ((if_neg c11).trans ((if_pos c14).trans ((if_neg c18).trans (if_neg c20)))))))), hM, hZ, hF, hL, (fun h9 => absurd (show (0 : Int32) < 2 by decide) h9)⟩ dModel_lookAttribute_91
            · refine lv_iconst (v := 1) hx hb dModel_lookAttribute_80 (by decide) ?_
              exact hE _ _ _ _ _ hS ⟨σr16, F, nu, (by subst ev17 eσr16 ev15 ev13 ev12 ev10 ev9 ev7 ev6 ev4 ev3 ev1; exact hO.tr ((if_pos c2).trans ((if_pos c5).trans ((if_neg c8).trans ((if_neg c11).trans ((if_pos c14).trans (if_pos c18))))))), hM, hZ, hF, hL, (fun h9 => absurd (show (0 : Int32) < 1 by decide) h9)⟩ dModel_lookAttribute_81
          · refine lv_bipush (v := 11) hx hb dModel_lookAttribute_59 (by decide) ?_
            exact hE _ _ _ _ _ hS ⟨σ, F, nu, (by subst ev13 ev12 ev10 ev9 ev7 ev6 ev4 ev3 ev1; exact hO.tr ((if_pos c2).trans ((if_pos c5).trans ((if_neg c8).trans ((if_neg c11).trans (if_neg c14)))))), hM, hZ, hF, hL, (fun h9 => absurd (show (0 : Int32) < 11 by decide) h9)⟩ dModel_lookAttribute_61
def Q_look_177 (κ : Nat → Nat) (τ : gf) (σ : Nat → Int32) (F : gf) (nu : gg) (x1 : Int32) : Int32 × (Nat → Int32) × gf × gg := (11, σ, ((Q_fact κ τ σ F nu x1 2 0 1).2.1), (vp_updL ((Q_fact κ τ σ F nu x1 2 0 1).2.2) x1.toNatClampNeg ((τ 3 x1.toNatClampNeg).toInt64)))
def Q_look_229 (κ : Nat → Nat) (τ : gf) (σ : Nat → Int32) (F : gf) (nu : gg) (x1 : Int32) : Int32 × (Nat → Int32) × gf × gg := (11, σ, ((Q_fact κ τ σ F nu x1 0 0 1).2.1), (vp_updL ((Q_fact κ τ σ F nu x1 0 0 1).2.2) x1.toNatClampNeg ((τ 3 x1.toNatClampNeg).toInt64)))
def Q_look_266 (κ : Nat → Nat) (τ : gf) (σ : Nat → Int32) (F : gf) (nu : gg) (x1 : Int32) : Int32 × (Nat → Int32) × gf × gg := (11, σ, F, nu)
def Q_look_308 (κ : Nat → Nat) (τ : gf) (σ : Nat → Int32) (F : gf) (nu : gg) (x1 : Int32) : Int32 × (Nat → Int32) × gf × gg := (11, σ, F, nu)
def Q_look (κ : Nat → Nat) (τ : gf) (σ : Nat → Int32) (F : gf) (nu : gg) (x1 : Int32) : Int32 × (Nat → Int32) × gf × gg := (if (τ 2 x1.toNatClampNeg) = 1 then (if (τ 4 x1.toNatClampNeg) ≤ 0 then ((Q_lookName κ τ σ F nu x1).1, ((Q_lookName κ τ σ F nu x1).2.1), ((Q_lookName κ τ σ F nu x1).2.2.1), ((Q_lookName κ τ σ F nu x1).2.2.2)) else (11, σ, F, nu)) else (if (τ 2 x1.toNatClampNeg) = 2 then (if 0 < (τ 4 x1.toNatClampNeg) then (Q_look_177 κ τ σ F nu x1  ) else (if 0 ≤ (τ 3 x1.toNatClampNeg) then (0, σ, ((Q_fact κ τ σ F nu x1 2 0 1).2.1), (vp_updL ((Q_fact κ τ σ F nu x1 2 0 1).2.2) x1.toNatClampNeg ((τ 3 x1.toNatClampNeg).toInt64))) else (Q_look_177 κ τ σ F nu x1  ))) else (if (τ 2 x1.toNatClampNeg) = 3 then (if 0 < (τ 4 x1.toNatClampNeg) then (Q_look_229 κ τ σ F nu x1  ) else (if (τ 3 x1.toNatClampNeg) < 0 then (Q_look_229 κ τ σ F nu x1  ) else (if (τ 3 x1.toNatClampNeg) ≤ 8 then (0, σ, ((Q_fact κ τ σ F nu x1 0 0 1).2.1), (vp_updL ((Q_fact κ τ σ F nu x1 0 0 1).2.2) x1.toNatClampNeg ((τ 3 x1.toNatClampNeg).toInt64))) else (Q_look_229 κ τ σ F nu x1  )))) else (if (τ 2 x1.toNatClampNeg) = 4 then ((Q_lookRow κ τ σ F nu x1).1, ((Q_lookRow κ τ σ F nu x1).2.1), ((Q_lookRow κ τ σ F nu x1).2.2.1), ((Q_lookRow κ τ σ F nu x1).2.2.2)) else (if (τ 2 x1.toNatClampNeg) = 5 then (11, σ, F, nu) else (if (τ 2 x1.toNatClampNeg) = 6 then (11, σ, F, nu) else (if (τ 2 x1.toNatClampNeg) = 7 then (11, σ, F, nu) else (if (τ 2 x1.toNatClampNeg) = 8 then (11, σ, F, nu) else (if (τ 2 x1.toNatClampNeg) = 9 then (11, σ, F, nu) else (if (τ 2 x1.toNatClampNeg) = 10 then (11, σ, F, nu) else (if (τ 2 x1.toNatClampNeg) = 11 then (11, σ, F, nu) else (if (τ 2 x1.toNatClampNeg) = 12 then (11, σ, F, nu) else (if (τ 2 x1.toNatClampNeg) = 13 then (11, σ, F, nu) else (if (τ 2 x1.toNatClampNeg) = 14 then (11, σ, F, nu) else (if (τ 2 x1.toNatClampNeg) = 15 then (11, σ, F, nu) else (if (τ 2 x1.toNatClampNeg) = 16 then (11, σ, F, nu) else (if (τ 2 x1.toNatClampNeg) = 17 then (11, σ, F, nu) else (if (τ 2 x1.toNatClampNeg) = 18 then (11, σ, F, nu) else (if (τ 2 x1.toNatClampNeg) = 19 then (11, σ, F, nu) else (if (τ 2 x1.toNatClampNeg) = 20 then (if (τ 4 x1.toNatClampNeg) = 1 then (if (τ 3 x1.toNatClampNeg) < 0 then (Q_look_266 κ τ σ F nu x1  ) else (if (τ 3 x1.toNatClampNeg) ≤ 3 then ((Q_lookUnary κ τ σ F nu x1 (Q_child κ τ σ F nu x1 0)).1, ((Q_lookUnary κ τ σ F nu x1 (Q_child κ τ σ F nu x1 0)).2.1), ((Q_lookUnary κ τ σ F nu x1 (Q_child κ τ σ F nu x1 0)).2.2.1), ((Q_lookUnary κ τ σ F nu x1 (Q_child κ τ σ F nu x1 0)).2.2.2)) else (Q_look_266 κ τ σ F nu x1  ))) else (Q_look_266 κ τ σ F nu x1  )) else (if (τ 2 x1.toNatClampNeg) = 21 then (if (τ 4 x1.toNatClampNeg) = 2 then (if (τ 3 x1.toNatClampNeg) < 0 then (Q_look_308 κ τ σ F nu x1  ) else (if (τ 3 x1.toNatClampNeg) ≤ 20 then ((Q_lookBinary κ τ σ F nu x1 (Q_child κ τ σ F nu x1 1) (Q_child κ τ σ F nu x1 0)).1, ((Q_lookBinary κ τ σ F nu x1 (Q_child κ τ σ F nu x1 1) (Q_child κ τ σ F nu x1 0)).2.1), ((Q_lookBinary κ τ σ F nu x1 (Q_child κ τ σ F nu x1 1) (Q_child κ τ σ F nu x1 0)).2.2.1), ((Q_lookBinary κ τ σ F nu x1 (Q_child κ τ σ F nu x1 1) (Q_child κ τ σ F nu x1 0)).2.2.2)) else (Q_look_308 κ τ σ F nu x1  ))) else (Q_look_308 κ τ σ F nu x1  )) else (if (τ 2 x1.toNatClampNeg) = 22 then ((Q_lookApply κ τ σ F nu x1).1, ((Q_lookApply κ τ σ F nu x1).2.1), ((Q_lookApply κ τ σ F nu x1).2.2.1), ((Q_lookApply κ τ σ F nu x1).2.2.2)) else (if (τ 2 x1.toNatClampNeg) = 23 then (if (τ 4 x1.toNatClampNeg) = 2 then ((Q_lookSlice κ τ σ F nu x1 (Q_child κ τ σ F nu x1 1) (Q_child κ τ σ F nu x1 0)).1, ((Q_lookSlice κ τ σ F nu x1 (Q_child κ τ σ F nu x1 1) (Q_child κ τ σ F nu x1 0)).2.1), ((Q_lookSlice κ τ σ F nu x1 (Q_child κ τ σ F nu x1 1) (Q_child κ τ σ F nu x1 0)).2.2.1), ((Q_lookSlice κ τ σ F nu x1 (Q_child κ τ σ F nu x1 1) (Q_child κ τ σ F nu x1 0)).2.2.2)) else (11, σ, F, nu)) else (if (τ 2 x1.toNatClampNeg) = 24 then (if (τ 4 x1.toNatClampNeg) = 2 then ((Q_lookSlice κ τ σ F nu x1 (Q_child κ τ σ F nu x1 1) (Q_child κ τ σ F nu x1 0)).1, ((Q_lookSlice κ τ σ F nu x1 (Q_child κ τ σ F nu x1 1) (Q_child κ τ σ F nu x1 0)).2.1), ((Q_lookSlice κ τ σ F nu x1 (Q_child κ τ σ F nu x1 1) (Q_child κ τ σ F nu x1 0)).2.2.1), ((Q_lookSlice κ τ σ F nu x1 (Q_child κ τ σ F nu x1 1) (Q_child κ τ σ F nu x1 0)).2.2.2)) else (11, σ, F, nu)) else (if (τ 2 x1.toNatClampNeg) = 25 then ((Q_lookAttribute κ τ σ F nu x1).1, ((Q_lookAttribute κ τ σ F nu x1).2.1), ((Q_lookAttribute κ τ σ F nu x1).2.2.1), ((Q_lookAttribute κ τ σ F nu x1).2.2.2)) else (11, σ, F, nu))))))))))))))))))))))))))
set_option maxHeartbeats 4000000 in
set_option maxRecDepth 100000 in
theorem n_look (l : Launch) (γ : gE) (a : Nat) (B : Nat → Nat) (Z : Nat → Prop) (κ b mn : Nat → Nat) (ν : Nat → Int32) (τ : Nat → Nat → Int32) (σ : Nat → Int32) (F : Nat → Nat → Int32) (nu : Nat → Int64) (hT : ST κ b mn ν τ) (x1 : Int32) (hx1 : vp_in x1 (κ 0)) (hZ : SZ F) (hF : FD σ) (hG : GD F nu) (hgc : ¬ τ 2 x1.toNatClampNeg = 25 → ∀ i, i < mn x1.toNatClampNeg → GK (tX b x1.toNatClampNeg i - 1) F nu) : MU l yModel_look bModel_look 3 (some .int) 5 131 0 0 [.ref a, .int x1] γ Z (MD γ a B Z ν τ σ F nu) (mQi (fun r H => ∃ (σ' : Nat → Int32) (F' : Nat → Nat → Int32) (nu' : Nat → Int64), Oq (Q_look κ τ σ F nu x1) (r, σ', F', nu') ∧ MD γ a B Z ν τ σ' F' nu' H ∧ SZ F' ∧ FD σ' ∧ SL x1.toNatClampNeg F nu F' nu' ∧ (¬ 0 < r → GK x1.toNatClampNeg F' nu')) Z) := by
  refine mu_openI (by decide) (Nat.le_of_ble_eq_true rfl) ?_
  intro p e s m args below meth c ls Q S hnm hC hA hM hE hl
  have hS : va_S Z s.heap s.heap [] := va_S.rf
  obtain ⟨hx, hb, hml, hown, hW⟩ := id S
  obtain ⟨⟨hs0, hs1, hs2, hs3, hs4, hs5, hs6⟩, ⟨hv6, hv8, hv21, hv24, hv30, hv31⟩, hTR, hTY, hOB, hNM⟩ := id hT
  have hL : SL x1.toNatClampNeg F nu F nu := SL.rf
  have hl : lv_has ls 3 [(0, .ref a), (1, .int x1)] := hl
  obtain ⟨OUT, hQ, hO⟩ : ∃ z, (z = Q_look κ τ σ F nu x1) ∧ Oq z (Q_look κ τ σ F nu x1) := ⟨_, rfl, rfl⟩
  rw [← hQ] at hE
  clear hQ
  refine lv_aload_n hx hb dModel_look_0 rfl (lv_at hl 0 rfl) ?_
  refine md_gA S hC hM 4 (by decide) rfl qw_a8caa30de3 dModel_look_1 ?_
  refine lv_iload_n hx hb dModel_look_4 rfl (lv_at hl 1 rfl) ?_
  refine md_ild S hC hM 4 2 4000 (τ 4) rfl rfl (by decide) rfl rfl (vin (by assumption) (by omega)) dModel_look_5 ?_
  refine lv_topi (fun v1 ev1 => ?_)
  refine lv_istore_n (lv' := [(2, .int v1), (0, .ref a), (1, .int x1)]) hx hb dModel_look_6 rfl hl (by decide) rfl (fun ls hl => ?_)
  obtain ⟨hmn, hmx⟩ := mn_of hTR hx1 ev1
  refine lv_aload_n hx hb dModel_look_7 rfl (lv_at hl 1 rfl) ?_
  refine md_gA S hC hM 2 (by decide) rfl qw_3471296067 dModel_look_8 ?_
  refine lv_iload_n hx hb dModel_look_11 rfl (lv_at hl 2 rfl) ?_
  refine md_ild S hC hM 2 0 4000 (τ 2) rfl rfl (by decide) rfl rfl (vin (by assumption) (by omega)) dModel_look_12 ?_
  refine lv_topi (fun v2 ev2 => ?_)
  by_cases k3 : v2 = 1
  · rw [k3]
    refine lv_tableIn (tgt := 128) hx hb dModel_look_13 (by decide) (by decide) rfl (by decide) ?_
    refine lv_iload_n hx hb dModel_look_128 rfl (lv_at hl 0 rfl) ?_
    refine lv_if_le (tgt := 137) hx hb dModel_look_129 (by decide) (fun c28 => ?_) (fun c28 => ?_)
    · refine lv_aload_n hx hb dModel_look_137 rfl (lv_at hl 1 rfl) ?_
      refine lv_iload_n hx hb dModel_look_138 rfl (lv_at hl 2 rfl) ?_
      refine mu_Vi (rest := []) S hC (fun q h => hA q (Nat.le_trans hS.1 h)) (fun q h => h) hS (n_lookName l γ a B Z κ b mn ν τ σ F nu hT x1 (vin (by assumption) (by omega)) hZ hF hG) meModel_lookName qw_6af1a66e4e ⟨Nat.le_of_ble_eq_true rfl, Nat.le_of_ble_eq_true rfl⟩ (md_rv hC hM) hM rfl hl.1 rfl (Nat.le_of_ble_eq_true rfl) dModel_look_139 ⟨Nat.le_refl _, Nat.le_refl _⟩ (fun r29 H locs hPO hS _ _ => ?_)
      obtain ⟨σr29, Fr29, nur29, eOr29, hM, hZ, hF, hLr29, hRr29⟩ := hPO
      have er29 : r29 = (Q_lookName κ τ σ F nu x1).1 := by rw [eOr29.eq]
      have eσr29 : σr29 = (Q_lookName κ τ σ F nu x1).2.1 := by rw [eOr29.eq]
      have eFr29 : Fr29 = (Q_lookName κ τ σ F nu x1).2.2.1 := by rw [eOr29.eq]
      have enur29 : nur29 = (Q_lookName κ τ σ F nu x1).2.2.2 := by rw [eOr29.eq]
      clear eOr29
      have hL : SL x1.toNatClampNeg F nu Fr29 nur29 := hL.trans hLr29
      exact hE _ _ _ _ _ hS ⟨σr29, Fr29, nur29, (by subst enur29 eFr29 eσr29 er29 ev2 ev1; exact hO.tr ((if_pos k3).trans (if_pos c28))), hM, hZ, hF, hL, hRr29⟩ dModel_look_142
    · refine lv_bipush (v := 11) hx hb dModel_look_132 (by decide) ?_
      refine lv_goto (tgt := 142) hx hb dModel_look_134 (by decide) ?_
      exact hE _ _ _ _ _ hS ⟨σ, F, nu, (by subst ev2 ev1; exact hO.tr ((if_pos k3).trans (if_neg c28))), hM, hZ, hF, hL, (fun h9 => absurd (show (0 : Int32) < 11 by decide) h9)⟩ dModel_look_142
  by_cases k4 : v2 = 2
  · rw [k4]
    refine lv_tableIn (tgt := 143) hx hb dModel_look_13 (by decide) (by decide) rfl (by decide) ?_
    refine lv_aload_n hx hb dModel_look_143 rfl (lv_at hl 1 rfl) ?_
    refine lv_iload_n hx hb dModel_look_144 rfl (lv_at hl 2 rfl) ?_
    refine lv_iconst (v := 2) hx hb dModel_look_145 (by decide) ?_
    refine lv_iconst (v := 0) hx hb dModel_look_146 (by decide) ?_
    refine lv_iconst (v := 1) hx hb dModel_look_147 (by decide) ?_
    have hnr30 : ∃ j, j ≤ 1000 ∧ 0 = nI j := ⟨0, by omega, rfl⟩
    refine mu_Vv (rest := []) S hC (fun q h => hA q (Nat.le_trans hS.1 h)) (fun q h => h) hS (n_fact l γ a B Z κ b mn ν τ σ F nu hT x1 2 0 1 (vin (by assumption) (by omega)) hnr30) meModel_fact qw_02871250ec ⟨Nat.le_of_ble_eq_true rfl, Nat.le_of_ble_eq_true rfl⟩ (md_rv hC hM) hM rfl hl.1 rfl (Nat.le_of_ble_eq_true rfl) dModel_look_148 ⟨Nat.le_refl _, Nat.le_refl _⟩ (fun H locs hPO hS _ _ => ?_)
    obtain ⟨Fr30, nur30, eOr30, hM, hqr30, hcr30⟩ := hPO
    have eFr30 : Fr30 = (Q_fact κ τ σ F nu x1 2 0 1).2.1 := by rw [eOr30.eq]
    have enur30 : nur30 = (Q_fact κ τ σ F nu x1 2 0 1).2.2 := by rw [eOr30.eq]
    clear eOr30
    have hZ : SZ Fr30 := hZ.slt hqr30 hnr30
    have hL : SL x1.toNatClampNeg F nu Fr30 nur30 := hL.trans (SL.slt hqr30)
    have hK : GK x1.toNatClampNeg Fr30 nur30 := GK.zero hqr30
    refine lv_aload_n hx hb dModel_look_151 rfl (lv_at hl 1 rfl) ?_
    refine md_gA S hC hM 13 (by decide) rfl qw_7b809afc8c dModel_look_152 ?_
    refine lv_iload_n hx hb dModel_look_155 rfl (lv_at hl 2 rfl) ?_
    refine lv_aload_n hx hb dModel_look_156 rfl (lv_at hl 1 rfl) ?_
    refine md_gA S hC hM 3 (by decide) rfl qw_9fb851a5fa dModel_look_157 ?_
    refine lv_iload_n hx hb dModel_look_160 rfl (lv_at hl 2 rfl) ?_
    refine md_ild S hC hM 3 1 4000 (τ 3) rfl rfl (by decide) rfl rfl (vin (by assumption) (by omega)) dModel_look_161 ?_
    refine lv_topi (fun v31 ev31 => ?_)
    refine lv_i2l hx hb dModel_look_162 rfl ?_
    refine lv_topl (fun v32 ev32 => ?_)
    refine md_lst S hC hM hS (vin (by assumption) (by omega)) dModel_look_163 (fun H locs hM hS => ?_)
    obtain ⟨nu33, enu33⟩ : ∃ z : Nat → Int64, z = vp_updL nur30 x1.toNatClampNeg v32 := ⟨_, rfl⟩
    rw [← enu33] at hM
    have hL : SL x1.toNatClampNeg F nu Fr30 nu33 := hL.trans (by rw [enu33]; exact SL.num)
    refine lv_iload_n hx hb dModel_look_164 rfl (lv_at hl 0 rfl) ?_
    have J177 : ∀ (ls : Array Slot), (Oq OUT (Q_look_177 κ τ σ F nu x1   )) → lv_has ls 3 [(0, .ref a), (1, .int x1), (2, .int v1)] → W p l e (bs_rm 5 0 0 131) s m args below meth c H locs 0 0 Q (F0 m 177 ls []) := by
      intro ls hO hl
      refine lv_bipush (v := 11) hx hb dModel_look_177 (by decide) ?_
      refine lv_goto (tgt := 183) hx hb dModel_look_179 (by decide) ?_
      exact hE _ _ _ _ _ hS ⟨σ, Fr30, nu33, (by subst enu33 ev32 ev31 enur30 eFr30 ev2 ev1; exact hO.tr rfl), hM, hZ, hF, hL, (fun h9 => absurd (show (0 : Int32) < 11 by decide) h9)⟩ dModel_look_183
    refine lv_if_gt (tgt := 177) hx hb dModel_look_165 (by decide) (fun c37 => ?_) (fun c37 => ?_)
    · exact J177 ls (by subst enu33 ev32 ev31 enur30 eFr30 ev2 ev1; exact hO.tr ((if_neg k3).trans ((if_pos k4).trans (if_pos c37)))) (lv_sub hl [1, 2, 0] rfl)
    · refine lv_aload_n hx hb dModel_look_168 rfl (lv_at hl 1 rfl) ?_
      refine md_gA S hC hM 3 (by decide) rfl qw_9fb851a5fa dModel_look_169 ?_
      refine lv_iload_n hx hb dModel_look_172 rfl (lv_at hl 2 rfl) ?_
      refine md_ild S hC hM 3 1 4000 (τ 3) rfl rfl (by decide) rfl rfl (vin (by assumption) (by omega)) dModel_look_173 ?_
      refine lv_topi (fun v38 ev38 => ?_)
      refine lv_if_ge (tgt := 182) hx hb dModel_look_174 (by decide) (fun c39 => ?_) (fun c39 => ?_)
      · refine lv_iconst (v := 0) hx hb dModel_look_182 (by decide) ?_
        exact hE _ _ _ _ _ hS ⟨σ, Fr30, nu33, (by subst ev38 enu33 ev32 ev31 enur30 eFr30 ev2 ev1; exact hO.tr ((if_neg k3).trans ((if_pos k4).trans ((if_neg c37).trans (if_pos c39))))), hM, hZ, hF, hL, (fun _ => by rw [enu33]; exact GK.num (fun _ => vb_ok ev32 ev31 ev38 (by assumption)))⟩ dModel_look_183
      · exact J177 ls (by subst ev38 enu33 ev32 ev31 enur30 eFr30 ev2 ev1; exact hO.tr ((if_neg k3).trans ((if_pos k4).trans ((if_neg c37).trans (if_neg c39))))) (lv_sub hl [1, 2, 0] rfl)
  by_cases k5 : v2 = 3
  · rw [k5]
    refine lv_tableIn (tgt := 184) hx hb dModel_look_13 (by decide) (by decide) rfl (by decide) ?_
    refine lv_aload_n hx hb dModel_look_184 rfl (lv_at hl 1 rfl) ?_
    refine lv_iload_n hx hb dModel_look_185 rfl (lv_at hl 2 rfl) ?_
    refine lv_iconst (v := 0) hx hb dModel_look_186 (by decide) ?_
    refine lv_iconst (v := 0) hx hb dModel_look_187 (by decide) ?_
    refine lv_iconst (v := 1) hx hb dModel_look_188 (by decide) ?_
    have hnr40 : ∃ j, j ≤ 1000 ∧ 0 = nI j := ⟨0, by omega, rfl⟩
    refine mu_Vv (rest := []) S hC (fun q h => hA q (Nat.le_trans hS.1 h)) (fun q h => h) hS (n_fact l γ a B Z κ b mn ν τ σ F nu hT x1 0 0 1 (vin (by assumption) (by omega)) hnr40) meModel_fact qw_02871250ec ⟨Nat.le_of_ble_eq_true rfl, Nat.le_of_ble_eq_true rfl⟩ (md_rv hC hM) hM rfl hl.1 rfl (Nat.le_of_ble_eq_true rfl) dModel_look_189 ⟨Nat.le_refl _, Nat.le_refl _⟩ (fun H locs hPO hS _ _ => ?_)
    obtain ⟨Fr40, nur40, eOr40, hM, hqr40, hcr40⟩ := hPO
    have eFr40 : Fr40 = (Q_fact κ τ σ F nu x1 0 0 1).2.1 := by rw [eOr40.eq]
    have enur40 : nur40 = (Q_fact κ τ σ F nu x1 0 0 1).2.2 := by rw [eOr40.eq]
    clear eOr40
    have hZ : SZ Fr40 := hZ.slt hqr40 hnr40
    have hL : SL x1.toNatClampNeg F nu Fr40 nur40 := hL.trans (SL.slt hqr40)
    have hK : GK x1.toNatClampNeg Fr40 nur40 := GK.zero hqr40
    refine lv_aload_n hx hb dModel_look_192 rfl (lv_at hl 1 rfl) ?_
    refine md_gA S hC hM 13 (by decide) rfl qw_7b809afc8c dModel_look_193 ?_
    refine lv_iload_n hx hb dModel_look_196 rfl (lv_at hl 2 rfl) ?_
    refine lv_aload_n hx hb dModel_look_197 rfl (lv_at hl 1 rfl) ?_
    refine md_gA S hC hM 3 (by decide) rfl qw_9fb851a5fa dModel_look_198 ?_
    refine lv_iload_n hx hb dModel_look_201 rfl (lv_at hl 2 rfl) ?_
    refine md_ild S hC hM 3 1 4000 (τ 3) rfl rfl (by decide) rfl rfl (vin (by assumption) (by omega)) dModel_look_202 ?_
    refine lv_topi (fun v41 ev41 => ?_)
    refine lv_i2l hx hb dModel_look_203 rfl ?_
    refine lv_topl (fun v42 ev42 => ?_)
    have hgnu43 : Fr40 9 x1.toNatClampNeg = 2 → -2147483648 < (v42 : Int64).toInt ∧ (v42 : Int64).toInt < 2147483648 := (fun h9 => absurd ((slt9 hqr40).symm.trans h9) (by decide))
    refine md_lst S hC hM hS (vin (by assumption) (by omega)) dModel_look_204 (fun H locs hM hS => ?_)
    obtain ⟨nu43, enu43⟩ : ∃ z : Nat → Int64, z = vp_updL nur40 x1.toNatClampNeg v42 := ⟨_, rfl⟩
    rw [← enu43] at hM
    have hL : SL x1.toNatClampNeg F nu Fr40 nu43 := hL.trans (by rw [enu43]; exact SL.num)
    have hK : GK x1.toNatClampNeg Fr40 nu43 := by rw [enu43]; exact GK.num hgnu43
    refine lv_iload_n hx hb dModel_look_205 rfl (lv_at hl 0 rfl) ?_
    have J229 : ∀ (ls : Array Slot), (Oq OUT (Q_look_229 κ τ σ F nu x1   )) → lv_has ls 3 [(0, .ref a), (1, .int x1), (2, .int v1)] → W p l e (bs_rm 5 0 0 131) s m args below meth c H locs 0 0 Q (F0 m 229 ls []) := by
      intro ls hO hl
      refine lv_bipush (v := 11) hx hb dModel_look_229 (by decide) ?_
      refine lv_goto (tgt := 235) hx hb dModel_look_231 (by decide) ?_
      exact hE _ _ _ _ _ hS ⟨σ, Fr40, nu43, (by subst enu43 ev42 ev41 enur40 eFr40 ev2 ev1; exact hO.tr rfl), hM, hZ, hF, hL, (fun h9 => absurd (show (0 : Int32) < 11 by decide) h9)⟩ dModel_look_235
    refine lv_if_gt (tgt := 229) hx hb dModel_look_206 (by decide) (fun c49 => ?_) (fun c49 => ?_)
    · exact J229 ls (by subst enu43 ev42 ev41 enur40 eFr40 ev2 ev1; exact hO.tr ((if_neg k3).trans ((if_neg k4).trans ((if_pos k5).trans (if_pos c49))))) (lv_sub hl [1, 2, 0] rfl)
    · refine lv_aload_n hx hb dModel_look_209 rfl (lv_at hl 1 rfl) ?_
      refine md_gA S hC hM 3 (by decide) rfl qw_9fb851a5fa dModel_look_210 ?_
      refine lv_iload_n hx hb dModel_look_213 rfl (lv_at hl 2 rfl) ?_
      refine md_ild S hC hM 3 1 4000 (τ 3) rfl rfl (by decide) rfl rfl (vin (by assumption) (by omega)) dModel_look_214 ?_
      refine lv_topi (fun v50 ev50 => ?_)
      refine lv_if_lt (tgt := 229) hx hb dModel_look_215 (by decide) (fun c51 => ?_) (fun c51 => ?_)
      · exact J229 ls (by subst ev50 enu43 ev42 ev41 enur40 eFr40 ev2 ev1; exact hO.tr ((if_neg k3).trans ((if_neg k4).trans ((if_pos k5).trans ((if_neg c49).trans (if_pos c51)))))) (lv_sub hl [1, 2, 0] rfl)
      · refine lv_aload_n hx hb dModel_look_218 rfl (lv_at hl 1 rfl) ?_
        refine md_gA S hC hM 3 (by decide) rfl qw_9fb851a5fa dModel_look_219 ?_
        refine lv_iload_n hx hb dModel_look_222 rfl (lv_at hl 2 rfl) ?_
        refine md_ild S hC hM 3 1 4000 (τ 3) rfl rfl (by decide) rfl rfl (vin (by assumption) (by omega)) dModel_look_223 ?_
        refine lv_topi (fun v52 ev52 => ?_)
        refine lv_bipush (v := 8) hx hb dModel_look_224 (by decide) ?_
        refine lv_icmp_le (tgt := 234) hx hb dModel_look_226 (by decide) (fun c53 => ?_) (fun c53 => ?_)
        · refine lv_iconst (v := 0) hx hb dModel_look_234 (by decide) ?_
          exact hE _ _ _ _ _ hS ⟨σ, Fr40, nu43, (by subst ev52 ev50 enu43 ev42 ev41 enur40 eFr40 ev2 ev1; exact hO.tr ((if_neg k3).trans ((if_neg k4).trans ((if_pos k5).trans ((if_neg c49).trans ((if_neg c51).trans (if_pos c53))))))), hM, hZ, hF, hL, (fun _ => hK)⟩ dModel_look_235
        · exact J229 ls (by subst ev52 ev50 enu43 ev42 ev41 enur40 eFr40 ev2 ev1; exact hO.tr ((if_neg k3).trans ((if_neg k4).trans ((if_pos k5).trans ((if_neg c49).trans ((if_neg c51).trans (if_neg c53))))))) (lv_sub hl [1, 2, 0] rfl)
  by_cases k6 : v2 = 4
  · rw [k6]
    refine lv_tableIn (tgt := 236) hx hb dModel_look_13 (by decide) (by decide) rfl (by decide) ?_
    refine lv_aload_n hx hb dModel_look_236 rfl (lv_at hl 1 rfl) ?_
    refine lv_iload_n hx hb dModel_look_237 rfl (lv_at hl 2 rfl) ?_
    refine mu_Vi (rest := []) S hC (fun q h => hA q (Nat.le_trans hS.1 h)) (fun q h => h) hS (n_lookRow l γ a B Z κ b mn ν τ σ F nu hT x1 (vin (by assumption) (by omega)) hZ hF) meModel_lookRow qw_1225f40cc2 ⟨Nat.le_of_ble_eq_true rfl, Nat.le_of_ble_eq_true rfl⟩ (md_rv hC hM) hM rfl hl.1 rfl (Nat.le_of_ble_eq_true rfl) dModel_look_238 ⟨Nat.le_refl _, Nat.le_refl _⟩ (fun r54 H locs hPO hS _ _ => ?_)
    obtain ⟨σr54, Fr54, nur54, eOr54, hM, hZ, hF, hLr54, hRr54⟩ := hPO
    have er54 : r54 = (Q_lookRow κ τ σ F nu x1).1 := by rw [eOr54.eq]
    have eσr54 : σr54 = (Q_lookRow κ τ σ F nu x1).2.1 := by rw [eOr54.eq]
    have eFr54 : Fr54 = (Q_lookRow κ τ σ F nu x1).2.2.1 := by rw [eOr54.eq]
    have enur54 : nur54 = (Q_lookRow κ τ σ F nu x1).2.2.2 := by rw [eOr54.eq]
    clear eOr54
    have hL : SL x1.toNatClampNeg F nu Fr54 nur54 := hL.trans hLr54
    exact hE _ _ _ _ _ hS ⟨σr54, Fr54, nur54, (by subst enur54 eFr54 eσr54 er54 ev2 ev1; exact hO.tr ((if_neg k3).trans ((if_neg k4).trans ((if_neg k5).trans (if_pos k6))))), hM, hZ, hF, hL, hRr54⟩ dModel_look_241
  by_cases k7 : v2 = 5
  · rw [k7]
    refine lv_tableIn (tgt := 371) hx hb dModel_look_13 (by decide) (by decide) rfl (by decide) ?_
    refine lv_bipush (v := 11) hx hb dModel_look_371 (by decide) ?_
    exact hE _ _ _ _ _ hS ⟨σ, F, nu, (by subst ev2 ev1; exact hO.tr ((if_neg k3).trans ((if_neg k4).trans ((if_neg k5).trans ((if_neg k6).trans (if_pos k7)))))), hM, hZ, hF, hL, (fun h9 => absurd (show (0 : Int32) < 11 by decide) h9)⟩ dModel_look_373
  by_cases k8 : v2 = 6
  · rw [k8]
    refine lv_tableIn (tgt := 371) hx hb dModel_look_13 (by decide) (by decide) rfl (by decide) ?_
    refine lv_bipush (v := 11) hx hb dModel_look_371 (by decide) ?_
    exact hE _ _ _ _ _ hS ⟨σ, F, nu, (by subst ev2 ev1; exact hO.tr ((if_neg k3).trans ((if_neg k4).trans ((if_neg k5).trans ((if_neg k6).trans ((if_neg k7).trans (if_pos k8))))))), hM, hZ, hF, hL, (fun h9 => absurd (show (0 : Int32) < 11 by decide) h9)⟩ dModel_look_373
  by_cases k9 : v2 = 7
  · rw [k9]
    refine lv_tableIn (tgt := 371) hx hb dModel_look_13 (by decide) (by decide) rfl (by decide) ?_
    refine lv_bipush (v := 11) hx hb dModel_look_371 (by decide) ?_
    exact hE _ _ _ _ _ hS ⟨σ, F, nu, (by subst ev2 ev1; exact hO.tr ((if_neg k3).trans ((if_neg k4).trans ((if_neg k5).trans ((if_neg k6).trans ((if_neg k7).trans ((if_neg k8).trans (if_pos k9)))))))), hM, hZ, hF, hL, (fun h9 => absurd (show (0 : Int32) < 11 by decide) h9)⟩ dModel_look_373
  by_cases k10 : v2 = 8
  · rw [k10]
    refine lv_tableIn (tgt := 371) hx hb dModel_look_13 (by decide) (by decide) rfl (by decide) ?_
    refine lv_bipush (v := 11) hx hb dModel_look_371 (by decide) ?_
    exact hE _ _ _ _ _ hS ⟨σ, F, nu, (by subst ev2 ev1; exact hO.tr ((if_neg k3).trans ((if_neg k4).trans ((if_neg k5).trans ((if_neg k6).trans ((if_neg k7).trans ((if_neg k8).trans ((if_neg k9).trans (if_pos k10))))))))), hM, hZ, hF, hL, (fun h9 => absurd (show (0 : Int32) < 11 by decide) h9)⟩ dModel_look_373
  by_cases k11 : v2 = 9
  · rw [k11]
    refine lv_tableIn (tgt := 371) hx hb dModel_look_13 (by decide) (by decide) rfl (by decide) ?_
    refine lv_bipush (v := 11) hx hb dModel_look_371 (by decide) ?_
    exact hE _ _ _ _ _ hS ⟨σ, F, nu, (by subst ev2 ev1; exact hO.tr ((if_neg k3).trans ((if_neg k4).trans ((if_neg k5).trans ((if_neg k6).trans ((if_neg k7).trans ((if_neg k8).trans ((if_neg k9).trans ((if_neg k10).trans (if_pos k11)))))))))), hM, hZ, hF, hL, (fun h9 => absurd (show (0 : Int32) < 11 by decide) h9)⟩ dModel_look_373
  by_cases k12 : v2 = 10
  · rw [k12]
    refine lv_tableIn (tgt := 371) hx hb dModel_look_13 (by decide) (by decide) rfl (by decide) ?_
    refine lv_bipush (v := 11) hx hb dModel_look_371 (by decide) ?_
    exact hE _ _ _ _ _ hS ⟨σ, F, nu, (by subst ev2 ev1; exact hO.tr ((if_neg k3).trans ((if_neg k4).trans ((if_neg k5).trans ((if_neg k6).trans ((if_neg k7).trans ((if_neg k8).trans ((if_neg k9).trans ((if_neg k10).trans ((if_neg k11).trans (if_pos k12))))))))))), hM, hZ, hF, hL, (fun h9 => absurd (show (0 : Int32) < 11 by decide) h9)⟩ dModel_look_373
  by_cases k13 : v2 = 11
  · rw [k13]
    refine lv_tableIn (tgt := 371) hx hb dModel_look_13 (by decide) (by decide) rfl (by decide) ?_
    refine lv_bipush (v := 11) hx hb dModel_look_371 (by decide) ?_
    exact hE _ _ _ _ _ hS ⟨σ, F, nu, (by subst ev2 ev1; exact hO.tr ((if_neg k3).trans ((if_neg k4).trans ((if_neg k5).trans ((if_neg k6).trans ((if_neg k7).trans ((if_neg k8).trans ((if_neg k9).trans ((if_neg k10).trans ((if_neg k11).trans ((if_neg k12).trans (if_pos k13)))))))))))), hM, hZ, hF, hL, (fun h9 => absurd (show (0 : Int32) < 11 by decide) h9)⟩ dModel_look_373
  by_cases k14 : v2 = 12
  · rw [k14]
    refine lv_tableIn (tgt := 371) hx hb dModel_look_13 (by decide) (by decide) rfl (by decide) ?_
    refine lv_bipush (v := 11) hx hb dModel_look_371 (by decide) ?_
    exact hE _ _ _ _ _ hS ⟨σ, F, nu, (by subst ev2 ev1; exact hO.tr ((if_neg k3).trans ((if_neg k4).trans ((if_neg k5).trans ((if_neg k6).trans ((if_neg k7).trans ((if_neg k8).trans ((if_neg k9).trans ((if_neg k10).trans ((if_neg k11).trans ((if_neg k12).trans ((if_neg k13).trans (if_pos k14))))))))))))), hM, hZ, hF, hL, (fun h9 => absurd (show (0 : Int32) < 11 by decide) h9)⟩ dModel_look_373
  by_cases k15 : v2 = 13
  · rw [k15]
    refine lv_tableIn (tgt := 371) hx hb dModel_look_13 (by decide) (by decide) rfl (by decide) ?_
    refine lv_bipush (v := 11) hx hb dModel_look_371 (by decide) ?_
    exact hE _ _ _ _ _ hS ⟨σ, F, nu, (by subst ev2 ev1; exact hO.tr ((if_neg k3).trans ((if_neg k4).trans ((if_neg k5).trans ((if_neg k6).trans ((if_neg k7).trans ((if_neg k8).trans ((if_neg k9).trans ((if_neg k10).trans ((if_neg k11).trans ((if_neg k12).trans ((if_neg k13).trans ((if_neg k14).trans (if_pos k15)))))))))))))), hM, hZ, hF, hL, (fun h9 => absurd (show (0 : Int32) < 11 by decide) h9)⟩ dModel_look_373
  by_cases k16 : v2 = 14
  · rw [k16]
    refine lv_tableIn (tgt := 371) hx hb dModel_look_13 (by decide) (by decide) rfl (by decide) ?_
    refine lv_bipush (v := 11) hx hb dModel_look_371 (by decide) ?_
    exact hE _ _ _ _ _ hS ⟨σ, F, nu, (by subst ev2 ev1; exact hO.tr ((if_neg k3).trans ((if_neg k4).trans ((if_neg k5).trans ((if_neg k6).trans ((if_neg k7).trans ((if_neg k8).trans ((if_neg k9).trans ((if_neg k10).trans ((if_neg k11).trans ((if_neg k12).trans ((if_neg k13).trans ((if_neg k14).trans ((if_neg k15).trans (if_pos k16))))))))))))))), hM, hZ, hF, hL, (fun h9 => absurd (show (0 : Int32) < 11 by decide) h9)⟩ dModel_look_373
  by_cases k17 : v2 = 15
  · rw [k17]
    refine lv_tableIn (tgt := 371) hx hb dModel_look_13 (by decide) (by decide) rfl (by decide) ?_
    refine lv_bipush (v := 11) hx hb dModel_look_371 (by decide) ?_
    exact hE _ _ _ _ _ hS ⟨σ, F, nu, (by subst ev2 ev1; exact hO.tr ((if_neg k3).trans ((if_neg k4).trans ((if_neg k5).trans ((if_neg k6).trans ((if_neg k7).trans ((if_neg k8).trans ((if_neg k9).trans ((if_neg k10).trans ((if_neg k11).trans ((if_neg k12).trans ((if_neg k13).trans ((if_neg k14).trans ((if_neg k15).trans ((if_neg k16).trans (if_pos k17)))))))))))))))), hM, hZ, hF, hL, (fun h9 => absurd (show (0 : Int32) < 11 by decide) h9)⟩ dModel_look_373
  by_cases k18 : v2 = 16
  · rw [k18]
    refine lv_tableIn (tgt := 371) hx hb dModel_look_13 (by decide) (by decide) rfl (by decide) ?_
    refine lv_bipush (v := 11) hx hb dModel_look_371 (by decide) ?_
    exact hE _ _ _ _ _ hS ⟨σ, F, nu, (by subst ev2 ev1; exact hO.tr ((if_neg k3).trans ((if_neg k4).trans ((if_neg k5).trans ((if_neg k6).trans ((if_neg k7).trans ((if_neg k8).trans ((if_neg k9).trans ((if_neg k10).trans ((if_neg k11).trans ((if_neg k12).trans ((if_neg k13).trans ((if_neg k14).trans ((if_neg k15).trans ((if_neg k16).trans ((if_neg k17).trans (if_pos k18))))))))))))))))), hM, hZ, hF, hL, (fun h9 => absurd (show (0 : Int32) < 11 by decide) h9)⟩ dModel_look_373
  by_cases k19 : v2 = 17
  · rw [k19]
    refine lv_tableIn (tgt := 371) hx hb dModel_look_13 (by decide) (by decide) rfl (by decide) ?_
    refine lv_bipush (v := 11) hx hb dModel_look_371 (by decide) ?_
    exact hE _ _ _ _ _ hS ⟨σ, F, nu, (by subst ev2 ev1; exact hO.tr ((if_neg k3).trans ((if_neg k4).trans ((if_neg k5).trans ((if_neg k6).trans ((if_neg k7).trans ((if_neg k8).trans ((if_neg k9).trans ((if_neg k10).trans ((if_neg k11).trans ((if_neg k12).trans ((if_neg k13).trans ((if_neg k14).trans ((if_neg k15).trans ((if_neg k16).trans ((if_neg k17).trans ((if_neg k18).trans (if_pos k19)))))))))))))))))), hM, hZ, hF, hL, (fun h9 => absurd (show (0 : Int32) < 11 by decide) h9)⟩ dModel_look_373
  by_cases k20 : v2 = 18
  · rw [k20]
    refine lv_tableIn (tgt := 371) hx hb dModel_look_13 (by decide) (by decide) rfl (by decide) ?_
    refine lv_bipush (v := 11) hx hb dModel_look_371 (by decide) ?_
    exact hE _ _ _ _ _ hS ⟨σ, F, nu, (by subst ev2 ev1; exact hO.tr ((if_neg k3).trans ((if_neg k4).trans ((if_neg k5).trans ((if_neg k6).trans ((if_neg k7).trans ((if_neg k8).trans ((if_neg k9).trans ((if_neg k10).trans ((if_neg k11).trans ((if_neg k12).trans ((if_neg k13).trans ((if_neg k14).trans ((if_neg k15).trans ((if_neg k16).trans ((if_neg k17).trans ((if_neg k18).trans ((if_neg k19).trans (if_pos k20))))))))))))))))))), hM, hZ, hF, hL, (fun h9 => absurd (show (0 : Int32) < 11 by decide) h9)⟩ dModel_look_373
  by_cases k21 : v2 = 19
  · rw [k21]
    refine lv_tableIn (tgt := 371) hx hb dModel_look_13 (by decide) (by decide) rfl (by decide) ?_
    refine lv_bipush (v := 11) hx hb dModel_look_371 (by decide) ?_
    exact hE _ _ _ _ _ hS ⟨σ, F, nu, (by subst ev2 ev1; exact hO.tr ((if_neg k3).trans ((if_neg k4).trans ((if_neg k5).trans ((if_neg k6).trans ((if_neg k7).trans ((if_neg k8).trans ((if_neg k9).trans ((if_neg k10).trans ((if_neg k11).trans ((if_neg k12).trans ((if_neg k13).trans ((if_neg k14).trans ((if_neg k15).trans ((if_neg k16).trans ((if_neg k17).trans ((if_neg k18).trans ((if_neg k19).trans ((if_neg k20).trans (if_pos k21)))))))))))))))))))), hM, hZ, hF, hL, (fun h9 => absurd (show (0 : Int32) < 11 by decide) h9)⟩ dModel_look_373
  by_cases k22 : v2 = 20
  · rw [k22]
    refine lv_tableIn (tgt := 242) hx hb dModel_look_13 (by decide) (by decide) rfl (by decide) ?_
    refine lv_iload_n hx hb dModel_look_242 rfl (lv_at hl 0 rfl) ?_
    refine lv_iconst (v := 1) hx hb dModel_look_243 (by decide) ?_
    have J266 : ∀ (ls : Array Slot), (Oq OUT (Q_look_266 κ τ σ F nu x1   )) → lv_has ls 3 [(0, .ref a), (1, .int x1), (2, .int v1)] → W p l e (bs_rm 5 0 0 131) s m args below meth c s.heap [] 0 0 Q (F0 m 266 ls []) := by
      intro ls hO hl
      refine lv_bipush (v := 11) hx hb dModel_look_266 (by decide) ?_
      refine lv_goto (tgt := 282) hx hb dModel_look_268 (by decide) ?_
      exact hE _ _ _ _ _ hS ⟨σ, F, nu, (by subst ev2 ev1; exact hO.tr rfl), hM, hZ, hF, hL, (fun h9 => absurd (show (0 : Int32) < 11 by decide) h9)⟩ dModel_look_282
    refine lv_icmp_ne (tgt := 266) hx hb dModel_look_244 (by decide) (fun c62 => ?_) (fun c62 => ?_)
    · exact J266 ls (by subst ev2 ev1; exact hO.tr ((if_neg k3).trans ((if_neg k4).trans ((if_neg k5).trans ((if_neg k6).trans ((if_neg k7).trans ((if_neg k8).trans ((if_neg k9).trans ((if_neg k10).trans ((if_neg k11).trans ((if_neg k12).trans ((if_neg k13).trans ((if_neg k14).trans ((if_neg k15).trans ((if_neg k16).trans ((if_neg k17).trans ((if_neg k18).trans ((if_neg k19).trans ((if_neg k20).trans ((if_neg k21).trans ((if_pos k22).trans (if_neg c62)))))))))))))))))))))) (lv_sub hl [1, 2, 0] rfl)
    · refine lv_aload_n hx hb dModel_look_247 rfl (lv_at hl 1 rfl) ?_
      refine md_gA S hC hM 3 (by decide) rfl qw_9fb851a5fa dModel_look_248 ?_
      refine lv_iload_n hx hb dModel_look_251 rfl (lv_at hl 2 rfl) ?_
      refine md_ild S hC hM 3 1 4000 (τ 3) rfl rfl (by decide) rfl rfl (vin (by assumption) (by omega)) dModel_look_252 ?_
      refine lv_topi (fun v63 ev63 => ?_)
      refine lv_if_lt (tgt := 266) hx hb dModel_look_253 (by decide) (fun c64 => ?_) (fun c64 => ?_)
      · exact J266 ls (by subst ev63 ev2 ev1; exact hO.tr ((if_neg k3).trans ((if_neg k4).trans ((if_neg k5).trans ((if_neg k6).trans ((if_neg k7).trans ((if_neg k8).trans ((if_neg k9).trans ((if_neg k10).trans ((if_neg k11).trans ((if_neg k12).trans ((if_neg k13).trans ((if_neg k14).trans ((if_neg k15).trans ((if_neg k16).trans ((if_neg k17).trans ((if_neg k18).trans ((if_neg k19).trans ((if_neg k20).trans ((if_neg k21).trans ((if_pos k22).trans ((if_pos c62).trans (if_pos c64))))))))))))))))))))))) (lv_sub hl [1, 2, 0] rfl)
      · refine lv_aload_n hx hb dModel_look_256 rfl (lv_at hl 1 rfl) ?_
        refine md_gA S hC hM 3 (by decide) rfl qw_9fb851a5fa dModel_look_257 ?_
        refine lv_iload_n hx hb dModel_look_260 rfl (lv_at hl 2 rfl) ?_
        refine md_ild S hC hM 3 1 4000 (τ 3) rfl rfl (by decide) rfl rfl (vin (by assumption) (by omega)) dModel_look_261 ?_
        refine lv_topi (fun v65 ev65 => ?_)
        refine lv_iconst (v := 3) hx hb dModel_look_262 (by decide) ?_
        refine lv_icmp_le (tgt := 271) hx hb dModel_look_263 (by decide) (fun c66 => ?_) (fun c66 => ?_)
        · have hm1 := mn_eq1 hTR hx1 ev1 (by assumption)
          refine lv_aload_n hx hb dModel_look_271 rfl (lv_at hl 1 rfl) ?_
          refine lv_iload_n hx hb dModel_look_272 rfl (lv_at hl 2 rfl) ?_
          refine lv_aload_n hx hb dModel_look_273 rfl (lv_at hl 1 rfl) ?_
          refine lv_iload_n hx hb dModel_look_274 rfl (lv_at hl 2 rfl) ?_
          refine lv_iconst (v := 0) hx hb dModel_look_275 (by decide) ?_
          have hpr67 : vp_in x1 (κ 0) := (vin (by assumption) (by omega))
          have hjr67 : vp_in 0 (mn x1.toNatClampNeg) := (vp0 (by omega) (by omega))
          refine pu_Vi (rest := [.int x1, .ref a]) S hC (n_child l γ a B Z κ b mn ν τ σ F nu hT x1 0 hpr67 hjr67) meModel_child qw_a66d450e0a ⟨Nat.le_of_ble_eq_true rfl, Nat.le_of_ble_eq_true rfl⟩ (md_rv hC hM) hM rfl hl.1 rfl (Nat.le_of_ble_eq_true rfl) dModel_look_276 ⟨Nat.zero_le _, Nat.zero_le _⟩ (fun r67 hr67 => ?_)
          obtain ⟨hr67, er67⟩ := hr67
          obtain ⟨hir67, hltr67, hxr67⟩ := ch_in hTR hs0 hpr67 hjr67 hr67
          refine mu_Vi (rest := []) S hC (fun q h => hA q (Nat.le_trans hS.1 h)) (fun q h => h) hS (n_lookUnary l γ a B Z κ b mn ν τ σ F nu hT x1 r67 (vin (by assumption) (by omega)) (vin (by assumption) (by omega)) (by assumption) hZ hF (by rw [hxr67]; exact hgc (by rw [← ev2, show v2 = 20 by assumption]; decide) _ (vix hjr67))) meModel_lookUnary qw_90669a19fa ⟨Nat.le_of_ble_eq_true rfl, Nat.le_of_ble_eq_true rfl⟩ (md_rv hC hM) hM rfl hl.1 rfl (Nat.le_of_ble_eq_true rfl) dModel_look_279 ⟨Nat.le_refl _, Nat.le_refl _⟩ (fun r68 H locs hPO hS _ _ => ?_)
          obtain ⟨σr68, Fr68, nur68, eOr68, hM, hZ, hF, hLr68, hRr68⟩ := hPO
          have er68 : r68 = (Q_lookUnary κ τ σ F nu x1 r67).1 := by rw [eOr68.eq]
          have eσr68 : σr68 = (Q_lookUnary κ τ σ F nu x1 r67).2.1 := by rw [eOr68.eq]
          have eFr68 : Fr68 = (Q_lookUnary κ τ σ F nu x1 r67).2.2.1 := by rw [eOr68.eq]
          have enur68 : nur68 = (Q_lookUnary κ τ σ F nu x1 r67).2.2.2 := by rw [eOr68.eq]
          clear eOr68
          have hL : SL x1.toNatClampNeg F nu Fr68 nur68 := hL.trans hLr68
          exact hE _ _ _ _ _ hS ⟨σr68, Fr68, nur68, (by subst enur68 eFr68 eσr68 er68 er67 ev65 ev63 ev2 ev1; exact hO.tr ((if_neg k3).trans ((if_neg k4).trans ((if_neg k5).trans ((if_neg k6).trans ((if_neg k7).trans ((if_neg k8).trans ((if_neg k9).trans ((if_neg k10).trans ((if_neg k11).trans ((if_neg k12).trans ((if_neg k13).trans ((if_neg k14).trans ((if_neg k15).trans ((if_neg k16).trans ((if_neg k17).trans ((if_neg k18).trans ((if_neg k19).trans ((if_neg k20).trans ((if_neg k21).trans ((if_pos k22).trans ((if_pos c62).trans ((if_neg c64).trans (if_pos c66)))))))))))))))))))))))), hM, hZ, hF, hL, hRr68⟩ dModel_look_282
        · exact J266 ls (by subst ev65 ev63 ev2 ev1; exact hO.tr ((if_neg k3).trans ((if_neg k4).trans ((if_neg k5).trans ((if_neg k6).trans ((if_neg k7).trans ((if_neg k8).trans ((if_neg k9).trans ((if_neg k10).trans ((if_neg k11).trans ((if_neg k12).trans ((if_neg k13).trans ((if_neg k14).trans ((if_neg k15).trans ((if_neg k16).trans ((if_neg k17).trans ((if_neg k18).trans ((if_neg k19).trans ((if_neg k20).trans ((if_neg k21).trans ((if_pos k22).trans ((if_pos c62).trans ((if_neg c64).trans (if_neg c66)))))))))))))))))))))))) (lv_sub hl [1, 2, 0] rfl)
  by_cases k23 : v2 = 21
  · rw [k23]
    refine lv_tableIn (tgt := 283) hx hb dModel_look_13 (by decide) (by decide) rfl (by decide) ?_
    refine lv_iload_n hx hb dModel_look_283 rfl (lv_at hl 0 rfl) ?_
    refine lv_iconst (v := 2) hx hb dModel_look_284 (by decide) ?_
    have J308 : ∀ (ls : Array Slot), (Oq OUT (Q_look_308 κ τ σ F nu x1   )) → lv_has ls 3 [(0, .ref a), (1, .int x1), (2, .int v1)] → W p l e (bs_rm 5 0 0 131) s m args below meth c s.heap [] 0 0 Q (F0 m 308 ls []) := by
      intro ls hO hl
      refine lv_bipush (v := 11) hx hb dModel_look_308 (by decide) ?_
      refine lv_goto (tgt := 330) hx hb dModel_look_310 (by decide) ?_
      exact hE _ _ _ _ _ hS ⟨σ, F, nu, (by subst ev2 ev1; exact hO.tr rfl), hM, hZ, hF, hL, (fun h9 => absurd (show (0 : Int32) < 11 by decide) h9)⟩ dModel_look_330
    refine lv_icmp_ne (tgt := 308) hx hb dModel_look_285 (by decide) (fun c77 => ?_) (fun c77 => ?_)
    · exact J308 ls (by subst ev2 ev1; exact hO.tr ((if_neg k3).trans ((if_neg k4).trans ((if_neg k5).trans ((if_neg k6).trans ((if_neg k7).trans ((if_neg k8).trans ((if_neg k9).trans ((if_neg k10).trans ((if_neg k11).trans ((if_neg k12).trans ((if_neg k13).trans ((if_neg k14).trans ((if_neg k15).trans ((if_neg k16).trans ((if_neg k17).trans ((if_neg k18).trans ((if_neg k19).trans ((if_neg k20).trans ((if_neg k21).trans ((if_neg k22).trans ((if_pos k23).trans (if_neg c77))))))))))))))))))))))) (lv_sub hl [1, 2, 0] rfl)
    · refine lv_aload_n hx hb dModel_look_288 rfl (lv_at hl 1 rfl) ?_
      refine md_gA S hC hM 3 (by decide) rfl qw_9fb851a5fa dModel_look_289 ?_
      refine lv_iload_n hx hb dModel_look_292 rfl (lv_at hl 2 rfl) ?_
      refine md_ild S hC hM 3 1 4000 (τ 3) rfl rfl (by decide) rfl rfl (vin (by assumption) (by omega)) dModel_look_293 ?_
      refine lv_topi (fun v78 ev78 => ?_)
      refine lv_if_lt (tgt := 308) hx hb dModel_look_294 (by decide) (fun c79 => ?_) (fun c79 => ?_)
      · exact J308 ls (by subst ev78 ev2 ev1; exact hO.tr ((if_neg k3).trans ((if_neg k4).trans ((if_neg k5).trans ((if_neg k6).trans ((if_neg k7).trans ((if_neg k8).trans ((if_neg k9).trans ((if_neg k10).trans ((if_neg k11).trans ((if_neg k12).trans ((if_neg k13).trans ((if_neg k14).trans ((if_neg k15).trans ((if_neg k16).trans ((if_neg k17).trans ((if_neg k18).trans ((if_neg k19).trans ((if_neg k20).trans ((if_neg k21).trans ((if_neg k22).trans ((if_pos k23).trans ((if_pos c77).trans (if_pos c79)))))))))))))))))))))))) (lv_sub hl [1, 2, 0] rfl)
      · refine lv_aload_n hx hb dModel_look_297 rfl (lv_at hl 1 rfl) ?_
        refine md_gA S hC hM 3 (by decide) rfl qw_9fb851a5fa dModel_look_298 ?_
        refine lv_iload_n hx hb dModel_look_301 rfl (lv_at hl 2 rfl) ?_
        refine md_ild S hC hM 3 1 4000 (τ 3) rfl rfl (by decide) rfl rfl (vin (by assumption) (by omega)) dModel_look_302 ?_
        refine lv_topi (fun v80 ev80 => ?_)
        refine lv_bipush (v := 20) hx hb dModel_look_303 (by decide) ?_
        refine lv_icmp_le (tgt := 313) hx hb dModel_look_305 (by decide) (fun c81 => ?_) (fun c81 => ?_)
        · have hm1 := mn_eq2 hTR hx1 ev1 (by assumption)
          refine lv_aload_n hx hb dModel_look_313 rfl (lv_at hl 1 rfl) ?_
          refine lv_iload_n hx hb dModel_look_314 rfl (lv_at hl 2 rfl) ?_
          refine lv_aload_n hx hb dModel_look_315 rfl (lv_at hl 1 rfl) ?_
          refine lv_iload_n hx hb dModel_look_316 rfl (lv_at hl 2 rfl) ?_
          refine lv_iconst (v := 1) hx hb dModel_look_317 (by decide) ?_
          have hpr82 : vp_in x1 (κ 0) := (vin (by assumption) (by omega))
          have hjr82 : vp_in 1 (mn x1.toNatClampNeg) := (vp1 (by omega) (by omega))
          refine pu_Vi (rest := [.int x1, .ref a]) S hC (n_child l γ a B Z κ b mn ν τ σ F nu hT x1 1 hpr82 hjr82) meModel_child qw_a66d450e0a ⟨Nat.le_of_ble_eq_true rfl, Nat.le_of_ble_eq_true rfl⟩ (md_rv hC hM) hM rfl hl.1 rfl (Nat.le_of_ble_eq_true rfl) dModel_look_318 ⟨Nat.zero_le _, Nat.zero_le _⟩ (fun r82 hr82 => ?_)
          obtain ⟨hr82, er82⟩ := hr82
          obtain ⟨hir82, hltr82, hxr82⟩ := ch_in hTR hs0 hpr82 hjr82 hr82
          refine lv_aload_n hx hb dModel_look_321 rfl (lv_at hl 1 rfl) ?_
          refine lv_iload_n hx hb dModel_look_322 rfl (lv_at hl 2 rfl) ?_
          refine lv_iconst (v := 0) hx hb dModel_look_323 (by decide) ?_
          have hpr83 : vp_in x1 (κ 0) := (vin (by assumption) (by omega))
          have hjr83 : vp_in 0 (mn x1.toNatClampNeg) := (vp0 (by omega) (by omega))
          refine pu_Vi (rest := [.int r82, .int x1, .ref a]) S hC (n_child l γ a B Z κ b mn ν τ σ F nu hT x1 0 hpr83 hjr83) meModel_child qw_a66d450e0a ⟨Nat.le_of_ble_eq_true rfl, Nat.le_of_ble_eq_true rfl⟩ (md_rv hC hM) hM rfl hl.1 rfl (Nat.le_of_ble_eq_true rfl) dModel_look_324 ⟨Nat.zero_le _, Nat.zero_le _⟩ (fun r83 hr83 => ?_)
          obtain ⟨hr83, er83⟩ := hr83
          obtain ⟨hir83, hltr83, hxr83⟩ := ch_in hTR hs0 hpr83 hjr83 hr83
          refine mu_Vi (rest := []) S hC (fun q h => hA q (Nat.le_trans hS.1 h)) (fun q h => h) hS (n_lookBinary l γ a B Z κ b mn ν τ σ F nu hT x1 r82 r83 (vin (by assumption) (by omega)) (vin (by assumption) (by omega)) (vin (by assumption) (by omega)) (by assumption) (by assumption) hZ hF) meModel_lookBinary qw_3d76e3b1f6 ⟨Nat.le_of_ble_eq_true rfl, Nat.le_of_ble_eq_true rfl⟩ (md_rv hC hM) hM rfl hl.1 rfl (Nat.le_of_ble_eq_true rfl) dModel_look_327 ⟨Nat.le_refl _, Nat.le_refl _⟩ (fun r84 H locs hPO hS _ _ => ?_)
          obtain ⟨σr84, Fr84, nur84, eOr84, hM, hZ, hF, hLr84, hRr84⟩ := hPO
          have er84 : r84 = (Q_lookBinary κ τ σ F nu x1 r82 r83).1 := by rw [eOr84.eq]
          have eσr84 : σr84 = (Q_lookBinary κ τ σ F nu x1 r82 r83).2.1 := by rw [eOr84.eq]
          have eFr84 : Fr84 = (Q_lookBinary κ τ σ F nu x1 r82 r83).2.2.1 := by rw [eOr84.eq]
          have enur84 : nur84 = (Q_lookBinary κ τ σ F nu x1 r82 r83).2.2.2 := by rw [eOr84.eq]
          clear eOr84
          have hL : SL x1.toNatClampNeg F nu Fr84 nur84 := hL.trans hLr84
          exact hE _ _ _ _ _ hS ⟨σr84, Fr84, nur84, (by subst enur84 eFr84 eσr84 er84 er83 er82 ev80 ev78 ev2 ev1; exact hO.tr ((if_neg k3).trans ((if_neg k4).trans ((if_neg k5).trans ((if_neg k6).trans ((if_neg k7).trans ((if_neg k8).trans ((if_neg k9).trans ((if_neg k10).trans ((if_neg k11).trans ((if_neg k12).trans ((if_neg k13).trans ((if_neg k14).trans ((if_neg k15).trans ((if_neg k16).trans ((if_neg k17).trans ((if_neg k18).trans ((if_neg k19).trans ((if_neg k20).trans ((if_neg k21).trans ((if_neg k22).trans ((if_pos k23).trans ((if_pos c77).trans ((if_neg c79).trans (if_pos c81))))))))))))))))))))))))), hM, hZ, hF, hL, hRr84⟩ dModel_look_330
        · exact J308 ls (by subst ev80 ev78 ev2 ev1; exact hO.tr ((if_neg k3).trans ((if_neg k4).trans ((if_neg k5).trans ((if_neg k6).trans ((if_neg k7).trans ((if_neg k8).trans ((if_neg k9).trans ((if_neg k10).trans ((if_neg k11).trans ((if_neg k12).trans ((if_neg k13).trans ((if_neg k14).trans ((if_neg k15).trans ((if_neg k16).trans ((if_neg k17).trans ((if_neg k18).trans ((if_neg k19).trans ((if_neg k20).trans ((if_neg k21).trans ((if_neg k22).trans ((if_pos k23).trans ((if_pos c77).trans ((if_neg c79).trans (if_neg c81))))))))))))))))))))))))) (lv_sub hl [1, 2, 0] rfl)
  by_cases k24 : v2 = 22
  · rw [k24]
    refine lv_tableIn (tgt := 331) hx hb dModel_look_13 (by decide) (by decide) rfl (by decide) ?_
    refine lv_aload_n hx hb dModel_look_331 rfl (lv_at hl 1 rfl) ?_
    refine lv_iload_n hx hb dModel_look_332 rfl (lv_at hl 2 rfl) ?_
    refine mu_Vi (rest := []) S hC (fun q h => hA q (Nat.le_trans hS.1 h)) (fun q h => h) hS (n_lookApply l γ a B Z κ b mn ν τ σ F nu hT x1 (vin (by assumption) (by omega)) hZ hF) meModel_lookApply qw_a9a4545182 ⟨Nat.le_of_ble_eq_true rfl, Nat.le_of_ble_eq_true rfl⟩ (md_rv hC hM) hM rfl hl.1 rfl (Nat.le_of_ble_eq_true rfl) dModel_look_333 ⟨Nat.le_refl _, Nat.le_refl _⟩ (fun r85 H locs hPO hS _ _ => ?_)
    obtain ⟨σr85, Fr85, nur85, eOr85, hM, hZ, hF, hLr85, hRr85⟩ := hPO
    have er85 : r85 = (Q_lookApply κ τ σ F nu x1).1 := by rw [eOr85.eq]
    have eσr85 : σr85 = (Q_lookApply κ τ σ F nu x1).2.1 := by rw [eOr85.eq]
    have eFr85 : Fr85 = (Q_lookApply κ τ σ F nu x1).2.2.1 := by rw [eOr85.eq]
    have enur85 : nur85 = (Q_lookApply κ τ σ F nu x1).2.2.2 := by rw [eOr85.eq]
    clear eOr85
    have hL : SL x1.toNatClampNeg F nu Fr85 nur85 := hL.trans hLr85
    exact hE _ _ _ _ _ hS ⟨σr85, Fr85, nur85, (by subst enur85 eFr85 eσr85 er85 ev2 ev1; exact hO.tr ((if_neg k3).trans ((if_neg k4).trans ((if_neg k5).trans ((if_neg k6).trans ((if_neg k7).trans ((if_neg k8).trans ((if_neg k9).trans ((if_neg k10).trans ((if_neg k11).trans ((if_neg k12).trans ((if_neg k13).trans ((if_neg k14).trans ((if_neg k15).trans ((if_neg k16).trans ((if_neg k17).trans ((if_neg k18).trans ((if_neg k19).trans ((if_neg k20).trans ((if_neg k21).trans ((if_neg k22).trans ((if_neg k23).trans (if_pos k24))))))))))))))))))))))), hM, hZ, hF, hL, hRr85⟩ dModel_look_336
  by_cases k25 : v2 = 23
  · rw [k25]
    refine lv_tableIn (tgt := 337) hx hb dModel_look_13 (by decide) (by decide) rfl (by decide) ?_
    refine lv_iload_n hx hb dModel_look_337 rfl (lv_at hl 0 rfl) ?_
    refine lv_iconst (v := 2) hx hb dModel_look_338 (by decide) ?_
    refine lv_icmp_eq (tgt := 347) hx hb dModel_look_339 (by decide) (fun c86 => ?_) (fun c86 => ?_)
    · have hm1 := mn_eq2 hTR hx1 ev1 (by assumption)
      refine lv_aload_n hx hb dModel_look_347 rfl (lv_at hl 1 rfl) ?_
      refine lv_iload_n hx hb dModel_look_348 rfl (lv_at hl 2 rfl) ?_
      refine lv_aload_n hx hb dModel_look_349 rfl (lv_at hl 1 rfl) ?_
      refine lv_iload_n hx hb dModel_look_350 rfl (lv_at hl 2 rfl) ?_
      refine lv_iconst (v := 1) hx hb dModel_look_351 (by decide) ?_
      have hpr87 : vp_in x1 (κ 0) := (vin (by assumption) (by omega))
      have hjr87 : vp_in 1 (mn x1.toNatClampNeg) := (vp1 (by omega) (by omega))
      refine pu_Vi (rest := [.int x1, .ref a]) S hC (n_child l γ a B Z κ b mn ν τ σ F nu hT x1 1 hpr87 hjr87) meModel_child qw_a66d450e0a ⟨Nat.le_of_ble_eq_true rfl, Nat.le_of_ble_eq_true rfl⟩ (md_rv hC hM) hM rfl hl.1 rfl (Nat.le_of_ble_eq_true rfl) dModel_look_352 ⟨Nat.zero_le _, Nat.zero_le _⟩ (fun r87 hr87 => ?_)
      obtain ⟨hr87, er87⟩ := hr87
      obtain ⟨hir87, hltr87, hxr87⟩ := ch_in hTR hs0 hpr87 hjr87 hr87
      refine lv_aload_n hx hb dModel_look_355 rfl (lv_at hl 1 rfl) ?_
      refine lv_iload_n hx hb dModel_look_356 rfl (lv_at hl 2 rfl) ?_
      refine lv_iconst (v := 0) hx hb dModel_look_357 (by decide) ?_
      have hpr88 : vp_in x1 (κ 0) := (vin (by assumption) (by omega))
      have hjr88 : vp_in 0 (mn x1.toNatClampNeg) := (vp0 (by omega) (by omega))
      refine pu_Vi (rest := [.int r87, .int x1, .ref a]) S hC (n_child l γ a B Z κ b mn ν τ σ F nu hT x1 0 hpr88 hjr88) meModel_child qw_a66d450e0a ⟨Nat.le_of_ble_eq_true rfl, Nat.le_of_ble_eq_true rfl⟩ (md_rv hC hM) hM rfl hl.1 rfl (Nat.le_of_ble_eq_true rfl) dModel_look_358 ⟨Nat.zero_le _, Nat.zero_le _⟩ (fun r88 hr88 => ?_)
      obtain ⟨hr88, er88⟩ := hr88
      obtain ⟨hir88, hltr88, hxr88⟩ := ch_in hTR hs0 hpr88 hjr88 hr88
      refine mu_Vi (rest := []) S hC (fun q h => hA q (Nat.le_trans hS.1 h)) (fun q h => h) hS (n_lookSlice l γ a B Z κ b mn ν τ σ F nu hT x1 r87 r88 (vin (by assumption) (by omega)) (vin (by assumption) (by omega)) (vin (by assumption) (by omega)) (by assumption) (by assumption) hZ hF) meModel_lookSlice qw_66651c47c8 ⟨Nat.le_of_ble_eq_true rfl, Nat.le_of_ble_eq_true rfl⟩ (md_rv hC hM) hM rfl hl.1 rfl (Nat.le_of_ble_eq_true rfl) dModel_look_361 ⟨Nat.le_refl _, Nat.le_refl _⟩ (fun r89 H locs hPO hS _ _ => ?_)
      obtain ⟨σr89, Fr89, nur89, eOr89, hM, hZ, hF, hLr89, hRr89⟩ := hPO
      have er89 : r89 = (Q_lookSlice κ τ σ F nu x1 r87 r88).1 := by rw [eOr89.eq]
      have eσr89 : σr89 = (Q_lookSlice κ τ σ F nu x1 r87 r88).2.1 := by rw [eOr89.eq]
      have eFr89 : Fr89 = (Q_lookSlice κ τ σ F nu x1 r87 r88).2.2.1 := by rw [eOr89.eq]
      have enur89 : nur89 = (Q_lookSlice κ τ σ F nu x1 r87 r88).2.2.2 := by rw [eOr89.eq]
      clear eOr89
      have hL : SL x1.toNatClampNeg F nu Fr89 nur89 := hL.trans hLr89
      exact hE _ _ _ _ _ hS ⟨σr89, Fr89, nur89, (by subst enur89 eFr89 eσr89 er89 er88 er87 ev2 ev1; exact hO.tr ((if_neg k3).trans ((if_neg k4).trans ((if_neg k5).trans ((if_neg k6).trans ((if_neg k7).trans ((if_neg k8).trans ((if_neg k9).trans ((if_neg k10).trans ((if_neg k11).trans ((if_neg k12).trans ((if_neg k13).trans ((if_neg k14).trans ((if_neg k15).trans ((if_neg k16).trans ((if_neg k17).trans ((if_neg k18).trans ((if_neg k19).trans ((if_neg k20).trans ((if_neg k21).trans ((if_neg k22).trans ((if_neg k23).trans ((if_neg k24).trans ((if_pos k25).trans (if_pos c86))))))))))))))))))))))))), hM, hZ, hF, hL, hRr89⟩ dModel_look_364
    · refine lv_bipush (v := 11) hx hb dModel_look_342 (by decide) ?_
      refine lv_goto (tgt := 364) hx hb dModel_look_344 (by decide) ?_
      exact hE _ _ _ _ _ hS ⟨σ, F, nu, (by subst ev2 ev1; exact hO.tr ((if_neg k3).trans ((if_neg k4).trans ((if_neg k5).trans ((if_neg k6).trans ((if_neg k7).trans ((if_neg k8).trans ((if_neg k9).trans ((if_neg k10).trans ((if_neg k11).trans ((if_neg k12).trans ((if_neg k13).trans ((if_neg k14).trans ((if_neg k15).trans ((if_neg k16).trans ((if_neg k17).trans ((if_neg k18).trans ((if_neg k19).trans ((if_neg k20).trans ((if_neg k21).trans ((if_neg k22).trans ((if_neg k23).trans ((if_neg k24).trans ((if_pos k25).trans (if_neg c86))))))))))))))))))))))))), hM, hZ, hF, hL, (fun h9 => absurd (show (0 : Int32) < 11 by decide) h9)⟩ dModel_look_364
  by_cases k26 : v2 = 24
  · rw [k26]
    refine lv_tableIn (tgt := 337) hx hb dModel_look_13 (by decide) (by decide) rfl (by decide) ?_
    refine lv_iload_n hx hb dModel_look_337 rfl (lv_at hl 0 rfl) ?_
    refine lv_iconst (v := 2) hx hb dModel_look_338 (by decide) ?_
    refine lv_icmp_eq (tgt := 347) hx hb dModel_look_339 (by decide) (fun c90 => ?_) (fun c90 => ?_)
    · have hm1 := mn_eq2 hTR hx1 ev1 (by assumption)
      refine lv_aload_n hx hb dModel_look_347 rfl (lv_at hl 1 rfl) ?_
      refine lv_iload_n hx hb dModel_look_348 rfl (lv_at hl 2 rfl) ?_
      refine lv_aload_n hx hb dModel_look_349 rfl (lv_at hl 1 rfl) ?_
      refine lv_iload_n hx hb dModel_look_350 rfl (lv_at hl 2 rfl) ?_
      refine lv_iconst (v := 1) hx hb dModel_look_351 (by decide) ?_
      have hpr91 : vp_in x1 (κ 0) := (vin (by assumption) (by omega))
      have hjr91 : vp_in 1 (mn x1.toNatClampNeg) := (vp1 (by omega) (by omega))
      refine pu_Vi (rest := [.int x1, .ref a]) S hC (n_child l γ a B Z κ b mn ν τ σ F nu hT x1 1 hpr91 hjr91) meModel_child qw_a66d450e0a ⟨Nat.le_of_ble_eq_true rfl, Nat.le_of_ble_eq_true rfl⟩ (md_rv hC hM) hM rfl hl.1 rfl (Nat.le_of_ble_eq_true rfl) dModel_look_352 ⟨Nat.zero_le _, Nat.zero_le _⟩ (fun r91 hr91 => ?_)
      obtain ⟨hr91, er91⟩ := hr91
      obtain ⟨hir91, hltr91, hxr91⟩ := ch_in hTR hs0 hpr91 hjr91 hr91
      refine lv_aload_n hx hb dModel_look_355 rfl (lv_at hl 1 rfl) ?_
      refine lv_iload_n hx hb dModel_look_356 rfl (lv_at hl 2 rfl) ?_
      refine lv_iconst (v := 0) hx hb dModel_look_357 (by decide) ?_
      have hpr92 : vp_in x1 (κ 0) := (vin (by assumption) (by omega))
      have hjr92 : vp_in 0 (mn x1.toNatClampNeg) := (vp0 (by omega) (by omega))
      refine pu_Vi (rest := [.int r91, .int x1, .ref a]) S hC (n_child l γ a B Z κ b mn ν τ σ F nu hT x1 0 hpr92 hjr92) meModel_child qw_a66d450e0a ⟨Nat.le_of_ble_eq_true rfl, Nat.le_of_ble_eq_true rfl⟩ (md_rv hC hM) hM rfl hl.1 rfl (Nat.le_of_ble_eq_true rfl) dModel_look_358 ⟨Nat.zero_le _, Nat.zero_le _⟩ (fun r92 hr92 => ?_)
      obtain ⟨hr92, er92⟩ := hr92
      obtain ⟨hir92, hltr92, hxr92⟩ := ch_in hTR hs0 hpr92 hjr92 hr92
      refine mu_Vi (rest := []) S hC (fun q h => hA q (Nat.le_trans hS.1 h)) (fun q h => h) hS (n_lookSlice l γ a B Z κ b mn ν τ σ F nu hT x1 r91 r92 (vin (by assumption) (by omega)) (vin (by assumption) (by omega)) (vin (by assumption) (by omega)) (by assumption) (by assumption) hZ hF) meModel_lookSlice qw_66651c47c8 ⟨Nat.le_of_ble_eq_true rfl, Nat.le_of_ble_eq_true rfl⟩ (md_rv hC hM) hM rfl hl.1 rfl (Nat.le_of_ble_eq_true rfl) dModel_look_361 ⟨Nat.le_refl _, Nat.le_refl _⟩ (fun r93 H locs hPO hS _ _ => ?_)
      obtain ⟨σr93, Fr93, nur93, eOr93, hM, hZ, hF, hLr93, hRr93⟩ := hPO
      have er93 : r93 = (Q_lookSlice κ τ σ F nu x1 r91 r92).1 := by rw [eOr93.eq]
      have eσr93 : σr93 = (Q_lookSlice κ τ σ F nu x1 r91 r92).2.1 := by rw [eOr93.eq]
      have eFr93 : Fr93 = (Q_lookSlice κ τ σ F nu x1 r91 r92).2.2.1 := by rw [eOr93.eq]
      have enur93 : nur93 = (Q_lookSlice κ τ σ F nu x1 r91 r92).2.2.2 := by rw [eOr93.eq]
      clear eOr93
      have hL : SL x1.toNatClampNeg F nu Fr93 nur93 := hL.trans hLr93
      exact hE _ _ _ _ _ hS ⟨σr93, Fr93, nur93, (by subst enur93 eFr93 eσr93 er93 er92 er91 ev2 ev1; exact hO.tr ((if_neg k3).trans ((if_neg k4).trans ((if_neg k5).trans ((if_neg k6).trans ((if_neg k7).trans ((if_neg k8).trans ((if_neg k9).trans ((if_neg k10).trans ((if_neg k11).trans ((if_neg k12).trans ((if_neg k13).trans ((if_neg k14).trans ((if_neg k15).trans ((if_neg k16).trans ((if_neg k17).trans ((if_neg k18).trans ((if_neg k19).trans ((if_neg k20).trans ((if_neg k21).trans ((if_neg k22).trans ((if_neg k23).trans ((if_neg k24).trans ((if_neg k25).trans ((if_pos k26).trans (if_pos c90)))))))))))))))))))))))))), hM, hZ, hF, hL, hRr93⟩ dModel_look_364
    · refine lv_bipush (v := 11) hx hb dModel_look_342 (by decide) ?_
      refine lv_goto (tgt := 364) hx hb dModel_look_344 (by decide) ?_
      exact hE _ _ _ _ _ hS ⟨σ, F, nu, (by subst ev2 ev1; exact hO.tr ((if_neg k3).trans ((if_neg k4).trans ((if_neg k5).trans ((if_neg k6).trans ((if_neg k7).trans ((if_neg k8).trans ((if_neg k9).trans ((if_neg k10).trans ((if_neg k11).trans ((if_neg k12).trans ((if_neg k13).trans ((if_neg k14).trans ((if_neg k15).trans ((if_neg k16).trans ((if_neg k17).trans ((if_neg k18).trans ((if_neg k19).trans ((if_neg k20).trans ((if_neg k21).trans ((if_neg k22).trans ((if_neg k23).trans ((if_neg k24).trans ((if_neg k25).trans ((if_pos k26).trans (if_neg c90)))))))))))))))))))))))))), hM, hZ, hF, hL, (fun h9 => absurd (show (0 : Int32) < 11 by decide) h9)⟩ dModel_look_364
  by_cases k27 : v2 = 25
  · rw [k27]
    refine lv_tableIn (tgt := 365) hx hb dModel_look_13 (by decide) (by decide) rfl (by decide) ?_
    refine lv_aload_n hx hb dModel_look_365 rfl (lv_at hl 1 rfl) ?_
    refine lv_iload_n hx hb dModel_look_366 rfl (lv_at hl 2 rfl) ?_
    refine mu_Vi (rest := []) S hC (fun q h => hA q (Nat.le_trans hS.1 h)) (fun q h => h) hS (n_lookAttribute l γ a B Z κ b mn ν τ σ F nu hT x1 (vin (by assumption) (by omega)) hZ hF) meModel_lookAttribute qw_1fe4047f8f ⟨Nat.le_of_ble_eq_true rfl, Nat.le_of_ble_eq_true rfl⟩ (md_rv hC hM) hM rfl hl.1 rfl (Nat.le_of_ble_eq_true rfl) dModel_look_367 ⟨Nat.le_refl _, Nat.le_refl _⟩ (fun r94 H locs hPO hS _ _ => ?_)
    obtain ⟨σr94, Fr94, nur94, eOr94, hM, hZ, hF, hLr94, hRr94⟩ := hPO
    have er94 : r94 = (Q_lookAttribute κ τ σ F nu x1).1 := by rw [eOr94.eq]
    have eσr94 : σr94 = (Q_lookAttribute κ τ σ F nu x1).2.1 := by rw [eOr94.eq]
    have eFr94 : Fr94 = (Q_lookAttribute κ τ σ F nu x1).2.2.1 := by rw [eOr94.eq]
    have enur94 : nur94 = (Q_lookAttribute κ τ σ F nu x1).2.2.2 := by rw [eOr94.eq]
    clear eOr94
    have hL : SL x1.toNatClampNeg F nu Fr94 nur94 := hL.trans hLr94
    exact hE _ _ _ _ _ hS ⟨σr94, Fr94, nur94, (by subst enur94 eFr94 eσr94 er94 ev2 ev1; exact hO.tr ((if_neg k3).trans ((if_neg k4).trans ((if_neg k5).trans ((if_neg k6).trans ((if_neg k7).trans ((if_neg k8).trans ((if_neg k9).trans ((if_neg k10).trans ((if_neg k11).trans ((if_neg k12).trans ((if_neg k13).trans ((if_neg k14).trans ((if_neg k15).trans ((if_neg k16).trans ((if_neg k17).trans ((if_neg k18).trans ((if_neg k19).trans ((if_neg k20).trans ((if_neg k21).trans ((if_neg k22).trans ((if_neg k23).trans ((if_neg k24).trans ((if_neg k25).trans ((if_neg k26).trans (if_pos k27)))))))))))))))))))))))))), hM, hZ, hF, hL, hRr94⟩ dModel_look_370
  refine lv_tableOut (tgt := 371) hx hb dModel_look_13 (by have qk3 := lv_neT (a := 1) k3 (by decide); have qk4 := lv_neT (a := 2) k4 (by decide); have qk5 := lv_neT (a := 3) k5 (by decide); have qk6 := lv_neT (a := 4) k6 (by decide); have qk7 := lv_neT (a := 5) k7 (by decide); have qk8 := lv_neT (a := 6) k8 (by decide); have qk9 := lv_neT (a := 7) k9 (by decide); have qk10 := lv_neT (a := 8) k10 (by decide); have qk11 := lv_neT (a := 9) k11 (by decide); have qk12 := lv_neT (a := 10) k12 (by decide); have qk13 := lv_neT (a := 11) k13 (by decide); have qk14 := lv_neT (a := 12) k14 (by decide); have qk15 := lv_neT (a := 13) k15 (by decide); have qk16 := lv_neT (a := 14) k16 (by decide); have qk17 := lv_neT (a := 15) k17 (by decide); have qk18 := lv_neT (a := 16) k18 (by decide); have qk19 := lv_neT (a := 17) k19 (by decide); have qk20 := lv_neT (a := 18) k20 (by decide); have qk21 := lv_neT (a := 19) k21 (by decide); have qk22 := lv_neT (a := 20) k22 (by decide); have qk23 := lv_neT (a := 21) k23 (by decide); have qk24 := lv_neT (a := 22) k24 (by decide); have qk25 := lv_neT (a := 23) k25 (by decide); have qk26 := lv_neT (a := 24) k26 (by decide); have qk27 := lv_neT (a := 25) k27 (by decide); omega) (by decide) ?_
  refine lv_bipush (v := 11) hx hb dModel_look_371 (by decide) ?_
  exact hE _ _ _ _ _ hS ⟨σ, F, nu, (by subst ev2 ev1; exact hO.tr ((if_neg k3).trans ((if_neg k4).trans ((if_neg k5).trans ((if_neg k6).trans ((if_neg k7).trans ((if_neg k8).trans ((if_neg k9).trans ((if_neg k10).trans ((if_neg k11).trans ((if_neg k12).trans ((if_neg k13).trans ((if_neg k14).trans ((if_neg k15).trans ((if_neg k16).trans ((if_neg k17).trans ((if_neg k18).trans ((if_neg k19).trans ((if_neg k20).trans ((if_neg k21).trans ((if_neg k22).trans ((if_neg k23).trans ((if_neg k24).trans ((if_neg k25).trans ((if_neg k26).trans (if_neg k27)))))))))))))))))))))))))), hM, hZ, hF, hL, (fun h9 => absurd (show (0 : Int32) < 11 by decide) h9)⟩ dModel_look_373
