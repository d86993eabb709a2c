def Q_lookNumbers_77 (κ : Nat → Nat) (τ : gf) (σ : Nat → Int32) (F : gf) (nu : gg) (x1 : Int32) (x2 : Int32) (x3 : Int32) (x4 : Int32) (t0_47 : Int32) : Int32 × (Nat → Int32) × gf × gg := ((Q_integer κ τ σ F nu x1 t0_47 ((nu x3.toNatClampNeg) * (nu x4.toNatClampNeg))).1, ((Q_integer κ τ σ F nu x1 t0_47 ((nu x3.toNatClampNeg) * (nu x4.toNatClampNeg))).2.1), ((Q_integer κ τ σ F nu x1 t0_47 ((nu x3.toNatClampNeg) * (nu x4.toNatClampNeg))).2.2.1), ((Q_integer κ τ σ F nu x1 t0_47 ((nu x3.toNatClampNeg) * (nu x4.toNatClampNeg))).2.2.2))
def Q_lookNumbers_190 (κ : Nat → Nat) (τ : gf) (σ : Nat → Int32) (F : gf) (nu : gg) (x1 : Int32) (x2 : Int32) (x3 : Int32) (x4 : Int32) (t0_47 : Int32) (t0_161 : Int64) (t0_190 : Int64) : Int32 × (Nat → Int32) × gf × gg := ((Q_integer κ τ σ F nu x1 1 t0_190).1, ((Q_integer κ τ σ F nu x1 1 t0_190).2.1), ((Q_integer κ τ σ F nu x1 1 t0_190).2.2.1), ((Q_integer κ τ σ F nu x1 1 t0_190).2.2.2))
def Q_lookNumbers_161 (κ : Nat → Nat) (τ : gf) (σ : Nat → Int32) (F : gf) (nu : gg) (x1 : Int32) (x2 : Int32) (x3 : Int32) (x4 : Int32) (t0_47 : Int32) (t0_161 : Int64) : Int32 × (Nat → Int32) × gf × gg := (if x2 = 16 then (Q_lookNumbers_190 κ τ σ F nu x1 x2 x3 x4 t0_47 t0_161  ((nu x3.toNatClampNeg) / (nu x4.toNatClampNeg))) else (if x2 = 17 then (Q_lookNumbers_190 κ τ σ F nu x1 x2 x3 x4 t0_47 t0_161  t0_161) else (Q_lookNumbers_190 κ τ σ F nu x1 x2 x3 x4 t0_47 t0_161  ((nu x3.toNatClampNeg) - (((nu x3.toNatClampNeg) / (nu x4.toNatClampNeg)) * (nu x4.toNatClampNeg))))))
def Q_lookNumbers_159 (κ : Nat → Nat) (τ : gf) (σ : Nat → Int32) (F : gf) (nu : gg) (x1 : Int32) (x2 : Int32) (x3 : Int32) (x4 : Int32) (t0_47 : Int32) : Int32 × (Nat → Int32) × gf × gg := (Q_lookNumbers_161 κ τ σ F nu x1 x2 x3 x4 t0_47  ((nu x3.toNatClampNeg) - (((nu x3.toNatClampNeg) / (nu x4.toNatClampNeg)) * (nu x4.toNatClampNeg))))
def Q_lookNumbers_148 (κ : Nat → Nat) (τ : gf) (σ : Nat → Int32) (F : gf) (nu : gg) (x1 : Int32) (x2 : Int32) (x3 : Int32) (x4 : Int32) (t0_47 : Int32) (t0_136 : Int32) (t0_148 : Int32) : Int32 × (Nat → Int32) × gf × gg := (if t0_136 = t0_148 then (Q_lookNumbers_159 κ τ σ F nu x1 x2 x3 x4 t0_47  ) else (Q_lookNumbers_161 κ τ σ F nu x1 x2 x3 x4 t0_47  (((nu x3.toNatClampNeg) - (((nu x3.toNatClampNeg) / (nu x4.toNatClampNeg)) * (nu x4.toNatClampNeg))) + (nu x4.toNatClampNeg))))
def Q_lookNumbers_136 (κ : Nat → Nat) (τ : gf) (σ : Nat → Int32) (F : gf) (nu : gg) (x1 : Int32) (x2 : Int32) (x3 : Int32) (x4 : Int32) (t0_47 : Int32) (t0_136 : Int32) : Int32 × (Nat → Int32) × gf × gg := (if 0 ≤ (lg_cmp (nu x4.toNatClampNeg) 0) then (Q_lookNumbers_148 κ τ σ F nu x1 x2 x3 x4 t0_47 t0_136  0) else (Q_lookNumbers_148 κ τ σ F nu x1 x2 x3 x4 t0_47 t0_136  1))
def Q_lookNumbers_47 (κ : Nat → Nat) (τ : gf) (σ : Nat → Int32) (F : gf) (nu : gg) (x1 : Int32) (x2 : Int32) (x3 : Int32) (x4 : Int32) (t0_47 : Int32) : Int32 × (Nat → Int32) × gf × gg := (if x2 = 15 then (Q_lookNumbers_77 κ τ σ F nu x1 x2 x3 x4 t0_47  ) else (if t0_47 = 0 then (Q_lookNumbers_77 κ τ σ F nu x1 x2 x3 x4 t0_47  ) else (if (lg_cmp (nu x4.toNatClampNeg) 0) = 0 then (10, σ, F, nu) else (if (lg_cmp ((nu x3.toNatClampNeg) - (((nu x3.toNatClampNeg) / (nu x4.toNatClampNeg)) * (nu x4.toNatClampNeg))) 0) = 0 then (Q_lookNumbers_159 κ τ σ F nu x1 x2 x3 x4 t0_47  ) else (if 0 ≤ (lg_cmp ((nu x3.toNatClampNeg) - (((nu x3.toNatClampNeg) / (nu x4.toNatClampNeg)) * (nu x4.toNatClampNeg))) 0) then (Q_lookNumbers_136 κ τ σ F nu x1 x2 x3 x4 t0_47  0) else (Q_lookNumbers_136 κ τ σ F nu x1 x2 x3 x4 t0_47  1))))))
def Q_lookNumbers_46 (κ : Nat → Nat) (τ : gf) (σ : Nat → Int32) (F : gf) (nu : gg) (x1 : Int32) (x2 : Int32) (x3 : Int32) (x4 : Int32) : Int32 × (Nat → Int32) × gf × gg := (Q_lookNumbers_47 κ τ σ F nu x1 x2 x3 x4  0)
def Q_lookNumbers (κ : Nat → Nat) (τ : gf) (σ : Nat → Int32) (F : gf) (nu : gg) (x1 : Int32) (x2 : Int32) (x3 : Int32) (x4 : Int32) : Int32 × (Nat → Int32) × gf × gg := (if (F 9 x3.toNatClampNeg) = 2 then (if (F 9 x4.toNatClampNeg) = 2 then (if (F 11 x3.toNatClampNeg) = 0 then (Q_lookNumbers_46 κ τ σ F nu x1 x2 x3 x4  ) else (if (F 11 x4.toNatClampNeg) = 0 then (Q_lookNumbers_46 κ τ σ F nu x1 x2 x3 x4  ) else (Q_lookNumbers_47 κ τ σ F nu x1 x2 x3 x4  1))) else (3, σ, F, nu)) else (3, σ, F, nu))
set_option maxHeartbeats 4000000 in
set_option maxRecDepth 100000 in
theorem n_lookNumbers (l : Launch) (γ : gE) (a : Nat) (B : Nat → Nat) (Z : Nat → Prop) (κ b mn : Nat → Nat) (ν : Nat → Int32) (τ : Nat → Nat → Int32) (σ : Nat → Int32) (F : Nat → Nat → Int32) (nu : Nat → Int64) (hT : ST κ b mn ν τ) (x1 : Int32) (x2 : Int32) (x3 : Int32) (x4 : Int32) (hx1 : vp_in x1 (κ 0)) (hx3 : vp_in x3 (κ 0)) (hx4 : vp_in x4 (κ 0)) (ha : x3.toNatClampNeg < x1.toNatClampNeg) (hbk : x4.toNatClampNeg < x1.toNatClampNeg) (hZ : SZ F) (hF : FD σ) : MU l yModel_lookNumbers bModel_lookNumbers 16 (some .int) 3 72 0 0 [.ref a, .int x1, .int x2, .int x3, .int x4] γ Z (MD γ a B Z ν τ σ F nu) (mQi (fun r H => ∃ (σ' : Nat → Int32) (F' : Nat → Nat → Int32) (nu' : Nat → Int64), Oq (Q_lookNumbers κ τ σ F nu x1 x2 x3 x4) (r, σ', F', nu') ∧ MD γ a B Z ν τ σ' F' nu' H ∧ SZ F' ∧ FD σ' ∧ SL x1.toNatClampNeg F nu F' nu' ∧ (¬ 0 < r → GK x1.toNatClampNeg F' nu')) Z) := by
  refine mu_openI (by decide) (Nat.le_of_ble_eq_true rfl) ?_
  intro p e s m args below meth c ls Q S hnm hC hA hM hE hl
  have hS : va_S Z s.heap s.heap [] := va_S.rf
  obtain ⟨hx, hb, hml, hown, hW⟩ := id S
  obtain ⟨⟨hs0, hs1, hs2, hs3, hs4, hs5, hs6⟩, ⟨hv6, hv8, hv21, hv24, hv30, hv31⟩, hTR, hTY, hOB, hNM⟩ := id hT
  have hL : SL x1.toNatClampNeg F nu F nu := SL.rf
  have hl : lv_has ls 16 [(0, .ref a), (1, .int x1), (2, .int x2), (3, .int x3), (4, .int x4)] := hl
  obtain ⟨OUT, hQ, hO⟩ : ∃ z, (z = Q_lookNumbers κ τ σ F nu x1 x2 x3 x4) ∧ Oq z (Q_lookNumbers κ τ σ F nu x1 x2 x3 x4) := ⟨_, rfl, rfl⟩
  rw [← hQ] at hE
  clear hQ
  refine lv_aload_n hx hb dModel_lookNumbers_0 rfl (lv_at hl 0 rfl) ?_
  refine md_gA S hC hM 9 (by decide) rfl qw_a119aeeca0 dModel_lookNumbers_1 ?_
  refine lv_iload_n hx hb dModel_lookNumbers_4 rfl (lv_at hl 3 rfl) ?_
  refine md_ild S hC hM 9 5 10000 (F 9) rfl rfl (by decide) rfl rfl (vin (by assumption) (by omega)) dModel_lookNumbers_5 ?_
  refine lv_topi (fun v1 ev1 => ?_)
  refine lv_iconst (v := 2) hx hb dModel_lookNumbers_6 (by decide) ?_
  refine lv_icmp_ne (tgt := 21) hx hb dModel_lookNumbers_7 (by decide) (fun c2 => ?_) (fun c2 => ?_)
  · refine lv_iconst (v := 3) hx hb dModel_lookNumbers_21 (by decide) ?_
    exact hE _ _ _ _ _ hS ⟨σ, F, nu, (by subst ev1; exact hO.tr (if_neg c2)), hM, hZ, hF, hL, (fun h9 => absurd (show (0 : Int32) < 3 by decide) h9)⟩ dModel_lookNumbers_22
  · refine lv_aload_n hx hb dModel_lookNumbers_10 rfl (lv_at hl 0 rfl) ?_
    refine md_gA S hC hM 9 (by decide) rfl qw_a119aeeca0 dModel_lookNumbers_11 ?_
    refine lv_iload hx hb dModel_lookNumbers_14 (lv_at hl 4 rfl) ?_
    refine md_ild S hC hM 9 5 10000 (F 9) rfl rfl (by decide) rfl rfl (vin (by assumption) (by omega)) dModel_lookNumbers_16 ?_
    refine lv_topi (fun v3 ev3 => ?_)
    refine lv_iconst (v := 2) hx hb dModel_lookNumbers_17 (by decide) ?_
    refine lv_icmp_eq (tgt := 23) hx hb dModel_lookNumbers_18 (by decide) (fun c4 => ?_) (fun c4 => ?_)
    · refine lv_aload_n hx hb dModel_lookNumbers_23 rfl (lv_at hl 0 rfl) ?_
      refine md_gA S hC hM 11 (by decide) rfl qw_88b9028ba7 dModel_lookNumbers_24 ?_
      refine lv_iload_n hx hb dModel_lookNumbers_27 rfl (lv_at hl 3 rfl) ?_
      refine md_zld S hC hM 11 7 10000 (F 11) rfl rfl (by decide) rfl rfl (vin (by assumption) (by omega)) dModel_lookNumbers_28 ?_
      refine lv_topi (fun v5 ev5 => ?_)
      have J47 : ∀ (ls : Array Slot) (t0_47 : Int32), (Oq OUT (Q_lookNumbers_47 κ τ σ F nu x1 x2 x3 x4   t0_47)) → lv_has ls 16 [(0, .ref a), (1, .int x1), (2, .int x2), (3, .int x3), (4, .int x4)] → W p l e (bs_rm 3 0 0 72) s m args below meth c s.heap [] 0 0 Q (F0 m 47 ls [.int t0_47]) := by
        intro ls t0_47 hO hl
        refine lv_istore (lv' := [(5, .int t0_47), (0, .ref a), (1, .int x1), (2, .int x2), (3, .int x3), (4, .int x4)]) hx hb dModel_lookNumbers_47 hl (by decide) rfl (fun ls hl => ?_)
        refine lv_aload_n hx hb dModel_lookNumbers_49 rfl (lv_at hl 1 rfl) ?_
        refine md_gA S hC hM 13 (by decide) rfl qw_7b809afc8c dModel_lookNumbers_50 ?_
        refine lv_iload_n hx hb dModel_lookNumbers_53 rfl (lv_at hl 4 rfl) ?_
        refine md_lld S hC hM (vin (by assumption) (by omega)) dModel_lookNumbers_54 ?_
        refine lv_topl (fun v31 ev31 => ?_)
        have ev31 : v31 = nu x3.toNatClampNeg := ev31
        refine lv_lstore (lv' := [(6, .long v31), (5, .int t0_47), (0, .ref a), (1, .int x1), (2, .int x2), (3, .int x3), (4, .int x4)]) hx hb dModel_lookNumbers_55 hl (by decide) rfl (fun ls hl => ?_)
        refine lv_aload_n hx hb dModel_lookNumbers_57 rfl (lv_at hl 2 rfl) ?_
        refine md_gA S hC hM 13 (by decide) rfl qw_7b809afc8c dModel_lookNumbers_58 ?_
        refine lv_iload hx hb dModel_lookNumbers_61 (lv_at hl 6 rfl) ?_
        refine md_lld S hC hM (vin (by assumption) (by omega)) dModel_lookNumbers_63 ?_
        refine lv_topl (fun v32 ev32 => ?_)
        have ev32 : v32 = nu x4.toNatClampNeg := ev32
        refine lv_lstore (lv' := [(8, .long v32), (6, .long v31), (5, .int t0_47), (0, .ref a), (1, .int x1), (2, .int x2), (3, .int x3), (4, .int x4)]) hx hb dModel_lookNumbers_64 hl (by decide) rfl (fun ls hl => ?_)
        refine lv_iload_n hx hb dModel_lookNumbers_66 rfl (lv_at hl 5 rfl) ?_
        refine lv_bipush (v := 15) hx hb dModel_lookNumbers_67 (by decide) ?_
        have J77 : ∀ (ls : Array Slot), (Oq OUT (Q_lookNumbers_77 κ τ σ F nu x1 x2 x3 x4 t0_47   )) → lv_has ls 16 [(0, .ref a), (1, .int x1), (2, .int x2), (3, .int x3), (4, .int x4), (5, .int t0_47), (6, .long v31), (8, .long v32)] → W p l e (bs_rm 3 0 0 72) s m args below meth c s.heap [] 0 0 Q (F0 m 77 ls []) := by
          intro ls hO hl
          refine lv_aload_n hx hb dModel_lookNumbers_77 rfl (lv_at hl 0 rfl) ?_
          refine lv_iload_n hx hb dModel_lookNumbers_78 rfl (lv_at hl 1 rfl) ?_
          refine lv_iload hx hb dModel_lookNumbers_79 (lv_at hl 5 rfl) ?_
          refine lv_lload hx hb dModel_lookNumbers_81 (lv_at hl 6 rfl) ?_
          refine lv_lload hx hb dModel_lookNumbers_83 (lv_at hl 7 rfl) ?_
          refine lv_lmul hx hb dModel_lookNumbers_85 ?_
          refine lv_topl (fun v53 ev53 => ?_)
          refine mu_Vi (rest := []) S hC (fun q h => hA q (Nat.le_trans hS.1 h)) (fun q h => h) hS (n_integer l γ a B Z κ b mn ν τ σ F nu hT x1 t0_47 v53 (vin (by assumption) (by omega)) hZ hF) meModel_integer qw_fff04f2807 ⟨Nat.le_of_ble_eq_true rfl, Nat.le_of_ble_eq_true rfl⟩ (md_rv hC hM) hM rfl hl.1 rfl (Nat.le_of_ble_eq_true rfl) dModel_lookNumbers_86 ⟨Nat.le_refl _, Nat.le_refl _⟩ (fun r54 H locs hPO hS _ _ => ?_)
          obtain ⟨σr54, Fr54, nur54, eOr54, hM, hZ, hF, hLr54, hRr54⟩ := hPO
          have er54 : r54 = (Q_integer κ τ σ F nu x1 t0_47 v53).1 := by rw [eOr54.eq]
          have eσr54 : σr54 = (Q_integer κ τ σ F nu x1 t0_47 v53).2.1 := by rw [eOr54.eq]
          have eFr54 : Fr54 = (Q_integer κ τ σ F nu x1 t0_47 v53).2.2.1 := by rw [eOr54.eq]
          have enur54 : nur54 = (Q_integer κ τ σ F nu x1 t0_47 v53).2.2.2 := by rw [eOr54.eq]
          clear eOr54
          have hL : SL x1.toNatClampNeg F nu Fr54 nur54 := hL.trans hLr54
          exact hE _ _ _ _ _ hS ⟨σr54, Fr54, nur54, (by subst enur54 eFr54 eσr54 er54 ev53 ev32 ev31 ev5 ev3 ev1; exact hO.tr rfl), hM, hZ, hF, hL, hRr54⟩ dModel_lookNumbers_89
        refine lv_icmp_eq (tgt := 77) hx hb dModel_lookNumbers_69 (by decide) (fun c55 => ?_) (fun c55 => ?_)
        · exact J77 ls (by subst ev32 ev31 ev5 ev3 ev1; exact hO.tr (if_pos c55)) (lv_sub hl [3, 4, 5, 6, 7, 2, 1, 0] rfl)
        · refine lv_iload hx hb dModel_lookNumbers_72 (lv_at hl 2 rfl) ?_
          refine lv_if_ne (tgt := 90) hx hb dModel_lookNumbers_74 (by decide) (fun c56 => ?_) (fun c56 => ?_)
          · refine lv_lload hx hb dModel_lookNumbers_90 (lv_at hl 0 rfl) ?_
            refine lv_lconst (v := 0) hx hb dModel_lookNumbers_92 (by decide) ?_
            refine W.lcmp hx hb dModel_lookNumbers_93 ?_
            refine lv_topi (fun v57 ev57 => ?_)
            refine lv_if_ne (tgt := 100) hx hb dModel_lookNumbers_94 (by decide) (fun c58 => ?_) (fun c58 => ?_)
            · refine lv_lload hx hb dModel_lookNumbers_100 (lv_at hl 1 rfl) ?_
              refine lv_lload hx hb dModel_lookNumbers_102 (lv_at hl 0 rfl) ?_
              refine lv_ldiv hx hb dModel_lookNumbers_104 (lc_nz (by assumption) (by assumption)) ?_
              refine lv_topl (fun v59 ev59 => ?_)
              refine lv_lstore (lv' := [(10, .long v59), (8, .long v32), (6, .long v31), (5, .int t0_47), (0, .ref a), (1, .int x1), (2, .int x2), (3, .int x3), (4, .int x4)]) hx hb dModel_lookNumbers_105 hl (by decide) rfl (fun ls hl => ?_)
              refine lv_lload hx hb dModel_lookNumbers_107 (lv_at hl 2 rfl) ?_
              refine lv_lload hx hb dModel_lookNumbers_109 (lv_at hl 0 rfl) ?_
              refine lv_lload hx hb dModel_lookNumbers_111 (lv_at hl 1 rfl) ?_
              refine lv_lmul hx hb dModel_lookNumbers_113 ?_
              refine lv_topl (fun v60 ev60 => ?_)
              refine lv_lsub hx hb dModel_lookNumbers_114 ?_
              refine lv_topl (fun v61 ev61 => ?_)
              refine lv_lstore (lv' := [(12, .long v61), (10, .long v59), (8, .long v32), (6, .long v31), (5, .int t0_47), (0, .ref a), (1, .int x1), (2, .int x2), (3, .int x3), (4, .int x4)]) hx hb dModel_lookNumbers_115 hl (by decide) rfl (fun ls hl => ?_)
              refine lv_lload hx hb dModel_lookNumbers_117 (lv_at hl 0 rfl) ?_
              refine lv_lconst (v := 0) hx hb dModel_lookNumbers_119 (by decide) ?_
              refine W.lcmp hx hb dModel_lookNumbers_120 ?_
              refine lv_topi (fun v62 ev62 => ?_)
              have J161 : ∀ (ls : Array Slot) (t0_161 : Int64), (Oq OUT (Q_lookNumbers_161 κ τ σ F nu x1 x2 x3 x4 t0_47   t0_161)) → lv_has ls 16 [(0, .ref a), (1, .int x1), (2, .int x2), (3, .int x3), (4, .int x4), (5, .int t0_47), (6, .long v31), (8, .long v32), (10, .long v59), (12, .long v61)] → W p l e (bs_rm 3 0 0 72) s m args below meth c s.heap [] 0 0 Q (F0 m 161 ls [.long t0_161]) := by
                intro ls t0_161 hO hl
                refine lv_lstore (lv' := [(14, .long t0_161), (0, .ref a), (1, .int x1), (2, .int x2), (3, .int x3), (4, .int x4), (5, .int t0_47), (6, .long v31), (8, .long v32), (10, .long v59), (12, .long v61)]) hx hb dModel_lookNumbers_161 hl (by decide) rfl (fun ls hl => ?_)
                refine lv_aload_n hx hb dModel_lookNumbers_163 rfl (lv_at hl 1 rfl) ?_
                refine lv_iload_n hx hb dModel_lookNumbers_164 rfl (lv_at hl 2 rfl) ?_
                refine lv_iconst (v := 1) hx hb dModel_lookNumbers_165 (by decide) ?_
                refine lv_iload_n hx hb dModel_lookNumbers_166 rfl (lv_at hl 3 rfl) ?_
                refine lv_bipush (v := 16) hx hb dModel_lookNumbers_167 (by decide) ?_
                have J190 : ∀ (ls : Array Slot) (t0_190 : Int64), (Oq OUT (Q_lookNumbers_190 κ τ σ F nu x1 x2 x3 x4 t0_47 t0_161   t0_190)) → lv_has ls 16 [(0, .ref a), (1, .int x1), (2, .int x2), (3, .int x3), (4, .int x4), (5, .int t0_47), (6, .long v31), (8, .long v32), (10, .long v59), (12, .long v61), (14, .long t0_161)] → W p l e (bs_rm 3 0 0 72) s m args below meth c s.heap [] 0 0 Q (F0 m 190 ls [.long t0_190, .int 1, .int x1, .ref a]) := by
                  intro ls t0_190 hO hl
                  refine mu_Vi (rest := []) S hC (fun q h => hA q (Nat.le_trans hS.1 h)) (fun q h => h) hS (n_integer l γ a B Z κ b mn ν τ σ F nu hT x1 1 t0_190 (vin (by assumption) (by omega)) hZ hF) meModel_integer qw_fff04f2807 ⟨Nat.le_of_ble_eq_true rfl, Nat.le_of_ble_eq_true rfl⟩ (md_rv hC hM) hM rfl hl.1 rfl (Nat.le_of_ble_eq_true rfl) dModel_lookNumbers_190 ⟨Nat.le_refl _, Nat.le_refl _⟩ (fun r76 H locs hPO hS _ _ => ?_)
                  obtain ⟨σr76, Fr76, nur76, eOr76, hM, hZ, hF, hLr76, hRr76⟩ := hPO
                  have er76 : r76 = (Q_integer κ τ σ F nu x1 1 t0_190).1 := by rw [eOr76.eq]
                  have eσr76 : σr76 = (Q_integer κ τ σ F nu x1 1 t0_190).2.1 := by rw [eOr76.eq]
                  have eFr76 : Fr76 = (Q_integer κ τ σ F nu x1 1 t0_190).2.2.1 := by rw [eOr76.eq]
                  have enur76 : nur76 = (Q_integer κ τ σ F nu x1 1 t0_190).2.2.2 := by rw [eOr76.eq]
                  clear eOr76
                  have hL : SL x1.toNatClampNeg F nu Fr76 nur76 := hL.trans hLr76
                  exact hE _ _ _ _ _ hS ⟨σr76, Fr76, nur76, (by subst enur76 eFr76 eσr76 er76 ev62 ev61 ev60 ev59 ev57 ev32 ev31 ev5 ev3 ev1; exact hO.tr rfl), hM, hZ, hF, hL, hRr76⟩ dModel_lookNumbers_193
                refine lv_icmp_ne (tgt := 177) hx hb dModel_lookNumbers_169 (by decide) (fun c77 => ?_) (fun c77 => ?_)
                · refine lv_iload_n hx hb dModel_lookNumbers_177 rfl (lv_at hl 3 rfl) ?_
                  refine lv_bipush (v := 17) hx hb dModel_lookNumbers_178 (by decide) ?_
                  refine lv_icmp_ne (tgt := 188) hx hb dModel_lookNumbers_180 (by decide) (fun c78 => ?_) (fun c78 => ?_)
                  · refine lv_lload hx hb dModel_lookNumbers_188 (lv_at hl 10 rfl) ?_
                    exact J190 ls v61 (by subst ev62 ev61 ev60 ev59 ev57 ev32 ev31 ev5 ev3 ev1; exact hO.tr ((if_neg c77).trans (if_neg c78))) (lv_sub hl [1, 2, 3, 4, 5, 6, 7, 8, 9, 10, 0] rfl)
                  · refine lv_lload hx hb dModel_lookNumbers_183 (lv_at hl 0 rfl) ?_
                    refine lv_goto (tgt := 190) hx hb dModel_lookNumbers_185 (by decide) ?_
                    exact J190 ls t0_161 (by subst ev62 ev61 ev60 ev59 ev57 ev32 ev31 ev5 ev3 ev1; exact hO.tr ((if_neg c77).trans (if_pos c78))) (lv_sub hl [1, 2, 3, 4, 5, 6, 7, 8, 9, 10, 0] rfl)
                · refine lv_lload hx hb dModel_lookNumbers_172 (lv_at hl 9 rfl) ?_
                  refine lv_goto (tgt := 190) hx hb dModel_lookNumbers_174 (by decide) ?_
                  exact J190 ls v59 (by subst ev62 ev61 ev60 ev59 ev57 ev32 ev31 ev5 ev3 ev1; exact hO.tr (if_pos c77)) (lv_sub hl [1, 2, 3, 4, 5, 6, 7, 8, 9, 10, 0] rfl)
              have J159 : ∀ (ls : Array Slot), (Oq OUT (Q_lookNumbers_159 κ τ σ F nu x1 x2 x3 x4 t0_47   )) → lv_has ls 16 [(0, .ref a), (1, .int x1), (2, .int x2), (3, .int x3), (4, .int x4), (5, .int t0_47), (6, .long v31), (8, .long v32), (10, .long v59), (12, .long v61)] → W p l e (bs_rm 3 0 0 72) s m args below meth c s.heap [] 0 0 Q (F0 m 159 ls []) := by
                intro ls hO hl
                refine lv_lload hx hb dModel_lookNumbers_159 (lv_at hl 9 rfl) ?_
                exact J161 ls v61 (by subst ev62 ev61 ev60 ev59 ev57 ev32 ev31 ev5 ev3 ev1; exact hO.tr rfl) (lv_sub hl [0, 1, 2, 3, 4, 5, 6, 7, 8, 9] rfl)
              refine lv_if_eq (tgt := 159) hx hb dModel_lookNumbers_121 (by decide) (fun c79 => ?_) (fun c79 => ?_)
              · exact J159 ls (by subst ev62 ev61 ev60 ev59 ev57 ev32 ev31 ev5 ev3 ev1; exact hO.tr ((if_neg c55).trans ((if_neg c56).trans ((if_neg c58).trans (if_pos c79))))) (lv_sub hl [5, 6, 7, 8, 9, 4, 3, 2, 1, 0] rfl)
              · refine lv_lload hx hb dModel_lookNumbers_124 (lv_at hl 0 rfl) ?_
                refine lv_lconst (v := 0) hx hb dModel_lookNumbers_126 (by decide) ?_
                refine W.lcmp hx hb dModel_lookNumbers_127 ?_
                refine lv_topi (fun v80 ev80 => ?_)
                have J136 : ∀ (ls : Array Slot) (t0_136 : Int32), (Oq OUT (Q_lookNumbers_136 κ τ σ F nu x1 x2 x3 x4 t0_47   t0_136)) → lv_has ls 16 [(0, .ref a), (1, .int x1), (2, .int x2), (3, .int x3), (4, .int x4), (5, .int t0_47), (6, .long v31), (8, .long v32), (10, .long v59), (12, .long v61)] → W p l e (bs_rm 3 0 0 72) s m args below meth c s.heap [] 0 0 Q (F0 m 136 ls [.int t0_136]) := by
                  intro ls t0_136 hO hl
                  refine lv_lload hx hb dModel_lookNumbers_136 (lv_at hl 7 rfl) ?_
                  refine lv_lconst (v := 0) hx hb dModel_lookNumbers_138 (by decide) ?_
                  refine W.lcmp hx hb dModel_lookNumbers_139 ?_
                  refine lv_topi (fun v86 ev86 => ?_)
                  have J148 : ∀ (ls : Array Slot) (t0_148 : Int32), (Oq OUT (Q_lookNumbers_148 κ τ σ F nu x1 x2 x3 x4 t0_47 t0_136   t0_148)) → lv_has ls 16 [(0, .ref a), (1, .int x1), (2, .int x2), (3, .int x3), (4, .int x4), (5, .int t0_47), (6, .long v31), (8, .long v32), (10, .long v59), (12, .long v61)] → W p l e (bs_rm 3 0 0 72) s m args below meth c s.heap [] 0 0 Q (F0 m 148 ls [.int t0_148, .int t0_136]) := by
                    intro ls t0_148 hO hl
                    refine lv_icmp_eq (tgt := 159) hx hb dModel_lookNumbers_148 (by decide) (fun c90 => ?_) (fun c90 => ?_)
                    · exact J159 ls (by subst ev86 ev80 ev62 ev61 ev60 ev59 ev57 ev32 ev31 ev5 ev3 ev1; exact hO.tr (if_pos c90)) (lv_sub hl [0, 1, 2, 3, 4, 5, 6, 7, 8, 9] rfl)
                    · refine lv_lload hx hb dModel_lookNumbers_151 (lv_at hl 9 rfl) ?_
                      refine lv_lload hx hb dModel_lookNumbers_153 (lv_at hl 7 rfl) ?_
                      refine lv_ladd hx hb dModel_lookNumbers_155 ?_
                      refine lv_topl (fun v91 ev91 => ?_)
                      refine lv_goto (tgt := 161) hx hb dModel_lookNumbers_156 (by decide) ?_
                      exact J161 ls v91 (by subst ev91 ev86 ev80 ev62 ev61 ev60 ev59 ev57 ev32 ev31 ev5 ev3 ev1; exact hO.tr (if_neg c90)) (lv_sub hl [0, 1, 2, 3, 4, 5, 6, 7, 8, 9] rfl)
                  refine lv_if_ge (tgt := 147) hx hb dModel_lookNumbers_140 (by decide) (fun c92 => ?_) (fun c92 => ?_)
                  · refine lv_iconst (v := 0) hx hb dModel_lookNumbers_147 (by decide) ?_
                    exact J148 ls 0 (by subst ev86 ev80 ev62 ev61 ev60 ev59 ev57 ev32 ev31 ev5 ev3 ev1; exact hO.tr (if_pos c92)) (lv_sub hl [0, 1, 2, 3, 4, 5, 6, 7, 8, 9] rfl)
                  · refine lv_iconst (v := 1) hx hb dModel_lookNumbers_143 (by decide) ?_
                    refine lv_goto (tgt := 148) hx hb dModel_lookNumbers_144 (by decide) ?_
                    exact J148 ls 1 (by subst ev86 ev80 ev62 ev61 ev60 ev59 ev57 ev32 ev31 ev5 ev3 ev1; exact hO.tr (if_neg c92)) (lv_sub hl [0, 1, 2, 3, 4, 5, 6, 7, 8, 9] rfl)
                refine lv_if_ge (tgt := 135) hx hb dModel_lookNumbers_128 (by decide) (fun c93 => ?_) (fun c93 => ?_)
                · refine lv_iconst (v := 0) hx hb dModel_lookNumbers_135 (by decide) ?_
                  exact J136 ls 0 (by subst ev80 ev62 ev61 ev60 ev59 ev57 ev32 ev31 ev5 ev3 ev1; exact hO.tr ((if_neg c55).trans ((if_neg c56).trans ((if_neg c58).trans ((if_neg c79).trans (if_pos c93)))))) (lv_sub hl [5, 6, 7, 8, 9, 4, 3, 2, 1, 0] rfl)
                · refine lv_iconst (v := 1) hx hb dModel_lookNumbers_131 (by decide) ?_
                  refine lv_goto (tgt := 136) hx hb dModel_lookNumbers_132 (by decide) ?_
                  exact J136 ls 1 (by subst ev80 ev62 ev61 ev60 ev59 ev57 ev32 ev31 ev5 ev3 ev1; exact hO.tr ((if_neg c55).trans ((if_neg c56).trans ((if_neg c58).trans ((if_neg c79).trans (if_neg c93)))))) (lv_sub hl [5, 6, 7, 8, 9, 4, 3, 2, 1, 0] rfl)
            · refine lv_bipush (v := 10) hx hb dModel_lookNumbers_97 (by decide) ?_
              exact hE _ _ _ _ _ hS ⟨σ, F, nu, (by subst ev57 ev32 ev31 ev5 ev3 ev1; exact hO.tr ((if_neg c55).trans ((if_neg c56).trans (if_pos c58)))), hM, hZ, hF, hL, (fun h9 => absurd (show (0 : Int32) < 10 by decide) h9)⟩ dModel_lookNumbers_99
          · exact J77 ls (by subst ev32 ev31 ev5 ev3 ev1; exact hO.tr ((if_neg c55).trans (if_pos c56))) (lv_sub hl [3, 4, 5, 6, 7, 2, 1, 0] rfl)
      have J46 : ∀ (ls : Array Slot), (Oq OUT (Q_lookNumbers_46 κ τ σ F nu x1 x2 x3 x4   )) → lv_has ls 16 [(0, .ref a), (1, .int x1), (2, .int x2), (3, .int x3), (4, .int x4)] → W p l e (bs_rm 3 0 0 72) s m args below meth c s.heap [] 0 0 Q (F0 m 46 ls []) := by
        intro ls hO hl
        refine lv_iconst (v := 0) hx hb dModel_lookNumbers_46 (by decide) ?_
        exact J47 ls 0 (by subst ev5 ev3 ev1; exact hO.tr rfl) (lv_sub hl [0, 1, 2, 3, 4] rfl)
      refine lv_if_eq (tgt := 46) hx hb dModel_lookNumbers_29 (by decide) (fun c94 => ?_) (fun c94 => ?_)
      · exact J46 ls (by subst ev5 ev3 ev1; exact hO.tr ((if_pos c2).trans ((if_pos c4).trans (if_pos c94)))) (lv_sub hl [0, 1, 2, 3, 4] rfl)
      · refine lv_aload_n hx hb dModel_lookNumbers_32 rfl (lv_at hl 0 rfl) ?_
        refine md_gA S hC hM 11 (by decide) rfl qw_88b9028ba7 dModel_lookNumbers_33 ?_
        refine lv_iload hx hb dModel_lookNumbers_36 (lv_at hl 4 rfl) ?_
        refine md_zld S hC hM 11 7 10000 (F 11) rfl rfl (by decide) rfl rfl (vin (by assumption) (by omega)) dModel_lookNumbers_38 ?_
        refine lv_topi (fun v95 ev95 => ?_)
        refine lv_if_eq (tgt := 46) hx hb dModel_lookNumbers_39 (by decide) (fun c96 => ?_) (fun c96 => ?_)
        · exact J46 ls (by subst ev95 ev5 ev3 ev1; exact hO.tr ((if_pos c2).trans ((if_pos c4).trans ((if_neg c94).trans (if_pos c96))))) (lv_sub hl [0, 1, 2, 3, 4] rfl)
        · refine lv_iconst (v := 1) hx hb dModel_lookNumbers_42 (by decide) ?_
          refine lv_goto (tgt := 47) hx hb dModel_lookNumbers_43 (by decide) ?_
          exact J47 ls 1 (by subst ev95 ev5 ev3 ev1; exact hO.tr ((if_pos c2).trans ((if_pos c4).trans ((if_neg c94).trans (if_neg c96))))) (lv_sub hl [0, 1, 2, 3, 4] rfl)
    · refine lv_iconst (v := 3) hx hb dModel_lookNumbers_21 (by decide) ?_
      exact hE _ _ _ _ _ hS ⟨σ, F, nu, (by subst ev3 ev1; exact hO.tr ((if_pos c2).trans (if_neg c4))), hM, hZ, hF, hL, (fun h9 => absurd (show (0 : Int32) < 3 by decide) h9)⟩ dModel_lookNumbers_22
def Q_lookShift_141 (κ : Nat → Nat) (τ : gf) (σ : Nat → Int32) (F : gf) (nu : gg) (x1 : Int32) (x2 : Int32) (x3 : Int32) (x4 : Int32) (t0_56 : Int32) (t0_81 : Int64) (F_86 : gf) (i7_86 : Int32) (k86 : gf → Int32 → Int32 × (Nat → Int32) × gf × gg) (t0_141 : Int32) : Int32 × (Nat → Int32) × gf × gg := (k86 ((Q_setElement κ τ σ F_86 ((Q_fact κ τ σ F nu x1 3 (F 10 x3.toNatClampNeg) t0_56).2.2) x1 i7_86 t0_141).2.1) (i7_86 + 1))
def Q_lookShift_140 (κ : Nat → Nat) (τ : gf) (σ : Nat → Int32) (F : gf) (nu : gg) (x1 : Int32) (x2 : Int32) (x3 : Int32) (x4 : Int32) (t0_56 : Int32) (t0_81 : Int64) (F_86 : gf) (i7_86 : Int32) (k86 : gf → Int32 → Int32 × (Nat → Int32) × gf × gg) : Int32 × (Nat → Int32) × gf × gg := (Q_lookShift_141 κ τ σ F nu x1 x2 x3 x4 t0_56 t0_81 F_86 i7_86 k86 2)
def Q_lookShift_86 (κ : Nat → Nat) (τ : gf) (σ : Nat → Int32) (F : gf) (nu : gg) (x1 : Int32) (x2 : Int32) (x3 : Int32) (x4 : Int32) (t0_56 : Int32) (t0_81 : Int64) : Nat → gf → Int32 → Int32 × (Nat → Int32) × gf × gg
  | 0, _, _ => default
  | n + 1, F_86, i7_86 => (if (F_86 10 x3.toNatClampNeg) ≤ i7_86 then ((Q_known κ τ σ F_86 ((Q_fact κ τ σ F nu x1 3 (F 10 x3.toNatClampNeg) t0_56).2.2) x1).1, σ, ((Q_known κ τ σ F_86 ((Q_fact κ τ σ F nu x1 3 (F 10 x3.toNatClampNeg) t0_56).2.2) x1).2.2.1), ((Q_known κ τ σ F_86 ((Q_fact κ τ σ F nu x1 3 (F 10 x3.toNatClampNeg) t0_56).2.2) x1).2.2.2)) else (if (lg_cmp ((i7_86.toInt64) - t0_81) 0) < 0 then (Q_lookShift_140 κ τ σ F nu x1 x2 x3 x4 t0_56 t0_81 F_86 i7_86 (fun a0 a1 => Q_lookShift_86 κ τ σ F nu x1 x2 x3 x4 t0_56 t0_81  n a0 a1) ) else (if 0 ≤ (lg_cmp ((i7_86.toInt64) - t0_81) ((F_86 10 x3.toNatClampNeg).toInt64)) then (Q_lookShift_140 κ τ σ F nu x1 x2 x3 x4 t0_56 t0_81 F_86 i7_86 (fun a0 a1 => Q_lookShift_86 κ τ σ F nu x1 x2 x3 x4 t0_56 t0_81  n a0 a1) ) else (Q_lookShift_141 κ τ σ F nu x1 x2 x3 x4 t0_56 t0_81 F_86 i7_86 (fun a0 a1 => Q_lookShift_86 κ τ σ F nu x1 x2 x3 x4 t0_56 t0_81  n a0 a1) (Q_element κ τ σ F_86 ((Q_fact κ τ σ F nu x1 3 (F 10 x3.toNatClampNeg) t0_56).2.2) x3 (((i7_86.toInt64) - t0_81).toInt32))))))
def Q_lookShift_81 (κ : Nat → Nat) (τ : gf) (σ : Nat → Int32) (F : gf) (nu : gg) (x1 : Int32) (x2 : Int32) (x3 : Int32) (x4 : Int32) (t0_56 : Int32) (t0_81 : Int64) : Int32 × (Nat → Int32) × gf × gg := (Q_lookShift_86 κ τ σ F nu x1 x2 x3 x4 t0_56 t0_81  ((2147483647 - (0 : Int32).toInt).toNat + 1) ((Q_fact κ τ σ F nu x1 3 (F 10 x3.toNatClampNeg) t0_56).2.1) 0)
def Q_lookShift_56 (κ : Nat → Nat) (τ : gf) (σ : Nat → Int32) (F : gf) (nu : gg) (x1 : Int32) (x2 : Int32) (x3 : Int32) (x4 : Int32) (t0_56 : Int32) : Int32 × (Nat → Int32) × gf × gg := (if x2 = 0 then (Q_lookShift_81 κ τ σ F nu x1 x2 x3 x4 t0_56  (-(((Q_fact κ τ σ F nu x1 3 (F 10 x3.toNatClampNeg) t0_56).2.2) x4.toNatClampNeg))) else (Q_lookShift_81 κ τ σ F nu x1 x2 x3 x4 t0_56  (((Q_fact κ τ σ F nu x1 3 (F 10 x3.toNatClampNeg) t0_56).2.2) x4.toNatClampNeg)))
def Q_lookShift_55 (κ : Nat → Nat) (τ : gf) (σ : Nat → Int32) (F : gf) (nu : gg) (x1 : Int32) (x2 : Int32) (x3 : Int32) (x4 : Int32) : Int32 × (Nat → Int32) × gf × gg := (Q_lookShift_56 κ τ σ F nu x1 x2 x3 x4  0)
def Q_lookShift (κ : Nat → Nat) (τ : gf) (σ : Nat → Int32) (F : gf) (nu : gg) (x1 : Int32) (x2 : Int32) (x3 : Int32) (x4 : Int32) : Int32 × (Nat → Int32) × gf × gg := (if (F 9 x3.toNatClampNeg) = 3 then (if (F 9 x4.toNatClampNeg) = 2 then (if (F 11 x3.toNatClampNeg) = 0 then (Q_lookShift_55 κ τ σ F nu x1 x2 x3 x4  ) else (if (F 11 x4.toNatClampNeg) = 0 then (Q_lookShift_55 κ τ σ F nu x1 x2 x3 x4  ) else (Q_lookShift_56 κ τ σ F nu x1 x2 x3 x4  1))) else (3, σ, F, nu)) else (3, σ, F, nu))
set_option maxHeartbeats 4000000 in
set_option maxRecDepth 100000 in
theorem n_lookShift (l : Launch) (γ : gE) (a : Nat) (B : Nat → Nat) (Z : Nat → Prop) (κ b mn : Nat → Nat) (ν : Nat → Int32) (τ : Nat → Nat → Int32) (σ : Nat → Int32) (F : Nat → Nat → Int32) (nu : Nat → Int64) (hT : ST κ b mn ν τ) (x1 : Int32) (x2 : Int32) (x3 : Int32) (x4 : Int32) (hx1 : vp_in x1 (κ 0)) (hx3 : vp_in x3 (κ 0)) (hx4 : vp_in x4 (κ 0)) (ha : x3.toNatClampNeg < x1.toNatClampNeg) (hbk : x4.toNatClampNeg < x1.toNatClampNeg) (hZ : SZ F) (hF : FD σ) : MU l yModel_lookShift bModel_lookShift 10 (some .int) 2 48 0 0 [.ref a, .int x1, .int x2, .int x3, .int x4] γ Z (MD γ a B Z ν τ σ F nu) (mQi (fun r H => ∃ (σ' : Nat → Int32) (F' : Nat → Nat → Int32) (nu' : Nat → Int64), Oq (Q_lookShift κ τ σ F nu x1 x2 x3 x4) (r, σ', F', nu') ∧ MD γ a B Z ν τ σ' F' nu' H ∧ SZ F' ∧ FD σ' ∧ SL x1.toNatClampNeg F nu F' nu' ∧ (¬ 0 < r → GK x1.toNatClampNeg F' nu')) Z) := by
  refine mu_openI (by decide) (Nat.le_of_ble_eq_true rfl) ?_
  intro p e s m args below meth c ls Q S hnm hC hA hM hE hl
  have hS : va_S Z s.heap s.heap [] := va_S.rf
  obtain ⟨hx, hb, hml, hown, hW⟩ := id S
  obtain ⟨⟨hs0, hs1, hs2, hs3, hs4, hs5, hs6⟩, ⟨hv6, hv8, hv21, hv24, hv30, hv31⟩, hTR, hTY, hOB, hNM⟩ := id hT
  have hL : SL x1.toNatClampNeg F nu F nu := SL.rf
  have hl : lv_has ls 10 [(0, .ref a), (1, .int x1), (2, .int x2), (3, .int x3), (4, .int x4)] := hl
  obtain ⟨OUT, hQ, hO⟩ : ∃ z, (z = Q_lookShift κ τ σ F nu x1 x2 x3 x4) ∧ Oq z (Q_lookShift κ τ σ F nu x1 x2 x3 x4) := ⟨_, rfl, rfl⟩
  rw [← hQ] at hE
  clear hQ
  refine lv_aload_n hx hb dModel_lookShift_0 rfl (lv_at hl 0 rfl) ?_
  refine md_gA S hC hM 9 (by decide) rfl qw_a119aeeca0 dModel_lookShift_1 ?_
  refine lv_iload_n hx hb dModel_lookShift_4 rfl (lv_at hl 3 rfl) ?_
  refine md_ild S hC hM 9 5 10000 (F 9) rfl rfl (by decide) rfl rfl (vin (by assumption) (by omega)) dModel_lookShift_5 ?_
  refine lv_topi (fun v1 ev1 => ?_)
  refine lv_iconst (v := 3) hx hb dModel_lookShift_6 (by decide) ?_
  refine lv_icmp_ne (tgt := 21) hx hb dModel_lookShift_7 (by decide) (fun c2 => ?_) (fun c2 => ?_)
  · refine lv_iconst (v := 3) hx hb dModel_lookShift_21 (by decide) ?_
    exact hE _ _ _ _ _ hS ⟨σ, F, nu, (by subst ev1; exact hO.tr (if_neg c2)), hM, hZ, hF, hL, (fun h9 => absurd (show (0 : Int32) < 3 by decide) h9)⟩ dModel_lookShift_22
  · refine lv_aload_n hx hb dModel_lookShift_10 rfl (lv_at hl 0 rfl) ?_
    refine md_gA S hC hM 9 (by decide) rfl qw_a119aeeca0 dModel_lookShift_11 ?_
    refine lv_iload hx hb dModel_lookShift_14 (lv_at hl 4 rfl) ?_
    refine md_ild S hC hM 9 5 10000 (F 9) rfl rfl (by decide) rfl rfl (vin (by assumption) (by omega)) dModel_lookShift_16 ?_
    refine lv_topi (fun v3 ev3 => ?_)
    refine lv_iconst (v := 2) hx hb dModel_lookShift_17 (by decide) ?_
    refine lv_icmp_eq (tgt := 23) hx hb dModel_lookShift_18 (by decide) (fun c4 => ?_) (fun c4 => ?_)
    · refine lv_aload_n hx hb dModel_lookShift_23 rfl (lv_at hl 0 rfl) ?_
      refine lv_iload_n hx hb dModel_lookShift_24 rfl (lv_at hl 1 rfl) ?_
      refine lv_iconst (v := 3) hx hb dModel_lookShift_25 (by decide) ?_
      refine lv_aload_n hx hb dModel_lookShift_26 rfl (lv_at hl 0 rfl) ?_
      refine md_gA S hC hM 10 (by decide) rfl qw_bd0251c605 dModel_lookShift_27 ?_
      refine lv_iload_n hx hb dModel_lookShift_30 rfl (lv_at hl 3 rfl) ?_
      refine md_ild S hC hM 10 6 10000 (F 10) rfl rfl (by decide) rfl rfl (vin (by assumption) (by omega)) dModel_lookShift_31 ?_
      refine lv_topi (fun v5 ev5 => ?_)
      refine lv_aload_n hx hb dModel_lookShift_32 rfl (lv_at hl 0 rfl) ?_
      refine md_gA S hC hM 11 (by decide) rfl qw_88b9028ba7 dModel_lookShift_33 ?_
      refine lv_iload_n hx hb dModel_lookShift_36 rfl (lv_at hl 3 rfl) ?_
      refine md_zld S hC hM 11 7 10000 (F 11) rfl rfl (by decide) rfl rfl (vin (by assumption) (by omega)) dModel_lookShift_37 ?_
      refine lv_topi (fun v6 ev6 => ?_)
      have J56 : ∀ (ls : Array Slot) (t0_56 : Int32), (Oq OUT (Q_lookShift_56 κ τ σ F nu x1 x2 x3 x4   t0_56)) → lv_has ls 10 [(0, .ref a), (1, .int x1), (2, .int x2), (3, .int x3), (4, .int x4)] → W p l e (bs_rm 2 0 0 48) s m args below meth c s.heap [] 0 0 Q (F0 m 56 ls [.int t0_56, .int v5, .int 3, .int x1, .ref a]) := by
        intro ls t0_56 hO hl
        have hnr30 : ∃ j, j ≤ 1000 ∧ v5 = nI j := (by rw [ev5]; exact hZ _ (vix (vin (by assumption) (by omega))))
        refine mu_Vv (rest := []) S hC (fun q h => hA q (Nat.le_trans hS.1 h)) (fun q h => h) hS (n_fact l γ a B Z κ b mn ν τ σ F nu hT x1 3 v5 t0_56 (vin (by assumption) (by omega)) hnr30) meModel_fact qw_02871250ec ⟨Nat.le_of_ble_eq_true rfl, Nat.le_of_ble_eq_true rfl⟩ (md_rv hC hM) hM rfl hl.1 rfl (Nat.le_of_ble_eq_true rfl) dModel_lookShift_56 ⟨Nat.le_refl _, Nat.le_refl _⟩ (fun H locs hPO hS _ _ => ?_)
        obtain ⟨Fr30, nur30, eOr30, hM, hqr30, hcr30⟩ := hPO
        have eFr30 : Fr30 = (Q_fact κ τ σ F nu x1 3 v5 t0_56).2.1 := by rw [eOr30.eq]
        have enur30 : nur30 = (Q_fact κ τ σ F nu x1 3 v5 t0_56).2.2 := by rw [eOr30.eq]
        clear eOr30
        have hZ : SZ Fr30 := hZ.slt hqr30 hnr30
        have hL : SL x1.toNatClampNeg F nu Fr30 nur30 := hL.trans (SL.slt hqr30)
        have hK : GK x1.toNatClampNeg Fr30 nur30 := GK.zero hqr30
        refine lv_iload_n hx hb dModel_lookShift_59 rfl (lv_at hl 2 rfl) ?_
        have J81 : ∀ (ls : Array Slot) (t0_81 : Int64), (Oq OUT (Q_lookShift_81 κ τ σ F nu x1 x2 x3 x4 t0_56   t0_81)) → lv_has ls 10 [(0, .ref a), (1, .int x1), (2, .int x2), (3, .int x3), (4, .int x4)] → W p l e (bs_rm 2 0 0 48) s m args below meth c H locs 0 0 Q (F0 m 81 ls [.long t0_81]) := by
          intro ls t0_81 hO hl
          refine lv_lstore (lv' := [(5, .long t0_81), (0, .ref a), (1, .int x1), (2, .int x2), (3, .int x3), (4, .int x4)]) hx hb dModel_lookShift_81 hl (by decide) rfl (fun ls hl => ?_)
          refine lv_iconst (v := 0) hx hb dModel_lookShift_83 (by decide) ?_
          refine lv_istore (lv' := [(7, .int 0), (5, .long t0_81), (0, .ref a), (1, .int x1), (2, .int x2), (3, .int x3), (4, .int x4)]) hx hb dModel_lookShift_84 hl (by decide) rfl (fun ls hl => ?_)
          have J86 : ∀ (N86 : Nat) (ls : Array Slot) (H : Heap) (locs : List Loc) (F_86 : Nat → Nat → Int32) (i7_86 : Int32), MD γ a B Z ν τ σ F_86 nur30 H → va_S Z s.heap H locs → (GK x1.toNatClampNeg F_86 nur30) → (SL x1.toNatClampNeg F nu F_86 nur30) → (SZ F_86) → (¬ i7_86 < 0) → (Oq OUT (Q_lookShift_86 κ τ σ F nu x1 x2 x3 x4 t0_56 t0_81  (N86 + 1) F_86 i7_86)) → (2147483647 - i7_86.toInt).toNat = N86 → lv_has ls 10 [(0, .ref a), (1, .int x1), (2, .int x2), (3, .int x3), (4, .int x4), (5, .long t0_81), (7, .int i7_86)] → W p l e (bs_rm 2 0 0 48) s m args below meth c H locs 0 0 Q (F0 m 86 ls []) := by
            intro N86
            induction N86 using Nat.strongRecOn with
            | ind N86 ih86 =>
              intro ls H locs F_86 i7_86 hM hS hK hL hZ hi7_86 hO hm86 hl
              refine lv_iload hx hb dModel_lookShift_86 (lv_at hl 6 rfl) ?_
              refine lv_aload_n hx hb dModel_lookShift_88 rfl (lv_at hl 0 rfl) ?_
              refine md_gA S hC hM 10 (by decide) rfl qw_bd0251c605 dModel_lookShift_89 ?_
              refine lv_iload_n hx hb dModel_lookShift_92 rfl (lv_at hl 3 rfl) ?_
              refine md_ild S hC hM 10 6 10000 (F_86 10) rfl rfl (by decide) rfl rfl (vin (by assumption) (by omega)) dModel_lookShift_93 ?_
              refine lv_topi (fun v50 ev50 => ?_)
              refine lv_icmp_ge (tgt := 150) hx hb dModel_lookShift_94 (by decide) (fun c51 => ?_) (fun c51 => ?_)
              · refine lv_aload_n hx hb dModel_lookShift_150 rfl (lv_at hl 0 rfl) ?_
                refine lv_iload_n hx hb dModel_lookShift_151 rfl (lv_at hl 1 rfl) ?_
                refine mu_Vi (rest := []) S hC (fun q h => hA q (Nat.le_trans hS.1 h)) (fun q h => h) hS (n_known l γ a B Z κ b mn ν τ σ F_86 nur30 hT x1 (vin (by assumption) (by omega))) meModel_known qw_aa15322dc3 ⟨Nat.le_of_ble_eq_true rfl, Nat.le_of_ble_eq_true rfl⟩ (md_rv hC hM) hM rfl hl.1 rfl (Nat.le_of_ble_eq_true rfl) dModel_lookShift_152 ⟨Nat.le_refl _, Nat.le_refl _⟩ (fun r52 H locs hPO hS _ _ => ?_)
                obtain ⟨hrr52, Fr52, nur52, eOr52, hM, hqr52, hnr52⟩ := hPO
                have er52 : r52 = (Q_known κ τ σ F_86 nur30 x1).1 := by rw [eOr52.eq]
                have eFr52 : Fr52 = (Q_known κ τ σ F_86 nur30 x1).2.2.1 := by rw [eOr52.eq]
                have enur52 : nur52 = (Q_known κ τ σ F_86 nur30 x1).2.2.2 := by rw [eOr52.eq]
                clear eOr52
                have hZ : SZ Fr52 := hZ.e14 hqr52
                have hL : SL x1.toNatClampNeg F nu Fr52 nur52 := hL.trans (SL.kn hqr52 hnr52)
                have hK : GK x1.toNatClampNeg Fr52 nur52 := hK.kn hqr52 hnr52
                exact hE _ _ _ _ _ hS ⟨σ, Fr52, nur52, (by subst enur52 eFr52 er52 ev50 enur30 eFr30 ev6 ev5 ev3 ev1; exact hO.tr (if_pos c51)), hM, hZ, hF, hL, (fun _ => hK)⟩ dModel_lookShift_155
              · have hin7 : vp_in i7_86 1000 := vsz hZ (vix (vin hx3 (by omega))) (by assumption) (by assumption) (by assumption)
                refine lv_iload hx hb dModel_lookShift_97 (lv_at hl 6 rfl) ?_
                refine lv_i2l hx hb dModel_lookShift_99 rfl ?_
                refine lv_topl (fun v53 ev53 => ?_)
                refine lv_lload hx hb dModel_lookShift_100 (lv_at hl 5 rfl) ?_
                refine lv_lsub hx hb dModel_lookShift_102 ?_
                refine lv_topl (fun v54 ev54 => ?_)
                refine lv_lstore (lv' := [(8, .long v54), (0, .ref a), (1, .int x1), (2, .int x2), (3, .int x3), (4, .int x4), (5, .long t0_81), (7, .int i7_86)]) hx hb dModel_lookShift_103 hl (by decide) rfl (fun ls hl => ?_)
                refine lv_aload_n hx hb dModel_lookShift_105 rfl (lv_at hl 1 rfl) ?_
                refine lv_iload_n hx hb dModel_lookShift_106 rfl (lv_at hl 2 rfl) ?_
                refine lv_iload hx hb dModel_lookShift_107 (lv_at hl 7 rfl) ?_
                refine lv_lload hx hb dModel_lookShift_109 (lv_at hl 0 rfl) ?_
                refine lv_lconst (v := 0) hx hb dModel_lookShift_111 (by decide) ?_
                refine W.lcmp hx hb dModel_lookShift_112 ?_
                refine lv_topi (fun v55 ev55 => ?_)
                have J141 : ∀ (ls : Array Slot) (t0_141 : Int32), (Oq OUT (Q_lookShift_141 κ τ σ F nu x1 x2 x3 x4 t0_56 t0_81 F_86 i7_86 (fun a0 a1 => Q_lookShift_86 κ τ σ F nu x1 x2 x3 x4 t0_56 t0_81  N86 a0 a1)  t0_141)) → lv_has ls 10 [(0, .ref a), (1, .int x1), (2, .int x2), (3, .int x3), (4, .int x4), (5, .long t0_81), (7, .int i7_86), (8, .long v54)] → W p l e (bs_rm 2 0 0 48) s m args below meth c H locs 0 0 Q (F0 m 141 ls [.int t0_141, .int i7_86, .int x1, .ref a]) := by
                  intro ls t0_141 hO hl
                  refine mu_Vv (rest := []) S hC (fun q h => hA q (Nat.le_trans hS.1 h)) (fun q h => h) hS (n_setElement l γ a B Z κ b mn ν τ σ F_86 nur30 hT x1 i7_86 t0_141 (el_in (by assumption) (by assumption) (by omega))) meModel_setElement qw_143403ccb9 ⟨Nat.le_of_ble_eq_true rfl, Nat.le_of_ble_eq_true rfl⟩ (md_rv hC hM) hM rfl hl.1 rfl (Nat.le_of_ble_eq_true rfl) dModel_lookShift_141 ⟨Nat.le_refl _, Nat.le_refl _⟩ (fun H locs hPO hS _ _ => ?_)
                  obtain ⟨Fr65, eOr65, hM, hqr65⟩ := hPO
                  have eFr65 : Fr65 = (Q_setElement κ τ σ F_86 nur30 x1 i7_86 t0_141).2.1 := by rw [eOr65.eq]
                  clear eOr65
                  have hZ : SZ Fr65 := hZ.e14 hqr65
                  have hL : SL x1.toNatClampNeg F nu Fr65 nur30 := hL.trans (SL.e14 hqr65)
                  have hK : GK x1.toNatClampNeg Fr65 nur30 := hK.e14 hqr65
                  obtain ⟨v66, ev66⟩ : ∃ y : Int32, y = i7_86 + 1 := ⟨_, rfl⟩
                  refine lv_iinc (v := v66) (lv' := [(7, .int v66), (0, .ref a), (1, .int x1), (2, .int x2), (3, .int x3), (4, .int x4), (5, .long t0_81), (8, .long v54)]) hx hb dModel_lookShift_144 hl (k := 6) rfl (by rw [ev66]; rfl) (by decide) rfl (fun ls hl => ?_)
                  refine lv_goto (tgt := 86) hx hb dModel_lookShift_147 (by decide) ?_
                  exact ih86 _ (by have q1 : i7_86.toInt < 2147483647 := (by first | assumption | exact (mu_up (k := i7_86) (by assumption)).2); have q2 := mu_lt q1; rw [← ev66] at q2; omega) ls _ _ Fr65 v66 hM hS hK hL hZ (by first | decide | exact nn_inc (by assumption) (by assumption) (by assumption)) (by have hN : N86 = (2147483647 - v66.toInt).toNat + 1 := (by have q1 : i7_86.toInt < 2147483647 := (by first | assumption | exact (mu_up (k := i7_86) (by assumption)).2); have q2 := mu_lt q1; rw [← ev66] at q2; omega); rw [← hN]; clear hN; subst ev66 eFr65 ev55 ev54 ev53 ev50 enur30 eFr30 ev6 ev5 ev3 ev1; exact hO.tr rfl) rfl (lv_sub hl [1, 2, 3, 4, 5, 6, 0] rfl)
                have J140 : ∀ (ls : Array Slot), (Oq OUT (Q_lookShift_140 κ τ σ F nu x1 x2 x3 x4 t0_56 t0_81 F_86 i7_86 (fun a0 a1 => Q_lookShift_86 κ τ σ F nu x1 x2 x3 x4 t0_56 t0_81  N86 a0 a1)  )) → lv_has ls 10 [(0, .ref a), (1, .int x1), (2, .int x2), (3, .int x3), (4, .int x4), (5, .long t0_81), (7, .int i7_86), (8, .long v54)] → W p l e (bs_rm 2 0 0 48) s m args below meth c H locs 0 0 Q (F0 m 140 ls [.int i7_86, .int x1, .ref a]) := by
                  intro ls hO hl
                  refine lv_iconst (v := 2) hx hb dModel_lookShift_140 (by decide) ?_
                  exact J141 ls 2 (by subst ev55 ev54 ev53 ev50 enur30 eFr30 ev6 ev5 ev3 ev1; exact hO.tr rfl) (lv_sub hl [0, 1, 2, 3, 4, 5, 6, 7] rfl)
                refine lv_if_lt (tgt := 140) hx hb dModel_lookShift_113 (by decide) (fun c67 => ?_) (fun c67 => ?_)
                · exact J140 ls (by subst ev55 ev54 ev53 ev50 enur30 eFr30 ev6 ev5 ev3 ev1; exact hO.tr ((if_neg c51).trans (if_pos c67))) (lv_sub hl [1, 2, 3, 4, 5, 6, 7, 0] rfl)
                · refine lv_lload hx hb dModel_lookShift_116 (lv_at hl 0 rfl) ?_
                  refine lv_aload_n hx hb dModel_lookShift_118 rfl (lv_at hl 1 rfl) ?_
                  refine md_gA S hC hM 10 (by decide) rfl qw_bd0251c605 dModel_lookShift_119 ?_
                  refine lv_iload_n hx hb dModel_lookShift_122 rfl (lv_at hl 4 rfl) ?_
                  refine md_ild S hC hM 10 6 10000 (F_86 10) rfl rfl (by decide) rfl rfl (vin (by assumption) (by omega)) dModel_lookShift_123 ?_
                  refine lv_topi (fun v68 ev68 => ?_)
                  refine lv_i2l hx hb dModel_lookShift_124 rfl ?_
                  refine lv_topl (fun v69 ev69 => ?_)
                  refine W.lcmp hx hb dModel_lookShift_125 ?_
                  refine lv_topi (fun v70 ev70 => ?_)
                  refine lv_if_ge (tgt := 140) hx hb dModel_lookShift_126 (by decide) (fun c71 => ?_) (fun c71 => ?_)
                  · exact J140 ls (by subst ev70 ev69 ev68 ev55 ev54 ev53 ev50 enur30 eFr30 ev6 ev5 ev3 ev1; exact hO.tr ((if_neg c51).trans ((if_neg c67).trans (if_pos c71)))) (lv_sub hl [1, 2, 3, 4, 5, 6, 7, 0] rfl)
                  · refine lv_aload_n hx hb dModel_lookShift_129 rfl (lv_at hl 1 rfl) ?_
                    refine lv_iload_n hx hb dModel_lookShift_130 rfl (lv_at hl 4 rfl) ?_
                    refine lv_lload hx hb dModel_lookShift_131 (lv_at hl 0 rfl) ?_
                    refine lv_l2i hx hb dModel_lookShift_133 rfl ?_
                    refine lv_topi (fun v72 ev72 => ?_)
                    have hfr : vp_in v72 1000 := sh_in ev55 (by assumption) ev69 (by rw [ev68]; exact hZ _ (vix (vin hx3 (by omega)))) ev70 (by assumption) ev72
                    refine pu_Vi (rest := [.int i7_86, .int x1, .ref a]) S hC (n_element l γ a B Z κ b mn ν τ σ F_86 nur30 hT x3 v72 (el_in (by assumption) (by assumption) (by omega))) meModel_element qw_ceb3d87d61 ⟨Nat.le_of_ble_eq_true rfl, Nat.le_of_ble_eq_true rfl⟩ (md_rv hC hM) hM rfl hl.1 rfl (Nat.le_of_ble_eq_true rfl) dModel_lookShift_134 ⟨Nat.zero_le _, Nat.zero_le _⟩ (fun r73 hr73 => ?_)
                    obtain ⟨hr73, er73⟩ := hr73
                    refine lv_goto (tgt := 141) hx hb dModel_lookShift_137 (by decide) ?_
                    exact J141 ls r73 (by subst er73 ev72 ev70 ev69 ev68 ev55 ev54 ev53 ev50 enur30 eFr30 ev6 ev5 ev3 ev1; exact hO.tr ((if_neg c51).trans ((if_neg c67).trans (if_neg c71)))) (lv_sub hl [1, 2, 3, 4, 5, 6, 7, 0] rfl)
          exact J86 _ ls _ _ Fr30 0 hM hS hK hL hZ (by first | decide | exact nn_inc (by assumption) (by assumption) (by assumption)) (by subst enur30 eFr30 ev6 ev5 ev3 ev1; exact hO.tr rfl) rfl (lv_sub hl [2, 3, 4, 5, 6, 1, 0] rfl)
        refine lv_if_eq (tgt := 73) hx hb dModel_lookShift_60 (by decide) (fun c74 => ?_) (fun c74 => ?_)
        · refine lv_aload_n hx hb dModel_lookShift_73 rfl (lv_at hl 0 rfl) ?_
          refine md_gA S hC hM 13 (by decide) rfl qw_7b809afc8c dModel_lookShift_74 ?_
          refine lv_iload hx hb dModel_lookShift_77 (lv_at hl 4 rfl) ?_
          refine md_lld S hC hM (vin (by assumption) (by omega)) dModel_lookShift_79 ?_
          refine lv_topl (fun v75 ev75 => ?_)
          have ev75 : v75 = nur30 x4.toNatClampNeg := ev75
          refine lv_lneg hx hb dModel_lookShift_80 ?_
          refine lv_topl (fun v76 ev76 => ?_)
          exact J81 ls v76 (by subst ev76 ev75 enur30 eFr30 ev6 ev5 ev3 ev1; exact hO.tr (if_pos c74)) (lv_sub hl [0, 1, 2, 3, 4] rfl)
        · refine lv_aload_n hx hb dModel_lookShift_63 rfl (lv_at hl 0 rfl) ?_
          refine md_gA S hC hM 13 (by decide) rfl qw_7b809afc8c dModel_lookShift_64 ?_
          refine lv_iload hx hb dModel_lookShift_67 (lv_at hl 4 rfl) ?_
          refine md_lld S hC hM (vin (by assumption) (by omega)) dModel_lookShift_69 ?_
          refine lv_topl (fun v77 ev77 => ?_)
          have ev77 : v77 = nur30 x4.toNatClampNeg := ev77
          refine lv_goto (tgt := 81) hx hb dModel_lookShift_70 (by decide) ?_
          exact J81 ls v77 (by subst ev77 enur30 eFr30 ev6 ev5 ev3 ev1; exact hO.tr (if_neg c74)) (lv_sub hl [0, 1, 2, 3, 4] rfl)
      have J55 : ∀ (ls : Array Slot), (Oq OUT (Q_lookShift_55 κ τ σ F nu x1 x2 x3 x4   )) → lv_has ls 10 [(0, .ref a), (1, .int x1), (2, .int x2), (3, .int x3), (4, .int x4)] → W p l e (bs_rm 2 0 0 48) s m args below meth c s.heap [] 0 0 Q (F0 m 55 ls [.int v5, .int 3, .int x1, .ref a]) := by
        intro ls hO hl
        refine lv_iconst (v := 0) hx hb dModel_lookShift_55 (by decide) ?_
        exact J56 ls 0 (by subst ev6 ev5 ev3 ev1; exact hO.tr rfl) (lv_sub hl [0, 1, 2, 3, 4] rfl)
      refine lv_if_eq (tgt := 55) hx hb dModel_lookShift_38 (by decide) (fun c78 => ?_) (fun c78 => ?_)
      · exact J55 ls (by subst ev6 ev5 ev3 ev1; exact hO.tr ((if_pos c2).trans ((if_pos c4).trans (if_pos c78)))) (lv_sub hl [0, 1, 2, 3, 4] rfl)
      · refine lv_aload_n hx hb dModel_lookShift_41 rfl (lv_at hl 0 rfl) ?_
        refine md_gA S hC hM 11 (by decide) rfl qw_88b9028ba7 dModel_lookShift_42 ?_
        refine lv_iload hx hb dModel_lookShift_45 (lv_at hl 4 rfl) ?_
        refine md_zld S hC hM 11 7 10000 (F 11) rfl rfl (by decide) rfl rfl (vin (by assumption) (by omega)) dModel_lookShift_47 ?_
        refine lv_topi (fun v79 ev79 => ?_)
        refine lv_if_eq (tgt := 55) hx hb dModel_lookShift_48 (by decide) (fun c80 => ?_) (fun c80 => ?_)
        · exact J55 ls (by subst ev79 ev6 ev5 ev3 ev1; exact hO.tr ((if_pos c2).trans ((if_pos c4).trans ((if_neg c78).trans (if_pos c80))))) (lv_sub hl [0, 1, 2, 3, 4] rfl)
        · refine lv_iconst (v := 1) hx hb dModel_lookShift_51 (by decide) ?_
          refine lv_goto (tgt := 56) hx hb dModel_lookShift_52 (by decide) ?_
          exact J56 ls 1 (by subst ev79 ev6 ev5 ev3 ev1; exact hO.tr ((if_pos c2).trans ((if_pos c4).trans ((if_neg c78).trans (if_neg c80))))) (lv_sub hl [0, 1, 2, 3, 4] rfl)
    · refine lv_iconst (v := 3) hx hb dModel_lookShift_21 (by decide) ?_
      exact hE _ _ _ _ _ hS ⟨σ, F, nu, (by subst ev3 ev1; exact hO.tr ((if_pos c2).trans (if_neg c4))), hM, hZ, hF, hL, (fun h9 => absurd (show (0 : Int32) < 3 by decide) h9)⟩ dModel_lookShift_22
def Q_lookBinary_70 (κ : Nat → Nat) (τ : gf) (σ : Nat → Int32) (F : gf) (nu : gg) (x1 : Int32) (x2 : Int32) (x3 : Int32) (t0_70 : Int32) : Int32 × (Nat → Int32) × gf × gg := ((Q_lookSum κ τ σ F nu x1 t0_70 x2 x3).1, ((Q_lookSum κ τ σ F nu x1 t0_70 x2 x3).2.1), ((Q_lookSum κ τ σ F nu x1 t0_70 x2 x3).2.2.1), ((Q_lookSum κ τ σ F nu x1 t0_70 x2 x3).2.2.2))
def Q_lookBinary_56 (κ : Nat → Nat) (τ : gf) (σ : Nat → Int32) (F : gf) (nu : gg) (x1 : Int32) (x2 : Int32) (x3 : Int32) : Int32 × (Nat → Int32) × gf × gg := (if (τ 3 x1.toNatClampNeg) = 13 then (Q_lookBinary_70 κ τ σ F nu x1 x2 x3  1) else (Q_lookBinary_70 κ τ σ F nu x1 x2 x3  0))
def Q_lookBinary_124 (κ : Nat → Nat) (τ : gf) (σ : Nat → Int32) (F : gf) (nu : gg) (x1 : Int32) (x2 : Int32) (x3 : Int32) (t0_124 : Int32) : Int32 × (Nat → Int32) × gf × gg := ((Q_lookShift κ τ σ F nu x1 t0_124 x2 x3).1, ((Q_lookShift κ τ σ F nu x1 t0_124 x2 x3).2.1), ((Q_lookShift κ τ σ F nu x1 t0_124 x2 x3).2.2.1), ((Q_lookShift κ τ σ F nu x1 t0_124 x2 x3).2.2.2))
def Q_lookBinary (κ : Nat → Nat) (τ : gf) (σ : Nat → Int32) (F : gf) (nu : gg) (x1 : Int32) (x2 : Int32) (x3 : Int32) : Int32 × (Nat → Int32) × gf × gg := (if 6 ≤ (τ 3 x1.toNatClampNeg) then (if 12 ≤ (τ 3 x1.toNatClampNeg) then (if (τ 3 x1.toNatClampNeg) = 12 then (Q_lookBinary_56 κ τ σ F nu x1 x2 x3  ) else (if (τ 3 x1.toNatClampNeg) = 13 then (Q_lookBinary_56 κ τ σ F nu x1 x2 x3  ) else (if (τ 3 x1.toNatClampNeg) = 14 then ((Q_lookJoined κ τ σ F nu x1 x2 x3).1, ((Q_lookJoined κ τ σ F nu x1 x2 x3).2.1), ((Q_lookJoined κ τ σ F nu x1 x2 x3).2.2.1), ((Q_lookJoined κ τ σ F nu x1 x2 x3).2.2.2)) else (if 19 ≤ (τ 3 x1.toNatClampNeg) then (if (τ 3 x1.toNatClampNeg) = 19 then (Q_lookBinary_124 κ τ σ F nu x1 x2 x3  1) else (Q_lookBinary_124 κ τ σ F nu x1 x2 x3  0)) else ((Q_lookNumbers κ τ σ F nu x1 (τ 3 x1.toNatClampNeg) x2 x3).1, ((Q_lookNumbers κ τ σ F nu x1 (τ 3 x1.toNatClampNeg) x2 x3).2.1), ((Q_lookNumbers κ τ σ F nu x1 (τ 3 x1.toNatClampNeg) x2 x3).2.2.1), ((Q_lookNumbers κ τ σ F nu x1 (τ 3 x1.toNatClampNeg) x2 x3).2.2.2)))))) else ((Q_lookOrder κ τ σ F nu x1 (τ 3 x1.toNatClampNeg) x2 x3).1, ((Q_lookOrder κ τ σ F nu x1 (τ 3 x1.toNatClampNeg) x2 x3).2.1), ((Q_lookOrder κ τ σ F nu x1 (τ 3 x1.toNatClampNeg) x2 x3).2.2.1), ((Q_lookOrder κ τ σ F nu x1 (τ 3 x1.toNatClampNeg) x2 x3).2.2.2))) else ((Q_lookLogic κ τ σ F nu x1 (τ 3 x1.toNatClampNeg) x2 x3).1, ((Q_lookLogic κ τ σ F nu x1 (τ 3 x1.toNatClampNeg) x2 x3).2.1), ((Q_lookLogic κ τ σ F nu x1 (τ 3 x1.toNatClampNeg) x2 x3).2.2.1), ((Q_lookLogic κ τ σ F nu x1 (τ 3 x1.toNatClampNeg) x2 x3).2.2.2)))
set_option maxHeartbeats 4000000 in
set_option maxRecDepth 100000 in
theorem n_lookBinary (l : Launch) (γ : gE) (a : Nat) (B : Nat → Nat) (Z : Nat → Prop) (κ b mn : Nat → Nat) (ν : Nat → Int32) (τ : Nat → Nat → Int32) (σ : Nat → Int32) (F : Nat → Nat → Int32) (nu : Nat → Int64) (hT : ST κ b mn ν τ) (x1 : Int32) (x2 : Int32) (x3 : Int32) (hx1 : vp_in x1 (κ 0)) (hx2 : vp_in x2 (κ 0)) (hx3 : vp_in x3 (κ 0)) (ha : x2.toNatClampNeg < x1.toNatClampNeg) (hbk : x3.toNatClampNeg < x1.toNatClampNeg) (hZ : SZ F) (hF : FD σ) : MU l yModel_lookBinary bModel_lookBinary 5 (some .int) 4 107 0 0 [.ref a, .int x1, .int x2, .int x3] γ Z (MD γ a B Z ν τ σ F nu) (mQi (fun r H => ∃ (σ' : Nat → Int32) (F' : Nat → Nat → Int32) (nu' : Nat → Int64), Oq (Q_lookBinary κ τ σ F nu x1 x2 x3) (r, σ', F', nu') ∧ MD γ a B Z ν τ σ' F' nu' H ∧ SZ F' ∧ FD σ' ∧ SL x1.toNatClampNeg F nu F' nu' ∧ (¬ 0 < r → GK x1.toNatClampNeg F' nu')) Z) := by
  refine mu_openI (by decide) (Nat.le_of_ble_eq_true rfl) ?_
  intro p e s m args below meth c ls Q S hnm hC hA hM hE hl
  have hS : va_S Z s.heap s.heap [] := va_S.rf
  obtain ⟨hx, hb, hml, hown, hW⟩ := id S
  obtain ⟨⟨hs0, hs1, hs2, hs3, hs4, hs5, hs6⟩, ⟨hv6, hv8, hv21, hv24, hv30, hv31⟩, hTR, hTY, hOB, hNM⟩ := id hT
  have hL : SL x1.toNatClampNeg F nu F nu := SL.rf
  have hl : lv_has ls 5 [(0, .ref a), (1, .int x1), (2, .int x2), (3, .int x3)] := hl
  obtain ⟨OUT, hQ, hO⟩ : ∃ z, (z = Q_lookBinary κ τ σ F nu x1 x2 x3) ∧ Oq z (Q_lookBinary κ τ σ F nu x1 x2 x3) := ⟨_, rfl, rfl⟩
  rw [← hQ] at hE
  clear hQ
  refine lv_aload_n hx hb dModel_lookBinary_0 rfl (lv_at hl 0 rfl) ?_
  refine md_gA S hC hM 3 (by decide) rfl qw_9fb851a5fa dModel_lookBinary_1 ?_
  refine lv_iload_n hx hb dModel_lookBinary_4 rfl (lv_at hl 1 rfl) ?_
  refine md_ild S hC hM 3 1 4000 (τ 3) rfl rfl (by decide) rfl rfl (vin (by assumption) (by omega)) dModel_lookBinary_5 ?_
  refine lv_topi (fun v1 ev1 => ?_)
  refine lv_istore (lv' := [(4, .int v1), (0, .ref a), (1, .int x1), (2, .int x2), (3, .int x3)]) hx hb dModel_lookBinary_6 hl (by decide) rfl (fun ls hl => ?_)
  refine lv_iload hx hb dModel_lookBinary_8 (lv_at hl 0 rfl) ?_
  refine lv_bipush (v := 6) hx hb dModel_lookBinary_10 (by decide) ?_
  refine lv_icmp_ge (tgt := 25) hx hb dModel_lookBinary_12 (by decide) (fun c2 => ?_) (fun c2 => ?_)
  · refine lv_iload hx hb dModel_lookBinary_25 (lv_at hl 0 rfl) ?_
    refine lv_bipush (v := 12) hx hb dModel_lookBinary_27 (by decide) ?_
    refine lv_icmp_ge (tgt := 42) hx hb dModel_lookBinary_29 (by decide) (fun c3 => ?_) (fun c3 => ?_)
    · refine lv_iload hx hb dModel_lookBinary_42 (lv_at hl 0 rfl) ?_
      refine lv_bipush (v := 12) hx hb dModel_lookBinary_44 (by decide) ?_
      have J56 : ∀ (ls : Array Slot), (Oq OUT (Q_lookBinary_56 κ τ σ F nu x1 x2 x3   )) → lv_has ls 5 [(0, .ref a), (1, .int x1), (2, .int x2), (3, .int x3), (4, .int v1)] → W p l e (bs_rm 4 0 0 107) s m args below meth c s.heap [] 0 0 Q (F0 m 56 ls []) := by
        intro ls hO hl
        refine lv_aload_n hx hb dModel_lookBinary_56 rfl (lv_at hl 0 rfl) ?_
        refine lv_iload_n hx hb dModel_lookBinary_57 rfl (lv_at hl 1 rfl) ?_
        refine lv_iload hx hb dModel_lookBinary_58 (lv_at hl 4 rfl) ?_
        refine lv_bipush (v := 13) hx hb dModel_lookBinary_60 (by decide) ?_
        have J70 : ∀ (ls : Array Slot) (t0_70 : Int32), (Oq OUT (Q_lookBinary_70 κ τ σ F nu x1 x2 x3   t0_70)) → lv_has ls 5 [(0, .ref a), (1, .int x1), (2, .int x2), (3, .int x3), (4, .int v1)] → W p l e (bs_rm 4 0 0 107) s m args below meth c s.heap [] 0 0 Q (F0 m 70 ls [.int t0_70, .int x1, .ref a]) := by
          intro ls t0_70 hO hl
          refine lv_iload_n hx hb dModel_lookBinary_70 rfl (lv_at hl 2 rfl) ?_
          refine lv_iload_n hx hb dModel_lookBinary_71 rfl (lv_at hl 3 rfl) ?_
          refine mu_Vi (rest := []) S hC (fun q h => hA q (Nat.le_trans hS.1 h)) (fun q h => h) hS (n_lookSum l γ a B Z κ b mn ν τ σ F nu hT x1 t0_70 x2 x3 (vin (by assumption) (by omega)) (vin (by assumption) (by omega)) (vin (by assumption) (by omega)) (by assumption) (by assumption) hZ hF) meModel_lookSum qw_c857c4ab9d ⟨Nat.le_of_ble_eq_true rfl, Nat.le_of_ble_eq_true rfl⟩ (md_rv hC hM) hM rfl hl.1 rfl (Nat.le_of_ble_eq_true rfl) dModel_lookBinary_72 ⟨Nat.le_refl _, Nat.le_refl _⟩ (fun r16 H locs hPO hS _ _ => ?_)
          obtain ⟨σr16, Fr16, nur16, eOr16, hM, hZ, hF, hLr16, hRr16⟩ := hPO
          have er16 : r16 = (Q_lookSum κ τ σ F nu x1 t0_70 x2 x3).1 := by rw [eOr16.eq]
          have eσr16 : σr16 = (Q_lookSum κ τ σ F nu x1 t0_70 x2 x3).2.1 := by rw [eOr16.eq]
          have eFr16 : Fr16 = (Q_lookSum κ τ σ F nu x1 t0_70 x2 x3).2.2.1 := by rw [eOr16.eq]
          have enur16 : nur16 = (Q_lookSum κ τ σ F nu x1 t0_70 x2 x3).2.2.2 := by rw [eOr16.eq]
          clear eOr16
          have hL : SL x1.toNatClampNeg F nu Fr16 nur16 := hL.trans hLr16
          exact hE _ _ _ _ _ hS ⟨σr16, Fr16, nur16, (by subst enur16 eFr16 eσr16 er16 ev1; exact hO.tr rfl), hM, hZ, hF, hL, hRr16⟩ dModel_lookBinary_75
        refine lv_icmp_ne (tgt := 69) hx hb dModel_lookBinary_62 (by decide) (fun c17 => ?_) (fun c17 => ?_)
        · refine lv_iconst (v := 0) hx hb dModel_lookBinary_69 (by decide) ?_
          exact J70 ls 0 (by subst ev1; exact hO.tr (if_neg c17)) (lv_sub hl [0, 1, 2, 3, 4] rfl)
        · refine lv_iconst (v := 1) hx hb dModel_lookBinary_65 (by decide) ?_
          refine lv_goto (tgt := 70) hx hb dModel_lookBinary_66 (by decide) ?_
          exact J70 ls 1 (by subst ev1; exact hO.tr (if_pos c17)) (lv_sub hl [0, 1, 2, 3, 4] rfl)
      refine lv_icmp_eq (tgt := 56) hx hb dModel_lookBinary_46 (by decide) (fun c18 => ?_) (fun c18 => ?_)
      · exact J56 ls (by subst ev1; exact hO.tr ((if_pos c2).trans ((if_pos c3).trans (if_pos c18)))) (lv_sub hl [1, 2, 3, 4, 0] rfl)
      · refine lv_iload hx hb dModel_lookBinary_49 (lv_at hl 0 rfl) ?_
        refine lv_bipush (v := 13) hx hb dModel_lookBinary_51 (by decide) ?_
        refine lv_icmp_ne (tgt := 76) hx hb dModel_lookBinary_53 (by decide) (fun c19 => ?_) (fun c19 => ?_)
        · refine lv_iload hx hb dModel_lookBinary_76 (lv_at hl 0 rfl) ?_
          refine lv_bipush (v := 14) hx hb dModel_lookBinary_78 (by decide) ?_
          refine lv_icmp_ne (tgt := 91) hx hb dModel_lookBinary_80 (by decide) (fun c20 => ?_) (fun c20 => ?_)
          · refine lv_iload hx hb dModel_lookBinary_91 (lv_at hl 0 rfl) ?_
            refine lv_bipush (v := 19) hx hb dModel_lookBinary_93 (by decide) ?_
            refine lv_icmp_ge (tgt := 110) hx hb dModel_lookBinary_95 (by decide) (fun c21 => ?_) (fun c21 => ?_)
            · refine lv_aload_n hx hb dModel_lookBinary_110 rfl (lv_at hl 1 rfl) ?_
              refine lv_iload_n hx hb dModel_lookBinary_111 rfl (lv_at hl 2 rfl) ?_
              refine lv_iload hx hb dModel_lookBinary_112 (lv_at hl 0 rfl) ?_
              refine lv_bipush (v := 19) hx hb dModel_lookBinary_114 (by decide) ?_
              have J124 : ∀ (ls : Array Slot) (t0_124 : Int32), (Oq OUT (Q_lookBinary_124 κ τ σ F nu x1 x2 x3   t0_124)) → lv_has ls 5 [(0, .ref a), (1, .int x1), (2, .int x2), (3, .int x3), (4, .int v1)] → W p l e (bs_rm 4 0 0 107) s m args below meth c s.heap [] 0 0 Q (F0 m 124 ls [.int t0_124, .int x1, .ref a]) := by
                intro ls t0_124 hO hl
                refine lv_iload_n hx hb dModel_lookBinary_124 rfl (lv_at hl 2 rfl) ?_
                refine lv_iload_n hx hb dModel_lookBinary_125 rfl (lv_at hl 3 rfl) ?_
                refine mu_Vi (rest := []) S hC (fun q h => hA q (Nat.le_trans hS.1 h)) (fun q h => h) hS (n_lookShift l γ a B Z κ b mn ν τ σ F nu hT x1 t0_124 x2 x3 (vin (by assumption) (by omega)) (vin (by assumption) (by omega)) (vin (by assumption) (by omega)) (by assumption) (by assumption) hZ hF) meModel_lookShift qw_9989324b00 ⟨Nat.le_of_ble_eq_true rfl, Nat.le_of_ble_eq_true rfl⟩ (md_rv hC hM) hM rfl hl.1 rfl (Nat.le_of_ble_eq_true rfl) dModel_lookBinary_126 ⟨Nat.le_refl _, Nat.le_refl _⟩ (fun r24 H locs hPO hS _ _ => ?_)
                obtain ⟨σr24, Fr24, nur24, eOr24, hM, hZ, hF, hLr24, hRr24⟩ := hPO
                have er24 : r24 = (Q_lookShift κ τ σ F nu x1 t0_124 x2 x3).1 := by rw [eOr24.eq]
                have eσr24 : σr24 = (Q_lookShift κ τ σ F nu x1 t0_124 x2 x3).2.1 := by rw [eOr24.eq]
                have eFr24 : Fr24 = (Q_lookShift κ τ σ F nu x1 t0_124 x2 x3).2.2.1 := by rw [eOr24.eq]
                have enur24 : nur24 = (Q_lookShift κ τ σ F nu x1 t0_124 x2 x3).2.2.2 := by rw [eOr24.eq]
                clear eOr24
                have hL : SL x1.toNatClampNeg F nu Fr24 nur24 := hL.trans hLr24
                exact hE _ _ _ _ _ hS ⟨σr24, Fr24, nur24, (by subst enur24 eFr24 eσr24 er24 ev1; exact hO.tr rfl), hM, hZ, hF, hL, hRr24⟩ dModel_lookBinary_129
              refine lv_icmp_ne (tgt := 123) hx hb dModel_lookBinary_116 (by decide) (fun c25 => ?_) (fun c25 => ?_)
              · refine lv_iconst (v := 0) hx hb dModel_lookBinary_123 (by decide) ?_
                exact J124 ls 0 (by subst ev1; exact hO.tr ((if_pos c2).trans ((if_pos c3).trans ((if_neg c18).trans ((if_neg c19).trans ((if_neg c20).trans ((if_pos c21).trans (if_neg c25)))))))) (lv_sub hl [1, 2, 3, 4, 0] rfl)
              · refine lv_iconst (v := 1) hx hb dModel_lookBinary_119 (by decide) ?_
                refine lv_goto (tgt := 124) hx hb dModel_lookBinary_120 (by decide) ?_
                exact J124 ls 1 (by subst ev1; exact hO.tr ((if_pos c2).trans ((if_pos c3).trans ((if_neg c18).trans ((if_neg c19).trans ((if_neg c20).trans ((if_pos c21).trans (if_pos c25)))))))) (lv_sub hl [1, 2, 3, 4, 0] rfl)
            · refine lv_aload_n hx hb dModel_lookBinary_98 rfl (lv_at hl 1 rfl) ?_
              refine lv_iload_n hx hb dModel_lookBinary_99 rfl (lv_at hl 2 rfl) ?_
              refine lv_iload hx hb dModel_lookBinary_100 (lv_at hl 0 rfl) ?_
              refine lv_iload_n hx hb dModel_lookBinary_102 rfl (lv_at hl 3 rfl) ?_
              refine lv_iload_n hx hb dModel_lookBinary_103 rfl (lv_at hl 4 rfl) ?_
              refine mu_Vi (rest := []) S hC (fun q h => hA q (Nat.le_trans hS.1 h)) (fun q h => h) hS (n_lookNumbers l γ a B Z κ b mn ν τ σ F nu hT x1 v1 x2 x3 (vin (by assumption) (by omega)) (vin (by assumption) (by omega)) (vin (by assumption) (by omega)) (by assumption) (by assumption) hZ hF) meModel_lookNumbers qw_e252724d8c ⟨Nat.le_of_ble_eq_true rfl, Nat.le_of_ble_eq_true rfl⟩ (md_rv hC hM) hM rfl hl.1 rfl (Nat.le_of_ble_eq_true rfl) dModel_lookBinary_104 ⟨Nat.le_refl _, Nat.le_refl _⟩ (fun r26 H locs hPO hS _ _ => ?_)
              obtain ⟨σr26, Fr26, nur26, eOr26, hM, hZ, hF, hLr26, hRr26⟩ := hPO
              have er26 : r26 = (Q_lookNumbers κ τ σ F nu x1 v1 x2 x3).1 := by rw [eOr26.eq]
              have eσr26 : σr26 = (Q_lookNumbers κ τ σ F nu x1 v1 x2 x3).2.1 := by rw [eOr26.eq]
              have eFr26 : Fr26 = (Q_lookNumbers κ τ σ F nu x1 v1 x2 x3).2.2.1 := by rw [eOr26.eq]
              have enur26 : nur26 = (Q_lookNumbers κ τ σ F nu x1 v1 x2 x3).2.2.2 := by rw [eOr26.eq]
              clear eOr26
              have hL : SL x1.toNatClampNeg F nu Fr26 nur26 := hL.trans hLr26
              refine lv_goto (tgt := 129) hx hb dModel_lookBinary_107 (by decide) ?_
              exact hE _ _ _ _ _ hS ⟨σr26, Fr26, nur26, (by subst enur26 eFr26 eσr26 er26 ev1; exact hO.tr ((if_pos c2).trans ((if_pos c3).trans ((if_neg c18).trans ((if_neg c19).trans ((if_neg c20).trans (if_neg c21))))))), hM, hZ, hF, hL, hRr26⟩ dModel_lookBinary_129
          · refine lv_aload_n hx hb dModel_lookBinary_83 rfl (lv_at hl 1 rfl) ?_
            refine lv_iload_n hx hb dModel_lookBinary_84 rfl (lv_at hl 2 rfl) ?_
            refine lv_iload_n hx hb dModel_lookBinary_85 rfl (lv_at hl 3 rfl) ?_
            refine lv_iload_n hx hb dModel_lookBinary_86 rfl (lv_at hl 4 rfl) ?_
            refine mu_Vi (rest := []) S hC (fun q h => hA q (Nat.le_trans hS.1 h)) (fun q h => h) hS (n_lookJoined l γ a B Z κ b mn ν τ σ F nu hT x1 x2 x3 (vin (by assumption) (by omega)) (vin (by assumption) (by omega)) (vin (by assumption) (by omega)) (by assumption) (by assumption) hZ hF) meModel_lookJoined qw_eedff52c6d ⟨Nat.le_of_ble_eq_true rfl, Nat.le_of_ble_eq_true rfl⟩ (md_rv hC hM) hM rfl hl.1 rfl (Nat.le_of_ble_eq_true rfl) dModel_lookBinary_87 ⟨Nat.le_refl _, Nat.le_refl _⟩ (fun r27 H locs hPO hS _ _ => ?_)
            obtain ⟨σr27, Fr27, nur27, eOr27, hM, hZ, hF, hLr27, hRr27⟩ := hPO
            have er27 : r27 = (Q_lookJoined κ τ σ F nu x1 x2 x3).1 := by rw [eOr27.eq]
            have eσr27 : σr27 = (Q_lookJoined κ τ σ F nu x1 x2 x3).2.1 := by rw [eOr27.eq]
            have eFr27 : Fr27 = (Q_lookJoined κ τ σ F nu x1 x2 x3).2.2.1 := by rw [eOr27.eq]
            have enur27 : nur27 = (Q_lookJoined κ τ σ F nu x1 x2 x3).2.2.2 := by rw [eOr27.eq]
            clear eOr27
            have hL : SL x1.toNatClampNeg F nu Fr27 nur27 := hL.trans hLr27
            exact hE _ _ _ _ _ hS ⟨σr27, Fr27, nur27, (by subst enur27 eFr27 eσr27 er27 ev1; exact hO.tr ((if_pos c2).trans ((if_pos c3).trans ((if_neg c18).trans ((if_neg c19).trans (if_pos c20)))))), hM, hZ, hF, hL, hRr27⟩ dModel_lookBinary_90
        · exact J56 ls (by subst ev1; exact hO.tr ((if_pos c2).trans ((if_pos c3).trans ((if_neg c18).trans (if_pos c19))))) (lv_sub hl [1, 2, 3, 4, 0] rfl)
    · refine lv_aload_n hx hb dModel_lookBinary_32 rfl (lv_at hl 1 rfl) ?_
      refine lv_iload_n hx hb dModel_lookBinary_33 rfl (lv_at hl 2 rfl) ?_
      refine lv_iload hx hb dModel_lookBinary_34 (lv_at hl 0 rfl) ?_
      refine lv_iload_n hx hb dModel_lookBinary_36 rfl (lv_at hl 3 rfl) ?_
      refine lv_iload_n hx hb dModel_lookBinary_37 rfl (lv_at hl 4 rfl) ?_
      refine mu_Vi (rest := []) S hC (fun q h => hA q (Nat.le_trans hS.1 h)) (fun q h => h) hS (n_lookOrder l γ a B Z κ b mn ν τ σ F nu hT x1 v1 x2 x3 (vin (by assumption) (by omega)) (vin (by assumption) (by omega)) (vin (by assumption) (by omega)) (by assumption) (by assumption) hZ hF) meModel_lookOrder qw_25c6887e45 ⟨Nat.le_of_ble_eq_true rfl, Nat.le_of_ble_eq_true rfl⟩ (md_rv hC hM) hM rfl hl.1 rfl (Nat.le_of_ble_eq_true rfl) dModel_lookBinary_38 ⟨Nat.le_refl _, Nat.le_refl _⟩ (fun r28 H locs hPO hS _ _ => ?_)
      obtain ⟨σr28, Fr28, nur28, eOr28, hM, hZ, hF, hLr28, hRr28⟩ := hPO
      have er28 : r28 = (Q_lookOrder κ τ σ F nu x1 v1 x2 x3).1 := by rw [eOr28.eq]
      have eσr28 : σr28 = (Q_lookOrder κ τ σ F nu x1 v1 x2 x3).2.1 := by rw [eOr28.eq]
      have eFr28 : Fr28 = (Q_lookOrder κ τ σ F nu x1 v1 x2 x3).2.2.1 := by rw [eOr28.eq]
      have enur28 : nur28 = (Q_lookOrder κ τ σ F nu x1 v1 x2 x3).2.2.2 := by rw [eOr28.eq]
      clear eOr28
      have hL : SL x1.toNatClampNeg F nu Fr28 nur28 := hL.trans hLr28
      exact hE _ _ _ _ _ hS ⟨σr28, Fr28, nur28, (by subst enur28 eFr28 eσr28 er28 ev1; exact hO.tr ((if_pos c2).trans (if_neg c3))), hM, hZ, hF, hL, hRr28⟩ dModel_lookBinary_41
  · refine lv_aload_n hx hb dModel_lookBinary_15 rfl (lv_at hl 1 rfl) ?_
    refine lv_iload_n hx hb dModel_lookBinary_16 rfl (lv_at hl 2 rfl) ?_
    refine lv_iload hx hb dModel_lookBinary_17 (lv_at hl 0 rfl) ?_
    refine lv_iload_n hx hb dModel_lookBinary_19 rfl (lv_at hl 3 rfl) ?_
    refine lv_iload_n hx hb dModel_lookBinary_20 rfl (lv_at hl 4 rfl) ?_
    refine mu_Vi (rest := []) S hC (fun q h => hA q (Nat.le_trans hS.1 h)) (fun q h => h) hS (n_lookLogic l γ a B Z κ b mn ν τ σ F nu hT x1 v1 x2 x3 (vin (by assumption) (by omega)) (vin (by assumption) (by omega)) (vin (by assumption) (by omega)) (by assumption) (by assumption) hZ hF) meModel_lookLogic qw_210034d4bb ⟨Nat.le_of_ble_eq_true rfl, Nat.le_of_ble_eq_true rfl⟩ (md_rv hC hM) hM rfl hl.1 rfl (Nat.le_of_ble_eq_true rfl) dModel_lookBinary_21 ⟨Nat.le_refl _, Nat.le_refl _⟩ (fun r29 H locs hPO hS _ _ => ?_)
    obtain ⟨σr29, Fr29, nur29, eOr29, hM, hZ, hF, hLr29, hRr29⟩ := hPO
    have er29 : r29 = (Q_lookLogic κ τ σ F nu x1 v1 x2 x3).1 := by rw [eOr29.eq]
    have eσr29 : σr29 = (Q_lookLogic κ τ σ F nu x1 v1 x2 x3).2.1 := by rw [eOr29.eq]
    have eFr29 : Fr29 = (Q_lookLogic κ τ σ F nu x1 v1 x2 x3).2.2.1 := by rw [eOr29.eq]
    have enur29 : nur29 = (Q_lookLogic κ τ σ F nu x1 v1 x2 x3).2.2.2 := by rw [eOr29.eq]
    clear eOr29
    have hL : SL x1.toNatClampNeg F nu Fr29 nur29 := hL.trans hLr29
    exact hE _ _ _ _ _ hS ⟨σr29, Fr29, nur29, (by subst enur29 eFr29 eσr29 er29 ev1; exact hO.tr (if_neg c2)), hM, hZ, hF, hL, hRr29⟩ dModel_lookBinary_24
def Q_lookFunction_205 (κ : Nat → Nat) (τ : gf) (σ : Nat → Int32) (F : gf) (nu : gg) (x1 : Int32) (x2 : Int32) (t0_17 : Int32) : Int32 × (Nat → Int32) × gf × gg := (9, σ, (Au ((Q_fact κ τ σ F nu x1 2 0 (F 11 (Q_child κ τ σ F nu x1 0).toNatClampNeg)).2.1) 12 x1.toNatClampNeg 3000), (vp_updL ((Q_fact κ τ σ F nu x1 2 0 (F 11 (Q_child κ τ σ F nu x1 0).toNatClampNeg)).2.2) x1.toNatClampNeg (Q_numberOf κ τ σ (Au ((Q_fact κ τ σ F nu x1 2 0 (F 11 (Q_child κ τ σ F nu x1 0).toNatClampNeg)).2.1) 12 x1.toNatClampNeg 3000) ((Q_fact κ τ σ F nu x1 2 0 (F 11 (Q_child κ τ σ F nu x1 0).toNatClampNeg)).2.2) (Q_child κ τ σ F nu x1 0))))
def Q_lookFunction_331 (κ : Nat → Nat) (τ : gf) (σ : Nat → Int32) (F : gf) (nu : gg) (x1 : Int32) (x2 : Int32) (t0_17 : Int32) (F_331 : gf) : Int32 × (Nat → Int32) × gf × gg := (0, σ, (Au F_331 12 x1.toNatClampNeg 3000), ((Q_fact κ τ σ F nu x1 3 ((nu (Q_child κ τ σ F nu x1 0).toNatClampNeg).toInt32) (F 11 (Q_child κ τ σ F nu x1 1).toNatClampNeg)).2.2))
def Q_lookFunction_278 (κ : Nat → Nat) (τ : gf) (σ : Nat → Int32) (F : gf) (nu : gg) (x1 : Int32) (x2 : Int32) (t0_17 : Int32) : Int32 × (Nat → Int32) × gf × gg := (if (F 11 (Q_child κ τ σ F nu x1 0).toNatClampNeg) = 0 then (5, σ, F, nu) else (if (((Q_fact κ τ σ F nu x1 3 ((nu (Q_child κ τ σ F nu x1 0).toNatClampNeg).toInt32) (F 11 (Q_child κ τ σ F nu x1 1).toNatClampNeg)).2.1) 11 (Q_child κ τ σ F nu x1 1).toNatClampNeg) = 0 then (Q_lookFunction_331 κ τ σ F nu x1 x2 t0_17  ((Q_fact κ τ σ F nu x1 3 ((nu (Q_child κ τ σ F nu x1 0).toNatClampNeg).toInt32) (F 11 (Q_child κ τ σ F nu x1 1).toNatClampNeg)).2.1)) else (Q_lookFunction_331 κ τ σ F nu x1 x2 t0_17  ((Q_bits κ τ σ ((Q_fact κ τ σ F nu x1 3 ((nu (Q_child κ τ σ F nu x1 0).toNatClampNeg).toInt32) (F 11 (Q_child κ τ σ F nu x1 1).toNatClampNeg)).2.1) ((Q_fact κ τ σ F nu x1 3 ((nu (Q_child κ τ σ F nu x1 0).toNatClampNeg).toInt32) (F 11 (Q_child κ τ σ F nu x1 1).toNatClampNeg)).2.2) x1 (((Q_fact κ τ σ F nu x1 3 ((nu (Q_child κ τ σ F nu x1 0).toNatClampNeg).toInt32) (F 11 (Q_child κ τ σ F nu x1 1).toNatClampNeg)).2.2) (Q_child κ τ σ F nu x1 1).toNatClampNeg)).2.1))))
def Q_lookFunction_17 (κ : Nat → Nat) (τ : gf) (σ : Nat → Int32) (F : gf) (nu : gg) (x1 : Int32) (x2 : Int32) (t0_17 : Int32) : Int32 × (Nat → Int32) × gf × gg := (if (τ 4 x1.toNatClampNeg) = t0_17 then (if 10 ≤ x2 then (if x2 = 10 then (if (F 9 (Q_child κ τ σ F nu x1 0).toNatClampNeg) = 3 then (if ((Au ((Q_fact κ τ σ F nu x1 2 0 (F 11 (Q_child κ τ σ F nu x1 0).toNatClampNeg)).2.1) 12 x1.toNatClampNeg 3000) 11 (Q_child κ τ σ F nu x1 0).toNatClampNeg) = 0 then (0, σ, (Au ((Q_fact κ τ σ F nu x1 2 0 (F 11 (Q_child κ τ σ F nu x1 0).toNatClampNeg)).2.1) 12 x1.toNatClampNeg 3000), ((Q_fact κ τ σ F nu x1 2 0 (F 11 (Q_child κ τ σ F nu x1 0).toNatClampNeg)).2.2)) else (if (Q_isClear κ τ σ (Au ((Q_fact κ τ σ F nu x1 2 0 (F 11 (Q_child κ τ σ F nu x1 0).toNatClampNeg)).2.1) 12 x1.toNatClampNeg 3000) (vp_updL ((Q_fact κ τ σ F nu x1 2 0 (F 11 (Q_child κ τ σ F nu x1 0).toNatClampNeg)).2.2) x1.toNatClampNeg (Q_numberOf κ τ σ (Au ((Q_fact κ τ σ F nu x1 2 0 (F 11 (Q_child κ τ σ F nu x1 0).toNatClampNeg)).2.1) 12 x1.toNatClampNeg 3000) ((Q_fact κ τ σ F nu x1 2 0 (F 11 (Q_child κ τ σ F nu x1 0).toNatClampNeg)).2.2) (Q_child κ τ σ F nu x1 0))) (Q_child κ τ σ F nu x1 0)) = 0 then (Q_lookFunction_205 κ τ σ F nu x1 x2 t0_17  ) else (if (lg_cmp (Q_numberOf κ τ σ (Au ((Q_fact κ τ σ F nu x1 2 0 (F 11 (Q_child κ τ σ F nu x1 0).toNatClampNeg)).2.1) 12 x1.toNatClampNeg 3000) ((Q_fact κ τ σ F nu x1 2 0 (F 11 (Q_child κ τ σ F nu x1 0).toNatClampNeg)).2.2) (Q_child κ τ σ F nu x1 0)) 0) < 0 then (Q_lookFunction_205 κ τ σ F nu x1 x2 t0_17  ) else (if (lg_cmp (Q_numberOf κ τ σ (Au ((Q_fact κ τ σ F nu x1 2 0 (F 11 (Q_child κ τ σ F nu x1 0).toNatClampNeg)).2.1) 12 x1.toNatClampNeg 3000) ((Q_fact κ τ σ F nu x1 2 0 (F 11 (Q_child κ τ σ F nu x1 0).toNatClampNeg)).2.2) (Q_child κ τ σ F nu x1 0)) 2147483647) ≤ 0 then (0, σ, (Au ((Q_fact κ τ σ F nu x1 2 0 (F 11 (Q_child κ τ σ F nu x1 0).toNatClampNeg)).2.1) 12 x1.toNatClampNeg 3000), (vp_updL ((Q_fact κ τ σ F nu x1 2 0 (F 11 (Q_child κ τ σ F nu x1 0).toNatClampNeg)).2.2) x1.toNatClampNeg (Q_numberOf κ τ σ (Au ((Q_fact κ τ σ F nu x1 2 0 (F 11 (Q_child κ τ σ F nu x1 0).toNatClampNeg)).2.1) 12 x1.toNatClampNeg 3000) ((Q_fact κ τ σ F nu x1 2 0 (F 11 (Q_child κ τ σ F nu x1 0).toNatClampNeg)).2.2) (Q_child κ τ σ F nu x1 0)))) else (Q_lookFunction_205 κ τ σ F nu x1 x2 t0_17  ))))) else (3, σ, F, nu)) else (if (F 9 (Q_child κ τ σ F nu x1 1).toNatClampNeg) = 2 then (if (F 9 (Q_child κ τ σ F nu x1 0).toNatClampNeg) = 2 then (if (F 11 (Q_child κ τ σ F nu x1 0).toNatClampNeg) = 0 then (Q_lookFunction_278 κ τ σ F nu x1 x2 t0_17  ) else (if (lg_cmp (nu (Q_child κ τ σ F nu x1 0).toNatClampNeg) 1) < 0 then (4, σ, F, nu) else (if (lg_cmp (nu (Q_child κ τ σ F nu x1 0).toNatClampNeg) 64) ≤ 0 then (Q_lookFunction_278 κ τ σ F nu x1 x2 t0_17  ) else (4, σ, F, nu)))) else (3, σ, F, nu)) else (3, σ, F, nu))) else (if (τ 2 (Q_child κ τ σ F nu x1 0).toNatClampNeg) = 1 then (if (F 12 (Q_child κ τ σ F nu x1 0).toNatClampNeg) < 0 then (2, σ, F, nu) else (if 2000 ≤ (F 12 (Q_child κ τ σ F nu x1 0).toNatClampNeg) then (2, σ, F, nu) else (if (τ 22 (F 12 (Q_child κ τ σ F nu x1 0).toNatClampNeg).toNatClampNeg) = 1 then (if ((Au ((Q_fact κ τ σ F nu x1 1 0 0).2.1) 12 x1.toNatClampNeg 3000) 9 (Q_child κ τ σ F nu x1 0).toNatClampNeg) = 0 then (0, σ, (Au ((Q_fact κ τ σ F nu x1 1 0 0).2.1) 12 x1.toNatClampNeg 3000), ((Q_fact κ τ σ F nu x1 1 0 0).2.2)) else (3, σ, (Au ((Q_fact κ τ σ F nu x1 1 0 0).2.1) 12 x1.toNatClampNeg 3000), ((Q_fact κ τ σ F nu x1 1 0 0).2.2))) else (2, σ, F, nu)))) else (11, σ, F, nu))) else (11, σ, F, nu))
def Q_lookFunction (κ : Nat → Nat) (τ : gf) (σ : Nat → Int32) (F : gf) (nu : gg) (x1 : Int32) (x2 : Int32) : Int32 × (Nat → Int32) × gf × gg := (if x2 = 11 then (Q_lookFunction_17 κ τ σ F nu x1 x2  2) else (Q_lookFunction_17 κ τ σ F nu x1 x2  1))
set_option maxHeartbeats 4000000 in
set_option maxRecDepth 100000 in
theorem n_lookFunction (l : Launch) (γ : gE) (a : Nat) (B : Nat → Nat) (Z : Nat → Prop) (κ b mn : Nat → Nat) (ν : Nat → Int32) (τ : Nat → Nat → Int32) (σ : Nat → Int32) (F : Nat → Nat → Int32) (nu : Nat → Int64) (hT : ST κ b mn ν τ) (x1 : Int32) (x2 : Int32) (hx1 : vp_in x1 (κ 0)) (hf : ¬ 11 < x2) (hZ : SZ F) (hF : FD σ) : MU l yModel_lookFunction bModel_lookFunction 6 (some .int) 2 48 0 0 [.ref a, .int x1, .int x2] γ Z (MD γ a B Z ν τ σ F nu) (mQi (fun r H => ∃ (σ' : Nat → Int32) (F' : Nat → Nat → Int32) (nu' : Nat → Int64), Oq (Q_lookFunction κ τ σ F nu x1 x2) (r, σ', F', nu') ∧ MD γ a B Z ν τ σ' F' nu' H ∧ SZ F' ∧ FD σ' ∧ SL x1.toNatClampNeg F nu F' nu' ∧ (¬ 0 < r → GK x1.toNatClampNeg F' nu')) Z) := by
  refine mu_openI (by decide) (Nat.le_of_ble_eq_true rfl) ?_
  intro p e s m args below meth c ls Q S hnm hC hA hM hE hl
  have hS : va_S Z s.heap s.heap [] := va_S.rf
  obtain ⟨hx, hb, hml, hown, hW⟩ := id S
  obtain ⟨⟨hs0, hs1, hs2, hs3, hs4, hs5, hs6⟩, ⟨hv6, hv8, hv21, hv24, hv30, hv31⟩, hTR, hTY, hOB, hNM⟩ := id hT
  have hL : SL x1.toNatClampNeg F nu F nu := SL.rf
  have hl : lv_has ls 6 [(0, .ref a), (1, .int x1), (2, .int x2)] := hl
  obtain ⟨OUT, hQ, hO⟩ : ∃ z, (z = Q_lookFunction κ τ σ F nu x1 x2) ∧ Oq z (Q_lookFunction κ τ σ F nu x1 x2) := ⟨_, rfl, rfl⟩
  rw [← hQ] at hE
  clear hQ
  refine lv_aload_n hx hb dModel_lookFunction_0 rfl (lv_at hl 0 rfl) ?_
  refine md_gA S hC hM 4 (by decide) rfl qw_a8caa30de3 dModel_lookFunction_1 ?_
  refine lv_iload_n hx hb dModel_lookFunction_4 rfl (lv_at hl 1 rfl) ?_
  refine md_ild S hC hM 4 2 4000 (τ 4) rfl rfl (by decide) rfl rfl (vin (by assumption) (by omega)) dModel_lookFunction_5 ?_
  refine lv_topi (fun v1 ev1 => ?_)
  refine lv_iload_n hx hb dModel_lookFunction_6 rfl (lv_at hl 2 rfl) ?_
  refine lv_bipush (v := 11) hx hb dModel_lookFunction_7 (by decide) ?_
  have J17 : ∀ (ls : Array Slot) (t0_17 : Int32), ((t0_17 = 2 ∧ x2 = 11 ∧ a = a) ∨ (t0_17 = 1 ∧ ¬ x2 = 11)) → (Oq OUT (Q_lookFunction_17 κ τ σ F nu x1 x2   t0_17)) → lv_has ls 6 [(0, .ref a), (1, .int x1), (2, .int x2)] → W p l e (bs_rm 2 0 0 48) s m args below meth c s.heap [] 0 0 Q (F0 m 17 ls [.int t0_17, .int v1]) := by
    intro ls t0_17 ht0_17 hO hl
    refine lv_icmp_eq (tgt := 23) hx hb dModel_lookFunction_17 (by decide) (fun c57 => ?_) (fun c57 => ?_)
    · have hm2 := lf_mn hTR hx1 ev1 (by assumption) ht0_17
      refine lv_aload_n hx hb dModel_lookFunction_23 rfl (lv_at hl 0 rfl) ?_
      refine lv_iload_n hx hb dModel_lookFunction_24 rfl (lv_at hl 1 rfl) ?_
      refine lv_iconst (v := 0) hx hb dModel_lookFunction_25 (by decide) ?_
      have hpr58 : vp_in x1 (κ 0) := (vin (by assumption) (by omega))
      have hjr58 : vp_in 0 (mn x1.toNatClampNeg) := (vp0 (by omega) (by omega))
      refine pu_Vi (rest := []) S hC (n_child l γ a B Z κ b mn ν τ σ F nu hT x1 0 hpr58 hjr58) meModel_child qw_a66d450e0a ⟨Nat.le_of_ble_eq_true rfl, Nat.le_of_ble_eq_true rfl⟩ (md_rv hC hM) hM rfl hl.1 rfl (Nat.le_of_ble_eq_true rfl) dModel_lookFunction_26 ⟨Nat.zero_le _, Nat.zero_le _⟩ (fun r58 hr58 => ?_)
      obtain ⟨hr58, er58⟩ := hr58
      obtain ⟨hir58, hltr58, hxr58⟩ := ch_in hTR hs0 hpr58 hjr58 hr58
      refine lv_istore_n (lv' := [(3, .int r58), (0, .ref a), (1, .int x1), (2, .int x2)]) hx hb dModel_lookFunction_29 rfl hl (by decide) rfl (fun ls hl => ?_)
      have hb4 : vp_in r58 (κ 0) := by assumption
      refine lv_iload_n hx hb dModel_lookFunction_30 rfl (lv_at hl 3 rfl) ?_
      refine lv_bipush (v := 10) hx hb dModel_lookFunction_31 (by decide) ?_
      refine lv_icmp_ge (tgt := 115) hx hb dModel_lookFunction_33 (by decide) (fun c59 => ?_) (fun c59 => ?_)
      · refine lv_iload_n hx hb dModel_lookFunction_115 rfl (lv_at hl 3 rfl) ?_
        refine lv_bipush (v := 10) hx hb dModel_lookFunction_116 (by decide) ?_
        refine lv_icmp_ne (tgt := 212) hx hb dModel_lookFunction_118 (by decide) (fun c60 => ?_) (fun c60 => ?_)
        · have hm3 : mn x1.toNatClampNeg = 2 := hm2.2 (f11 (by assumption) (by assumption) hf)
          refine lv_aload_n hx hb dModel_lookFunction_212 rfl (lv_at hl 1 rfl) ?_
          refine lv_iload_n hx hb dModel_lookFunction_213 rfl (lv_at hl 2 rfl) ?_
          refine lv_iconst (v := 1) hx hb dModel_lookFunction_214 (by decide) ?_
          have hpr61 : vp_in x1 (κ 0) := (vin (by assumption) (by omega))
          have hjr61 : vp_in 1 (mn x1.toNatClampNeg) := (vp1 (by omega) (by omega))
          refine pu_Vi (rest := []) S hC (n_child l γ a B Z κ b mn ν τ σ F nu hT x1 1 hpr61 hjr61) meModel_child qw_a66d450e0a ⟨Nat.le_of_ble_eq_true rfl, Nat.le_of_ble_eq_true rfl⟩ (md_rv hC hM) hM rfl hl.1 rfl (Nat.le_of_ble_eq_true rfl) dModel_lookFunction_215 ⟨Nat.zero_le _, Nat.zero_le _⟩ (fun r61 hr61 => ?_)
          obtain ⟨hr61, er61⟩ := hr61
          obtain ⟨hir61, hltr61, hxr61⟩ := ch_in hTR hs0 hpr61 hjr61 hr61
          refine lv_istore (lv' := [(4, .int r61), (3, .int r58), (0, .ref a), (1, .int x1), (2, .int x2)]) hx hb dModel_lookFunction_218 hl (by decide) rfl (fun ls hl => ?_)
          refine lv_aload_n hx hb dModel_lookFunction_220 rfl (lv_at hl 2 rfl) ?_
          refine md_gA S hC hM 9 (by decide) rfl qw_a119aeeca0 dModel_lookFunction_221 ?_
          refine lv_iload hx hb dModel_lookFunction_224 (lv_at hl 0 rfl) ?_
          refine md_ild S hC hM 9 5 10000 (F 9) rfl rfl (by decide) rfl rfl (vin (by assumption) (by omega)) dModel_lookFunction_226 ?_
          refine lv_topi (fun v62 ev62 => ?_)
          refine lv_iconst (v := 2) hx hb dModel_lookFunction_227 (by decide) ?_
          refine lv_icmp_ne (tgt := 241) hx hb dModel_lookFunction_228 (by decide) (fun c63 => ?_) (fun c63 => ?_)
          · refine lv_iconst (v := 3) hx hb dModel_lookFunction_241 (by decide) ?_
            exact hE _ _ _ _ _ hS ⟨σ, F, nu, (by subst ev62 er61 er58 ev1; exact hO.tr ((if_pos c57).trans ((if_pos c59).trans ((if_neg c60).trans (if_neg c63))))), hM, hZ, hF, hL, (fun h9 => absurd (show (0 : Int32) < 3 by decide) h9)⟩ dModel_lookFunction_242
          · refine lv_aload_n hx hb dModel_lookFunction_231 rfl (lv_at hl 2 rfl) ?_
            refine md_gA S hC hM 9 (by decide) rfl qw_a119aeeca0 dModel_lookFunction_232 ?_
            refine lv_iload_n hx hb dModel_lookFunction_235 rfl (lv_at hl 1 rfl) ?_
            refine md_ild S hC hM 9 5 10000 (F 9) rfl rfl (by decide) rfl rfl (vin (by assumption) (by omega)) dModel_lookFunction_236 ?_
            refine lv_topi (fun v64 ev64 => ?_)
            refine lv_iconst (v := 2) hx hb dModel_lookFunction_237 (by decide) ?_
            refine lv_icmp_eq (tgt := 243) hx hb dModel_lookFunction_238 (by decide) (fun c65 => ?_) (fun c65 => ?_)
            · refine lv_aload_n hx hb dModel_lookFunction_243 rfl (lv_at hl 2 rfl) ?_
              refine md_gA S hC hM 11 (by decide) rfl qw_88b9028ba7 dModel_lookFunction_244 ?_
              refine lv_iload_n hx hb dModel_lookFunction_247 rfl (lv_at hl 1 rfl) ?_
              refine md_zld S hC hM 11 7 10000 (F 11) rfl rfl (by decide) rfl rfl (vin (by assumption) (by omega)) dModel_lookFunction_248 ?_
              refine lv_topi (fun v66 ev66 => ?_)
              have J278 : ∀ (ls : Array Slot), (F 11 r58.toNatClampNeg = 0 ∨ (1 ≤ (nu r58.toNatClampNeg).toInt ∧ (nu r58.toNatClampNeg).toInt ≤ 64)) → (Oq OUT (Q_lookFunction_278 κ τ σ F nu x1 x2 t0_17   )) → lv_has ls 6 [(0, .ref a), (1, .int x1), (2, .int x2), (3, .int r58), (4, .int r61)] → W p l e (bs_rm 2 0 0 48) s m args below meth c s.heap [] 0 0 Q (F0 m 278 ls []) := by
                intro ls h278 hO hl
                refine lv_aload_n hx hb dModel_lookFunction_278 rfl (lv_at hl 0 rfl) ?_
                refine md_gA S hC hM 11 (by decide) rfl qw_88b9028ba7 dModel_lookFunction_279 ?_
                refine lv_iload_n hx hb dModel_lookFunction_282 rfl (lv_at hl 3 rfl) ?_
                refine md_zld S hC hM 11 7 10000 (F 11) rfl rfl (by decide) rfl rfl (vin (by assumption) (by omega)) dModel_lookFunction_283 ?_
                refine lv_topi (fun v85 ev85 => ?_)
                refine lv_if_ne (tgt := 289) hx hb dModel_lookFunction_284 (by decide) (fun c86 => ?_) (fun c86 => ?_)
                · refine lv_aload_n hx hb dModel_lookFunction_289 rfl (lv_at hl 0 rfl) ?_
                  refine lv_iload_n hx hb dModel_lookFunction_290 rfl (lv_at hl 1 rfl) ?_
                  refine lv_iconst (v := 3) hx hb dModel_lookFunction_291 (by decide) ?_
                  refine lv_aload_n hx hb dModel_lookFunction_292 rfl (lv_at hl 0 rfl) ?_
                  refine md_gA S hC hM 13 (by decide) rfl qw_7b809afc8c dModel_lookFunction_293 ?_
                  refine lv_iload_n hx hb dModel_lookFunction_296 rfl (lv_at hl 3 rfl) ?_
                  refine md_lld S hC hM (vin (by assumption) (by omega)) dModel_lookFunction_297 ?_
                  refine lv_topl (fun v87 ev87 => ?_)
                  have ev87 : v87 = nu r58.toNatClampNeg := ev87
                  refine lv_l2i hx hb dModel_lookFunction_298 rfl ?_
                  refine lv_topi (fun v88 ev88 => ?_)
                  refine lv_aload_n hx hb dModel_lookFunction_299 rfl (lv_at hl 0 rfl) ?_
                  refine md_gA S hC hM 11 (by decide) rfl qw_88b9028ba7 dModel_lookFunction_300 ?_
                  refine lv_iload hx hb dModel_lookFunction_303 (lv_at hl 4 rfl) ?_
                  refine md_zld S hC hM 11 7 10000 (F 11) rfl rfl (by decide) rfl rfl (vin (by assumption) (by omega)) dModel_lookFunction_305 ?_
                  refine lv_topi (fun v89 ev89 => ?_)
                  have hnr90 : ∃ j, j ≤ 1000 ∧ v88 = nI j := (fb_ok h278 ev85 (by assumption) ev87 ev88)
                  refine mu_Vv (rest := []) S hC (fun q h => hA q (Nat.le_trans hS.1 h)) (fun q h => h) hS (n_fact l γ a B Z κ b mn ν τ σ F nu hT x1 3 v88 v89 (vin (by assumption) (by omega)) hnr90) meModel_fact qw_02871250ec ⟨Nat.le_of_ble_eq_true rfl, Nat.le_of_ble_eq_true rfl⟩ (md_rv hC hM) hM rfl hl.1 rfl (Nat.le_of_ble_eq_true rfl) dModel_lookFunction_306 ⟨Nat.le_refl _, Nat.le_refl _⟩ (fun H locs hPO hS _ _ => ?_)
                  obtain ⟨Fr90, nur90, eOr90, hM, hqr90, hcr90⟩ := hPO
                  have eFr90 : Fr90 = (Q_fact κ τ σ F nu x1 3 v88 v89).2.1 := by rw [eOr90.eq]
                  have enur90 : nur90 = (Q_fact κ τ σ F nu x1 3 v88 v89).2.2 := by rw [eOr90.eq]
                  clear eOr90
                  have hZ : SZ Fr90 := hZ.slt hqr90 hnr90
                  have hL : SL x1.toNatClampNeg F nu Fr90 nur90 := hL.trans (SL.slt hqr90)
                  have hK : GK x1.toNatClampNeg Fr90 nur90 := GK.zero hqr90
                  refine lv_aload_n hx hb dModel_lookFunction_309 rfl (lv_at hl 0 rfl) ?_
                  refine md_gA S hC hM 11 (by decide) rfl qw_88b9028ba7 dModel_lookFunction_310 ?_
                  refine lv_iload hx hb dModel_lookFunction_313 (lv_at hl 4 rfl) ?_
                  refine md_zld S hC hM 11 7 10000 (Fr90 11) rfl rfl (by decide) rfl rfl (vin (by assumption) (by omega)) dModel_lookFunction_315 ?_
                  refine lv_topi (fun v91 ev91 => ?_)
                  have J331 : ∀ (ls : Array Slot) (H : Heap) (locs : List Loc) (F_331 : Nat → Nat → Int32), MD γ a B Z ν τ σ F_331 nur90 H → va_S Z s.heap H locs → (GK x1.toNatClampNeg F_331 nur90) → (SL x1.toNatClampNeg F nu F_331 nur90) → (SZ F_331) → (Oq OUT (Q_lookFunction_331 κ τ σ F nu x1 x2 t0_17   F_331)) → lv_has ls 6 [(0, .ref a), (1, .int x1), (2, .int x2), (3, .int r58), (4, .int r61)] → W p l e (bs_rm 2 0 0 48) s m args below meth c H locs 0 0 Q (F0 m 331 ls []) := by
                    intro ls H locs F_331 hM hS hK hL hZ hO hl
                    refine lv_aload_n hx hb dModel_lookFunction_331 rfl (lv_at hl 0 rfl) ?_
                    refine md_gA S hC hM 12 (by decide) rfl qw_19df235c4a dModel_lookFunction_332 ?_
                    refine lv_iload_n hx hb dModel_lookFunction_335 rfl (lv_at hl 1 rfl) ?_
                    refine lv_sipush (v := 3000) hx hb dModel_lookFunction_336 (by decide) ?_
                    refine md_istD S hC hM hS 12 8 10000 rfl rfl (by decide) rfl rfl (vin (by assumption) (by omega)) dModel_lookFunction_339 (fun H locs hM hS => ?_)
                    obtain ⟨F96, eF96⟩ : ∃ z : Nat → Nat → Int32, z = Au F_331 12 x1.toNatClampNeg 3000 := ⟨_, rfl⟩
                    rw [← eF96] at hM
                    have hZ : SZ F96 := hZ.au eF96 (by decide)
                    have hL : SL x1.toNatClampNeg F nu F96 nur90 := hL.au eF96 (by decide)
                    have hK : GK x1.toNatClampNeg F96 nur90 := hK.au eF96 (by decide)
                    refine lv_iconst (v := 0) hx hb dModel_lookFunction_340 (by decide) ?_
                    exact hE _ _ _ _ _ hS ⟨σ, F96, nur90, (by subst eF96 ev91 enur90 eFr90 ev89 ev88 ev87 ev85 ev66 ev64 ev62 er61 er58 ev1; exact hO.tr rfl), hM, hZ, hF, hL, (fun _ => hK)⟩ dModel_lookFunction_341
                  refine lv_if_eq (tgt := 331) hx hb dModel_lookFunction_316 (by decide) (fun c97 => ?_) (fun c97 => ?_)
                  · exact J331 ls _ _ Fr90 hM hS hK hL hZ (by subst ev91 enur90 eFr90 ev89 ev88 ev87 ev85 ev66 ev64 ev62 er61 er58 ev1; exact hO.tr ((if_neg c86).trans (if_pos c97))) (lv_sub hl [0, 1, 2, 3, 4] rfl)
                  · refine lv_aload_n hx hb dModel_lookFunction_319 rfl (lv_at hl 0 rfl) ?_
                    refine lv_iload_n hx hb dModel_lookFunction_320 rfl (lv_at hl 1 rfl) ?_
                    refine lv_aload_n hx hb dModel_lookFunction_321 rfl (lv_at hl 0 rfl) ?_
                    refine md_gA S hC hM 13 (by decide) rfl qw_7b809afc8c dModel_lookFunction_322 ?_
                    refine lv_iload hx hb dModel_lookFunction_325 (lv_at hl 4 rfl) ?_
                    refine md_lld S hC hM (vin (by assumption) (by omega)) dModel_lookFunction_327 ?_
                    refine lv_topl (fun v98 ev98 => ?_)
                    have ev98 : v98 = nur90 r61.toNatClampNeg := ev98
                    refine mu_Vv (rest := []) S hC (fun q h => hA q (Nat.le_trans hS.1 h)) (fun q h => h) hS (n_bits l γ a B Z κ b mn ν τ σ Fr90 nur90 hT x1 v98 (vin (by assumption) (by omega)) hZ) meModel_bits qw_be891c2f99 ⟨Nat.le_of_ble_eq_true rfl, Nat.le_of_ble_eq_true rfl⟩ (md_rv hC hM) hM rfl hl.1 rfl (Nat.le_of_ble_eq_true rfl) dModel_lookFunction_328 ⟨Nat.le_refl _, Nat.le_refl _⟩ (fun H locs hPO hS _ _ => ?_)
                    obtain ⟨Fr99, eOr99, hM, hqr99⟩ := hPO
                    have eFr99 : Fr99 = (Q_bits κ τ σ Fr90 nur90 x1 v98).2.1 := by rw [eOr99.eq]
                    clear eOr99
                    have hZ : SZ Fr99 := hZ.e14 hqr99
                    have hL : SL x1.toNatClampNeg F nu Fr99 nur90 := hL.trans (SL.e14 hqr99)
                    have hK : GK x1.toNatClampNeg Fr99 nur90 := hK.e14 hqr99
                    exact J331 ls _ _ Fr99 hM hS hK hL hZ (by subst eFr99 ev98 ev91 enur90 eFr90 ev89 ev88 ev87 ev85 ev66 ev64 ev62 er61 er58 ev1; exact hO.tr ((if_neg c86).trans (if_neg c97))) (lv_sub hl [0, 1, 2, 3, 4] rfl)
                · refine lv_iconst (v := 5) hx hb dModel_lookFunction_287 (by decide) ?_
                  exact hE _ _ _ _ _ hS ⟨σ, F, nu, (by subst ev85 ev66 ev64 ev62 er61 er58 ev1; exact hO.tr (if_pos c86)), hM, hZ, hF, hL, (fun h9 => absurd (show (0 : Int32) < 5 by decide) h9)⟩ dModel_lookFunction_288
              refine lv_if_eq (tgt := 278) hx hb dModel_lookFunction_249 (by decide) (fun c100 => ?_) (fun c100 => ?_)
              · exact J278 ls (by first | exact Or.inl (ev66.symm.trans (by assumption)) | exact Or.inr ⟨(by rw [← ev68]; exact c_ge1 ev69 (by assumption)), (by rw [← ev71]; exact c_le64 ev72 (by assumption))⟩) (by subst ev66 ev64 ev62 er61 er58 ev1; exact hO.tr ((if_pos c57).trans ((if_pos c59).trans ((if_neg c60).trans ((if_pos c63).trans ((if_pos c65).trans (if_pos c100))))))) (lv_sub hl [2, 3, 4, 1, 0] rfl)
              · refine lv_aload_n hx hb dModel_lookFunction_252 rfl (lv_at hl 2 rfl) ?_
                refine md_gA S hC hM 13 (by decide) rfl qw_7b809afc8c dModel_lookFunction_253 ?_
                refine lv_iload_n hx hb dModel_lookFunction_256 rfl (lv_at hl 1 rfl) ?_
                refine md_lld S hC hM (vin (by assumption) (by omega)) dModel_lookFunction_257 ?_
                refine lv_topl (fun v101 ev101 => ?_)
                have ev101 : v101 = nu r58.toNatClampNeg := ev101
                refine lv_lconst (v := 1) hx hb dModel_lookFunction_258 (by decide) ?_
                refine W.lcmp hx hb dModel_lookFunction_259 ?_
                refine lv_topi (fun v102 ev102 => ?_)
                refine lv_if_lt (tgt := 276) hx hb dModel_lookFunction_260 (by decide) (fun c103 => ?_) (fun c103 => ?_)
                · refine lv_iconst (v := 4) hx hb dModel_lookFunction_276 (by decide) ?_
                  exact hE _ _ _ _ _ hS ⟨σ, F, nu, (by subst ev102 ev101 ev66 ev64 ev62 er61 er58 ev1; exact hO.tr ((if_pos c57).trans ((if_pos c59).trans ((if_neg c60).trans ((if_pos c63).trans ((if_pos c65).trans ((if_neg c100).trans (if_pos c103)))))))), hM, hZ, hF, hL, (fun h9 => absurd (show (0 : Int32) < 4 by decide) h9)⟩ dModel_lookFunction_277
                · refine lv_aload_n hx hb dModel_lookFunction_263 rfl (lv_at hl 2 rfl) ?_
                  refine md_gA S hC hM 13 (by decide) rfl qw_7b809afc8c dModel_lookFunction_264 ?_
                  refine lv_iload_n hx hb dModel_lookFunction_267 rfl (lv_at hl 1 rfl) ?_
                  refine md_lld S hC hM (vin (by assumption) (by omega)) dModel_lookFunction_268 ?_
                  refine lv_topl (fun v104 ev104 => ?_)
                  have ev104 : v104 = nu r58.toNatClampNeg := ev104
                  refine lv_ldc2 (v := 64) hx hb hown (hW _ qw_3f44df6941) dModel_lookFunction_269 ?_
                  refine W.lcmp hx hb dModel_lookFunction_272 ?_
                  refine lv_topi (fun v105 ev105 => ?_)
                  refine lv_if_le (tgt := 278) hx hb dModel_lookFunction_273 (by decide) (fun c106 => ?_) (fun c106 => ?_)
                  · exact J278 ls (by first | exact Or.inl (ev66.symm.trans (by assumption)) | exact Or.inr ⟨(by rw [← ev101]; exact c_ge1 ev102 (by assumption)), (by rw [← ev104]; exact c_le64 ev105 (by assumption))⟩) (by subst ev105 ev104 ev102 ev101 ev66 ev64 ev62 er61 er58 ev1; exact hO.tr ((if_pos c57).trans ((if_pos c59).trans ((if_neg c60).trans ((if_pos c63).trans ((if_pos c65).trans ((if_neg c100).trans ((if_neg c103).trans (if_pos c106))))))))) (lv_sub hl [2, 3, 4, 1, 0] rfl)
                  · refine lv_iconst (v := 4) hx hb dModel_lookFunction_276 (by decide) ?_
                    exact hE _ _ _ _ _ hS ⟨σ, F, nu, (by subst ev105 ev104 ev102 ev101 ev66 ev64 ev62 er61 er58 ev1; exact hO.tr ((if_pos c57).trans ((if_pos c59).trans ((if_neg c60).trans ((if_pos c63).trans ((if_pos c65).trans ((if_neg c100).trans ((if_neg c103).trans (if_neg c106))))))))), hM, hZ, hF, hL, (fun h9 => absurd (show (0 : Int32) < 4 by decide) h9)⟩ dModel_lookFunction_277
            · refine lv_iconst (v := 3) hx hb dModel_lookFunction_241 (by decide) ?_
              exact hE _ _ _ _ _ hS ⟨σ, F, nu, (by subst ev64 ev62 er61 er58 ev1; exact hO.tr ((if_pos c57).trans ((if_pos c59).trans ((if_neg c60).trans ((if_pos c63).trans (if_neg c65)))))), hM, hZ, hF, hL, (fun h9 => absurd (show (0 : Int32) < 3 by decide) h9)⟩ dModel_lookFunction_242
        · refine lv_aload_n hx hb dModel_lookFunction_121 rfl (lv_at hl 1 rfl) ?_
          refine md_gA S hC hM 9 (by decide) rfl qw_a119aeeca0 dModel_lookFunction_122 ?_
          refine lv_iload_n hx hb dModel_lookFunction_125 rfl (lv_at hl 0 rfl) ?_
          refine md_ild S hC hM 9 5 10000 (F 9) rfl rfl (by decide) rfl rfl (vin (by assumption) (by omega)) dModel_lookFunction_126 ?_
          refine lv_topi (fun v107 ev107 => ?_)
          refine lv_iconst (v := 3) hx hb dModel_lookFunction_127 (by decide) ?_
          refine lv_icmp_eq (tgt := 133) hx hb dModel_lookFunction_128 (by decide) (fun c108 => ?_) (fun c108 => ?_)
          · refine lv_aload_n hx hb dModel_lookFunction_133 rfl (lv_at hl 1 rfl) ?_
            refine lv_iload_n hx hb dModel_lookFunction_134 rfl (lv_at hl 2 rfl) ?_
            refine lv_iconst (v := 2) hx hb dModel_lookFunction_135 (by decide) ?_
            refine lv_iconst (v := 0) hx hb dModel_lookFunction_136 (by decide) ?_
            refine lv_aload_n hx hb dModel_lookFunction_137 rfl (lv_at hl 1 rfl) ?_
            refine md_gA S hC hM 11 (by decide) rfl qw_88b9028ba7 dModel_lookFunction_138 ?_
            refine lv_iload_n hx hb dModel_lookFunction_141 rfl (lv_at hl 0 rfl) ?_
            refine md_zld S hC hM 11 7 10000 (F 11) rfl rfl (by decide) rfl rfl (vin (by assumption) (by omega)) dModel_lookFunction_142 ?_
            refine lv_topi (fun v109 ev109 => ?_)
            have hnr110 : ∃ j, j ≤ 1000 ∧ 0 = nI j := ⟨0, by omega, rfl⟩
            refine mu_Vv (rest := []) S hC (fun q h => hA q (Nat.le_trans hS.1 h)) (fun q h => h) hS (n_fact l γ a B Z κ b mn ν τ σ F nu hT x1 2 0 v109 (vin (by assumption) (by omega)) hnr110) meModel_fact qw_02871250ec ⟨Nat.le_of_ble_eq_true rfl, Nat.le_of_ble_eq_true rfl⟩ (md_rv hC hM) hM rfl hl.1 rfl (Nat.le_of_ble_eq_true rfl) dModel_lookFunction_143 ⟨Nat.le_refl _, Nat.le_refl _⟩ (fun H locs hPO hS _ _ => ?_)
            obtain ⟨Fr110, nur110, eOr110, hM, hqr110, hcr110⟩ := hPO
            have eFr110 : Fr110 = (Q_fact κ τ σ F nu x1 2 0 v109).2.1 := by rw [eOr110.eq]
            have enur110 : nur110 = (Q_fact κ τ σ F nu x1 2 0 v109).2.2 := by rw [eOr110.eq]
            clear eOr110
            have hZ : SZ Fr110 := hZ.slt hqr110 hnr110
            have hL : SL x1.toNatClampNeg F nu Fr110 nur110 := hL.trans (SL.slt hqr110)
            have hK : GK x1.toNatClampNeg Fr110 nur110 := GK.zero hqr110
            refine lv_aload_n hx hb dModel_lookFunction_146 rfl (lv_at hl 1 rfl) ?_
            refine md_gA S hC hM 12 (by decide) rfl qw_19df235c4a dModel_lookFunction_147 ?_
            refine lv_iload_n hx hb dModel_lookFunction_150 rfl (lv_at hl 2 rfl) ?_
            refine lv_sipush (v := 3000) hx hb dModel_lookFunction_151 (by decide) ?_
            refine md_istD S hC hM hS 12 8 10000 rfl rfl (by decide) rfl rfl (vin (by assumption) (by omega)) dModel_lookFunction_154 (fun H locs hM hS => ?_)
            obtain ⟨F111, eF111⟩ : ∃ z : Nat → Nat → Int32, z = Au Fr110 12 x1.toNatClampNeg 3000 := ⟨_, rfl⟩
            rw [← eF111] at hM
            have hZ : SZ F111 := hZ.au eF111 (by decide)
            have hL : SL x1.toNatClampNeg F nu F111 nur110 := hL.au eF111 (by decide)
            have hK : GK x1.toNatClampNeg F111 nur110 := hK.au eF111 (by decide)
            refine lv_aload_n hx hb dModel_lookFunction_155 rfl (lv_at hl 1 rfl) ?_
            refine md_gA S hC hM 11 (by decide) rfl qw_88b9028ba7 dModel_lookFunction_156 ?_
            refine lv_iload_n hx hb dModel_lookFunction_159 rfl (lv_at hl 0 rfl) ?_
            refine md_zld S hC hM 11 7 10000 (F111 11) rfl rfl (by decide) rfl rfl (vin (by assumption) (by omega)) dModel_lookFunction_160 ?_
            refine lv_topi (fun v112 ev112 => ?_)
            refine lv_if_ne (tgt := 166) hx hb dModel_lookFunction_161 (by decide) (fun c113 => ?_) (fun c113 => ?_)
            · refine lv_aload_n hx hb dModel_lookFunction_166 rfl (lv_at hl 1 rfl) ?_
              refine lv_iload_n hx hb dModel_lookFunction_167 rfl (lv_at hl 0 rfl) ?_
              refine pu_Vl (rest := []) S hC (n_numberOf l γ a B Z κ b mn ν τ σ F111 nur110 hT r58 (vin (by assumption) (by omega)) hZ) meModel_numberOf qw_75e699d051 ⟨Nat.le_of_ble_eq_true rfl, Nat.le_of_ble_eq_true rfl⟩ (md_rv hC hM) hM rfl hl.1 rfl (Nat.le_of_ble_eq_true rfl) dModel_lookFunction_168 ⟨Nat.zero_le _, Nat.zero_le _⟩ (fun r114 hr114 => ?_)
              obtain ⟨hr114, er114⟩ := hr114
              refine lv_lstore (lv' := [(4, .long r114), (3, .int r58), (0, .ref a), (1, .int x1), (2, .int x2)]) hx hb dModel_lookFunction_171 hl (by decide) rfl (fun ls hl => ?_)
              refine lv_aload_n hx hb dModel_lookFunction_173 rfl (lv_at hl 2 rfl) ?_
              refine md_gA S hC hM 13 (by decide) rfl qw_7b809afc8c dModel_lookFunction_174 ?_
              refine lv_iload_n hx hb dModel_lookFunction_177 rfl (lv_at hl 3 rfl) ?_
              refine lv_lload hx hb dModel_lookFunction_178 (lv_at hl 0 rfl) ?_
              refine md_lst S hC hM hS (vin (by assumption) (by omega)) dModel_lookFunction_180 (fun H locs hM hS => ?_)
              obtain ⟨nu115, enu115⟩ : ∃ z : Nat → Int64, z = vp_updL nur110 x1.toNatClampNeg r114 := ⟨_, rfl⟩
              rw [← enu115] at hM
              have hL : SL x1.toNatClampNeg F nu F111 nu115 := hL.trans (by rw [enu115]; exact SL.num)
              refine lv_aload_n hx hb dModel_lookFunction_181 rfl (lv_at hl 2 rfl) ?_
              refine lv_iload_n hx hb dModel_lookFunction_182 rfl (lv_at hl 1 rfl) ?_
              refine pu_Vi (rest := []) S hC (n_isClear l γ a B Z κ b mn ν τ σ F111 nu115 hT r58 (vin (by assumption) (by omega)) hZ) meModel_isClear qw_f576e3fc3c ⟨Nat.le_of_ble_eq_true rfl, Nat.le_of_ble_eq_true rfl⟩ (md_rv hC hM) hM rfl hl.1 rfl (Nat.le_of_ble_eq_true rfl) dModel_lookFunction_183 ⟨Nat.zero_le _, Nat.zero_le _⟩ (fun r116 hr116 => ?_)
              obtain ⟨hr116, er116⟩ := hr116
              have J205 : ∀ (ls : Array Slot), (Oq OUT (Q_lookFunction_205 κ τ σ F nu x1 x2 t0_17   )) → lv_has ls 6 [(0, .ref a), (1, .int x1), (2, .int x2), (3, .int r58), (4, .long r114)] → W p l e (bs_rm 2 0 0 48) s m args below meth c H locs 0 0 Q (F0 m 205 ls []) := by
                intro ls hO hl
                refine lv_bipush (v := 9) hx hb dModel_lookFunction_205 (by decide) ?_
                refine lv_goto (tgt := 211) hx hb dModel_lookFunction_207 (by decide) ?_
                exact hE _ _ _ _ _ hS ⟨σ, F111, nu115, (by subst er116 enu115 er114 ev112 eF111 enur110 eFr110 ev109 ev107 er58 ev1; exact hO.tr rfl), hM, hZ, hF, hL, (fun h9 => absurd (show (0 : Int32) < 9 by decide) h9)⟩ dModel_lookFunction_211
              refine lv_if_eq (tgt := 205) hx hb dModel_lookFunction_186 (by decide) (fun c122 => ?_) (fun c122 => ?_)
              · exact J205 ls (by subst er116 enu115 er114 ev112 eF111 enur110 eFr110 ev109 ev107 er58 ev1; exact hO.tr ((if_pos c57).trans ((if_pos c59).trans ((if_pos c60).trans ((if_pos c108).trans ((if_neg c113).trans (if_pos c122))))))) (lv_sub hl [2, 3, 4, 1, 0] rfl)
              · refine lv_lload hx hb dModel_lookFunction_189 (lv_at hl 0 rfl) ?_
                refine lv_lconst (v := 0) hx hb dModel_lookFunction_191 (by decide) ?_
                refine W.lcmp hx hb dModel_lookFunction_192 ?_
                refine lv_topi (fun v123 ev123 => ?_)
                refine lv_if_lt (tgt := 205) hx hb dModel_lookFunction_193 (by decide) (fun c124 => ?_) (fun c124 => ?_)
                · exact J205 ls (by subst ev123 er116 enu115 er114 ev112 eF111 enur110 eFr110 ev109 ev107 er58 ev1; exact hO.tr ((if_pos c57).trans ((if_pos c59).trans ((if_pos c60).trans ((if_pos c108).trans ((if_neg c113).trans ((if_neg c122).trans (if_pos c124)))))))) (lv_sub hl [2, 3, 4, 1, 0] rfl)
                · refine lv_lload hx hb dModel_lookFunction_196 (lv_at hl 0 rfl) ?_
                  refine lv_ldc2 (v := 2147483647) hx hb hown (hW _ qw_e5f8ae1a74) dModel_lookFunction_198 ?_
                  refine W.lcmp hx hb dModel_lookFunction_201 ?_
                  refine lv_topi (fun v125 ev125 => ?_)
                  refine lv_if_le (tgt := 210) hx hb dModel_lookFunction_202 (by decide) (fun c126 => ?_) (fun c126 => ?_)
                  · refine lv_iconst (v := 0) hx hb dModel_lookFunction_210 (by decide) ?_
                    exact hE _ _ _ _ _ hS ⟨σ, F111, nu115, (by subst ev125 ev123 er116 enu115 er114 ev112 eF111 enur110 eFr110 ev109 ev107 er58 ev1; exact hO.tr ((if_pos c57).trans ((if_pos c59).trans ((if_pos c60).trans ((if_pos c108).trans ((if_neg c113).trans ((if_neg c122).trans ((if_neg c124).trans (if_pos c126))))))))), hM, hZ, hF, hL, (fun _ => by rw [enu115]; exact GK.num (fun _ => nb_ok ev123 (by assumption) ev125 (by assumption)))⟩ dModel_lookFunction_211
                  · exact J205 ls (by subst ev125 ev123 er116 enu115 er114 ev112 eF111 enur110 eFr110 ev109 ev107 er58 ev1; exact hO.tr ((if_pos c57).trans ((if_pos c59).trans ((if_pos c60).trans ((if_pos c108).trans ((if_neg c113).trans ((if_neg c122).trans ((if_neg c124).trans (if_neg c126))))))))) (lv_sub hl [2, 3, 4, 1, 0] rfl)
            · refine lv_iconst (v := 0) hx hb dModel_lookFunction_164 (by decide) ?_
              exact hE _ _ _ _ _ hS ⟨σ, F111, nur110, (by subst ev112 eF111 enur110 eFr110 ev109 ev107 er58 ev1; exact hO.tr ((if_pos c57).trans ((if_pos c59).trans ((if_pos c60).trans ((if_pos c108).trans (if_pos c113)))))), hM, hZ, hF, hL, (fun _ => hK)⟩ dModel_lookFunction_165
          · refine lv_iconst (v := 3) hx hb dModel_lookFunction_131 (by decide) ?_
            exact hE _ _ _ _ _ hS ⟨σ, F, nu, (by subst ev107 er58 ev1; exact hO.tr ((if_pos c57).trans ((if_pos c59).trans ((if_pos c60).trans (if_neg c108))))), hM, hZ, hF, hL, (fun h9 => absurd (show (0 : Int32) < 3 by decide) h9)⟩ dModel_lookFunction_132
      · refine lv_aload_n hx hb dModel_lookFunction_36 rfl (lv_at hl 1 rfl) ?_
        refine md_gA S hC hM 2 (by decide) rfl qw_3471296067 dModel_lookFunction_37 ?_
        refine lv_iload_n hx hb dModel_lookFunction_40 rfl (lv_at hl 0 rfl) ?_
        refine md_ild S hC hM 2 0 4000 (τ 2) rfl rfl (by decide) rfl rfl (vin (by assumption) (by omega)) dModel_lookFunction_41 ?_
        refine lv_topi (fun v127 ev127 => ?_)
        refine lv_iconst (v := 1) hx hb dModel_lookFunction_42 (by decide) ?_
        refine lv_icmp_eq (tgt := 49) hx hb dModel_lookFunction_43 (by decide) (fun c128 => ?_) (fun c128 => ?_)
        · refine lv_aload_n hx hb dModel_lookFunction_49 rfl (lv_at hl 1 rfl) ?_
          refine md_gA S hC hM 12 (by decide) rfl qw_19df235c4a dModel_lookFunction_50 ?_
          refine lv_iload_n hx hb dModel_lookFunction_53 rfl (lv_at hl 0 rfl) ?_
          refine md_ild S hC hM 12 8 10000 (F 12) rfl rfl (by decide) rfl rfl (vin (by assumption) (by omega)) dModel_lookFunction_54 ?_
          refine lv_topi (fun v129 ev129 => ?_)
          refine lv_istore (lv' := [(4, .int v129), (3, .int r58), (0, .ref a), (1, .int x1), (2, .int x2)]) hx hb dModel_lookFunction_55 hl (by decide) rfl (fun ls hl => ?_)
          refine lv_iload hx hb dModel_lookFunction_57 (lv_at hl 0 rfl) ?_
          refine lv_if_lt (tgt := 81) hx hb dModel_lookFunction_59 (by decide) (fun c130 => ?_) (fun c130 => ?_)
          · refine lv_iconst (v := 2) hx hb dModel_lookFunction_81 (by decide) ?_
            exact hE _ _ _ _ _ hS ⟨σ, F, nu, (by subst ev129 ev127 er58 ev1; exact hO.tr ((if_pos c57).trans ((if_neg c59).trans ((if_pos c128).trans (if_pos c130))))), hM, hZ, hF, hL, (fun h9 => absurd (show (0 : Int32) < 2 by decide) h9)⟩ dModel_lookFunction_82
          · refine lv_iload hx hb dModel_lookFunction_62 (lv_at hl 0 rfl) ?_
            refine lv_sipush (v := 2000) hx hb dModel_lookFunction_64 (by decide) ?_
            refine lv_icmp_ge (tgt := 81) hx hb dModel_lookFunction_67 (by decide) (fun c131 => ?_) (fun c131 => ?_)
            · refine lv_iconst (v := 2) hx hb dModel_lookFunction_81 (by decide) ?_
              exact hE _ _ _ _ _ hS ⟨σ, F, nu, (by subst ev129 ev127 er58 ev1; exact hO.tr ((if_pos c57).trans ((if_neg c59).trans ((if_pos c128).trans ((if_neg c130).trans (if_pos c131)))))), hM, hZ, hF, hL, (fun h9 => absurd (show (0 : Int32) < 2 by decide) h9)⟩ dModel_lookFunction_82
            · have hio : vp_in v129 2000 := in_cmp (by assumption) (by assumption) (by omega)
              refine lv_aload_n hx hb dModel_lookFunction_70 rfl (lv_at hl 2 rfl) ?_
              refine md_gA S hC hM 22 (by decide) rfl qw_50c5849686 dModel_lookFunction_71 ?_
              refine lv_iload hx hb dModel_lookFunction_74 (lv_at hl 0 rfl) ?_
              refine md_ild S hC hM 22 17 2000 (τ 22) rfl rfl (by decide) rfl rfl (vin (by assumption) (by omega)) dModel_lookFunction_76 ?_
              refine lv_topi (fun v132 ev132 => ?_)
              refine lv_iconst (v := 1) hx hb dModel_lookFunction_77 (by decide) ?_
              refine lv_icmp_eq (tgt := 83) hx hb dModel_lookFunction_78 (by decide) (fun c133 => ?_) (fun c133 => ?_)
              · refine lv_aload_n hx hb dModel_lookFunction_83 rfl (lv_at hl 2 rfl) ?_
                refine lv_iload_n hx hb dModel_lookFunction_84 rfl (lv_at hl 3 rfl) ?_
                refine lv_iconst (v := 1) hx hb dModel_lookFunction_85 (by decide) ?_
                refine lv_iconst (v := 0) hx hb dModel_lookFunction_86 (by decide) ?_
                refine lv_iconst (v := 0) hx hb dModel_lookFunction_87 (by decide) ?_
                have hnr134 : ∃ j, j ≤ 1000 ∧ 0 = nI j := ⟨0, by omega, rfl⟩
                refine mu_Vv (rest := []) S hC (fun q h => hA q (Nat.le_trans hS.1 h)) (fun q h => h) hS (n_fact l γ a B Z κ b mn ν τ σ F nu hT x1 1 0 0 (vin (by assumption) (by omega)) hnr134) meModel_fact qw_02871250ec ⟨Nat.le_of_ble_eq_true rfl, Nat.le_of_ble_eq_true rfl⟩ (md_rv hC hM) hM rfl hl.1 rfl (Nat.le_of_ble_eq_true rfl) dModel_lookFunction_88 ⟨Nat.le_refl _, Nat.le_refl _⟩ (fun H locs hPO hS _ _ => ?_)
                obtain ⟨Fr134, nur134, eOr134, hM, hqr134, hcr134⟩ := hPO
                have eFr134 : Fr134 = (Q_fact κ τ σ F nu x1 1 0 0).2.1 := by rw [eOr134.eq]
                have enur134 : nur134 = (Q_fact κ τ σ F nu x1 1 0 0).2.2 := by rw [eOr134.eq]
                clear eOr134
                have hZ : SZ Fr134 := hZ.slt hqr134 hnr134
                have hL : SL x1.toNatClampNeg F nu Fr134 nur134 := hL.trans (SL.slt hqr134)
                have hK : GK x1.toNatClampNeg Fr134 nur134 := GK.zero hqr134
                refine lv_aload_n hx hb dModel_lookFunction_91 rfl (lv_at hl 2 rfl) ?_
                refine md_gA S hC hM 12 (by decide) rfl qw_19df235c4a dModel_lookFunction_92 ?_
                refine lv_iload_n hx hb dModel_lookFunction_95 rfl (lv_at hl 3 rfl) ?_
                refine lv_sipush (v := 3000) hx hb dModel_lookFunction_96 (by decide) ?_
                refine md_istD S hC hM hS 12 8 10000 rfl rfl (by decide) rfl rfl (vin (by assumption) (by omega)) dModel_lookFunction_99 (fun H locs hM hS => ?_)
                obtain ⟨F135, eF135⟩ : ∃ z : Nat → Nat → Int32, z = Au Fr134 12 x1.toNatClampNeg 3000 := ⟨_, rfl⟩
                rw [← eF135] at hM
                have hZ : SZ F135 := hZ.au eF135 (by decide)
                have hL : SL x1.toNatClampNeg F nu F135 nur134 := hL.au eF135 (by decide)
                have hK : GK x1.toNatClampNeg F135 nur134 := hK.au eF135 (by decide)
                refine lv_aload_n hx hb dModel_lookFunction_100 rfl (lv_at hl 2 rfl) ?_
                refine md_gA S hC hM 9 (by decide) rfl qw_a119aeeca0 dModel_lookFunction_101 ?_
                refine lv_iload_n hx hb dModel_lookFunction_104 rfl (lv_at hl 1 rfl) ?_
                refine md_ild S hC hM 9 5 10000 (F135 9) rfl rfl (by decide) rfl rfl (vin (by assumption) (by omega)) dModel_lookFunction_105 ?_
                refine lv_topi (fun v136 ev136 => ?_)
                refine lv_if_ne (tgt := 113) hx hb dModel_lookFunction_106 (by decide) (fun c137 => ?_) (fun c137 => ?_)
                · refine lv_iconst (v := 3) hx hb dModel_lookFunction_113 (by decide) ?_
                  exact hE _ _ _ _ _ hS ⟨σ, F135, nur134, (by subst ev136 eF135 enur134 eFr134 ev132 ev129 ev127 er58 ev1; exact hO.tr ((if_pos c57).trans ((if_neg c59).trans ((if_pos c128).trans ((if_neg c130).trans ((if_neg c131).trans ((if_pos c133).trans (if_neg c137)))))))), hM, hZ, hF, hL, (fun h9 => absurd (show (0 : Int32) < 3 by decide) h9)⟩ dModel_lookFunction_114
                · refine lv_iconst (v := 0) hx hb dModel_lookFunction_109 (by decide) ?_
                  refine lv_goto (tgt := 114) hx hb dModel_lookFunction_110 (by decide) ?_
                  exact hE _ _ _ _ _ hS ⟨σ, F135, nur134, (by subst ev136 eF135 enur134 eFr134 ev132 ev129 ev127 er58 ev1; exact hO.tr ((if_pos c57).trans ((if_neg c59).trans ((if_pos c128).trans ((if_neg c130).trans ((if_neg c131).trans ((if_pos c133).trans (if_pos c137)))))))), hM, hZ, hF, hL, (fun _ => hK)⟩ dModel_lookFunction_114
              · refine lv_iconst (v := 2) hx hb dModel_lookFunction_81 (by decide) ?_
                exact hE _ _ _ _ _ hS ⟨σ, F, nu, (by subst ev132 ev129 ev127 er58 ev1; exact hO.tr ((if_pos c57).trans ((if_neg c59).trans ((if_pos c128).trans ((if_neg c130).trans ((if_neg c131).trans (if_neg c133))))))), hM, hZ, hF, hL, (fun h9 => absurd (show (0 : Int32) < 2 by decide) h9)⟩ dModel_lookFunction_82
        · refine lv_bipush (v := 11) hx hb dModel_lookFunction_46 (by decide) ?_
          exact hE _ _ _ _ _ hS ⟨σ, F, nu, (by subst ev127 er58 ev1; exact hO.tr ((if_pos c57).trans ((if_neg c59).trans (if_neg c128)))), hM, hZ, hF, hL, (fun h9 => absurd (show (0 : Int32) < 11 by decide) h9)⟩ dModel_lookFunction_48
    · refine lv_bipush (v := 11) hx hb dModel_lookFunction_20 (by decide) ?_
      exact hE _ _ _ _ _ hS ⟨σ, F, nu, (by subst ev1; exact hO.tr (if_neg c57)), hM, hZ, hF, hL, (fun h9 => absurd (show (0 : Int32) < 11 by decide) h9)⟩ dModel_lookFunction_22
  refine lv_icmp_ne (tgt := 16) hx hb dModel_lookFunction_9 (by decide) (fun c138 => ?_) (fun c138 => ?_)
  · refine lv_iconst (v := 1) hx hb dModel_lookFunction_16 (by decide) ?_
    exact J17 ls 1 (by first | exact Or.inl ⟨rfl, by assumption, rfl⟩ | exact Or.inr ⟨rfl, by assumption⟩) (by subst ev1; exact hO.tr (if_neg c138)) (lv_sub hl [0, 1, 2] rfl)
  · refine lv_iconst (v := 2) hx hb dModel_lookFunction_12 (by decide) ?_
    refine lv_goto (tgt := 17) hx hb dModel_lookFunction_13 (by decide) ?_
    exact J17 ls 2 (by first | exact Or.inl ⟨rfl, by assumption, rfl⟩ | exact Or.inr ⟨rfl, by assumption⟩) (by subst ev1; exact hO.tr (if_pos c138)) (lv_sub hl [0, 1, 2] rfl)
def Q_lookApply_228 (κ : Nat → Nat) (τ : gf) (σ : Nat → Int32) (F : gf) (nu : gg) (x1 : Int32) (t0_147 : Int32) (nu_228 : gg) : Int32 × (Nat → Int32) × gf × gg := (0, ((Q_rowObject κ τ ((Q_find κ τ σ F nu (τ 3 x1.toNatClampNeg)).1) F nu (τ 3 x1.toNatClampNeg)).2.1), (Au ((Q_fact κ τ ((Q_rowObject κ τ ((Q_find κ τ σ F nu (τ 3 x1.toNatClampNeg)).1) F nu (τ 3 x1.toNatClampNeg)).2.1) F nu x1 0 0 t0_147).2.1) 12 x1.toNatClampNeg (((Q_rowObject κ τ ((Q_find κ τ σ F nu (τ 3 x1.toNatClampNeg)).1) F nu (τ 3 x1.toNatClampNeg)).2.1) 33)), nu_228)
def Q_lookApply_222 (κ : Nat → Nat) (τ : gf) (σ : Nat → Int32) (F : gf) (nu : gg) (x1 : Int32) (t0_147 : Int32) (t0_222 : Int64) : Int32 × (Nat → Int32) × gf × gg := (Q_lookApply_228 κ τ σ F nu x1 t0_147  (vp_updL ((Q_fact κ τ ((Q_rowObject κ τ ((Q_find κ τ σ F nu (τ 3 x1.toNatClampNeg)).1) F nu (τ 3 x1.toNatClampNeg)).2.1) F nu x1 0 0 t0_147).2.2) x1.toNatClampNeg ((Q_element κ τ ((Q_rowObject κ τ ((Q_find κ τ σ F nu (τ 3 x1.toNatClampNeg)).1) F nu (τ 3 x1.toNatClampNeg)).2.1) ((Q_fact κ τ ((Q_rowObject κ τ ((Q_find κ τ σ F nu (τ 3 x1.toNatClampNeg)).1) F nu (τ 3 x1.toNatClampNeg)).2.1) F nu x1 0 0 t0_147).2.1) ((Q_fact κ τ ((Q_rowObject κ τ ((Q_find κ τ σ F nu (τ 3 x1.toNatClampNeg)).1) F nu (τ 3 x1.toNatClampNeg)).2.1) F nu x1 0 0 t0_147).2.2) (8000 + (((Q_rowObject κ τ ((Q_find κ τ σ F nu (τ 3 x1.toNatClampNeg)).1) F nu (τ 3 x1.toNatClampNeg)).2.1) 33)) (t0_222.toInt32)).toInt64)))
def Q_lookApply_147 (κ : Nat → Nat) (τ : gf) (σ : Nat → Int32) (F : gf) (nu : gg) (x1 : Int32) (t0_147 : Int32) : Int32 × (Nat → Int32) × gf × gg := (if (((Q_fact κ τ ((Q_rowObject κ τ ((Q_find κ τ σ F nu (τ 3 x1.toNatClampNeg)).1) F nu (τ 3 x1.toNatClampNeg)).2.1) F nu x1 0 0 t0_147).2.1) 11 x1.toNatClampNeg) = 0 then (Q_lookApply_228 κ τ σ F nu x1 t0_147  ((Q_fact κ τ ((Q_rowObject κ τ ((Q_find κ τ σ F nu (τ 3 x1.toNatClampNeg)).1) F nu (τ 3 x1.toNatClampNeg)).2.1) F nu x1 0 0 t0_147).2.2)) else (if (lg_cmp ((τ 18 (τ 23 (((Q_rowObject κ τ ((Q_find κ τ σ F nu (τ 3 x1.toNatClampNeg)).1) F nu (τ 3 x1.toNatClampNeg)).2.1) 33).toNatClampNeg).toNatClampNeg).toInt64) (((Q_fact κ τ ((Q_rowObject κ τ ((Q_find κ τ σ F nu (τ 3 x1.toNatClampNeg)).1) F nu (τ 3 x1.toNatClampNeg)).2.1) F nu x1 0 0 t0_147).2.2) (Q_child κ τ ((Q_rowObject κ τ ((Q_find κ τ σ F nu (τ 3 x1.toNatClampNeg)).1) F nu (τ 3 x1.toNatClampNeg)).2.1) F nu x1 0).toNatClampNeg)) ≤ 0 then (Q_lookApply_222 κ τ σ F nu x1 t0_147  ((((Q_fact κ τ ((Q_rowObject κ τ ((Q_find κ τ σ F nu (τ 3 x1.toNatClampNeg)).1) F nu (τ 3 x1.toNatClampNeg)).2.1) F nu x1 0 0 t0_147).2.2) (Q_child κ τ ((Q_rowObject κ τ ((Q_find κ τ σ F nu (τ 3 x1.toNatClampNeg)).1) F nu (τ 3 x1.toNatClampNeg)).2.1) F nu x1 0).toNatClampNeg) - ((τ 18 (τ 23 (((Q_rowObject κ τ ((Q_find κ τ σ F nu (τ 3 x1.toNatClampNeg)).1) F nu (τ 3 x1.toNatClampNeg)).2.1) 33).toNatClampNeg).toNatClampNeg).toInt64))) else (Q_lookApply_222 κ τ σ F nu x1 t0_147  (((τ 18 (τ 23 (((Q_rowObject κ τ ((Q_find κ τ σ F nu (τ 3 x1.toNatClampNeg)).1) F nu (τ 3 x1.toNatClampNeg)).2.1) 33).toNatClampNeg).toNatClampNeg).toInt64) - (((Q_fact κ τ ((Q_rowObject κ τ ((Q_find κ τ σ F nu (τ 3 x1.toNatClampNeg)).1) F nu (τ 3 x1.toNatClampNeg)).2.1) F nu x1 0 0 t0_147).2.2) (Q_child κ τ ((Q_rowObject κ τ ((Q_find κ τ σ F nu (τ 3 x1.toNatClampNeg)).1) F nu (τ 3 x1.toNatClampNeg)).2.1) F nu x1 0).toNatClampNeg)))))
def Q_lookApply_146 (κ : Nat → Nat) (τ : gf) (σ : Nat → Int32) (F : gf) (nu : gg) (x1 : Int32) : Int32 × (Nat → Int32) × gf × gg := (Q_lookApply_147 κ τ σ F nu x1  0)
def Q_lookApply_119 (κ : Nat → Nat) (τ : gf) (σ : Nat → Int32) (F : gf) (nu : gg) (x1 : Int32) : Int32 × (Nat → Int32) × gf × gg := (if (F 11 (Q_child κ τ ((Q_rowObject κ τ ((Q_find κ τ σ F nu (τ 3 x1.toNatClampNeg)).1) F nu (τ 3 x1.toNatClampNeg)).2.1) F nu x1 0).toNatClampNeg) = 0 then (Q_lookApply_146 κ τ σ F nu x1  ) else (if (τ 22 (((Q_rowObject κ τ ((Q_find κ τ σ F nu (τ 3 x1.toNatClampNeg)).1) F nu (τ 3 x1.toNatClampNeg)).2.1) 33).toNatClampNeg) = 0 then (Q_lookApply_147 κ τ σ F nu x1  1) else (Q_lookApply_146 κ τ σ F nu x1  )))
def Q_lookApply (κ : Nat → Nat) (τ : gf) (σ : Nat → Int32) (F : gf) (nu : gg) (x1 : Int32) : Int32 × (Nat → Int32) × gf × gg := (if (((Q_find κ τ σ F nu (τ 3 x1.toNatClampNeg)).1) 32) = 4 then ((Q_lookFunction κ τ ((Q_find κ τ σ F nu (τ 3 x1.toNatClampNeg)).1) F nu x1 (((Q_find κ τ σ F nu (τ 3 x1.toNatClampNeg)).1) 33)).1, ((Q_lookFunction κ τ ((Q_find κ τ σ F nu (τ 3 x1.toNatClampNeg)).1) F nu x1 (((Q_find κ τ σ F nu (τ 3 x1.toNatClampNeg)).1) 33)).2.1), ((Q_lookFunction κ τ ((Q_find κ τ σ F nu (τ 3 x1.toNatClampNeg)).1) F nu x1 (((Q_find κ τ σ F nu (τ 3 x1.toNatClampNeg)).1) 33)).2.2.1), ((Q_lookFunction κ τ ((Q_find κ τ σ F nu (τ 3 x1.toNatClampNeg)).1) F nu x1 (((Q_find κ τ σ F nu (τ 3 x1.toNatClampNeg)).1) 33)).2.2.2)) else (if ((Q_rowObject κ τ ((Q_find κ τ σ F nu (τ 3 x1.toNatClampNeg)).1) F nu (τ 3 x1.toNatClampNeg)).1) ≤ 0 then (if (τ 4 x1.toNatClampNeg) = 1 then (if (F 9 (Q_child κ τ ((Q_rowObject κ τ ((Q_find κ τ σ F nu (τ 3 x1.toNatClampNeg)).1) F nu (τ 3 x1.toNatClampNeg)).2.1) F nu x1 0).toNatClampNeg) = 2 then (if (F 11 (Q_child κ τ ((Q_rowObject κ τ ((Q_find κ τ σ F nu (τ 3 x1.toNatClampNeg)).1) F nu (τ 3 x1.toNatClampNeg)).2.1) F nu x1 0).toNatClampNeg) = 0 then (Q_lookApply_119 κ τ σ F nu x1  ) else (if (Q_within κ τ ((Q_rowObject κ τ ((Q_find κ τ σ F nu (τ 3 x1.toNatClampNeg)).1) F nu (τ 3 x1.toNatClampNeg)).2.1) F nu (τ 23 (((Q_rowObject κ τ ((Q_find κ τ σ F nu (τ 3 x1.toNatClampNeg)).1) F nu (τ 3 x1.toNatClampNeg)).2.1) 33).toNatClampNeg) (nu (Q_child κ τ ((Q_rowObject κ τ ((Q_find κ τ σ F nu (τ 3 x1.toNatClampNeg)).1) F nu (τ 3 x1.toNatClampNeg)).2.1) F nu x1 0).toNatClampNeg)) = 0 then (6, ((Q_rowObject κ τ ((Q_find κ τ σ F nu (τ 3 x1.toNatClampNeg)).1) F nu (τ 3 x1.toNatClampNeg)).2.1), F, nu) else (Q_lookApply_119 κ τ σ F nu x1  ))) else (3, ((Q_rowObject κ τ ((Q_find κ τ σ F nu (τ 3 x1.toNatClampNeg)).1) F nu (τ 3 x1.toNatClampNeg)).2.1), F, nu)) else (11, ((Q_rowObject κ τ ((Q_find κ τ σ F nu (τ 3 x1.toNatClampNeg)).1) F nu (τ 3 x1.toNatClampNeg)).2.1), F, nu)) else ((Q_rowObject κ τ ((Q_find κ τ σ F nu (τ 3 x1.toNatClampNeg)).1) F nu (τ 3 x1.toNatClampNeg)).1, ((Q_rowObject κ τ ((Q_find κ τ σ F nu (τ 3 x1.toNatClampNeg)).1) F nu (τ 3 x1.toNatClampNeg)).2.1), F, nu)))
set_option maxHeartbeats 4000000 in
set_option maxRecDepth 100000 in
theorem n_lookApply (l : Launch) (γ : gE) (a : Nat) (B : Nat → Nat) (Z : Nat → Prop) (κ b mn : Nat → Nat) (ν : Nat → Int32) (τ : Nat → Nat → Int32) (σ : Nat → Int32) (F : Nat → Nat → Int32) (nu : Nat → Int64) (hT : ST κ b mn ν τ) (x1 : Int32) (hx1 : vp_in x1 (κ 0)) (hZ : SZ F) (hF : FD σ) : MU l yModel_lookApply bModel_lookApply 6 (some .int) 3 73 0 0 [.ref a, .int x1] γ Z (MD γ a B Z ν τ σ F nu) (mQi (fun r H => ∃ (σ' : Nat → Int32) (F' : Nat → Nat → Int32) (nu' : Nat → Int64), Oq (Q_lookApply κ τ σ F nu x1) (r, σ', F', nu') ∧ MD γ a B Z ν τ σ' F' nu' H ∧ SZ F' ∧ FD σ' ∧ SL x1.toNatClampNeg F nu F' nu' ∧ (¬ 0 < r → GK x1.toNatClampNeg F' nu')) Z) := by
  refine mu_openI (by decide) (Nat.le_of_ble_eq_true rfl) ?_
  intro p e s m args below meth c ls Q S hnm hC hA hM hE hl
  have hS : va_S Z s.heap s.heap [] := va_S.rf
  obtain ⟨hx, hb, hml, hown, hW⟩ := id S
  obtain ⟨⟨hs0, hs1, hs2, hs3, hs4, hs5, hs6⟩, ⟨hv6, hv8, hv21, hv24, hv30, hv31⟩, hTR, hTY, hOB, hNM⟩ := id hT
  have hL : SL x1.toNatClampNeg F nu F nu := SL.rf
  have hl : lv_has ls 6 [(0, .ref a), (1, .int x1)] := hl
  obtain ⟨OUT, hQ, hO⟩ : ∃ z, (z = Q_lookApply κ τ σ F nu x1) ∧ Oq z (Q_lookApply κ τ σ F nu x1) := ⟨_, rfl, rfl⟩
  rw [← hQ] at hE
  clear hQ
  refine lv_aload_n hx hb dModel_lookApply_0 rfl (lv_at hl 0 rfl) ?_
  refine lv_aload_n hx hb dModel_lookApply_1 rfl (lv_at hl 0 rfl) ?_
  refine md_gA S hC hM 3 (by decide) rfl qw_9fb851a5fa dModel_lookApply_2 ?_
  refine lv_iload_n hx hb dModel_lookApply_5 rfl (lv_at hl 1 rfl) ?_
  refine md_ild S hC hM 3 1 4000 (τ 3) rfl rfl (by decide) rfl rfl (vin (by assumption) (by omega)) dModel_lookApply_6 ?_
  refine lv_topi (fun v1 ev1 => ?_)
  refine mu_Vv (rest := []) S hC (fun q h => hA q (Nat.le_trans hS.1 h)) (fun q h => h) hS (n_find l γ a B Z κ b mn ν τ σ F nu hT v1 ) meModel_find qw_ece0c598e8 ⟨Nat.le_of_ble_eq_true rfl, Nat.le_of_ble_eq_true rfl⟩ (md_rv hC hM) hM rfl hl.1 rfl (Nat.le_of_ble_eq_true rfl) dModel_lookApply_7 ⟨Nat.le_refl _, Nat.le_refl _⟩ (fun H locs hPO hS _ _ => ?_)
  obtain ⟨σr2, eOr2, hM, hF⟩ := hPO
  have eσr2 : σr2 = (Q_find κ τ σ F nu v1).1 := by rw [eOr2.eq]
  clear eOr2
  refine lv_aload_n hx hb dModel_lookApply_10 rfl (lv_at hl 0 rfl) ?_
  refine md_gI S hC hM 32 (v := σr2 32) rfl (by decide) rfl qw_9d5e299446 dModel_lookApply_11 ?_
  refine lv_topi (fun v3 ev3 => ?_)
  refine lv_iconst (v := 4) hx hb dModel_lookApply_14 (by decide) ?_
  refine lv_icmp_ne (tgt := 28) hx hb dModel_lookApply_15 (by decide) (fun c4 => ?_) (fun c4 => ?_)
  · refine lv_aload_n hx hb dModel_lookApply_28 rfl (lv_at hl 0 rfl) ?_
    refine lv_aload_n hx hb dModel_lookApply_29 rfl (lv_at hl 0 rfl) ?_
    refine md_gA S hC hM 3 (by decide) rfl qw_9fb851a5fa dModel_lookApply_30 ?_
    refine lv_iload_n hx hb dModel_lookApply_33 rfl (lv_at hl 1 rfl) ?_
    refine md_ild S hC hM 3 1 4000 (τ 3) rfl rfl (by decide) rfl rfl (vin (by assumption) (by omega)) dModel_lookApply_34 ?_
    refine lv_topi (fun v5 ev5 => ?_)
    refine mu_Vi (rest := []) S hC (fun q h => hA q (Nat.le_trans hS.1 h)) (fun q h => h) hS (n_rowObject l γ a B Z κ b mn ν τ σr2 F nu hT v5 ) meModel_rowObject qw_f33503df7d ⟨Nat.le_of_ble_eq_true rfl, Nat.le_of_ble_eq_true rfl⟩ (md_rv hC hM) hM rfl hl.1 rfl (Nat.le_of_ble_eq_true rfl) dModel_lookApply_35 ⟨Nat.le_refl _, Nat.le_refl _⟩ (fun r6 H locs hPO hS _ _ => ?_)
    obtain ⟨σr6, eOr6, hM, hF, hror6⟩ := hPO
    have er6 : r6 = (Q_rowObject κ τ σr2 F nu v5).1 := by rw [eOr6.eq]
    have eσr6 : σr6 = (Q_rowObject κ τ σr2 F nu v5).2.1 := by rw [eOr6.eq]
    clear eOr6
    refine lv_istore_n (lv' := [(2, .int r6), (0, .ref a), (1, .int x1)]) hx hb dModel_lookApply_38 rfl hl (by decide) rfl (fun ls hl => ?_)
    refine lv_iload_n hx hb dModel_lookApply_39 rfl (lv_at hl 0 rfl) ?_
    refine lv_if_le (tgt := 45) hx hb dModel_lookApply_40 (by decide) (fun c7 => ?_) (fun c7 => ?_)
    · obtain ⟨o, t, ho, ht, hoe, hot, htc⟩ := hror6.resolve_left (Int32.not_lt.mpr (by assumption))
      obtain ⟨lo, hi, cn, h17, h18, h19, hlo, hhi, hd1, hd2, hcn, hup, hdn⟩ := hTY t ht htc
      refine lv_aload_n hx hb dModel_lookApply_45 rfl (lv_at hl 1 rfl) ?_
      refine md_gA S hC hM 4 (by decide) rfl qw_a8caa30de3 dModel_lookApply_46 ?_
      refine lv_iload_n hx hb dModel_lookApply_49 rfl (lv_at hl 2 rfl) ?_
      refine md_ild S hC hM 4 2 4000 (τ 4) rfl rfl (by decide) rfl rfl (vin (by assumption) (by omega)) dModel_lookApply_50 ?_
      refine lv_topi (fun v8 ev8 => ?_)
      refine lv_iconst (v := 1) hx hb dModel_lookApply_51 (by decide) ?_
      refine lv_icmp_eq (tgt := 58) hx hb dModel_lookApply_52 (by decide) (fun c9 => ?_) (fun c9 => ?_)
      · have hm1 := mn_eq1 hTR hx1 ev8 (by assumption)
        refine lv_aload_n hx hb dModel_lookApply_58 rfl (lv_at hl 1 rfl) ?_
        refine lv_iload_n hx hb dModel_lookApply_59 rfl (lv_at hl 2 rfl) ?_
        refine lv_iconst (v := 0) hx hb dModel_lookApply_60 (by decide) ?_
        have hpr10 : vp_in x1 (κ 0) := (vin (by assumption) (by omega))
        have hjr10 : vp_in 0 (mn x1.toNatClampNeg) := (vp0 (by omega) (by omega))
        refine pu_Vi (rest := []) S hC (n_child l γ a B Z κ b mn ν τ σr6 F nu hT x1 0 hpr10 hjr10) meModel_child qw_a66d450e0a ⟨Nat.le_of_ble_eq_true rfl, Nat.le_of_ble_eq_true rfl⟩ (md_rv hC hM) hM rfl hl.1 rfl (Nat.le_of_ble_eq_true rfl) dModel_lookApply_61 ⟨Nat.zero_le _, Nat.zero_le _⟩ (fun r10 hr10 => ?_)
        obtain ⟨hr10, er10⟩ := hr10
        obtain ⟨hir10, hltr10, hxr10⟩ := ch_in hTR hs0 hpr10 hjr10 hr10
        refine lv_istore_n (lv' := [(3, .int r10), (2, .int r6), (0, .ref a), (1, .int x1)]) hx hb dModel_lookApply_64 rfl hl (by decide) rfl (fun ls hl => ?_)
        refine lv_aload_n hx hb dModel_lookApply_65 rfl (lv_at hl 2 rfl) ?_
        refine md_gI S hC hM 33 (v := σr6 33) rfl (by decide) rfl qw_c60a40a4a7 dModel_lookApply_66 ?_
        refine lv_topi (fun v11 ev11 => ?_)
        refine lv_istore (lv' := [(4, .int v11), (3, .int r10), (2, .int r6), (0, .ref a), (1, .int x1)]) hx hb dModel_lookApply_69 hl (by decide) rfl (fun ls hl => ?_)
        have hio : vp_in v11 2000 := vin_of (ev11.trans hoe) ho (by omega)
        refine lv_aload_n hx hb dModel_lookApply_71 rfl (lv_at hl 3 rfl) ?_
        refine md_gA S hC hM 23 (by decide) rfl qw_bd9bcb35cb dModel_lookApply_72 ?_
        refine lv_iload hx hb dModel_lookApply_75 (lv_at hl 0 rfl) ?_
        refine md_ild S hC hM 23 18 2000 (τ 23) rfl rfl (by decide) rfl rfl hio dModel_lookApply_77 ?_
        refine lv_topi (fun v12 ev12 => ?_)
        refine lv_istore (lv' := [(5, .int v12), (4, .int v11), (3, .int r10), (2, .int r6), (0, .ref a), (1, .int x1)]) hx hb dModel_lookApply_78 hl (by decide) rfl (fun ls hl => ?_)
        have hit : vp_in v12 1000 := ob_in hOB hio ev12
        have hio2 : v11.toNatClampNeg = o := (by rw [ev11, hoe]; exact nI_clamp (by omega))
        have hit2 : v12.toNatClampNeg = t := (by rw [ev12, hio2, hot]; exact nI_clamp (by omega))
        refine lv_aload_n hx hb dModel_lookApply_80 rfl (lv_at hl 4 rfl) ?_
        refine md_gA S hC hM 9 (by decide) rfl qw_a119aeeca0 dModel_lookApply_81 ?_
        refine lv_iload_n hx hb dModel_lookApply_84 rfl (lv_at hl 2 rfl) ?_
        refine md_ild S hC hM 9 5 10000 (F 9) rfl rfl (by decide) rfl rfl (vin (by assumption) (by omega)) dModel_lookApply_85 ?_
        refine lv_topi (fun v13 ev13 => ?_)
        refine lv_iconst (v := 2) hx hb dModel_lookApply_86 (by decide) ?_
        refine lv_icmp_eq (tgt := 92) hx hb dModel_lookApply_87 (by decide) (fun c14 => ?_) (fun c14 => ?_)
        · refine lv_aload_n hx hb dModel_lookApply_92 rfl (lv_at hl 4 rfl) ?_
          refine md_gA S hC hM 11 (by decide) rfl qw_88b9028ba7 dModel_lookApply_93 ?_
          refine lv_iload_n hx hb dModel_lookApply_96 rfl (lv_at hl 2 rfl) ?_
          refine md_zld S hC hM 11 7 10000 (F 11) rfl rfl (by decide) rfl rfl (vin (by assumption) (by omega)) dModel_lookApply_97 ?_
          refine lv_topi (fun v15 ev15 => ?_)
          have J119 : ∀ (ls : Array Slot), (F 11 r10.toNatClampNeg = 0 ∨ ((lo : Int) ≤ (nu r10.toNatClampNeg).toInt ∧ (nu r10.toNatClampNeg).toInt ≤ (hi : Int) ∨ (hi : Int) ≤ (nu r10.toNatClampNeg).toInt ∧ (nu r10.toNatClampNeg).toInt ≤ (lo : Int))) → (Oq OUT (Q_lookApply_119 κ τ σ F nu x1   )) → lv_has ls 6 [(0, .ref a), (1, .int x1), (2, .int r6), (3, .int r10), (4, .int v11), (5, .int v12)] → W p l e (bs_rm 3 0 0 73) s m args below meth c H locs 0 0 Q (F0 m 119 ls []) := by
            intro ls hw119 hO hl
            refine lv_aload_n hx hb dModel_lookApply_119 rfl (lv_at hl 0 rfl) ?_
            refine lv_iload_n hx hb dModel_lookApply_120 rfl (lv_at hl 1 rfl) ?_
            refine lv_iconst (v := 0) hx hb dModel_lookApply_121 (by decide) ?_
            refine lv_iconst (v := 0) hx hb dModel_lookApply_122 (by decide) ?_
            refine lv_aload_n hx hb dModel_lookApply_123 rfl (lv_at hl 0 rfl) ?_
            refine md_gA S hC hM 11 (by decide) rfl qw_88b9028ba7 dModel_lookApply_124 ?_
            refine lv_iload_n hx hb dModel_lookApply_127 rfl (lv_at hl 3 rfl) ?_
            refine md_zld S hC hM 11 7 10000 (F 11) rfl rfl (by decide) rfl rfl (vin (by assumption) (by omega)) dModel_lookApply_128 ?_
            refine lv_topi (fun v46 ev46 => ?_)
            have J147 : ∀ (ls : Array Slot) (t0_147 : Int32), (t0_147 = 0 ∨ ¬ F 11 r10.toNatClampNeg = 0) → (Oq OUT (Q_lookApply_147 κ τ σ F nu x1   t0_147)) → lv_has ls 6 [(0, .ref a), (1, .int x1), (2, .int r6), (3, .int r10), (4, .int v11), (5, .int v12)] → W p l e (bs_rm 3 0 0 73) s m args below meth c H locs 0 0 Q (F0 m 147 ls [.int t0_147, .int 0, .int 0, .int x1, .ref a]) := by
              intro ls t0_147 ht0_147 hO hl
              have hnr72 : ∃ j, j ≤ 1000 ∧ 0 = nI j := ⟨0, by omega, rfl⟩
              refine mu_Vv (rest := []) S hC (fun q h => hA q (Nat.le_trans hS.1 h)) (fun q h => h) hS (n_fact l γ a B Z κ b mn ν τ σr6 F nu hT x1 0 0 t0_147 (vin (by assumption) (by omega)) hnr72) meModel_fact qw_02871250ec ⟨Nat.le_of_ble_eq_true rfl, Nat.le_of_ble_eq_true rfl⟩ (md_rv hC hM) hM rfl hl.1 rfl (Nat.le_of_ble_eq_true rfl) dModel_lookApply_147 ⟨Nat.le_refl _, Nat.le_refl _⟩ (fun H locs hPO hS _ _ => ?_)
              obtain ⟨Fr72, nur72, eOr72, hM, hqr72, hcr72⟩ := hPO
              have eFr72 : Fr72 = (Q_fact κ τ σr6 F nu x1 0 0 t0_147).2.1 := by rw [eOr72.eq]
              have enur72 : nur72 = (Q_fact κ τ σr6 F nu x1 0 0 t0_147).2.2 := by rw [eOr72.eq]
              clear eOr72
              have hZ : SZ Fr72 := hZ.slt hqr72 hnr72
              have hL : SL x1.toNatClampNeg F nu Fr72 nur72 := hL.trans (SL.slt hqr72)
              have hK : GK x1.toNatClampNeg Fr72 nur72 := GK.zero hqr72
              refine lv_aload_n hx hb dModel_lookApply_150 rfl (lv_at hl 0 rfl) ?_
              refine md_gA S hC hM 11 (by decide) rfl qw_88b9028ba7 dModel_lookApply_151 ?_
              refine lv_iload_n hx hb dModel_lookApply_154 rfl (lv_at hl 1 rfl) ?_
              refine md_zld S hC hM 11 7 10000 (Fr72 11) rfl rfl (by decide) rfl rfl (vin (by assumption) (by omega)) dModel_lookApply_155 ?_
              refine lv_topi (fun v73 ev73 => ?_)
              have J228 : ∀ (ls : Array Slot) (H : Heap) (locs : List Loc) (nu_228 : Nat → Int64), MD γ a B Z ν τ σr6 Fr72 nu_228 H → va_S Z s.heap H locs → (GK x1.toNatClampNeg Fr72 nu_228) → (SL x1.toNatClampNeg F nu Fr72 nu_228) → (Oq OUT (Q_lookApply_228 κ τ σ F nu x1 t0_147   nu_228)) → lv_has ls 6 [(0, .ref a), (1, .int x1), (2, .int r6), (3, .int r10), (4, .int v11), (5, .int v12)] → W p l e (bs_rm 3 0 0 73) s m args below meth c H locs 0 0 Q (F0 m 228 ls []) := by
                intro ls H locs nu_228 hM hS hK hL hO hl
                refine lv_aload_n hx hb dModel_lookApply_228 rfl (lv_at hl 0 rfl) ?_
                refine md_gA S hC hM 12 (by decide) rfl qw_19df235c4a dModel_lookApply_229 ?_
                refine lv_iload_n hx hb dModel_lookApply_232 rfl (lv_at hl 1 rfl) ?_
                refine lv_iload hx hb dModel_lookApply_233 (lv_at hl 4 rfl) ?_
                refine md_istD S hC hM hS 12 8 10000 rfl rfl (by decide) rfl rfl (vin (by assumption) (by omega)) dModel_lookApply_235 (fun H locs hM hS => ?_)
                obtain ⟨F94, eF94⟩ : ∃ z : Nat → Nat → Int32, z = Au Fr72 12 x1.toNatClampNeg v11 := ⟨_, rfl⟩
                rw [← eF94] at hM
                have hZ : SZ F94 := hZ.au eF94 (by decide)
                have hL : SL x1.toNatClampNeg F nu F94 nu_228 := hL.au eF94 (by decide)
                have hK : GK x1.toNatClampNeg F94 nu_228 := hK.au eF94 (by decide)
                refine lv_iconst (v := 0) hx hb dModel_lookApply_236 (by decide) ?_
                exact hE _ _ _ _ _ hS ⟨σr6, F94, nu_228, (by subst eF94 ev73 enur72 eFr72 ev46 ev15 ev13 ev12 ev11 er10 ev8 eσr6 er6 ev5 ev3 eσr2 ev1; exact hO.tr rfl), hM, hZ, hF, hL, (fun _ => hK)⟩ dModel_lookApply_237
              refine lv_if_eq (tgt := 228) hx hb dModel_lookApply_156 (by decide) (fun c95 => ?_) (fun c95 => ?_)
              · exact J228 ls _ _ nur72 hM hS hK hL (by subst ev73 enur72 eFr72 ev46 ev15 ev13 ev12 ev11 er10 ev8 eσr6 er6 ev5 ev3 eσr2 ev1; exact hO.tr (if_pos c95)) (lv_sub hl [0, 1, 2, 3, 4, 5] rfl)
              · have hwi := hw119.resolve_left (ap_ok ev73 hcr72 (by assumption) ht0_147)
                have hnn : nur72 r10.toNatClampNeg = nu r10.toNatClampNeg := sltnn hqr72 (Nat.ne_of_lt (by assumption))
                rw [← hnn] at hwi
                refine lv_aload_n hx hb dModel_lookApply_159 rfl (lv_at hl 0 rfl) ?_
                refine md_gA S hC hM 13 (by decide) rfl qw_7b809afc8c dModel_lookApply_160 ?_
                refine lv_iload_n hx hb dModel_lookApply_163 rfl (lv_at hl 1 rfl) ?_
                refine lv_aload_n hx hb dModel_lookApply_164 rfl (lv_at hl 0 rfl) ?_
                refine lv_sipush (v := 8000) hx hb dModel_lookApply_165 (by decide) ?_
                refine lv_iload hx hb dModel_lookApply_168 (lv_at hl 4 rfl) ?_
                refine lv_iadd hx hb dModel_lookApply_170 ?_
                refine lv_topi (fun v96 ev96 => ?_)
                refine lv_aload_n hx hb dModel_lookApply_171 rfl (lv_at hl 0 rfl) ?_
                refine md_gA S hC hM 18 (by decide) rfl qw_82ee92f611 dModel_lookApply_172 ?_
                refine lv_iload hx hb dModel_lookApply_175 (lv_at hl 5 rfl) ?_
                refine md_ild S hC hM 18 14 1000 (τ 18) rfl rfl (by decide) rfl rfl (vin (by assumption) (by omega)) dModel_lookApply_177 ?_
                refine lv_topi (fun v97 ev97 => ?_)
                refine lv_i2l hx hb dModel_lookApply_178 rfl ?_
                refine lv_topl (fun v98 ev98 => ?_)
                refine lv_aload_n hx hb dModel_lookApply_179 rfl (lv_at hl 0 rfl) ?_
                refine md_gA S hC hM 13 (by decide) rfl qw_7b809afc8c dModel_lookApply_180 ?_
                refine lv_iload_n hx hb dModel_lookApply_183 rfl (lv_at hl 3 rfl) ?_
                refine md_lld S hC hM (vin (by assumption) (by omega)) dModel_lookApply_184 ?_
                refine lv_topl (fun v99 ev99 => ?_)
                have ev99 : v99 = nur72 r10.toNatClampNeg := ev99
                refine W.lcmp hx hb dModel_lookApply_185 ?_
                refine lv_topi (fun v100 ev100 => ?_)
                have J222 : ∀ (ls : Array Slot) (t0_222 : Int64), (0 ≤ t0_222.toInt ∧ t0_222.toInt ≤ 63) → (Oq OUT (Q_lookApply_222 κ τ σ F nu x1 t0_147   t0_222)) → lv_has ls 6 [(0, .ref a), (1, .int x1), (2, .int r6), (3, .int r10), (4, .int v11), (5, .int v12)] → W p l e (bs_rm 3 0 0 73) s m args below meth c H locs 0 0 Q (F0 m 222 ls [.long t0_222, .int v96, .ref a, .int x1, .ref (B 13)]) := by
                  intro ls t0_222 ht0_222 hO hl
                  refine lv_l2i hx hb dModel_lookApply_222 rfl ?_
                  refine lv_topi (fun v114 ev114 => ?_)
                  have hdx : vp_in v114 64 := l2i_in ev114 ht0_222.1 (by omega) (by omega)
                  have h8 := (vin8 hio ev96).1
                  refine pu_Vi (rest := [.int x1, .ref (B 13)]) S hC (n_element l γ a B Z κ b mn ν τ σr6 Fr72 nur72 hT v96 v114 (el_in (by assumption) (by assumption) (by omega))) meModel_element qw_ceb3d87d61 ⟨Nat.le_of_ble_eq_true rfl, Nat.le_of_ble_eq_true rfl⟩ (md_rv hC hM) hM rfl hl.1 rfl (Nat.le_of_ble_eq_true rfl) dModel_lookApply_223 ⟨Nat.zero_le _, Nat.zero_le _⟩ (fun r115 hr115 => ?_)
                  obtain ⟨hr115, er115⟩ := hr115
                  refine lv_i2l hx hb dModel_lookApply_226 rfl ?_
                  refine lv_topl (fun v116 ev116 => ?_)
                  have hgnu117 : Fr72 9 x1.toNatClampNeg = 2 → -2147483648 < (v116 : Int64).toInt ∧ (v116 : Int64).toInt < 2147483648 := (fun h9 => absurd ((slt9 hqr72).symm.trans h9) (by decide))
                  refine md_lst S hC hM hS (vin (by assumption) (by omega)) dModel_lookApply_227 (fun H locs hM hS => ?_)
                  obtain ⟨nu117, enu117⟩ : ∃ z : Nat → Int64, z = vp_updL nur72 x1.toNatClampNeg v116 := ⟨_, rfl⟩
                  rw [← enu117] at hM
                  have hL : SL x1.toNatClampNeg F nu Fr72 nu117 := hL.trans (by rw [enu117]; exact SL.num)
                  have hK : GK x1.toNatClampNeg Fr72 nu117 := by rw [enu117]; exact GK.num hgnu117
                  exact J228 ls _ _ nu117 hM hS hK hL (by subst enu117 ev116 er115 ev114 ev100 ev99 ev98 ev97 ev96 ev73 enur72 eFr72 ev46 ev15 ev13 ev12 ev11 er10 ev8 eσr6 er6 ev5 ev3 eσr2 ev1; exact hO.tr rfl) (lv_sub hl [0, 1, 2, 3, 4, 5] rfl)
                refine lv_if_le (tgt := 207) hx hb dModel_lookApply_186 (by decide) (fun c118 => ?_) (fun c118 => ?_)
                · refine lv_aload_n hx hb dModel_lookApply_207 rfl (lv_at hl 0 rfl) ?_
                  refine md_gA S hC hM 13 (by decide) rfl qw_7b809afc8c dModel_lookApply_208 ?_
                  refine lv_iload_n hx hb dModel_lookApply_211 rfl (lv_at hl 3 rfl) ?_
                  refine md_lld S hC hM (vin (by assumption) (by omega)) dModel_lookApply_212 ?_
                  refine lv_topl (fun v119 ev119 => ?_)
                  have ev119 : v119 = nur72 r10.toNatClampNeg := ev119
                  refine lv_aload_n hx hb dModel_lookApply_213 rfl (lv_at hl 0 rfl) ?_
                  refine md_gA S hC hM 18 (by decide) rfl qw_82ee92f611 dModel_lookApply_214 ?_
                  refine lv_iload hx hb dModel_lookApply_217 (lv_at hl 5 rfl) ?_
                  refine md_ild S hC hM 18 14 1000 (τ 18) rfl rfl (by decide) rfl rfl (vin (by assumption) (by omega)) dModel_lookApply_219 ?_
                  refine lv_topi (fun v120 ev120 => ?_)
                  refine lv_i2l hx hb dModel_lookApply_220 rfl ?_
                  refine lv_topl (fun v121 ev121 => ?_)
                  refine lv_lsub hx hb dModel_lookApply_221 ?_
                  refine lv_topl (fun v122 ev122 => ?_)
                  exact J222 ls v122 (by first | exact ap_d1 hlo hhi hd1 hd2 hwi (hi_int ev97 (by rw [hit2]; exact h18) ev98 hhi) ev99 ev100 (by assumption) (hi_int ev106 (by rw [hit2]; exact h18) ev107 hhi) ev108 ev122 | exact ap_d2 hlo hhi hd1 hd2 hwi (hi_int ev97 (by rw [hit2]; exact h18) ev98 hhi) ev99 ev100 (by assumption) (hi_int ev120 (by rw [hit2]; exact h18) ev121 hhi) ev119 ev122) (by subst ev122 ev121 ev120 ev119 ev100 ev99 ev98 ev97 ev96 ev73 enur72 eFr72 ev46 ev15 ev13 ev12 ev11 er10 ev8 eσr6 er6 ev5 ev3 eσr2 ev1; exact hO.tr ((if_neg c95).trans (if_pos c118))) (lv_sub hl [0, 1, 2, 3, 4, 5] rfl)
                · refine lv_aload_n hx hb dModel_lookApply_189 rfl (lv_at hl 0 rfl) ?_
                  refine md_gA S hC hM 18 (by decide) rfl qw_82ee92f611 dModel_lookApply_190 ?_
                  refine lv_iload hx hb dModel_lookApply_193 (lv_at hl 5 rfl) ?_
                  refine md_ild S hC hM 18 14 1000 (τ 18) rfl rfl (by decide) rfl rfl (vin (by assumption) (by omega)) dModel_lookApply_195 ?_
                  refine lv_topi (fun v123 ev123 => ?_)
                  refine lv_i2l hx hb dModel_lookApply_196 rfl ?_
                  refine lv_topl (fun v124 ev124 => ?_)
                  refine lv_aload_n hx hb dModel_lookApply_197 rfl (lv_at hl 0 rfl) ?_
                  refine md_gA S hC hM 13 (by decide) rfl qw_7b809afc8c dModel_lookApply_198 ?_
                  refine lv_iload_n hx hb dModel_lookApply_201 rfl (lv_at hl 3 rfl) ?_
                  refine md_lld S hC hM (vin (by assumption) (by omega)) dModel_lookApply_202 ?_
                  refine lv_topl (fun v125 ev125 => ?_)
                  have ev125 : v125 = nur72 r10.toNatClampNeg := ev125
                  refine lv_lsub hx hb dModel_lookApply_203 ?_
                  refine lv_topl (fun v126 ev126 => ?_)
                  refine lv_goto (tgt := 222) hx hb dModel_lookApply_204 (by decide) ?_
                  exact J222 ls v126 (by first | exact ap_d1 hlo hhi hd1 hd2 hwi (hi_int ev97 (by rw [hit2]; exact h18) ev98 hhi) ev99 ev100 (by assumption) (hi_int ev123 (by rw [hit2]; exact h18) ev124 hhi) ev125 ev126 | exact ap_d2 hlo hhi hd1 hd2 hwi (hi_int ev97 (by rw [hit2]; exact h18) ev98 hhi) ev99 ev100 (by assumption) (hi_int ev120 (by rw [hit2]; exact h18) ev121 hhi) ev119 ev126) (by subst ev126 ev125 ev124 ev123 ev100 ev99 ev98 ev97 ev96 ev73 enur72 eFr72 ev46 ev15 ev13 ev12 ev11 er10 ev8 eσr6 er6 ev5 ev3 eσr2 ev1; exact hO.tr ((if_neg c95).trans (if_neg c118))) (lv_sub hl [0, 1, 2, 3, 4, 5] rfl)
            have J146 : ∀ (ls : Array Slot), (Oq OUT (Q_lookApply_146 κ τ σ F nu x1   )) → lv_has ls 6 [(0, .ref a), (1, .int x1), (2, .int r6), (3, .int r10), (4, .int v11), (5, .int v12)] → W p l e (bs_rm 3 0 0 73) s m args below meth c H locs 0 0 Q (F0 m 146 ls [.int 0, .int 0, .int x1, .ref a]) := by
              intro ls hO hl
              refine lv_iconst (v := 0) hx hb dModel_lookApply_146 (by decide) ?_
              exact J147 ls 0 (by first | exact Or.inl rfl | exact Or.inr (fun h9 => absurd (ev46.trans h9) (by assumption))) (by subst ev46 ev15 ev13 ev12 ev11 er10 ev8 eσr6 er6 ev5 ev3 eσr2 ev1; exact hO.tr rfl) (lv_sub hl [0, 1, 2, 3, 4, 5] rfl)
            refine lv_if_eq (tgt := 146) hx hb dModel_lookApply_129 (by decide) (fun c127 => ?_) (fun c127 => ?_)
            · exact J146 ls (by subst ev46 ev15 ev13 ev12 ev11 er10 ev8 eσr6 er6 ev5 ev3 eσr2 ev1; exact hO.tr (if_pos c127)) (lv_sub hl [0, 1, 2, 3, 4, 5] rfl)
            · refine lv_aload_n hx hb dModel_lookApply_132 rfl (lv_at hl 0 rfl) ?_
              refine md_gA S hC hM 22 (by decide) rfl qw_50c5849686 dModel_lookApply_133 ?_
              refine lv_iload hx hb dModel_lookApply_136 (lv_at hl 4 rfl) ?_
              refine md_ild S hC hM 22 17 2000 (τ 22) rfl rfl (by decide) rfl rfl (vin (by assumption) (by omega)) dModel_lookApply_138 ?_
              refine lv_topi (fun v128 ev128 => ?_)
              refine lv_if_ne (tgt := 146) hx hb dModel_lookApply_139 (by decide) (fun c129 => ?_) (fun c129 => ?_)
              · exact J146 ls (by subst ev128 ev46 ev15 ev13 ev12 ev11 er10 ev8 eσr6 er6 ev5 ev3 eσr2 ev1; exact hO.tr ((if_neg c127).trans (if_neg c129))) (lv_sub hl [0, 1, 2, 3, 4, 5] rfl)
              · refine lv_iconst (v := 1) hx hb dModel_lookApply_142 (by decide) ?_
                refine lv_goto (tgt := 147) hx hb dModel_lookApply_143 (by decide) ?_
                exact J147 ls 1 (by first | exact Or.inl rfl | exact Or.inr (fun h9 => absurd (ev46.trans h9) (by assumption))) (by subst ev128 ev46 ev15 ev13 ev12 ev11 er10 ev8 eσr6 er6 ev5 ev3 eσr2 ev1; exact hO.tr ((if_neg c127).trans (if_pos c129))) (lv_sub hl [0, 1, 2, 3, 4, 5] rfl)
          refine lv_if_eq (tgt := 119) hx hb dModel_lookApply_98 (by decide) (fun c130 => ?_) (fun c130 => ?_)
          · exact J119 ls (by first | exact Or.inl (ev15.symm.trans (by assumption)) | (refine Or.inr ?_; rw [← ev17]; exact (hr18.resolve_left (by assumption)) lo hi (by rw [hit2]; exact h17) (by rw [hit2]; exact h18) hlo hhi)) (by subst ev15 ev13 ev12 ev11 er10 ev8 eσr6 er6 ev5 ev3 eσr2 ev1; exact hO.tr ((if_neg c4).trans ((if_pos c7).trans ((if_pos c9).trans ((if_pos c14).trans (if_pos c130)))))) (lv_sub hl [4, 5, 3, 2, 1, 0] rfl)
          · refine lv_aload_n hx hb dModel_lookApply_101 rfl (lv_at hl 4 rfl) ?_
            refine lv_iload hx hb dModel_lookApply_102 (lv_at hl 0 rfl) ?_
            refine lv_aload_n hx hb dModel_lookApply_104 rfl (lv_at hl 4 rfl) ?_
            refine md_gA S hC hM 13 (by decide) rfl qw_7b809afc8c dModel_lookApply_105 ?_
            refine lv_iload_n hx hb dModel_lookApply_108 rfl (lv_at hl 2 rfl) ?_
            refine md_lld S hC hM (vin (by assumption) (by omega)) dModel_lookApply_109 ?_
            refine lv_topl (fun v131 ev131 => ?_)
            have ev131 : v131 = nu r10.toNatClampNeg := ev131
            refine pu_Vi (rest := []) S hC (n_within l γ a B Z κ b mn ν τ σr6 F nu hT v12 v131 (vin (by assumption) (by omega))) meModel_within qw_5fce476f55 ⟨Nat.le_of_ble_eq_true rfl, Nat.le_of_ble_eq_true rfl⟩ (md_rv hC hM) hM rfl hl.1 rfl (Nat.le_of_ble_eq_true rfl) dModel_lookApply_110 ⟨Nat.zero_le _, Nat.zero_le _⟩ (fun r132 hr132 => ?_)
            obtain ⟨hr132, er132⟩ := hr132
            refine lv_if_ne (tgt := 119) hx hb dModel_lookApply_113 (by decide) (fun c133 => ?_) (fun c133 => ?_)
            · exact J119 ls (by first | exact Or.inl (ev15.symm.trans (by assumption)) | (refine Or.inr ?_; rw [← ev131]; exact (hr132.resolve_left (by assumption)) lo hi (by rw [hit2]; exact h17) (by rw [hit2]; exact h18) hlo hhi)) (by subst er132 ev131 ev15 ev13 ev12 ev11 er10 ev8 eσr6 er6 ev5 ev3 eσr2 ev1; exact hO.tr ((if_neg c4).trans ((if_pos c7).trans ((if_pos c9).trans ((if_pos c14).trans ((if_neg c130).trans (if_neg c133))))))) (lv_sub hl [4, 5, 3, 2, 1, 0] rfl)
            · refine lv_bipush (v := 6) hx hb dModel_lookApply_116 (by decide) ?_
              exact hE _ _ _ _ _ hS ⟨σr6, F, nu, (by subst er132 ev131 ev15 ev13 ev12 ev11 er10 ev8 eσr6 er6 ev5 ev3 eσr2 ev1; exact hO.tr ((if_neg c4).trans ((if_pos c7).trans ((if_pos c9).trans ((if_pos c14).trans ((if_neg c130).trans (if_pos c133))))))), hM, hZ, hF, hL, (fun h9 => absurd (show (0 : Int32) < 6 by decide) h9)⟩ dModel_lookApply_118
        · refine lv_iconst (v := 3) hx hb dModel_lookApply_90 (by decide) ?_
          exact hE _ _ _ _ _ hS ⟨σr6, F, nu, (by subst ev13 ev12 ev11 er10 ev8 eσr6 er6 ev5 ev3 eσr2 ev1; exact hO.tr ((if_neg c4).trans ((if_pos c7).trans ((if_pos c9).trans (if_neg c14))))), hM, hZ, hF, hL, (fun h9 => absurd (show (0 : Int32) < 3 by decide) h9)⟩ dModel_lookApply_91
      · refine lv_bipush (v := 11) hx hb dModel_lookApply_55 (by decide) ?_
        exact hE _ _ _ _ _ hS ⟨σr6, F, nu, (by subst ev8 eσr6 er6 ev5 ev3 eσr2 ev1; exact hO.tr ((if_neg c4).trans ((if_pos c7).trans (if_neg c9)))), hM, hZ, hF, hL, (fun h9 => absurd (show (0 : Int32) < 11 by decide) h9)⟩ dModel_lookApply_57
    · refine lv_iload_n hx hb dModel_lookApply_43 rfl (lv_at hl 0 rfl) ?_
      exact hE _ _ _ _ _ hS ⟨σr6, F, nu, (by subst eσr6 er6 ev5 ev3 eσr2 ev1; exact hO.tr ((if_neg c4).trans (if_neg c7))), hM, hZ, hF, hL, (fun h9 => absurd (Int32.not_le.mp (by assumption)) h9)⟩ dModel_lookApply_44
  · refine lv_aload_n hx hb dModel_lookApply_18 rfl (lv_at hl 0 rfl) ?_
    refine lv_iload_n hx hb dModel_lookApply_19 rfl (lv_at hl 1 rfl) ?_
    refine lv_aload_n hx hb dModel_lookApply_20 rfl (lv_at hl 0 rfl) ?_
    refine md_gI S hC hM 33 (v := σr2 33) rfl (by decide) rfl qw_c60a40a4a7 dModel_lookApply_21 ?_
    refine lv_topi (fun v134 ev134 => ?_)
    have hf4 : ¬ 11 < v134 := (by rw [ev134]; exact hF.2.2 (ev3.symm.trans (by assumption)))
    refine mu_Vi (rest := []) S hC (fun q h => hA q (Nat.le_trans hS.1 h)) (fun q h => h) hS (n_lookFunction l γ a B Z κ b mn ν τ σr2 F nu hT x1 v134 (vin (by assumption) (by omega)) (by assumption) hZ hF) meModel_lookFunction qw_66cde9f86f ⟨Nat.le_of_ble_eq_true rfl, Nat.le_of_ble_eq_true rfl⟩ (md_rv hC hM) hM rfl hl.1 rfl (Nat.le_of_ble_eq_true rfl) dModel_lookApply_24 ⟨Nat.le_refl _, Nat.le_refl _⟩ (fun r135 H locs hPO hS _ _ => ?_)
    obtain ⟨σr135, Fr135, nur135, eOr135, hM, hZ, hF, hLr135, hRr135⟩ := hPO
    have er135 : r135 = (Q_lookFunction κ τ σr2 F nu x1 v134).1 := by rw [eOr135.eq]
    have eσr135 : σr135 = (Q_lookFunction κ τ σr2 F nu x1 v134).2.1 := by rw [eOr135.eq]
    have eFr135 : Fr135 = (Q_lookFunction κ τ σr2 F nu x1 v134).2.2.1 := by rw [eOr135.eq]
    have enur135 : nur135 = (Q_lookFunction κ τ σr2 F nu x1 v134).2.2.2 := by rw [eOr135.eq]
    clear eOr135
    have hL : SL x1.toNatClampNeg F nu Fr135 nur135 := hL.trans hLr135
    exact hE _ _ _ _ _ hS ⟨σr135, Fr135, nur135, (by subst enur135 eFr135 eσr135 er135 ev134 ev3 eσr2 ev1; exact hO.tr (if_pos c4)), hM, hZ, hF, hL, hRr135⟩ dModel_lookApply_27
