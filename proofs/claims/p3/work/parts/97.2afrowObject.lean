theorem qw_ece0c598e8 : (Cond.methodLink R_Model 173 yModel_find) ∈ bs_W0 := bs_in (in_tables_1_6 (List.mem_of_getElem? (i := 63) rfl)) rfl
theorem qw_bd9bcb35cb : (Cond.fieldLink R_Model 72 R_Model "objectType" "[I") ∈ bs_W0 := bs_in (in_tables_1_5 (List.mem_of_getElem? (i := 176) rfl)) rfl
set_option maxHeartbeats 4000000 in
set_option maxRecDepth 100000 in
theorem m_rowObject (l : Launch) (γ : gE) (a : Nat) (B : Nat → Nat) (Z : Nat → Prop) (κ b mn : Nat → Nat) (ν : Nat → Int32) (τ : Nat → Nat → Int32) (σ : Nat → Int32) (F : Nat → Nat → Int32) (nu : Nat → Int64) (hT : ST κ b mn ν τ) (x1 : Int32)  : MU l yModel_rowObject bModel_rowObject 2 (some .int) 1 22 0 0 [.ref a, .int x1] γ Z (MD γ a B Z ν τ σ F nu) (mQi (fun r H => ∃ σ' : Nat → Int32, MD γ a B Z ν τ σ' F nu H ∧ FD σ' ∧ (0 < r ∨ ∃ o t, o < 2000 ∧ t < 1000 ∧ σ' 33 = nI o ∧ τ 23 o = nI t ∧ τ 16 t = 3)) Z) := by
  refine mu_openI (by decide) (Nat.le_of_ble_eq_true rfl) ?_
  intro p e s m args below meth c ls Q S hnm hC hA hM hE hl
  have hS : va_S Z s.heap s.heap [] := va_S.rf
  obtain ⟨hx, hb, hml, hown, hW⟩ := id S
  obtain ⟨⟨hs0, hs1, hs2, hs3, hs4, hs5, hs6⟩, ⟨hv6, hv8, hv21, hv24, hv30, hv31⟩, hTR, hTY, hOB, hNM⟩ := id hT
  have hl : lv_has ls 2 [(0, .ref a), (1, .int x1)] := hl
  refine lv_aload_n hx hb dModel_rowObject_0 rfl (lv_at hl 0 rfl) ?_
  refine lv_iload_n hx hb dModel_rowObject_1 rfl (lv_at hl 1 rfl) ?_
  refine mu_Vv (rest := []) S hC (fun q h => hA q (Nat.le_trans hS.1 h)) (fun q h => h) hS (m_find l γ a B Z κ b mn ν τ σ F nu hT x1 ) meModel_find qw_ece0c598e8 ⟨Nat.le_of_ble_eq_true rfl, Nat.le_of_ble_eq_true rfl⟩ (md_rv hC hM) hM rfl hl.1 rfl (Nat.le_of_ble_eq_true rfl) dModel_rowObject_2 ⟨Nat.le_refl _, Nat.le_refl _⟩ (fun H locs hPO hS _ _ => ?_)
  obtain ⟨σr1, hM, hF⟩ := hPO
  refine lv_aload_n hx hb dModel_rowObject_5 rfl (lv_at hl 0 rfl) ?_
  refine md_gI S hC hM 32 (v := σr1 32) rfl (by decide) rfl qw_9d5e299446 dModel_rowObject_6 ?_
  refine lv_topi (fun v2 ev2 => ?_)
  refine lv_iconst (v := 5) hx hb dModel_rowObject_9 (by decide) ?_
  refine lv_icmp_ne (tgt := 15) hx hb dModel_rowObject_10 (by decide) (fun c3 => ?_) (fun c3 => ?_)
  · refine lv_aload_n hx hb dModel_rowObject_15 rfl (lv_at hl 0 rfl) ?_
    refine md_gI S hC hM 32 (v := σr1 32) rfl (by decide) rfl qw_9d5e299446 dModel_rowObject_16 ?_
    refine lv_topi (fun v4 ev4 => ?_)
    refine lv_iconst (v := 1) hx hb dModel_rowObject_19 (by decide) ?_
    refine lv_icmp_ne (tgt := 45) hx hb dModel_rowObject_20 (by decide) (fun c5 => ?_) (fun c5 => ?_)
    · refine lv_iconst (v := 2) hx hb dModel_rowObject_45 (by decide) ?_
      exact hE _ _ _ _ _ hS ⟨σr1, hM, hF, Or.inl (by decide)⟩ dModel_rowObject_46
    · obtain ⟨o, ho, hoe⟩ := hF.1 (ev4.symm.trans (by assumption))
      refine lv_aload_n hx hb dModel_rowObject_23 rfl (lv_at hl 0 rfl) ?_
      refine md_gA S hC hM 16 (by decide) rfl qw_9bd8ea24bb dModel_rowObject_24 ?_
      refine lv_aload_n hx hb dModel_rowObject_27 rfl (lv_at hl 0 rfl) ?_
      refine md_gA S hC hM 23 (by decide) rfl qw_bd9bcb35cb dModel_rowObject_28 ?_
      refine lv_aload_n hx hb dModel_rowObject_31 rfl (lv_at hl 0 rfl) ?_
      refine md_gI S hC hM 33 (v := σr1 33) rfl (by decide) rfl qw_c60a40a4a7 dModel_rowObject_32 ?_
      refine lv_topi (fun v6 ev6 => ?_)
      refine md_ild S hC hM 23 18 2000 (τ 23) rfl rfl (by decide) rfl rfl (vin_of (ev6.trans hoe) ho (by omega)) dModel_rowObject_35 ?_
      refine lv_topi (fun v7 ev7 => ?_)
      refine md_ild S hC hM 16 12 1000 (τ 16) rfl rfl (by decide) rfl rfl (ob_in hOB (vin_of (ev6.trans hoe) ho (by omega)) ev7) dModel_rowObject_36 ?_
      refine lv_topi (fun v8 ev8 => ?_)
      refine lv_iconst (v := 3) hx hb dModel_rowObject_37 (by decide) ?_
      refine lv_icmp_ne (tgt := 45) hx hb dModel_rowObject_38 (by decide) (fun c9 => ?_) (fun c9 => ?_)
      · refine lv_iconst (v := 2) hx hb dModel_rowObject_45 (by decide) ?_
        exact hE _ _ _ _ _ hS ⟨σr1, hM, hF, Or.inl (by decide)⟩ dModel_rowObject_46
      · refine lv_iconst (v := 0) hx hb dModel_rowObject_41 (by decide) ?_
        refine lv_goto (tgt := 46) hx hb dModel_rowObject_42 (by decide) ?_
        exact hE _ _ _ _ _ hS ⟨σr1, hM, hF, Or.inr (ro_ok hOB ho hoe ev6 ev7 ev8 (by assumption))⟩ dModel_rowObject_46
  · refine lv_iconst (v := 1) hx hb dModel_rowObject_13 (by decide) ?_
    exact hE _ _ _ _ _ hS ⟨σr1, hM, hF, Or.inl (by decide)⟩ dModel_rowObject_14
theorem qw_9fb851a5fa : (Cond.fieldLink R_Model 17 R_Model "val" "[I") ∈ bs_W0 := bs_in (in_tables_1_5 (List.mem_of_getElem? (i := 156) rfl)) rfl
theorem qw_50c5849686 : (Cond.fieldLink R_Model 69 R_Model "what" "[I") ∈ bs_W0 := bs_in (in_tables_1_5 (List.mem_of_getElem? (i := 175) rfl)) rfl
theorem qw_7a050de5f5 : (Cond.methodLink R_Model 181 yModel_factOfType) ∈ bs_W0 := bs_in (in_tables_1_6 (List.mem_of_getElem? (i := 79) rfl)) rfl
theorem qw_7581103c83 : (Cond.methodLink R_Model 177 yModel_copy) ∈ bs_W0 := bs_in (in_tables_1_6 (List.mem_of_getElem? (i := 67) rfl)) rfl
set_option maxHeartbeats 4000000 in
set_option maxRecDepth 100000 in
theorem m_lookName (l : Launch) (γ : gE) (a : Nat) (B : Nat → Nat) (Z : Nat → Prop) (κ b mn : Nat → Nat) (ν : Nat → Int32) (τ : Nat → Nat → Int32) (σ : Nat → Int32) (F : Nat → Nat → Int32) (nu : Nat → Int64) (hT : ST κ b mn ν τ) (x1 : Int32) (hx1 : vp_in x1 (κ 0)) (hZ : SZ F) (hF : FD σ) (hG : GD F nu) : MU l yModel_lookName bModel_lookName 3 (some .int) 3 70 0 0 [.ref a, .int x1] γ Z (MD γ a B Z ν τ σ F nu) (mQi (fun r H => LKo γ a B Z ν τ x1.toNatClampNeg F nu r H) Z) := by
  refine mu_openI (by decide) (Nat.le_of_ble_eq_true rfl) ?_
  intro p e s m args below meth c ls Q S hnm hC hA hM hE hl
  have hS : va_S Z s.heap s.heap [] := va_S.rf
  obtain ⟨hx, hb, hml, hown, hW⟩ := id S
  obtain ⟨⟨hs0, hs1, hs2, hs3, hs4, hs5, hs6⟩, ⟨hv6, hv8, hv21, hv24, hv30, hv31⟩, hTR, hTY, hOB, hNM⟩ := id hT
  have hL : SL x1.toNatClampNeg F nu F nu := SL.rf
  have hl : lv_has ls 3 [(0, .ref a), (1, .int x1)] := hl
  refine lv_aload_n hx hb dModel_lookName_0 rfl (lv_at hl 0 rfl) ?_
  refine lv_aload_n hx hb dModel_lookName_1 rfl (lv_at hl 0 rfl) ?_
  refine md_gA S hC hM 3 (by decide) rfl qw_9fb851a5fa dModel_lookName_2 ?_
  refine lv_iload_n hx hb dModel_lookName_5 rfl (lv_at hl 1 rfl) ?_
  refine md_ild S hC hM 3 1 4000 (τ 3) rfl rfl (by decide) rfl rfl (vin (by assumption) (by omega)) dModel_lookName_6 ?_
  refine lv_topi (fun v1 ev1 => ?_)
  refine mu_Vv (rest := []) S hC (fun q h => hA q (Nat.le_trans hS.1 h)) (fun q h => h) hS (m_find l γ a B Z κ b mn ν τ σ F nu hT v1 ) meModel_find qw_ece0c598e8 ⟨Nat.le_of_ble_eq_true rfl, Nat.le_of_ble_eq_true rfl⟩ (md_rv hC hM) hM rfl hl.1 rfl (Nat.le_of_ble_eq_true rfl) dModel_lookName_7 ⟨Nat.le_refl _, Nat.le_refl _⟩ (fun H locs hPO hS _ _ => ?_)
  obtain ⟨σr2, hM, hF⟩ := hPO
  refine lv_aload_n hx hb dModel_lookName_10 rfl (lv_at hl 0 rfl) ?_
  refine md_gI S hC hM 32 (v := σr2 32) rfl (by decide) rfl qw_9d5e299446 dModel_lookName_11 ?_
  refine lv_topi (fun v3 ev3 => ?_)
  refine lv_iconst (v := 5) hx hb dModel_lookName_14 (by decide) ?_
  refine lv_icmp_ne (tgt := 20) hx hb dModel_lookName_15 (by decide) (fun c4 => ?_) (fun c4 => ?_)
  · refine lv_aload_n hx hb dModel_lookName_20 rfl (lv_at hl 0 rfl) ?_
    refine md_gI S hC hM 32 (v := σr2 32) rfl (by decide) rfl qw_9d5e299446 dModel_lookName_21 ?_
    refine lv_topi (fun v5 ev5 => ?_)
    refine lv_iconst (v := 1) hx hb dModel_lookName_24 (by decide) ?_
    refine lv_icmp_ne (tgt := 75) hx hb dModel_lookName_25 (by decide) (fun c6 => ?_) (fun c6 => ?_)
    · refine lv_aload_n hx hb dModel_lookName_75 rfl (lv_at hl 0 rfl) ?_
      refine md_gI S hC hM 32 (v := σr2 32) rfl (by decide) rfl qw_9d5e299446 dModel_lookName_76 ?_
      refine lv_topi (fun v7 ev7 => ?_)
      refine lv_iconst (v := 2) hx hb dModel_lookName_79 (by decide) ?_
      have J93 : ∀ (ls : Array Slot), lv_has ls 3 [(0, .ref a), (1, .int x1)] → W p l e (bs_rm 3 0 0 70) s m args below meth c H locs 0 0 Q (F0 m 93 ls []) := by
        intro ls hl
        refine lv_aload_n hx hb dModel_lookName_93 rfl (lv_at hl 0 rfl) ?_
        refine lv_iload_n hx hb dModel_lookName_94 rfl (lv_at hl 1 rfl) ?_
        refine lv_aload_n hx hb dModel_lookName_95 rfl (lv_at hl 0 rfl) ?_
        refine md_gI S hC hM 32 (v := σr2 32) rfl (by decide) rfl qw_9d5e299446 dModel_lookName_96 ?_
        refine lv_topi (fun v25 ev25 => ?_)
        refine lv_iconst (v := 2) hx hb dModel_lookName_99 (by decide) ?_
        have J108 : ∀ (ls : Array Slot) (t0_108 : Int32), (t0_108 = 4 ∨ t0_108 = 1) → lv_has ls 3 [(0, .ref a), (1, .int x1)] → W p l e (bs_rm 3 0 0 70) s m args below meth c H locs 0 0 Q (F0 m 108 ls [.int t0_108, .int x1, .ref a]) := by
          intro ls t0_108 ht0_108 hl
          refine lv_aload_n hx hb dModel_lookName_108 rfl (lv_at hl 0 rfl) ?_
          refine md_gI S hC hM 32 (v := σr2 32) rfl (by decide) rfl qw_9d5e299446 dModel_lookName_109 ?_
          refine lv_topi (fun v39 ev39 => ?_)
          refine lv_iconst (v := 2) hx hb dModel_lookName_112 (by decide) ?_
          have J124 : ∀ (ls : Array Slot) (t0_124 : Int32), (∃ j, j ≤ 1000 ∧ t0_124 = nI j) → lv_has ls 3 [(0, .ref a), (1, .int x1)] → W p l e (bs_rm 3 0 0 70) s m args below meth c H locs 0 0 Q (F0 m 124 ls [.int t0_124, .int t0_108, .int x1, .ref a]) := by
            intro ls t0_124 ht0_124 hl
            refine lv_iconst (v := 1) hx hb dModel_lookName_124 (by decide) ?_
            have hnr51 : ∃ j, j ≤ 1000 ∧ t0_124 = nI j := ht0_124
            refine mu_Vv (rest := []) S hC (fun q h => hA q (Nat.le_trans hS.1 h)) (fun q h => h) hS (m_fact l γ a B Z κ b mn ν τ σr2 F nu hT x1 t0_108 t0_124 1 (vin (by assumption) (by omega)) hnr51) meModel_fact qw_02871250ec ⟨Nat.le_of_ble_eq_true rfl, Nat.le_of_ble_eq_true rfl⟩ (md_rv hC hM) hM rfl hl.1 rfl (Nat.le_of_ble_eq_true rfl) dModel_lookName_125 ⟨Nat.le_refl _, Nat.le_refl _⟩ (fun H locs hPO hS _ _ => ?_)
            obtain ⟨Fr51, nur51, hM, hqr51, hcr51⟩ := hPO
            have hZ : SZ Fr51 := hZ.slt hqr51 hnr51
            have hL : SL x1.toNatClampNeg F nu Fr51 nur51 := hL.trans (SL.slt hqr51)
            have hK : GK x1.toNatClampNeg Fr51 nur51 := GK.zero hqr51
            refine lv_aload_n hx hb dModel_lookName_128 rfl (lv_at hl 0 rfl) ?_
            refine md_gA S hC hM 13 (by decide) rfl qw_7b809afc8c dModel_lookName_129 ?_
            refine lv_iload_n hx hb dModel_lookName_132 rfl (lv_at hl 1 rfl) ?_
            refine lv_aload_n hx hb dModel_lookName_133 rfl (lv_at hl 0 rfl) ?_
            refine md_gI S hC hM 32 (v := σr2 32) rfl (by decide) rfl qw_9d5e299446 dModel_lookName_134 ?_
            refine lv_topi (fun v52 ev52 => ?_)
            refine lv_iconst (v := 2) hx hb dModel_lookName_137 (by decide) ?_
            have J163 : ∀ (ls : Array Slot) (t0_163 : Int64), lv_has ls 3 [(0, .ref a), (1, .int x1)] → W p l e (bs_rm 3 0 0 70) s m args below meth c H locs 0 0 Q (F0 m 163 ls [.long t0_163, .int x1, .ref (B 13)]) := by
              intro ls t0_163 hl
              have hgnu60 : Fr51 9 x1.toNatClampNeg = 2 → -2147483648 < (t0_163 : Int64).toInt ∧ (t0_163 : Int64).toInt < 2147483648 := (fun h9 => by have h8 := (slt9 hqr51).symm.trans h9; rcases ht0_108 with h7 | h7 <;> (rw [h7] at h8; exact absurd h8 (by decide)))
              refine md_lst S hC hM hS (vin (by assumption) (by omega)) dModel_lookName_163 (fun H locs hM hS => ?_)
              obtain ⟨nu60, enu60⟩ : ∃ z : Nat → Int64, z = vp_updL nur51 x1.toNatClampNeg t0_163 := ⟨_, rfl⟩
              rw [← enu60] at hM
              have hL : SL x1.toNatClampNeg F nu Fr51 nu60 := hL.trans (by rw [enu60]; exact SL.num)
              have hK : GK x1.toNatClampNeg Fr51 nu60 := by rw [enu60]; exact GK.num hgnu60
              refine lv_aload_n hx hb dModel_lookName_164 rfl (lv_at hl 0 rfl) ?_
              refine md_gA S hC hM 12 (by decide) rfl qw_19df235c4a dModel_lookName_165 ?_
              refine lv_iload_n hx hb dModel_lookName_168 rfl (lv_at hl 1 rfl) ?_
              refine lv_sipush (v := 2000) hx hb dModel_lookName_169 (by decide) ?_
              refine md_istD S hC hM hS 12 8 10000 rfl rfl (by decide) rfl rfl (vin (by assumption) (by omega)) dModel_lookName_172 (fun H locs hM hS => ?_)
              obtain ⟨F61, eF61⟩ : ∃ z : Nat → Nat → Int32, z = Au Fr51 12 x1.toNatClampNeg 2000 := ⟨_, rfl⟩
              rw [← eF61] at hM
              have hZ : SZ F61 := hZ.au eF61 (by decide)
              have hL : SL x1.toNatClampNeg F nu F61 nu60 := hL.au eF61 (by decide)
              have hK : GK x1.toNatClampNeg F61 nu60 := hK.au eF61 (by decide)
              refine lv_iconst (v := 0) hx hb dModel_lookName_173 (by decide) ?_
              exact hE _ _ _ _ _ hS ⟨σr2, F61, nu60, hM, hZ, hF, hL, (fun _ => hK)⟩ dModel_lookName_174
            refine lv_icmp_ne (tgt := 149) hx hb dModel_lookName_138 (by decide) (fun c62 => ?_) (fun c62 => ?_)
            · refine lv_aload_n hx hb dModel_lookName_149 rfl (lv_at hl 0 rfl) ?_
              refine md_gI S hC hM 33 (v := σr2 33) rfl (by decide) rfl qw_c60a40a4a7 dModel_lookName_150 ?_
              refine lv_topi (fun v63 ev63 => ?_)
              refine lv_bipush (v := 6) hx hb dModel_lookName_153 (by decide) ?_
              refine lv_icmp_ne (tgt := 162) hx hb dModel_lookName_155 (by decide) (fun c64 => ?_) (fun c64 => ?_)
              · refine lv_lconst (v := 0) hx hb dModel_lookName_162 (by decide) ?_
                exact J163 ls 0 (lv_sub hl [0, 1] rfl)
              · refine lv_lconst (v := 1) hx hb dModel_lookName_158 (by decide) ?_
                refine lv_goto (tgt := 163) hx hb dModel_lookName_159 (by decide) ?_
                exact J163 ls 1 (lv_sub hl [0, 1] rfl)
            · refine lv_aload_n hx hb dModel_lookName_141 rfl (lv_at hl 0 rfl) ?_
              refine md_gI S hC hM 34 (v := σr2 34) rfl (by decide) rfl qw_6a7082029c dModel_lookName_142 ?_
              refine lv_topi (fun v65 ev65 => ?_)
              refine lv_i2l hx hb dModel_lookName_145 rfl ?_
              refine lv_topl (fun v66 ev66 => ?_)
              refine lv_goto (tgt := 163) hx hb dModel_lookName_146 (by decide) ?_
              exact J163 ls v66 (lv_sub hl [0, 1] rfl)
          refine lv_icmp_ne (tgt := 123) hx hb dModel_lookName_113 (by decide) (fun c67 => ?_) (fun c67 => ?_)
          · refine lv_iconst (v := 0) hx hb dModel_lookName_123 (by decide) ?_
            exact J124 ls 0 (by first | exact ⟨0, by omega, rfl⟩ | (rw [ev41]; exact hF.2.1 (ev39.symm.trans (by assumption)))) (lv_sub hl [0, 1] rfl)
          · refine lv_aload_n hx hb dModel_lookName_116 rfl (lv_at hl 0 rfl) ?_
            refine md_gI S hC hM 33 (v := σr2 33) rfl (by decide) rfl qw_c60a40a4a7 dModel_lookName_117 ?_
            refine lv_topi (fun v68 ev68 => ?_)
            refine lv_goto (tgt := 124) hx hb dModel_lookName_120 (by decide) ?_
            exact J124 ls v68 (by first | exact ⟨0, by omega, rfl⟩ | (rw [ev68]; exact hF.2.1 (ev39.symm.trans (by assumption)))) (lv_sub hl [0, 1] rfl)
        refine lv_icmp_ne (tgt := 107) hx hb dModel_lookName_100 (by decide) (fun c69 => ?_) (fun c69 => ?_)
        · refine lv_iconst (v := 1) hx hb dModel_lookName_107 (by decide) ?_
          exact J108 ls 1 (by first | assumption | exact Or.inl rfl | exact Or.inr rfl) (lv_sub hl [0, 1] rfl)
        · refine lv_iconst (v := 4) hx hb dModel_lookName_103 (by decide) ?_
          refine lv_goto (tgt := 108) hx hb dModel_lookName_104 (by decide) ?_
          exact J108 ls 4 (by first | assumption | exact Or.inl rfl | exact Or.inr rfl) (lv_sub hl [0, 1] rfl)
      refine lv_icmp_eq (tgt := 93) hx hb dModel_lookName_80 (by decide) (fun c70 => ?_) (fun c70 => ?_)
      · exact J93 ls  (lv_sub hl [0, 1] rfl)
      · refine lv_aload_n hx hb dModel_lookName_83 rfl (lv_at hl 0 rfl) ?_
        refine md_gI S hC hM 32 (v := σr2 32) rfl (by decide) rfl qw_9d5e299446 dModel_lookName_84 ?_
        refine lv_topi (fun v71 ev71 => ?_)
        refine lv_iconst (v := 3) hx hb dModel_lookName_87 (by decide) ?_
        refine lv_icmp_eq (tgt := 93) hx hb dModel_lookName_88 (by decide) (fun c72 => ?_) (fun c72 => ?_)
        · exact J93 ls  (lv_sub hl [0, 1] rfl)
        · refine lv_iconst (v := 2) hx hb dModel_lookName_91 (by decide) ?_
          exact hE _ _ _ _ _ hS ⟨σr2, F, nu, hM, hZ, hF, hL, (fun h9 => absurd (show (0 : Int32) < 2 by decide) h9)⟩ dModel_lookName_92
    · obtain ⟨o, ho, hoe⟩ := hF.1 (ev5.symm.trans (by assumption))
      refine lv_aload_n hx hb dModel_lookName_28 rfl (lv_at hl 0 rfl) ?_
      refine md_gI S hC hM 33 (v := σr2 33) rfl (by decide) rfl qw_c60a40a4a7 dModel_lookName_29 ?_
      refine lv_topi (fun v73 ev73 => ?_)
      refine lv_istore_n (lv' := [(2, .int v73), (0, .ref a), (1, .int x1)]) hx hb dModel_lookName_32 rfl hl (by decide) rfl (fun ls hl => ?_)
      have hio : vp_in v73 2000 := vin_of (ev73.trans hoe) ho (by omega)
      refine lv_aload_n hx hb dModel_lookName_33 rfl (lv_at hl 1 rfl) ?_
      refine md_gA S hC hM 22 (by decide) rfl qw_50c5849686 dModel_lookName_34 ?_
      refine lv_iload_n hx hb dModel_lookName_37 rfl (lv_at hl 0 rfl) ?_
      refine md_ild S hC hM 22 17 2000 (τ 22) rfl rfl (by decide) rfl rfl (vin (by assumption) (by omega)) dModel_lookName_38 ?_
      refine lv_topi (fun v74 ev74 => ?_)
      have J66 : ∀ (ls : Array Slot) (H : Heap) (locs : List Loc) (F_66 : Nat → Nat → Int32) (nu_66 : Nat → Int64), MD γ a B Z ν τ σr2 F_66 nu_66 H → va_S Z s.heap H locs → (GK x1.toNatClampNeg F_66 nu_66) → (SL x1.toNatClampNeg F nu F_66 nu_66) → (SZ F_66) → lv_has ls 3 [(0, .ref a), (1, .int x1), (2, .int v73)] → W p l e (bs_rm 3 0 0 70) s m args below meth c H locs 0 0 Q (F0 m 66 ls []) := by
        intro ls H locs F_66 nu_66 hM hS hK hL hZ hl
        refine lv_aload_n hx hb dModel_lookName_66 rfl (lv_at hl 0 rfl) ?_
        refine md_gA S hC hM 12 (by decide) rfl qw_19df235c4a dModel_lookName_67 ?_
        refine lv_iload_n hx hb dModel_lookName_70 rfl (lv_at hl 1 rfl) ?_
        refine lv_iload_n hx hb dModel_lookName_71 rfl (lv_at hl 2 rfl) ?_
        refine md_istD S hC hM hS 12 8 10000 rfl rfl (by decide) rfl rfl (vin (by assumption) (by omega)) dModel_lookName_72 (fun H locs hM hS => ?_)
        obtain ⟨F81, eF81⟩ : ∃ z : Nat → Nat → Int32, z = Au F_66 12 x1.toNatClampNeg v73 := ⟨_, rfl⟩
        rw [← eF81] at hM
        have hZ : SZ F81 := hZ.au eF81 (by decide)
        have hL : SL x1.toNatClampNeg F nu F81 nu_66 := hL.au eF81 (by decide)
        have hK : GK x1.toNatClampNeg F81 nu_66 := hK.au eF81 (by decide)
        refine lv_iconst (v := 0) hx hb dModel_lookName_73 (by decide) ?_
        exact hE _ _ _ _ _ hS ⟨σr2, F81, nu_66, hM, hZ, hF, hL, (fun _ => hK)⟩ dModel_lookName_74
      refine lv_if_ne (tgt := 55) hx hb dModel_lookName_39 (by decide) (fun c82 => ?_) (fun c82 => ?_)
      · refine lv_aload_n hx hb dModel_lookName_55 rfl (lv_at hl 1 rfl) ?_
        refine lv_iload_n hx hb dModel_lookName_56 rfl (lv_at hl 2 rfl) ?_
        refine lv_aload_n hx hb dModel_lookName_57 rfl (lv_at hl 1 rfl) ?_
        refine md_gA S hC hM 23 (by decide) rfl qw_bd9bcb35cb dModel_lookName_58 ?_
        refine lv_iload_n hx hb dModel_lookName_61 rfl (lv_at hl 0 rfl) ?_
        refine md_ild S hC hM 23 18 2000 (τ 23) rfl rfl (by decide) rfl rfl (vin (by assumption) (by omega)) dModel_lookName_62 ?_
        refine lv_topi (fun v83 ev83 => ?_)
        have hit : vp_in v83 1000 := ob_in hOB hio ev83
        refine mu_Vv (rest := []) S hC (fun q h => hA q (Nat.le_trans hS.1 h)) (fun q h => h) hS (m_factOfType l γ a B Z κ b mn ν τ σr2 F nu hT x1 v83 (vin (by assumption) (by omega)) hit) meModel_factOfType qw_7a050de5f5 ⟨Nat.le_of_ble_eq_true rfl, Nat.le_of_ble_eq_true rfl⟩ (md_rv hC hM) hM rfl hl.1 rfl (Nat.le_of_ble_eq_true rfl) dModel_lookName_63 ⟨Nat.le_refl _, Nat.le_refl _⟩ (fun H locs hPO hS _ _ => ?_)
        obtain ⟨Fr84, nur84, cr84, nr84, hM, hqr84, hnr84⟩ := hPO
        have hZ : SZ Fr84 := hZ.slt hqr84 hnr84
        have hL : SL x1.toNatClampNeg F nu Fr84 nur84 := hL.trans (SL.slt hqr84)
        have hK : GK x1.toNatClampNeg Fr84 nur84 := GK.zero hqr84
        exact J66 ls _ _ Fr84 nur84 hM hS hK hL hZ (lv_sub hl [1, 2, 0] rfl)
      · refine lv_aload_n hx hb dModel_lookName_42 rfl (lv_at hl 1 rfl) ?_
        refine lv_sipush (v := 8000) hx hb dModel_lookName_43 (by decide) ?_
        refine lv_iload_n hx hb dModel_lookName_46 rfl (lv_at hl 0 rfl) ?_
        refine lv_iadd hx hb dModel_lookName_47 ?_
        refine lv_topi (fun v85 ev85 => ?_)
        refine lv_iload_n hx hb dModel_lookName_48 rfl (lv_at hl 2 rfl) ?_
        have h8 := vin8 hio ev85
        refine mu_Vv (rest := []) S hC (fun q h => hA q (Nat.le_trans hS.1 h)) (fun q h => h) hS (m_copy l γ a B Z κ b mn ν τ σr2 F nu hT v85 x1 h8.1 (vin (by assumption) (by omega))) meModel_copy qw_7581103c83 ⟨Nat.le_of_ble_eq_true rfl, Nat.le_of_ble_eq_true rfl⟩ (md_rv hC hM) hM rfl hl.1 rfl (Nat.le_of_ble_eq_true rfl) dModel_lookName_49 ⟨Nat.le_refl _, Nat.le_refl _⟩ (fun H locs hPO hS _ _ => ?_)
        obtain ⟨Fr86, nur86, hM, hqr86⟩ := hPO
        have hZ : SZ Fr86 := hZ.slt hqr86 (hZ _ (vix h8.1))
        have hL : SL x1.toNatClampNeg F nu Fr86 nur86 := hL.trans (SL.slt hqr86)
        have hK : GK x1.toNatClampNeg Fr86 nur86 := GK.copy hqr86 (hG _ (by rw [h8.2]; omega) (vix h8.1))
        refine lv_goto (tgt := 66) hx hb dModel_lookName_52 (by decide) ?_
        exact J66 ls _ _ Fr86 nur86 hM hS hK hL hZ (lv_sub hl [1, 2, 0] rfl)
  · refine lv_iconst (v := 1) hx hb dModel_lookName_18 (by decide) ?_
    exact hE _ _ _ _ _ hS ⟨σr2, F, nu, hM, hZ, hF, hL, (fun h9 => absurd (show (0 : Int32) < 1 by decide) h9)⟩ dModel_lookName_19
theorem qw_a8caa30de3 : (Cond.fieldLink R_Model 20 R_Model "many" "[I") ∈ bs_W0 := bs_in (in_tables_1_5 (List.mem_of_getElem? (i := 157) rfl)) rfl
theorem qw_a66d450e0a : (Cond.methodLink R_Model 154 yModel_child) ∈ bs_W0 := bs_in (in_tables_1_6 (List.mem_of_getElem? (i := 91) rfl)) rfl
set_option maxHeartbeats 4000000 in
set_option maxRecDepth 100000 in
theorem m_lookRow (l : Launch) (γ : gE) (a : Nat) (B : Nat → Nat) (Z : Nat → Prop) (κ b mn : Nat → Nat) (ν : Nat → Int32) (τ : Nat → Nat → Int32) (σ : Nat → Int32) (F : Nat → Nat → Int32) (nu : Nat → Int64) (hT : ST κ b mn ν τ) (x1 : Int32) (hx1 : vp_in x1 (κ 0)) (hZ : SZ F) (hF : FD σ) : MU l yModel_lookRow bModel_lookRow 5 (some .int) 2 48 0 0 [.ref a, .int x1] γ Z (MD γ a B Z ν τ σ F nu) (mQi (fun r H => LKo γ a B Z ν τ x1.toNatClampNeg F nu r H) Z) := by
  refine mu_openI (by decide) (Nat.le_of_ble_eq_true rfl) ?_
  intro p e s m args below meth c ls Q S hnm hC hA hM hE hl
  have hS : va_S Z s.heap s.heap [] := va_S.rf
  obtain ⟨hx, hb, hml, hown, hW⟩ := id S
  obtain ⟨⟨hs0, hs1, hs2, hs3, hs4, hs5, hs6⟩, ⟨hv6, hv8, hv21, hv24, hv30, hv31⟩, hTR, hTY, hOB, hNM⟩ := id hT
  have hL : SL x1.toNatClampNeg F nu F nu := SL.rf
  have hl : lv_has ls 5 [(0, .ref a), (1, .int x1)] := hl
  refine lv_aload_n hx hb dModel_lookRow_0 rfl (lv_at hl 0 rfl) ?_
  refine md_gA S hC hM 4 (by decide) rfl qw_a8caa30de3 dModel_lookRow_1 ?_
  refine lv_iload_n hx hb dModel_lookRow_4 rfl (lv_at hl 1 rfl) ?_
  refine md_ild S hC hM 4 2 4000 (τ 4) rfl rfl (by decide) rfl rfl (vin (by assumption) (by omega)) dModel_lookRow_5 ?_
  refine lv_topi (fun v1 ev1 => ?_)
  refine lv_istore_n (lv' := [(2, .int v1), (0, .ref a), (1, .int x1)]) hx hb dModel_lookRow_6 rfl hl (by decide) rfl (fun ls hl => ?_)
  obtain ⟨hn2, hmx⟩ := mn_of hTR hx1 ev1
  refine lv_iload_n hx hb dModel_lookRow_7 rfl (lv_at hl 0 rfl) ?_
  refine lv_iconst (v := 1) hx hb dModel_lookRow_8 (by decide) ?_
  have J23 : ∀ (ls : Array Slot) (t0_23 : Int32), (t0_23 = 0 ∨ mn x1.toNatClampNeg ≤ 64) → lv_has ls 5 [(0, .ref a), (1, .int x1), (2, .int v1)] → W p l e (bs_rm 2 0 0 48) s m args below meth c s.heap [] 0 0 Q (F0 m 23 ls [.int t0_23]) := by
    intro ls t0_23 ht0_23 hl
    refine lv_istore_n (lv' := [(3, .int t0_23), (0, .ref a), (1, .int x1), (2, .int v1)]) hx hb dModel_lookRow_23 rfl hl (by decide) rfl (fun ls hl => ?_)
    refine lv_iconst (v := 0) hx hb dModel_lookRow_24 (by decide) ?_
    refine lv_istore (lv' := [(4, .int 0), (3, .int t0_23), (0, .ref a), (1, .int x1), (2, .int v1)]) hx hb dModel_lookRow_25 hl (by decide) rfl (fun ls hl => ?_)
    have J27 : ∀ (N27 : Nat) (ls : Array Slot) (i4_27 : Int32) (i3_27 : Int32), (¬ i4_27 < 0) → (i3_27 = 0 ∨ mn x1.toNatClampNeg ≤ 64) → (2147483647 - i4_27.toInt).toNat = N27 → lv_has ls 5 [(0, .ref a), (1, .int x1), (2, .int v1), (3, .int i3_27), (4, .int i4_27)] → W p l e (bs_rm 2 0 0 48) s m args below meth c s.heap [] 0 0 Q (F0 m 27 ls []) := by
      intro N27
      induction N27 using Nat.strongRecOn with
      | ind N27 ih27 =>
        intro ls i4_27 i3_27 hi4_27 hi3_27 hm27 hl
        refine lv_iload hx hb dModel_lookRow_27 (lv_at hl 4 rfl) ?_
        refine lv_iload_n hx hb dModel_lookRow_29 rfl (lv_at hl 2 rfl) ?_
        have J80 : ∀ (ls : Array Slot), lv_has ls 5 [(0, .ref a), (1, .int x1), (2, .int v1), (3, .int i3_27), (4, .int i4_27)] → W p l e (bs_rm 2 0 0 48) s m args below meth c s.heap [] 0 0 Q (F0 m 80 ls []) := by
          intro ls hl
          refine lv_iload_n hx hb dModel_lookRow_80 rfl (lv_at hl 3 rfl) ?_
          refine lv_if_ne (tgt := 87) hx hb dModel_lookRow_81 (by decide) (fun c36 => ?_) (fun c36 => ?_)
          · have h64 : mn x1.toNatClampNeg ≤ 64 := hi3_27.resolve_left (by assumption)
            refine lv_aload_n hx hb dModel_lookRow_87 rfl (lv_at hl 0 rfl) ?_
            refine lv_iload_n hx hb dModel_lookRow_88 rfl (lv_at hl 1 rfl) ?_
            refine lv_iconst (v := 3) hx hb dModel_lookRow_89 (by decide) ?_
            refine lv_iload_n hx hb dModel_lookRow_90 rfl (lv_at hl 2 rfl) ?_
            refine lv_iconst (v := 1) hx hb dModel_lookRow_91 (by decide) ?_
            have hnr37 : ∃ j, j ≤ 1000 ∧ v1 = nI j := ⟨_, by omega, hn2⟩
            refine mu_Vv (rest := []) S hC (fun q h => hA q (Nat.le_trans hS.1 h)) (fun q h => h) hS (m_fact l γ a B Z κ b mn ν τ σ F nu hT x1 3 v1 1 (vin (by assumption) (by omega)) hnr37) meModel_fact qw_02871250ec ⟨Nat.le_of_ble_eq_true rfl, Nat.le_of_ble_eq_true rfl⟩ (md_rv hC hM) hM rfl hl.1 rfl (Nat.le_of_ble_eq_true rfl) dModel_lookRow_92 ⟨Nat.le_refl _, Nat.le_refl _⟩ (fun H locs hPO hS _ _ => ?_)
            obtain ⟨Fr37, nur37, hM, hqr37, hcr37⟩ := hPO
            have hZ : SZ Fr37 := hZ.slt hqr37 hnr37
            have hL : SL x1.toNatClampNeg F nu Fr37 nur37 := hL.trans (SL.slt hqr37)
            have hK : GK x1.toNatClampNeg Fr37 nur37 := GK.zero hqr37
            refine lv_iconst (v := 0) hx hb dModel_lookRow_95 (by decide) ?_
            refine lv_istore (lv' := [(4, .int 0), (0, .ref a), (1, .int x1), (2, .int v1), (3, .int i3_27)]) hx hb dModel_lookRow_96 hl (by decide) rfl (fun ls hl => ?_)
            have J98 : ∀ (N98 : Nat) (ls : Array Slot) (H : Heap) (locs : List Loc) (F_98 : Nat → Nat → Int32) (i4_98 : Int32), MD γ a B Z ν τ σ F_98 nur37 H → va_S Z s.heap H locs → (GK x1.toNatClampNeg F_98 nur37) → (SL x1.toNatClampNeg F nu F_98 nur37) → (SZ F_98) → (¬ i4_98 < 0) → (2147483647 - i4_98.toInt).toNat = N98 → lv_has ls 5 [(0, .ref a), (1, .int x1), (2, .int v1), (3, .int i3_27), (4, .int i4_98)] → W p l e (bs_rm 2 0 0 48) s m args below meth c H locs 0 0 Q (F0 m 98 ls []) := by
              intro N98
              induction N98 using Nat.strongRecOn with
              | ind N98 ih98 =>
                intro ls H locs F_98 i4_98 hM hS hK hL hZ hi4_98 hm98 hl
                refine lv_iload hx hb dModel_lookRow_98 (lv_at hl 4 rfl) ?_
                refine lv_iload_n hx hb dModel_lookRow_100 rfl (lv_at hl 2 rfl) ?_
                refine lv_icmp_ge (tgt := 129) hx hb dModel_lookRow_101 (by decide) (fun c38 => ?_) (fun c38 => ?_)
                · refine lv_iconst (v := 0) hx hb dModel_lookRow_129 (by decide) ?_
                  exact hE _ _ _ _ _ hS ⟨σ, F_98, nur37, hM, hZ, hF, hL, (fun _ => hK)⟩ dModel_lookRow_130
                · have hj4 : vp_in i4_98 (mn x1.toNatClampNeg) := vcmp (by assumption) hn2 (by assumption) (by omega)
                  refine lv_aload_n hx hb dModel_lookRow_104 rfl (lv_at hl 0 rfl) ?_
                  refine lv_iload_n hx hb dModel_lookRow_105 rfl (lv_at hl 1 rfl) ?_
                  refine lv_iload hx hb dModel_lookRow_106 (lv_at hl 4 rfl) ?_
                  refine lv_aload_n hx hb dModel_lookRow_108 rfl (lv_at hl 0 rfl) ?_
                  refine md_gA S hC hM 3 (by decide) rfl qw_9fb851a5fa dModel_lookRow_109 ?_
                  refine lv_aload_n hx hb dModel_lookRow_112 rfl (lv_at hl 0 rfl) ?_
                  refine lv_iload_n hx hb dModel_lookRow_113 rfl (lv_at hl 1 rfl) ?_
                  refine lv_iload hx hb dModel_lookRow_114 (lv_at hl 4 rfl) ?_
                  have hpr39 : vp_in x1 (κ 0) := (vin (by assumption) (by omega))
                  have hjr39 : vp_in i4_98 (mn x1.toNatClampNeg) := (by assumption)
                  refine pu_Vi (rest := [.ref (B 3), .int i4_98, .int x1, .ref a]) S hC (m_child l γ a B Z κ b mn ν τ σ F_98 nur37 hT x1 i4_98 hpr39 hjr39) meModel_child qw_a66d450e0a ⟨Nat.le_of_ble_eq_true rfl, Nat.le_of_ble_eq_true rfl⟩ (md_rv hC hM) hM rfl hl.1 rfl (Nat.le_of_ble_eq_true rfl) dModel_lookRow_116 ⟨Nat.zero_le _, Nat.zero_le _⟩ (fun r39 hr39 => ?_)
                  obtain ⟨hir39, hltr39, hxr39⟩ := ch_in hTR hs0 hpr39 hjr39 hr39
                  refine md_ild S hC hM 3 1 4000 (τ 3) rfl rfl (by decide) rfl rfl (vin (by assumption) (by omega)) dModel_lookRow_119 ?_
                  refine lv_topi (fun v40 ev40 => ?_)
                  refine mu_Vv (rest := []) S hC (fun q h => hA q (Nat.le_trans hS.1 h)) (fun q h => h) hS (m_setElement l γ a B Z κ b mn ν τ σ F_98 nur37 hT x1 i4_98 v40 (el_in (by assumption) (by assumption) (by omega))) meModel_setElement qw_143403ccb9 ⟨Nat.le_of_ble_eq_true rfl, Nat.le_of_ble_eq_true rfl⟩ (md_rv hC hM) hM rfl hl.1 rfl (Nat.le_of_ble_eq_true rfl) dModel_lookRow_120 ⟨Nat.le_refl _, Nat.le_refl _⟩ (fun H locs hPO hS _ _ => ?_)
                  obtain ⟨Fr41, hM, hqr41⟩ := hPO
                  have hZ : SZ Fr41 := hZ.e14 hqr41
                  have hL : SL x1.toNatClampNeg F nu Fr41 nur37 := hL.trans (SL.e14 hqr41)
                  have hK : GK x1.toNatClampNeg Fr41 nur37 := hK.e14 hqr41
                  obtain ⟨v42, ev42⟩ : ∃ y : Int32, y = i4_98 + 1 := ⟨_, rfl⟩
                  refine lv_iinc (v := v42) (lv' := [(4, .int v42), (0, .ref a), (1, .int x1), (2, .int v1), (3, .int i3_27)]) hx hb dModel_lookRow_123 hl (k := 4) rfl (by rw [ev42]; rfl) (by decide) rfl (fun ls hl => ?_)
                  refine lv_goto (tgt := 98) hx hb dModel_lookRow_126 (by decide) ?_
                  exact ih98 _ (by have q1 : i4_98.toInt < 2147483647 := (by first | assumption | exact (mu_up (k := i4_98) (by assumption)).2); have q2 := mu_lt q1; rw [← ev42] at q2; omega) ls _ _ Fr41 v42 hM hS hK hL hZ (by first | decide | exact nn_inc (by assumption) (by assumption) (by assumption)) rfl (lv_sub hl [1, 2, 3, 4, 0] rfl)
            exact J98 _ ls _ _ Fr37 0 hM hS hK hL hZ (by first | decide | exact nn_inc (by assumption) (by assumption) (by assumption)) rfl (lv_sub hl [1, 2, 3, 4, 0] rfl)
          · refine lv_bipush (v := 11) hx hb dModel_lookRow_84 (by decide) ?_
            exact hE _ _ _ _ _ hS ⟨σ, F, nu, hM, hZ, hF, hL, (fun h9 => absurd (show (0 : Int32) < 11 by decide) h9)⟩ dModel_lookRow_86
        refine lv_icmp_ge (tgt := 80) hx hb dModel_lookRow_30 (by decide) (fun c43 => ?_) (fun c43 => ?_)
        · exact J80 ls  (lv_sub hl [0, 1, 2, 3, 4] rfl)
        · have hj4 : vp_in i4_27 (mn x1.toNatClampNeg) := vcmp (by assumption) hn2 (by assumption) (by omega)
          refine lv_iload_n hx hb dModel_lookRow_33 rfl (lv_at hl 3 rfl) ?_
          refine lv_if_eq (tgt := 80) hx hb dModel_lookRow_34 (by decide) (fun c44 => ?_) (fun c44 => ?_)
          · exact J80 ls  (lv_sub hl [0, 1, 2, 3, 4] rfl)
          · refine lv_aload_n hx hb dModel_lookRow_37 rfl (lv_at hl 0 rfl) ?_
            refine md_gA S hC hM 2 (by decide) rfl qw_3471296067 dModel_lookRow_38 ?_
            refine lv_aload_n hx hb dModel_lookRow_41 rfl (lv_at hl 0 rfl) ?_
            refine lv_iload_n hx hb dModel_lookRow_42 rfl (lv_at hl 1 rfl) ?_
            refine lv_iload hx hb dModel_lookRow_43 (lv_at hl 4 rfl) ?_
            have hpr45 : vp_in x1 (κ 0) := (vin (by assumption) (by omega))
            have hjr45 : vp_in i4_27 (mn x1.toNatClampNeg) := (by assumption)
            refine pu_Vi (rest := [.ref (B 2)]) S hC (m_child l γ a B Z κ b mn ν τ σ F nu hT x1 i4_27 hpr45 hjr45) meModel_child qw_a66d450e0a ⟨Nat.le_of_ble_eq_true rfl, Nat.le_of_ble_eq_true rfl⟩ (md_rv hC hM) hM rfl hl.1 rfl (Nat.le_of_ble_eq_true rfl) dModel_lookRow_45 ⟨Nat.zero_le _, Nat.zero_le _⟩ (fun r45 hr45 => ?_)
            obtain ⟨hir45, hltr45, hxr45⟩ := ch_in hTR hs0 hpr45 hjr45 hr45
            refine md_ild S hC hM 2 0 4000 (τ 2) rfl rfl (by decide) rfl rfl (vin (by assumption) (by omega)) dModel_lookRow_48 ?_
            refine lv_topi (fun v46 ev46 => ?_)
            refine lv_iconst (v := 3) hx hb dModel_lookRow_49 (by decide) ?_
            have J73 : ∀ (ls : Array Slot) (t0_73 : Int32), (t0_73 = 0 ∨ mn x1.toNatClampNeg ≤ 64) → lv_has ls 5 [(0, .ref a), (1, .int x1), (2, .int v1), (3, .int i3_27), (4, .int i4_27)] → W p l e (bs_rm 2 0 0 48) s m args below meth c s.heap [] 0 0 Q (F0 m 73 ls [.int t0_73]) := by
              intro ls t0_73 ht0_73 hl
              refine lv_istore_n (lv' := [(3, .int t0_73), (0, .ref a), (1, .int x1), (2, .int v1), (4, .int i4_27)]) hx hb dModel_lookRow_73 rfl hl (by decide) rfl (fun ls hl => ?_)
              obtain ⟨v52, ev52⟩ : ∃ y : Int32, y = i4_27 + 1 := ⟨_, rfl⟩
              refine lv_iinc (v := v52) (lv' := [(4, .int v52), (3, .int t0_73), (0, .ref a), (1, .int x1), (2, .int v1)]) hx hb dModel_lookRow_74 hl (k := 4) rfl (by rw [ev52]; rfl) (by decide) rfl (fun ls hl => ?_)
              refine lv_goto (tgt := 27) hx hb dModel_lookRow_77 (by decide) ?_
              exact ih27 _ (by have q1 : i4_27.toInt < 2147483647 := (by first | assumption | exact (mu_up (k := i4_27) (by assumption)).2); have q2 := mu_lt q1; rw [← ev52] at q2; omega) ls v52 t0_73 (by first | decide | exact nn_inc (by assumption) (by assumption) (by assumption)) (by first | assumption | exact Or.inl rfl) rfl (lv_sub hl [2, 3, 4, 1, 0] rfl)
            have J72 : ∀ (ls : Array Slot), lv_has ls 5 [(0, .ref a), (1, .int x1), (2, .int v1), (3, .int i3_27), (4, .int i4_27)] → W p l e (bs_rm 2 0 0 48) s m args below meth c s.heap [] 0 0 Q (F0 m 72 ls []) := by
              intro ls hl
              refine lv_iconst (v := 0) hx hb dModel_lookRow_72 (by decide) ?_
              exact J73 ls 0 (by first | exact Or.inl rfl | exact Or.inr (hi3_27.resolve_left (by assumption))) (lv_sub hl [0, 1, 2, 3, 4] rfl)
            refine lv_icmp_ne (tgt := 72) hx hb dModel_lookRow_50 (by decide) (fun c53 => ?_) (fun c53 => ?_)
            · exact J72 ls  (lv_sub hl [0, 1, 2, 3, 4] rfl)
            · refine lv_aload_n hx hb dModel_lookRow_53 rfl (lv_at hl 0 rfl) ?_
              refine md_gA S hC hM 4 (by decide) rfl qw_a8caa30de3 dModel_lookRow_54 ?_
              refine lv_aload_n hx hb dModel_lookRow_57 rfl (lv_at hl 0 rfl) ?_
              refine lv_iload_n hx hb dModel_lookRow_58 rfl (lv_at hl 1 rfl) ?_
              refine lv_iload hx hb dModel_lookRow_59 (lv_at hl 4 rfl) ?_
              have hpr54 : vp_in x1 (κ 0) := (vin (by assumption) (by omega))
              have hjr54 : vp_in i4_27 (mn x1.toNatClampNeg) := (by assumption)
              refine pu_Vi (rest := [.ref (B 4)]) S hC (m_child l γ a B Z κ b mn ν τ σ F nu hT x1 i4_27 hpr54 hjr54) meModel_child qw_a66d450e0a ⟨Nat.le_of_ble_eq_true rfl, Nat.le_of_ble_eq_true rfl⟩ (md_rv hC hM) hM rfl hl.1 rfl (Nat.le_of_ble_eq_true rfl) dModel_lookRow_61 ⟨Nat.zero_le _, Nat.zero_le _⟩ (fun r54 hr54 => ?_)
              obtain ⟨hir54, hltr54, hxr54⟩ := ch_in hTR hs0 hpr54 hjr54 hr54
              refine md_ild S hC hM 4 2 4000 (τ 4) rfl rfl (by decide) rfl rfl (vin (by assumption) (by omega)) dModel_lookRow_64 ?_
              refine lv_topi (fun v55 ev55 => ?_)
              refine lv_if_ne (tgt := 72) hx hb dModel_lookRow_65 (by decide) (fun c56 => ?_) (fun c56 => ?_)
              · exact J72 ls  (lv_sub hl [0, 1, 2, 3, 4] rfl)
              · refine lv_iconst (v := 1) hx hb dModel_lookRow_68 (by decide) ?_
                refine lv_goto (tgt := 73) hx hb dModel_lookRow_69 (by decide) ?_
                exact J73 ls 1 (by first | exact Or.inl rfl | exact Or.inr (hi3_27.resolve_left (by assumption))) (lv_sub hl [0, 1, 2, 3, 4] rfl)
    exact J27 _ ls 0 t0_23 (by first | decide | exact nn_inc (by assumption) (by assumption) (by assumption)) (by first | assumption | exact Or.inl rfl) rfl (lv_sub hl [2, 3, 4, 1, 0] rfl)
  have J22 : ∀ (ls : Array Slot), lv_has ls 5 [(0, .ref a), (1, .int x1), (2, .int v1)] → W p l e (bs_rm 2 0 0 48) s m args below meth c s.heap [] 0 0 Q (F0 m 22 ls []) := by
    intro ls hl
    refine lv_iconst (v := 0) hx hb dModel_lookRow_22 (by decide) ?_
    exact J23 ls 0 (by first | exact Or.inl rfl | exact Or.inr (lr_64 hn2 (by omega) (by assumption))) (lv_sub hl [0, 1, 2] rfl)
  refine lv_icmp_lt (tgt := 22) hx hb dModel_lookRow_9 (by decide) (fun c57 => ?_) (fun c57 => ?_)
  · exact J22 ls  (lv_sub hl [1, 2, 0] rfl)
  · refine lv_iload_n hx hb dModel_lookRow_12 rfl (lv_at hl 0 rfl) ?_
    refine lv_bipush (v := 64) hx hb dModel_lookRow_13 (by decide) ?_
    refine lv_icmp_gt (tgt := 22) hx hb dModel_lookRow_15 (by decide) (fun c58 => ?_) (fun c58 => ?_)
    · exact J22 ls  (lv_sub hl [1, 2, 0] rfl)
    · refine lv_iconst (v := 1) hx hb dModel_lookRow_18 (by decide) ?_
      refine lv_goto (tgt := 23) hx hb dModel_lookRow_19 (by decide) ?_
      exact J23 ls 1 (by first | exact Or.inl rfl | exact Or.inr (lr_64 hn2 (by omega) (by assumption))) (lv_sub hl [1, 2, 0] rfl)
