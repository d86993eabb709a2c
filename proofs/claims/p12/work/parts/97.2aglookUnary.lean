theorem qw_aa15322dc3 : (Cond.methodLink R_Model 190 yModel_known) ∈ bs_W0 := bs_in (in_tables_1_6 (List.mem_of_getElem? (i := 103) rfl)) rfl
set_option maxHeartbeats 4000000 in
set_option maxRecDepth 100000 in
theorem m_lookUnary (l : Launch) (γ : gE) (a : Nat) (B : Nat → Nat) (Z : Nat → Prop) (κ b mn : Nat → Nat) (ν : Nat → Int32) (τ : Nat → Nat → Int32) (σ : Nat → Int32) (F : Nat → Nat → Int32) (nu : Nat → Int64) (hT : ST κ b mn ν τ) (x1 : Int32) (x2 : Int32) (hx1 : vp_in x1 (κ 0)) (hx2 : vp_in x2 (κ 0)) (ha : x2.toNatClampNeg < x1.toNatClampNeg) (hZ : SZ F) (hF : FD σ) (hg : GK x2.toNatClampNeg F nu) : MU l yModel_lookUnary bModel_lookUnary 5 (some .int) 2 48 0 0 [.ref a, .int x1, .int x2] γ Z (MD γ a B Z ν τ σ F nu) (mQi (fun r H => LKo γ a B Z ν τ x1.toNatClampNeg F nu r H) Z) := by
  refine mu_openI (by decide) (Nat.le_of_ble_eq_true rfl) ?_
  intro p e s m args below meth c ls Q S hnm hC hA hM hE hl
  have hS : va_S Z s.heap s.heap [] := va_S.rf
  obtain ⟨hx, hb, hml, hown, hW⟩ := id S
  obtain ⟨⟨hs0, hs1, hs2, hs3, hs4, hs5, hs6⟩, ⟨hv6, hv8, hv21, hv24, hv30, hv31⟩, hTR, hTY, hOB, hNM⟩ := id hT
  have hL : SL x1.toNatClampNeg F nu F nu := SL.rf
  have hl : lv_has ls 5 [(0, .ref a), (1, .int x1), (2, .int x2)] := hl
  refine lv_aload_n hx hb dModel_lookUnary_0 rfl (lv_at hl 0 rfl) ?_
  refine md_gA S hC hM 3 (by decide) rfl qw_9fb851a5fa dModel_lookUnary_1 ?_
  refine lv_iload_n hx hb dModel_lookUnary_4 rfl (lv_at hl 1 rfl) ?_
  refine md_ild S hC hM 3 1 4000 (τ 3) rfl rfl (by decide) rfl rfl (vin (by assumption) (by omega)) dModel_lookUnary_5 ?_
  refine lv_topi (fun v1 ev1 => ?_)
  refine lv_istore_n (lv' := [(3, .int v1), (0, .ref a), (1, .int x1), (2, .int x2)]) hx hb dModel_lookUnary_6 rfl hl (by decide) rfl (fun ls hl => ?_)
  refine lv_aload_n hx hb dModel_lookUnary_7 rfl (lv_at hl 1 rfl) ?_
  refine lv_iload_n hx hb dModel_lookUnary_8 rfl (lv_at hl 2 rfl) ?_
  refine lv_aload_n hx hb dModel_lookUnary_9 rfl (lv_at hl 1 rfl) ?_
  refine md_gA S hC hM 9 (by decide) rfl qw_a119aeeca0 dModel_lookUnary_10 ?_
  refine lv_iload_n hx hb dModel_lookUnary_13 rfl (lv_at hl 3 rfl) ?_
  refine md_ild S hC hM 9 5 10000 (F 9) rfl rfl (by decide) rfl rfl (vin (by assumption) (by omega)) dModel_lookUnary_14 ?_
  refine lv_topi (fun v2 ev2 => ?_)
  refine lv_aload_n hx hb dModel_lookUnary_15 rfl (lv_at hl 1 rfl) ?_
  refine md_gA S hC hM 10 (by decide) rfl qw_bd0251c605 dModel_lookUnary_16 ?_
  refine lv_iload_n hx hb dModel_lookUnary_19 rfl (lv_at hl 3 rfl) ?_
  refine md_ild S hC hM 10 6 10000 (F 10) rfl rfl (by decide) rfl rfl (vin (by assumption) (by omega)) dModel_lookUnary_20 ?_
  refine lv_topi (fun v3 ev3 => ?_)
  refine lv_aload_n hx hb dModel_lookUnary_21 rfl (lv_at hl 1 rfl) ?_
  refine md_gA S hC hM 11 (by decide) rfl qw_88b9028ba7 dModel_lookUnary_22 ?_
  refine lv_iload_n hx hb dModel_lookUnary_25 rfl (lv_at hl 3 rfl) ?_
  refine md_zld S hC hM 11 7 10000 (F 11) rfl rfl (by decide) rfl rfl (vin (by assumption) (by omega)) dModel_lookUnary_26 ?_
  refine lv_topi (fun v4 ev4 => ?_)
  have hnr5 : ∃ j, j ≤ 1000 ∧ v3 = nI j := (by rw [ev3]; exact hZ _ (vix (vin (by assumption) (by omega))))
  refine mu_Vv (rest := []) S hC (fun q h => hA q (Nat.le_trans hS.1 h)) (fun q h => h) hS (m_fact l γ a B Z κ b mn ν τ σ F nu hT x1 v2 v3 v4 (vin (by assumption) (by omega)) hnr5) meModel_fact qw_02871250ec ⟨Nat.le_of_ble_eq_true rfl, Nat.le_of_ble_eq_true rfl⟩ (md_rv hC hM) hM rfl hl.1 rfl (Nat.le_of_ble_eq_true rfl) dModel_lookUnary_27 ⟨Nat.le_refl _, Nat.le_refl _⟩ (fun H locs hPO hS _ _ => ?_)
  obtain ⟨Fr5, nur5, hM, hqr5, hcr5⟩ := hPO
  have hZ : SZ Fr5 := hZ.slt hqr5 hnr5
  have hL : SL x1.toNatClampNeg F nu Fr5 nur5 := hL.trans (SL.slt hqr5)
  have hK : GK x1.toNatClampNeg Fr5 nur5 := GK.zero hqr5
  refine lv_iload_n hx hb dModel_lookUnary_30 rfl (lv_at hl 0 rfl) ?_
  refine lv_if_le (tgt := 97) hx hb dModel_lookUnary_31 (by decide) (fun c6 => ?_) (fun c6 => ?_)
  · refine lv_aload_n hx hb dModel_lookUnary_97 rfl (lv_at hl 1 rfl) ?_
    refine md_gA S hC hM 9 (by decide) rfl qw_a119aeeca0 dModel_lookUnary_98 ?_
    refine lv_iload_n hx hb dModel_lookUnary_101 rfl (lv_at hl 3 rfl) ?_
    refine md_ild S hC hM 9 5 10000 (Fr5 9) rfl rfl (by decide) rfl rfl (vin (by assumption) (by omega)) dModel_lookUnary_102 ?_
    refine lv_topi (fun v7 ev7 => ?_)
    refine lv_iconst (v := 2) hx hb dModel_lookUnary_103 (by decide) ?_
    refine lv_icmp_eq (tgt := 117) hx hb dModel_lookUnary_104 (by decide) (fun c8 => ?_) (fun c8 => ?_)
    · refine lv_iconst (v := 3) hx hb dModel_lookUnary_117 (by decide) ?_
      exact hE _ _ _ _ _ hS ⟨σ, Fr5, nur5, hM, hZ, hF, hL, (fun h9 => absurd (show (0 : Int32) < 3 by decide) h9)⟩ dModel_lookUnary_118
    · refine lv_aload_n hx hb dModel_lookUnary_107 rfl (lv_at hl 1 rfl) ?_
      refine md_gA S hC hM 9 (by decide) rfl qw_a119aeeca0 dModel_lookUnary_108 ?_
      refine lv_iload_n hx hb dModel_lookUnary_111 rfl (lv_at hl 3 rfl) ?_
      refine md_ild S hC hM 9 5 10000 (Fr5 9) rfl rfl (by decide) rfl rfl (vin (by assumption) (by omega)) dModel_lookUnary_112 ?_
      refine lv_topi (fun v9 ev9 => ?_)
      refine lv_iconst (v := 4) hx hb dModel_lookUnary_113 (by decide) ?_
      refine lv_icmp_ne (tgt := 119) hx hb dModel_lookUnary_114 (by decide) (fun c10 => ?_) (fun c10 => ?_)
      · refine lv_aload_n hx hb dModel_lookUnary_119 rfl (lv_at hl 1 rfl) ?_
        refine md_gA S hC hM 13 (by decide) rfl qw_7b809afc8c dModel_lookUnary_120 ?_
        refine lv_iload_n hx hb dModel_lookUnary_123 rfl (lv_at hl 2 rfl) ?_
        refine lv_aload_n hx hb dModel_lookUnary_124 rfl (lv_at hl 1 rfl) ?_
        refine md_gA S hC hM 9 (by decide) rfl qw_a119aeeca0 dModel_lookUnary_125 ?_
        refine lv_iload_n hx hb dModel_lookUnary_128 rfl (lv_at hl 3 rfl) ?_
        refine md_ild S hC hM 9 5 10000 (Fr5 9) rfl rfl (by decide) rfl rfl (vin (by assumption) (by omega)) dModel_lookUnary_129 ?_
        refine lv_topi (fun v11 ev11 => ?_)
        refine lv_iconst (v := 1) hx hb dModel_lookUnary_130 (by decide) ?_
        have J169 : ∀ (ls : Array Slot) (t0_169 : Int64), lv_has ls 5 [(0, .ref a), (1, .int x1), (2, .int x2), (3, .int v1)] → W p l e (bs_rm 2 0 0 48) s m args below meth c H locs 0 0 Q (F0 m 169 ls [.long t0_169, .int x1, .ref (B 13)]) := by
          intro ls t0_169 hl
          have hgnu31 : Fr5 9 x1.toNatClampNeg = 2 → -2147483648 < (t0_169 : Int64).toInt ∧ (t0_169 : Int64).toInt < 2147483648 := (fun h9 => absurd h9 (gk_ne hqr5 ev2 ha ev7 (by assumption)))
          refine md_lst S hC hM hS (vin (by assumption) (by omega)) dModel_lookUnary_169 (fun H locs hM hS => ?_)
          obtain ⟨nu31, enu31⟩ : ∃ z : Nat → Int64, z = vp_updL nur5 x1.toNatClampNeg t0_169 := ⟨_, rfl⟩
          rw [← enu31] at hM
          have hL : SL x1.toNatClampNeg F nu Fr5 nu31 := hL.trans (by rw [enu31]; exact SL.num)
          have hK : GK x1.toNatClampNeg Fr5 nu31 := by rw [enu31]; exact GK.num hgnu31
          refine lv_iconst (v := 0) hx hb dModel_lookUnary_170 (by decide) ?_
          refine lv_istore (lv' := [(4, .int 0), (0, .ref a), (1, .int x1), (2, .int x2), (3, .int v1)]) hx hb dModel_lookUnary_171 hl (by decide) rfl (fun ls hl => ?_)
          have J173 : ∀ (N173 : Nat) (ls : Array Slot) (H : Heap) (locs : List Loc) (F_173 : Nat → Nat → Int32) (i4_173 : Int32), MD γ a B Z ν τ σ F_173 nu31 H → va_S Z s.heap H locs → (GK x1.toNatClampNeg F_173 nu31) → (SL x1.toNatClampNeg F nu F_173 nu31) → (SZ F_173) → (¬ i4_173 < 0) → (2147483647 - i4_173.toInt).toNat = N173 → lv_has ls 5 [(0, .ref a), (1, .int x1), (2, .int x2), (3, .int v1), (4, .int i4_173)] → W p l e (bs_rm 2 0 0 48) s m args below meth c H locs 0 0 Q (F0 m 173 ls []) := by
            intro N173
            induction N173 using Nat.strongRecOn with
            | ind N173 ih173 =>
              intro ls H locs F_173 i4_173 hM hS hK hL hZ hi4_173 hm173 hl
              refine lv_iload hx hb dModel_lookUnary_173 (lv_at hl 4 rfl) ?_
              refine lv_aload_n hx hb dModel_lookUnary_175 rfl (lv_at hl 0 rfl) ?_
              refine md_gA S hC hM 10 (by decide) rfl qw_bd0251c605 dModel_lookUnary_176 ?_
              refine lv_iload_n hx hb dModel_lookUnary_179 rfl (lv_at hl 2 rfl) ?_
              refine md_ild S hC hM 10 6 10000 (F_173 10) rfl rfl (by decide) rfl rfl (vin (by assumption) (by omega)) dModel_lookUnary_180 ?_
              refine lv_topi (fun v32 ev32 => ?_)
              have J217 : ∀ (ls : Array Slot), lv_has ls 5 [(0, .ref a), (1, .int x1), (2, .int x2), (3, .int v1), (4, .int i4_173)] → W p l e (bs_rm 2 0 0 48) s m args below meth c H locs 0 0 Q (F0 m 217 ls []) := by
                intro ls hl
                refine lv_aload_n hx hb dModel_lookUnary_217 rfl (lv_at hl 0 rfl) ?_
                refine lv_iload_n hx hb dModel_lookUnary_218 rfl (lv_at hl 1 rfl) ?_
                refine mu_Vi (rest := []) S hC (fun q h => hA q (Nat.le_trans hS.1 h)) (fun q h => h) hS (m_known l γ a B Z κ b mn ν τ σ F_173 nu31 hT x1 (vin (by assumption) (by omega))) meModel_known qw_aa15322dc3 ⟨Nat.le_of_ble_eq_true rfl, Nat.le_of_ble_eq_true rfl⟩ (md_rv hC hM) hM rfl hl.1 rfl (Nat.le_of_ble_eq_true rfl) dModel_lookUnary_219 ⟨Nat.le_refl _, Nat.le_refl _⟩ (fun r41 H locs hPO hS _ _ => ?_)
                obtain ⟨hrr41, Fr41, nur41, hM, hqr41, hnr41⟩ := hPO
                have hZ : SZ Fr41 := hZ.e14 hqr41
                have hL : SL x1.toNatClampNeg F nu Fr41 nur41 := hL.trans (SL.kn hqr41 hnr41)
                have hK : GK x1.toNatClampNeg Fr41 nur41 := hK.kn hqr41 hnr41
                exact hE _ _ _ _ _ hS ⟨σ, Fr41, nur41, hM, hZ, hF, hL, (fun _ => hK)⟩ dModel_lookUnary_222
              refine lv_icmp_ge (tgt := 217) hx hb dModel_lookUnary_181 (by decide) (fun c42 => ?_) (fun c42 => ?_)
              · exact J217 ls  (lv_sub hl [0, 1, 2, 3, 4] rfl)
              · have hin4 : vp_in i4_173 1000 := vsz hZ (vix (vin hx2 (by omega))) (by assumption) (by assumption) (by assumption)
                refine lv_aload_n hx hb dModel_lookUnary_184 rfl (lv_at hl 0 rfl) ?_
                refine md_gA S hC hM 9 (by decide) rfl qw_a119aeeca0 dModel_lookUnary_185 ?_
                refine lv_iload_n hx hb dModel_lookUnary_188 rfl (lv_at hl 2 rfl) ?_
                refine md_ild S hC hM 9 5 10000 (F_173 9) rfl rfl (by decide) rfl rfl (vin (by assumption) (by omega)) dModel_lookUnary_189 ?_
                refine lv_topi (fun v43 ev43 => ?_)
                refine lv_iconst (v := 3) hx hb dModel_lookUnary_190 (by decide) ?_
                refine lv_icmp_ne (tgt := 217) hx hb dModel_lookUnary_191 (by decide) (fun c44 => ?_) (fun c44 => ?_)
                · exact J217 ls  (lv_sub hl [0, 1, 2, 3, 4] rfl)
                · refine lv_aload_n hx hb dModel_lookUnary_194 rfl (lv_at hl 0 rfl) ?_
                  refine lv_iload_n hx hb dModel_lookUnary_195 rfl (lv_at hl 1 rfl) ?_
                  refine lv_iload hx hb dModel_lookUnary_196 (lv_at hl 4 rfl) ?_
                  refine lv_aload_n hx hb dModel_lookUnary_198 rfl (lv_at hl 0 rfl) ?_
                  refine lv_iload_n hx hb dModel_lookUnary_199 rfl (lv_at hl 2 rfl) ?_
                  refine lv_iload hx hb dModel_lookUnary_200 (lv_at hl 4 rfl) ?_
                  refine pu_Vi (rest := [.int i4_173, .int x1, .ref a]) S hC (m_element l γ a B Z κ b mn ν τ σ F_173 nu31 hT x2 i4_173 (el_in (by assumption) (by assumption) (by omega))) meModel_element qw_ceb3d87d61 ⟨Nat.le_of_ble_eq_true rfl, Nat.le_of_ble_eq_true rfl⟩ (md_rv hC hM) hM rfl hl.1 rfl (Nat.le_of_ble_eq_true rfl) dModel_lookUnary_202 ⟨Nat.zero_le _, Nat.zero_le _⟩ (fun r45 hr45 => ?_)
                  refine pu_Si (rest := [.int i4_173, .int x1, .ref a]) S hC (m_not l γ _ r45) meModel_not qw_ecedfa5d8c ⟨Nat.le_of_ble_eq_true rfl, Nat.le_of_ble_eq_true rfl⟩ hM rfl hl.1 rfl (Nat.le_of_ble_eq_true rfl) dModel_lookUnary_205 ⟨Nat.zero_le _, Nat.zero_le _⟩ (fun r46 hr46 => ?_)
                  refine mu_Vv (rest := []) S hC (fun q h => hA q (Nat.le_trans hS.1 h)) (fun q h => h) hS (m_setElement l γ a B Z κ b mn ν τ σ F_173 nu31 hT x1 i4_173 r46 (el_in (by assumption) (by assumption) (by omega))) meModel_setElement qw_143403ccb9 ⟨Nat.le_of_ble_eq_true rfl, Nat.le_of_ble_eq_true rfl⟩ (md_rv hC hM) hM rfl hl.1 rfl (Nat.le_of_ble_eq_true rfl) dModel_lookUnary_208 ⟨Nat.le_refl _, Nat.le_refl _⟩ (fun H locs hPO hS _ _ => ?_)
                  obtain ⟨Fr47, hM, hqr47⟩ := hPO
                  have hZ : SZ Fr47 := hZ.e14 hqr47
                  have hL : SL x1.toNatClampNeg F nu Fr47 nu31 := hL.trans (SL.e14 hqr47)
                  have hK : GK x1.toNatClampNeg Fr47 nu31 := hK.e14 hqr47
                  obtain ⟨v48, ev48⟩ : ∃ y : Int32, y = i4_173 + 1 := ⟨_, rfl⟩
                  refine lv_iinc (v := v48) (lv' := [(4, .int v48), (0, .ref a), (1, .int x1), (2, .int x2), (3, .int v1)]) hx hb dModel_lookUnary_211 hl (k := 4) rfl (by rw [ev48]; rfl) (by decide) rfl (fun ls hl => ?_)
                  refine lv_goto (tgt := 173) hx hb dModel_lookUnary_214 (by decide) ?_
                  exact ih173 _ (by have q1 : i4_173.toInt < 2147483647 := (by first | assumption | exact (mu_up (k := i4_173) (by assumption)).2); have q2 := mu_lt q1; rw [← ev48] at q2; omega) ls _ _ Fr47 v48 hM hS hK hL hZ (by first | decide | exact nn_inc (by assumption) (by assumption) (by assumption)) rfl (lv_sub hl [1, 2, 3, 4, 0] rfl)
          exact J173 _ ls _ _ Fr5 0 hM hS hK hL hZ (by first | decide | exact nn_inc (by assumption) (by assumption) (by assumption)) rfl (lv_sub hl [1, 2, 3, 4, 0] rfl)
        refine lv_icmp_ne (tgt := 145) hx hb dModel_lookUnary_131 (by decide) (fun c49 => ?_) (fun c49 => ?_)
        · refine lv_aload_n hx hb dModel_lookUnary_145 rfl (lv_at hl 1 rfl) ?_
          refine md_gA S hC hM 9 (by decide) rfl qw_a119aeeca0 dModel_lookUnary_146 ?_
          refine lv_iload_n hx hb dModel_lookUnary_149 rfl (lv_at hl 3 rfl) ?_
          refine md_ild S hC hM 9 5 10000 (Fr5 9) rfl rfl (by decide) rfl rfl (vin (by assumption) (by omega)) dModel_lookUnary_150 ?_
          refine lv_topi (fun v50 ev50 => ?_)
          refine lv_if_ne (tgt := 168) hx hb dModel_lookUnary_151 (by decide) (fun c51 => ?_) (fun c51 => ?_)
          · refine lv_lconst (v := 0) hx hb dModel_lookUnary_168 (by decide) ?_
            exact J169 ls 0 (lv_sub hl [1, 2, 3, 0] rfl)
          · refine lv_aload_n hx hb dModel_lookUnary_154 rfl (lv_at hl 1 rfl) ?_
            refine md_gA S hC hM 13 (by decide) rfl qw_7b809afc8c dModel_lookUnary_155 ?_
            refine lv_iload_n hx hb dModel_lookUnary_158 rfl (lv_at hl 3 rfl) ?_
            refine md_lld S hC hM (vin (by assumption) (by omega)) dModel_lookUnary_159 ?_
            refine lv_topl (fun v52 ev52 => ?_)
            have ev52 : v52 = nur5 x2.toNatClampNeg := ev52
            refine lv_l2i hx hb dModel_lookUnary_160 rfl ?_
            refine lv_topi (fun v53 ev53 => ?_)
            refine pu_Si (rest := [.int x1, .ref (B 13)]) S hC (m_not l γ _ v53) meModel_not qw_ecedfa5d8c ⟨Nat.le_of_ble_eq_true rfl, Nat.le_of_ble_eq_true rfl⟩ hM rfl hl.1 rfl (Nat.le_of_ble_eq_true rfl) dModel_lookUnary_161 ⟨Nat.zero_le _, Nat.zero_le _⟩ (fun r54 hr54 => ?_)
            refine lv_i2l hx hb dModel_lookUnary_164 rfl ?_
            refine lv_topl (fun v55 ev55 => ?_)
            refine lv_goto (tgt := 169) hx hb dModel_lookUnary_165 (by decide) ?_
            exact J169 ls v55 (lv_sub hl [1, 2, 3, 0] rfl)
        · refine lv_lconst (v := 1) hx hb dModel_lookUnary_134 (by decide) ?_
          refine lv_aload_n hx hb dModel_lookUnary_135 rfl (lv_at hl 1 rfl) ?_
          refine md_gA S hC hM 13 (by decide) rfl qw_7b809afc8c dModel_lookUnary_136 ?_
          refine lv_iload_n hx hb dModel_lookUnary_139 rfl (lv_at hl 3 rfl) ?_
          refine md_lld S hC hM (vin (by assumption) (by omega)) dModel_lookUnary_140 ?_
          refine lv_topl (fun v56 ev56 => ?_)
          have ev56 : v56 = nur5 x2.toNatClampNeg := ev56
          refine lv_lsub hx hb dModel_lookUnary_141 ?_
          refine lv_topl (fun v57 ev57 => ?_)
          refine lv_goto (tgt := 169) hx hb dModel_lookUnary_142 (by decide) ?_
          exact J169 ls v57 (lv_sub hl [1, 2, 3, 0] rfl)
      · refine lv_iconst (v := 3) hx hb dModel_lookUnary_117 (by decide) ?_
        exact hE _ _ _ _ _ hS ⟨σ, Fr5, nur5, hM, hZ, hF, hL, (fun h9 => absurd (show (0 : Int32) < 3 by decide) h9)⟩ dModel_lookUnary_118
  · refine lv_aload_n hx hb dModel_lookUnary_34 rfl (lv_at hl 1 rfl) ?_
    refine md_gA S hC hM 13 (by decide) rfl qw_7b809afc8c dModel_lookUnary_35 ?_
    refine lv_iload_n hx hb dModel_lookUnary_38 rfl (lv_at hl 2 rfl) ?_
    refine lv_iload_n hx hb dModel_lookUnary_39 rfl (lv_at hl 0 rfl) ?_
    refine lv_iconst (v := 1) hx hb dModel_lookUnary_40 (by decide) ?_
    have J60 : ∀ (ls : Array Slot), lv_has ls 5 [(0, .ref a), (1, .int x1), (2, .int x2), (3, .int v1)] → W p l e (bs_rm 2 0 0 48) s m args below meth c H locs 0 0 Q (F0 m 60 ls [.int x1, .ref (B 13)]) := by
      intro ls hl
      refine lv_aload_n hx hb dModel_lookUnary_60 rfl (lv_at hl 0 rfl) ?_
      refine md_gA S hC hM 13 (by decide) rfl qw_7b809afc8c dModel_lookUnary_61 ?_
      refine lv_iload_n hx hb dModel_lookUnary_64 rfl (lv_at hl 2 rfl) ?_
      refine md_lld S hC hM (vin (by assumption) (by omega)) dModel_lookUnary_65 ?_
      refine lv_topl (fun v74 ev74 => ?_)
      have ev74 : v74 = nur5 x2.toNatClampNeg := ev74
      refine lv_lneg hx hb dModel_lookUnary_66 ?_
      refine lv_topl (fun v75 ev75 => ?_)
      refine lv_goto (tgt := 76) hx hb dModel_lookUnary_67 (by decide) ?_
      have hgnu76 : Fr5 9 x1.toNatClampNeg = 2 → -2147483648 < (v75 : Int64).toInt ∧ (v75 : Int64).toInt < 2147483648 := (gk_neg hqr5 ev2 ha hg ev74 (by first | exact Or.inl rfl | exact Or.inr (by assumption)))
      refine md_lst S hC hM hS (vin (by assumption) (by omega)) dModel_lookUnary_76 (fun H locs hM hS => ?_)
      obtain ⟨nu76, enu76⟩ : ∃ z : Nat → Int64, z = vp_updL nur5 x1.toNatClampNeg v75 := ⟨_, rfl⟩
      rw [← enu76] at hM
      have hL : SL x1.toNatClampNeg F nu Fr5 nu76 := hL.trans (by rw [enu76]; exact SL.num)
      have hK : GK x1.toNatClampNeg Fr5 nu76 := by rw [enu76]; exact GK.num hgnu76
      refine lv_aload_n hx hb dModel_lookUnary_77 rfl (lv_at hl 0 rfl) ?_
      refine md_gA S hC hM 9 (by decide) rfl qw_a119aeeca0 dModel_lookUnary_78 ?_
      refine lv_iload_n hx hb dModel_lookUnary_81 rfl (lv_at hl 2 rfl) ?_
      refine md_ild S hC hM 9 5 10000 (Fr5 9) rfl rfl (by decide) rfl rfl (vin (by assumption) (by omega)) dModel_lookUnary_82 ?_
      refine lv_topi (fun v77 ev77 => ?_)
      refine lv_iconst (v := 2) hx hb dModel_lookUnary_83 (by decide) ?_
      refine lv_icmp_ne (tgt := 95) hx hb dModel_lookUnary_84 (by decide) (fun c78 => ?_) (fun c78 => ?_)
      · refine lv_iconst (v := 3) hx hb dModel_lookUnary_95 (by decide) ?_
        exact hE _ _ _ _ _ hS ⟨σ, Fr5, nu76, hM, hZ, hF, hL, (fun h9 => absurd (show (0 : Int32) < 3 by decide) h9)⟩ dModel_lookUnary_96
      · refine lv_aload_n hx hb dModel_lookUnary_87 rfl (lv_at hl 0 rfl) ?_
        refine lv_iload_n hx hb dModel_lookUnary_88 rfl (lv_at hl 1 rfl) ?_
        refine mu_Vi (rest := []) S hC (fun q h => hA q (Nat.le_trans hS.1 h)) (fun q h => h) hS (m_known l γ a B Z κ b mn ν τ σ Fr5 nu76 hT x1 (vin (by assumption) (by omega))) meModel_known qw_aa15322dc3 ⟨Nat.le_of_ble_eq_true rfl, Nat.le_of_ble_eq_true rfl⟩ (md_rv hC hM) hM rfl hl.1 rfl (Nat.le_of_ble_eq_true rfl) dModel_lookUnary_89 ⟨Nat.le_refl _, Nat.le_refl _⟩ (fun r79 H locs hPO hS _ _ => ?_)
        obtain ⟨hrr79, Fr79, nur79, hM, hqr79, hnr79⟩ := hPO
        have hZ : SZ Fr79 := hZ.e14 hqr79
        have hL : SL x1.toNatClampNeg F nu Fr79 nur79 := hL.trans (SL.kn hqr79 hnr79)
        have hK : GK x1.toNatClampNeg Fr79 nur79 := hK.kn hqr79 hnr79
        refine lv_goto (tgt := 96) hx hb dModel_lookUnary_92 (by decide) ?_
        exact hE _ _ _ _ _ hS ⟨σ, Fr79, nur79, hM, hZ, hF, hL, (fun _ => hK)⟩ dModel_lookUnary_96
    refine lv_icmp_eq (tgt := 60) hx hb dModel_lookUnary_41 (by decide) (fun c80 => ?_) (fun c80 => ?_)
    · exact J60 ls  (lv_sub hl [1, 2, 3, 0] rfl)
    · refine lv_iload_n hx hb dModel_lookUnary_44 rfl (lv_at hl 0 rfl) ?_
      refine lv_iconst (v := 3) hx hb dModel_lookUnary_45 (by decide) ?_
      have J70 : ∀ (ls : Array Slot), lv_has ls 5 [(0, .ref a), (1, .int x1), (2, .int x2), (3, .int v1)] → W p l e (bs_rm 2 0 0 48) s m args below meth c H locs 0 0 Q (F0 m 70 ls [.int x1, .ref (B 13)]) := by
        intro ls hl
        refine lv_aload_n hx hb dModel_lookUnary_70 rfl (lv_at hl 0 rfl) ?_
        refine md_gA S hC hM 13 (by decide) rfl qw_7b809afc8c dModel_lookUnary_71 ?_
        refine lv_iload_n hx hb dModel_lookUnary_74 rfl (lv_at hl 2 rfl) ?_
        refine md_lld S hC hM (vin (by assumption) (by omega)) dModel_lookUnary_75 ?_
        refine lv_topl (fun v90 ev90 => ?_)
        have ev90 : v90 = nur5 x2.toNatClampNeg := ev90
        have hgnu91 : Fr5 9 x1.toNatClampNeg = 2 → -2147483648 < (v90 : Int64).toInt ∧ (v90 : Int64).toInt < 2147483648 := (gk_neg hqr5 ev2 ha hg ev90 (by first | exact Or.inl rfl | exact Or.inr (by assumption)))
        refine md_lst S hC hM hS (vin (by assumption) (by omega)) dModel_lookUnary_76 (fun H locs hM hS => ?_)
        obtain ⟨nu91, enu91⟩ : ∃ z : Nat → Int64, z = vp_updL nur5 x1.toNatClampNeg v90 := ⟨_, rfl⟩
        rw [← enu91] at hM
        have hL : SL x1.toNatClampNeg F nu Fr5 nu91 := hL.trans (by rw [enu91]; exact SL.num)
        have hK : GK x1.toNatClampNeg Fr5 nu91 := by rw [enu91]; exact GK.num hgnu91
        refine lv_aload_n hx hb dModel_lookUnary_77 rfl (lv_at hl 0 rfl) ?_
        refine md_gA S hC hM 9 (by decide) rfl qw_a119aeeca0 dModel_lookUnary_78 ?_
        refine lv_iload_n hx hb dModel_lookUnary_81 rfl (lv_at hl 2 rfl) ?_
        refine md_ild S hC hM 9 5 10000 (Fr5 9) rfl rfl (by decide) rfl rfl (vin (by assumption) (by omega)) dModel_lookUnary_82 ?_
        refine lv_topi (fun v92 ev92 => ?_)
        refine lv_iconst (v := 2) hx hb dModel_lookUnary_83 (by decide) ?_
        refine lv_icmp_ne (tgt := 95) hx hb dModel_lookUnary_84 (by decide) (fun c93 => ?_) (fun c93 => ?_)
        · refine lv_iconst (v := 3) hx hb dModel_lookUnary_95 (by decide) ?_
          exact hE _ _ _ _ _ hS ⟨σ, Fr5, nu91, hM, hZ, hF, hL, (fun h9 => absurd (show (0 : Int32) < 3 by decide) h9)⟩ dModel_lookUnary_96
        · refine lv_aload_n hx hb dModel_lookUnary_87 rfl (lv_at hl 0 rfl) ?_
          refine lv_iload_n hx hb dModel_lookUnary_88 rfl (lv_at hl 1 rfl) ?_
          refine mu_Vi (rest := []) S hC (fun q h => hA q (Nat.le_trans hS.1 h)) (fun q h => h) hS (m_known l γ a B Z κ b mn ν τ σ Fr5 nu91 hT x1 (vin (by assumption) (by omega))) meModel_known qw_aa15322dc3 ⟨Nat.le_of_ble_eq_true rfl, Nat.le_of_ble_eq_true rfl⟩ (md_rv hC hM) hM rfl hl.1 rfl (Nat.le_of_ble_eq_true rfl) dModel_lookUnary_89 ⟨Nat.le_refl _, Nat.le_refl _⟩ (fun r94 H locs hPO hS _ _ => ?_)
          obtain ⟨hrr94, Fr94, nur94, hM, hqr94, hnr94⟩ := hPO
          have hZ : SZ Fr94 := hZ.e14 hqr94
          have hL : SL x1.toNatClampNeg F nu Fr94 nur94 := hL.trans (SL.kn hqr94 hnr94)
          have hK : GK x1.toNatClampNeg Fr94 nur94 := hK.kn hqr94 hnr94
          refine lv_goto (tgt := 96) hx hb dModel_lookUnary_92 (by decide) ?_
          exact hE _ _ _ _ _ hS ⟨σ, Fr94, nur94, hM, hZ, hF, hL, (fun _ => hK)⟩ dModel_lookUnary_96
      refine lv_icmp_ne (tgt := 70) hx hb dModel_lookUnary_46 (by decide) (fun c95 => ?_) (fun c95 => ?_)
      · exact J70 ls  (lv_sub hl [1, 2, 3, 0] rfl)
      · refine lv_aload_n hx hb dModel_lookUnary_49 rfl (lv_at hl 1 rfl) ?_
        refine md_gA S hC hM 13 (by decide) rfl qw_7b809afc8c dModel_lookUnary_50 ?_
        refine lv_iload_n hx hb dModel_lookUnary_53 rfl (lv_at hl 3 rfl) ?_
        refine md_lld S hC hM (vin (by assumption) (by omega)) dModel_lookUnary_54 ?_
        refine lv_topl (fun v96 ev96 => ?_)
        have ev96 : v96 = nur5 x2.toNatClampNeg := ev96
        refine lv_lconst (v := 0) hx hb dModel_lookUnary_55 (by decide) ?_
        refine W.lcmp hx hb dModel_lookUnary_56 ?_
        refine lv_topi (fun v97 ev97 => ?_)
        refine lv_if_ge (tgt := 70) hx hb dModel_lookUnary_57 (by decide) (fun c98 => ?_) (fun c98 => ?_)
        · exact J70 ls  (lv_sub hl [1, 2, 3, 0] rfl)
        · exact J60 ls  (lv_sub hl [1, 2, 3, 0] rfl)
theorem qw_47bf7afb29 : (Cond.methodLink R_Model 217 yModel_logic) ∈ bs_W0 := bs_in (in_tables_1_6 (List.mem_of_getElem? (i := 127) rfl)) rfl
theorem qw_32c72cc6df : (Cond.methodLink R_Model 213 yModel_truth) ∈ bs_W0 := bs_in (in_tables_1_6 (List.mem_of_getElem? (i := 124) rfl)) rfl
set_option maxHeartbeats 4000000 in
set_option maxRecDepth 100000 in
theorem m_lookLogic (l : Launch) (γ : gE) (a : Nat) (B : Nat → Nat) (Z : Nat → Prop) (κ b mn : Nat → Nat) (ν : Nat → Int32) (τ : Nat → Nat → Int32) (σ : Nat → Int32) (F : Nat → Nat → Int32) (nu : Nat → Int64) (hT : ST κ b mn ν τ) (x1 : Int32) (x2 : Int32) (x3 : Int32) (x4 : Int32) (hx1 : vp_in x1 (κ 0)) (hx3 : vp_in x3 (κ 0)) (hx4 : vp_in x4 (κ 0)) (ha : x3.toNatClampNeg < x1.toNatClampNeg) (hbk : x4.toNatClampNeg < x1.toNatClampNeg) (hZ : SZ F) (hF : FD σ) : MU l yModel_lookLogic bModel_lookLogic 6 (some .int) 3 66 0 0 [.ref a, .int x1, .int x2, .int x3, .int x4] γ Z (MD γ a B Z ν τ σ F nu) (mQi (fun r H => LKo γ a B Z ν τ x1.toNatClampNeg F nu r H) Z) := by
  refine mu_openI (by decide) (Nat.le_of_ble_eq_true rfl) ?_
  intro p e s m args below meth c ls Q S hnm hC hA hM hE hl
  have hS : va_S Z s.heap s.heap [] := va_S.rf
  obtain ⟨hx, hb, hml, hown, hW⟩ := id S
  obtain ⟨⟨hs0, hs1, hs2, hs3, hs4, hs5, hs6⟩, ⟨hv6, hv8, hv21, hv24, hv30, hv31⟩, hTR, hTY, hOB, hNM⟩ := id hT
  have hL : SL x1.toNatClampNeg F nu F nu := SL.rf
  have hl : lv_has ls 6 [(0, .ref a), (1, .int x1), (2, .int x2), (3, .int x3), (4, .int x4)] := hl
  refine lv_aload_n hx hb dModel_lookLogic_0 rfl (lv_at hl 0 rfl) ?_
  refine md_gA S hC hM 9 (by decide) rfl qw_a119aeeca0 dModel_lookLogic_1 ?_
  refine lv_iload_n hx hb dModel_lookLogic_4 rfl (lv_at hl 3 rfl) ?_
  refine md_ild S hC hM 9 5 10000 (F 9) rfl rfl (by decide) rfl rfl (vin (by assumption) (by omega)) dModel_lookLogic_5 ?_
  refine lv_topi (fun v1 ev1 => ?_)
  refine lv_aload_n hx hb dModel_lookLogic_6 rfl (lv_at hl 0 rfl) ?_
  refine md_gA S hC hM 9 (by decide) rfl qw_a119aeeca0 dModel_lookLogic_7 ?_
  refine lv_iload hx hb dModel_lookLogic_10 (lv_at hl 4 rfl) ?_
  refine md_ild S hC hM 9 5 10000 (F 9) rfl rfl (by decide) rfl rfl (vin (by assumption) (by omega)) dModel_lookLogic_12 ?_
  refine lv_topi (fun v2 ev2 => ?_)
  refine lv_icmp_ne (tgt := 36) hx hb dModel_lookLogic_13 (by decide) (fun c3 => ?_) (fun c3 => ?_)
  · refine lv_iconst (v := 3) hx hb dModel_lookLogic_36 (by decide) ?_
    exact hE _ _ _ _ _ hS ⟨σ, F, nu, hM, hZ, hF, hL, (fun h9 => absurd (show (0 : Int32) < 3 by decide) h9)⟩ dModel_lookLogic_37
  · refine lv_aload_n hx hb dModel_lookLogic_16 rfl (lv_at hl 0 rfl) ?_
    refine md_gA S hC hM 9 (by decide) rfl qw_a119aeeca0 dModel_lookLogic_17 ?_
    refine lv_iload_n hx hb dModel_lookLogic_20 rfl (lv_at hl 3 rfl) ?_
    refine md_ild S hC hM 9 5 10000 (F 9) rfl rfl (by decide) rfl rfl (vin (by assumption) (by omega)) dModel_lookLogic_21 ?_
    refine lv_topi (fun v4 ev4 => ?_)
    refine lv_iconst (v := 2) hx hb dModel_lookLogic_22 (by decide) ?_
    refine lv_icmp_eq (tgt := 36) hx hb dModel_lookLogic_23 (by decide) (fun c5 => ?_) (fun c5 => ?_)
    · refine lv_iconst (v := 3) hx hb dModel_lookLogic_36 (by decide) ?_
      exact hE _ _ _ _ _ hS ⟨σ, F, nu, hM, hZ, hF, hL, (fun h9 => absurd (show (0 : Int32) < 3 by decide) h9)⟩ dModel_lookLogic_37
    · refine lv_aload_n hx hb dModel_lookLogic_26 rfl (lv_at hl 0 rfl) ?_
      refine md_gA S hC hM 9 (by decide) rfl qw_a119aeeca0 dModel_lookLogic_27 ?_
      refine lv_iload_n hx hb dModel_lookLogic_30 rfl (lv_at hl 3 rfl) ?_
      refine md_ild S hC hM 9 5 10000 (F 9) rfl rfl (by decide) rfl rfl (vin (by assumption) (by omega)) dModel_lookLogic_31 ?_
      refine lv_topi (fun v6 ev6 => ?_)
      refine lv_iconst (v := 4) hx hb dModel_lookLogic_32 (by decide) ?_
      refine lv_icmp_ne (tgt := 38) hx hb dModel_lookLogic_33 (by decide) (fun c7 => ?_) (fun c7 => ?_)
      · refine lv_aload_n hx hb dModel_lookLogic_38 rfl (lv_at hl 0 rfl) ?_
        refine md_gA S hC hM 10 (by decide) rfl qw_bd0251c605 dModel_lookLogic_39 ?_
        refine lv_iload_n hx hb dModel_lookLogic_42 rfl (lv_at hl 3 rfl) ?_
        refine md_ild S hC hM 10 6 10000 (F 10) rfl rfl (by decide) rfl rfl (vin (by assumption) (by omega)) dModel_lookLogic_43 ?_
        refine lv_topi (fun v8 ev8 => ?_)
        refine lv_aload_n hx hb dModel_lookLogic_44 rfl (lv_at hl 0 rfl) ?_
        refine md_gA S hC hM 10 (by decide) rfl qw_bd0251c605 dModel_lookLogic_45 ?_
        refine lv_iload hx hb dModel_lookLogic_48 (lv_at hl 4 rfl) ?_
        refine md_ild S hC hM 10 6 10000 (F 10) rfl rfl (by decide) rfl rfl (vin (by assumption) (by omega)) dModel_lookLogic_50 ?_
        refine lv_topi (fun v9 ev9 => ?_)
        refine lv_icmp_eq (tgt := 56) hx hb dModel_lookLogic_51 (by decide) (fun c10 => ?_) (fun c10 => ?_)
        · refine lv_aload_n hx hb dModel_lookLogic_56 rfl (lv_at hl 0 rfl) ?_
          refine lv_iload_n hx hb dModel_lookLogic_57 rfl (lv_at hl 1 rfl) ?_
          refine lv_aload_n hx hb dModel_lookLogic_58 rfl (lv_at hl 0 rfl) ?_
          refine md_gA S hC hM 9 (by decide) rfl qw_a119aeeca0 dModel_lookLogic_59 ?_
          refine lv_iload_n hx hb dModel_lookLogic_62 rfl (lv_at hl 3 rfl) ?_
          refine md_ild S hC hM 9 5 10000 (F 9) rfl rfl (by decide) rfl rfl (vin (by assumption) (by omega)) dModel_lookLogic_63 ?_
          refine lv_topi (fun v11 ev11 => ?_)
          refine lv_aload_n hx hb dModel_lookLogic_64 rfl (lv_at hl 0 rfl) ?_
          refine md_gA S hC hM 10 (by decide) rfl qw_bd0251c605 dModel_lookLogic_65 ?_
          refine lv_iload_n hx hb dModel_lookLogic_68 rfl (lv_at hl 3 rfl) ?_
          refine md_ild S hC hM 10 6 10000 (F 10) rfl rfl (by decide) rfl rfl (vin (by assumption) (by omega)) dModel_lookLogic_69 ?_
          refine lv_topi (fun v12 ev12 => ?_)
          refine lv_aload_n hx hb dModel_lookLogic_70 rfl (lv_at hl 0 rfl) ?_
          refine md_gA S hC hM 11 (by decide) rfl qw_88b9028ba7 dModel_lookLogic_71 ?_
          refine lv_iload_n hx hb dModel_lookLogic_74 rfl (lv_at hl 3 rfl) ?_
          refine md_zld S hC hM 11 7 10000 (F 11) rfl rfl (by decide) rfl rfl (vin (by assumption) (by omega)) dModel_lookLogic_75 ?_
          refine lv_topi (fun v13 ev13 => ?_)
          have J94 : ∀ (ls : Array Slot) (t0_94 : Int32), lv_has ls 6 [(0, .ref a), (1, .int x1), (2, .int x2), (3, .int x3), (4, .int x4)] → W p l e (bs_rm 3 0 0 66) s m args below meth c s.heap [] 0 0 Q (F0 m 94 ls [.int t0_94, .int v12, .int v11, .int x1, .ref a]) := by
            intro ls t0_94 hl
            have hnr46 : ∃ j, j ≤ 1000 ∧ v12 = nI j := (by rw [ev12]; exact hZ _ (vix (vin (by assumption) (by omega))))
            refine mu_Vv (rest := []) S hC (fun q h => hA q (Nat.le_trans hS.1 h)) (fun q h => h) hS (m_fact l γ a B Z κ b mn ν τ σ F nu hT x1 v11 v12 t0_94 (vin (by assumption) (by omega)) hnr46) meModel_fact qw_02871250ec ⟨Nat.le_of_ble_eq_true rfl, Nat.le_of_ble_eq_true rfl⟩ (md_rv hC hM) hM rfl hl.1 rfl (Nat.le_of_ble_eq_true rfl) dModel_lookLogic_94 ⟨Nat.le_refl _, Nat.le_refl _⟩ (fun H locs hPO hS _ _ => ?_)
            obtain ⟨Fr46, nur46, hM, hqr46, hcr46⟩ := hPO
            have hZ : SZ Fr46 := hZ.slt hqr46 hnr46
            have hL : SL x1.toNatClampNeg F nu Fr46 nur46 := hL.trans (SL.slt hqr46)
            have hK : GK x1.toNatClampNeg Fr46 nur46 := GK.zero hqr46
            refine lv_aload_n hx hb dModel_lookLogic_97 rfl (lv_at hl 0 rfl) ?_
            refine md_gA S hC hM 9 (by decide) rfl qw_a119aeeca0 dModel_lookLogic_98 ?_
            refine lv_iload_n hx hb dModel_lookLogic_101 rfl (lv_at hl 3 rfl) ?_
            refine md_ild S hC hM 9 5 10000 (Fr46 9) rfl rfl (by decide) rfl rfl (vin (by assumption) (by omega)) dModel_lookLogic_102 ?_
            refine lv_topi (fun v47 ev47 => ?_)
            refine lv_iconst (v := 1) hx hb dModel_lookLogic_103 (by decide) ?_
            have J245 : ∀ (ls : Array Slot) (H : Heap) (locs : List Loc) (F_245 : Nat → Nat → Int32) (nu_245 : Nat → Int64), MD γ a B Z ν τ σ F_245 nu_245 H → va_S Z s.heap H locs → (GK x1.toNatClampNeg F_245 nu_245) → (SL x1.toNatClampNeg F nu F_245 nu_245) → (SZ F_245) → lv_has ls 6 [(0, .ref a), (1, .int x1), (2, .int x2), (3, .int x3), (4, .int x4)] → W p l e (bs_rm 3 0 0 66) s m args below meth c H locs 0 0 Q (F0 m 245 ls []) := by
              intro ls H locs F_245 nu_245 hM hS hK hL hZ hl
              refine lv_aload_n hx hb dModel_lookLogic_245 rfl (lv_at hl 0 rfl) ?_
              refine lv_iload_n hx hb dModel_lookLogic_246 rfl (lv_at hl 1 rfl) ?_
              refine mu_Vi (rest := []) S hC (fun q h => hA q (Nat.le_trans hS.1 h)) (fun q h => h) hS (m_known l γ a B Z κ b mn ν τ σ F_245 nu_245 hT x1 (vin (by assumption) (by omega))) meModel_known qw_aa15322dc3 ⟨Nat.le_of_ble_eq_true rfl, Nat.le_of_ble_eq_true rfl⟩ (md_rv hC hM) hM rfl hl.1 rfl (Nat.le_of_ble_eq_true rfl) dModel_lookLogic_247 ⟨Nat.le_refl _, Nat.le_refl _⟩ (fun r75 H locs hPO hS _ _ => ?_)
              obtain ⟨hrr75, Fr75, nur75, hM, hqr75, hnr75⟩ := hPO
              have hZ : SZ Fr75 := hZ.e14 hqr75
              have hL : SL x1.toNatClampNeg F nu Fr75 nur75 := hL.trans (SL.kn hqr75 hnr75)
              have hK : GK x1.toNatClampNeg Fr75 nur75 := hK.kn hqr75 hnr75
              exact hE _ _ _ _ _ hS ⟨σ, Fr75, nur75, hM, hZ, hF, hL, (fun _ => hK)⟩ dModel_lookLogic_250
            refine lv_icmp_ne (tgt := 161) hx hb dModel_lookLogic_104 (by decide) (fun c76 => ?_) (fun c76 => ?_)
            · refine lv_aload_n hx hb dModel_lookLogic_161 rfl (lv_at hl 0 rfl) ?_
              refine md_gA S hC hM 9 (by decide) rfl qw_a119aeeca0 dModel_lookLogic_162 ?_
              refine lv_iload_n hx hb dModel_lookLogic_165 rfl (lv_at hl 3 rfl) ?_
              refine md_ild S hC hM 9 5 10000 (Fr46 9) rfl rfl (by decide) rfl rfl (vin (by assumption) (by omega)) dModel_lookLogic_166 ?_
              refine lv_topi (fun v77 ev77 => ?_)
              refine lv_if_ne (tgt := 199) hx hb dModel_lookLogic_167 (by decide) (fun c78 => ?_) (fun c78 => ?_)
              · refine lv_iconst (v := 0) hx hb dModel_lookLogic_199 (by decide) ?_
                refine lv_istore (lv' := [(5, .int 0), (0, .ref a), (1, .int x1), (2, .int x2), (3, .int x3), (4, .int x4)]) hx hb dModel_lookLogic_200 hl (by decide) rfl (fun ls hl => ?_)
                have J202 : ∀ (N202 : Nat) (ls : Array Slot) (H : Heap) (locs : List Loc) (F_202 : Nat → Nat → Int32) (i5_202 : Int32), MD γ a B Z ν τ σ F_202 nur46 H → va_S Z s.heap H locs → (GK x1.toNatClampNeg F_202 nur46) → (SL x1.toNatClampNeg F nu F_202 nur46) → (SZ F_202) → (¬ i5_202 < 0) → (2147483647 - i5_202.toInt).toNat = N202 → lv_has ls 6 [(0, .ref a), (1, .int x1), (2, .int x2), (3, .int x3), (4, .int x4), (5, .int i5_202)] → W p l e (bs_rm 3 0 0 66) s m args below meth c H locs 0 0 Q (F0 m 202 ls []) := by
                  intro N202
                  induction N202 using Nat.strongRecOn with
                  | ind N202 ih202 =>
                    intro ls H locs F_202 i5_202 hM hS hK hL hZ hi5_202 hm202 hl
                    refine lv_iload hx hb dModel_lookLogic_202 (lv_at hl 5 rfl) ?_
                    refine lv_aload_n hx hb dModel_lookLogic_204 rfl (lv_at hl 0 rfl) ?_
                    refine md_gA S hC hM 10 (by decide) rfl qw_bd0251c605 dModel_lookLogic_205 ?_
                    refine lv_iload_n hx hb dModel_lookLogic_208 rfl (lv_at hl 3 rfl) ?_
                    refine md_ild S hC hM 10 6 10000 (F_202 10) rfl rfl (by decide) rfl rfl (vin (by assumption) (by omega)) dModel_lookLogic_209 ?_
                    refine lv_topi (fun v79 ev79 => ?_)
                    refine lv_icmp_ge (tgt := 245) hx hb dModel_lookLogic_210 (by decide) (fun c80 => ?_) (fun c80 => ?_)
                    · exact J245 ls _ _ F_202 nur46 hM hS hK hL hZ (lv_sub hl [0, 1, 2, 3, 4] rfl)
                    · have hin5 : vp_in i5_202 1000 := vsz hZ (vix (vin hx3 (by omega))) (by assumption) (by assumption) (by assumption)
                      refine lv_aload_n hx hb dModel_lookLogic_213 rfl (lv_at hl 0 rfl) ?_
                      refine lv_iload_n hx hb dModel_lookLogic_214 rfl (lv_at hl 1 rfl) ?_
                      refine lv_iload hx hb dModel_lookLogic_215 (lv_at hl 5 rfl) ?_
                      refine lv_iload_n hx hb dModel_lookLogic_217 rfl (lv_at hl 2 rfl) ?_
                      refine lv_aload_n hx hb dModel_lookLogic_218 rfl (lv_at hl 0 rfl) ?_
                      refine lv_iload_n hx hb dModel_lookLogic_219 rfl (lv_at hl 3 rfl) ?_
                      refine lv_iload hx hb dModel_lookLogic_220 (lv_at hl 5 rfl) ?_
                      refine pu_Vi (rest := [.int x2, .int i5_202, .int x1, .ref a]) S hC (m_element l γ a B Z κ b mn ν τ σ F_202 nur46 hT x3 i5_202 (el_in (by assumption) (by assumption) (by omega))) meModel_element qw_ceb3d87d61 ⟨Nat.le_of_ble_eq_true rfl, Nat.le_of_ble_eq_true rfl⟩ (md_rv hC hM) hM rfl hl.1 rfl (Nat.le_of_ble_eq_true rfl) dModel_lookLogic_222 ⟨Nat.zero_le _, Nat.zero_le _⟩ (fun r81 hr81 => ?_)
                      refine lv_aload_n hx hb dModel_lookLogic_225 rfl (lv_at hl 0 rfl) ?_
                      refine lv_iload hx hb dModel_lookLogic_226 (lv_at hl 4 rfl) ?_
                      refine lv_iload hx hb dModel_lookLogic_228 (lv_at hl 5 rfl) ?_
                      refine pu_Vi (rest := [.int r81, .int x2, .int i5_202, .int x1, .ref a]) S hC (m_element l γ a B Z κ b mn ν τ σ F_202 nur46 hT x4 i5_202 (el_in (by assumption) (by assumption) (by omega))) meModel_element qw_ceb3d87d61 ⟨Nat.le_of_ble_eq_true rfl, Nat.le_of_ble_eq_true rfl⟩ (md_rv hC hM) hM rfl hl.1 rfl (Nat.le_of_ble_eq_true rfl) dModel_lookLogic_230 ⟨Nat.zero_le _, Nat.zero_le _⟩ (fun r82 hr82 => ?_)
                      refine pu_Si (rest := [.int i5_202, .int x1, .ref a]) S hC (m_logic l γ _ x2 r81 r82) meModel_logic qw_47bf7afb29 ⟨Nat.le_of_ble_eq_true rfl, Nat.le_of_ble_eq_true rfl⟩ hM rfl hl.1 rfl (Nat.le_of_ble_eq_true rfl) dModel_lookLogic_233 ⟨Nat.zero_le _, Nat.zero_le _⟩ (fun r83 hr83 => ?_)
                      refine mu_Vv (rest := []) S hC (fun q h => hA q (Nat.le_trans hS.1 h)) (fun q h => h) hS (m_setElement l γ a B Z κ b mn ν τ σ F_202 nur46 hT x1 i5_202 r83 (el_in (by assumption) (by assumption) (by omega))) meModel_setElement qw_143403ccb9 ⟨Nat.le_of_ble_eq_true rfl, Nat.le_of_ble_eq_true rfl⟩ (md_rv hC hM) hM rfl hl.1 rfl (Nat.le_of_ble_eq_true rfl) dModel_lookLogic_236 ⟨Nat.le_refl _, Nat.le_refl _⟩ (fun H locs hPO hS _ _ => ?_)
                      obtain ⟨Fr84, hM, hqr84⟩ := hPO
                      have hZ : SZ Fr84 := hZ.e14 hqr84
                      have hL : SL x1.toNatClampNeg F nu Fr84 nur46 := hL.trans (SL.e14 hqr84)
                      have hK : GK x1.toNatClampNeg Fr84 nur46 := hK.e14 hqr84
                      obtain ⟨v85, ev85⟩ : ∃ y : Int32, y = i5_202 + 1 := ⟨_, rfl⟩
                      refine lv_iinc (v := v85) (lv' := [(5, .int v85), (0, .ref a), (1, .int x1), (2, .int x2), (3, .int x3), (4, .int x4)]) hx hb dModel_lookLogic_239 hl (k := 5) rfl (by rw [ev85]; rfl) (by decide) rfl (fun ls hl => ?_)
                      refine lv_goto (tgt := 202) hx hb dModel_lookLogic_242 (by decide) ?_
                      exact ih202 _ (by have q1 : i5_202.toInt < 2147483647 := (by first | assumption | exact (mu_up (k := i5_202) (by assumption)).2); have q2 := mu_lt q1; rw [← ev85] at q2; omega) ls _ _ Fr84 v85 hM hS hK hL hZ (by first | decide | exact nn_inc (by assumption) (by assumption) (by assumption)) rfl (lv_sub hl [1, 2, 3, 4, 5, 0] rfl)
                exact J202 _ ls _ _ Fr46 0 hM hS hK hL hZ (by first | decide | exact nn_inc (by assumption) (by assumption) (by assumption)) rfl (lv_sub hl [1, 2, 3, 4, 5, 0] rfl)
              · refine lv_aload_n hx hb dModel_lookLogic_170 rfl (lv_at hl 0 rfl) ?_
                refine md_gA S hC hM 13 (by decide) rfl qw_7b809afc8c dModel_lookLogic_171 ?_
                refine lv_iload_n hx hb dModel_lookLogic_174 rfl (lv_at hl 1 rfl) ?_
                refine lv_iload_n hx hb dModel_lookLogic_175 rfl (lv_at hl 2 rfl) ?_
                refine lv_aload_n hx hb dModel_lookLogic_176 rfl (lv_at hl 0 rfl) ?_
                refine md_gA S hC hM 13 (by decide) rfl qw_7b809afc8c dModel_lookLogic_177 ?_
                refine lv_iload_n hx hb dModel_lookLogic_180 rfl (lv_at hl 3 rfl) ?_
                refine md_lld S hC hM (vin (by assumption) (by omega)) dModel_lookLogic_181 ?_
                refine lv_topl (fun v86 ev86 => ?_)
                have ev86 : v86 = nur46 x3.toNatClampNeg := ev86
                refine lv_l2i hx hb dModel_lookLogic_182 rfl ?_
                refine lv_topi (fun v87 ev87 => ?_)
                refine lv_aload_n hx hb dModel_lookLogic_183 rfl (lv_at hl 0 rfl) ?_
                refine md_gA S hC hM 13 (by decide) rfl qw_7b809afc8c dModel_lookLogic_184 ?_
                refine lv_iload hx hb dModel_lookLogic_187 (lv_at hl 4 rfl) ?_
                refine md_lld S hC hM (vin (by assumption) (by omega)) dModel_lookLogic_189 ?_
                refine lv_topl (fun v88 ev88 => ?_)
                have ev88 : v88 = nur46 x4.toNatClampNeg := ev88
                refine lv_l2i hx hb dModel_lookLogic_190 rfl ?_
                refine lv_topi (fun v89 ev89 => ?_)
                refine pu_Si (rest := [.int x1, .ref (B 13)]) S hC (m_logic l γ _ x2 v87 v89) meModel_logic qw_47bf7afb29 ⟨Nat.le_of_ble_eq_true rfl, Nat.le_of_ble_eq_true rfl⟩ hM rfl hl.1 rfl (Nat.le_of_ble_eq_true rfl) dModel_lookLogic_191 ⟨Nat.zero_le _, Nat.zero_le _⟩ (fun r90 hr90 => ?_)
                refine lv_i2l hx hb dModel_lookLogic_194 rfl ?_
                refine lv_topl (fun v91 ev91 => ?_)
                have hgnu92 : Fr46 9 x1.toNatClampNeg = 2 → -2147483648 < (v91 : Int64).toInt ∧ (v91 : Int64).toInt < 2147483648 := (fun h9 => absurd h9 (gk_eq hqr46 ev11 ha ev77 (by assumption) (by decide)))
                refine md_lst S hC hM hS (vin (by assumption) (by omega)) dModel_lookLogic_195 (fun H locs hM hS => ?_)
                obtain ⟨nu92, enu92⟩ : ∃ z : Nat → Int64, z = vp_updL nur46 x1.toNatClampNeg v91 := ⟨_, rfl⟩
                rw [← enu92] at hM
                have hL : SL x1.toNatClampNeg F nu Fr46 nu92 := hL.trans (by rw [enu92]; exact SL.num)
                have hK : GK x1.toNatClampNeg Fr46 nu92 := by rw [enu92]; exact GK.num hgnu92
                refine lv_goto (tgt := 245) hx hb dModel_lookLogic_196 (by decide) ?_
                exact J245 ls _ _ Fr46 nu92 hM hS hK hL hZ (lv_sub hl [0, 1, 2, 3, 4] rfl)
            · refine lv_aload_n hx hb dModel_lookLogic_107 rfl (lv_at hl 0 rfl) ?_
              refine md_gA S hC hM 13 (by decide) rfl qw_7b809afc8c dModel_lookLogic_108 ?_
              refine lv_iload_n hx hb dModel_lookLogic_111 rfl (lv_at hl 1 rfl) ?_
              refine lv_iload_n hx hb dModel_lookLogic_112 rfl (lv_at hl 2 rfl) ?_
              refine lv_aload_n hx hb dModel_lookLogic_113 rfl (lv_at hl 0 rfl) ?_
              refine md_gA S hC hM 13 (by decide) rfl qw_7b809afc8c dModel_lookLogic_114 ?_
              refine lv_iload_n hx hb dModel_lookLogic_117 rfl (lv_at hl 3 rfl) ?_
              refine md_lld S hC hM (vin (by assumption) (by omega)) dModel_lookLogic_118 ?_
              refine lv_topl (fun v93 ev93 => ?_)
              have ev93 : v93 = nur46 x3.toNatClampNeg := ev93
              refine lv_lconst (v := 1) hx hb dModel_lookLogic_119 (by decide) ?_
              refine W.lcmp hx hb dModel_lookLogic_120 ?_
              refine lv_topi (fun v94 ev94 => ?_)
              have J129 : ∀ (ls : Array Slot) (t0_129 : Int32), lv_has ls 6 [(0, .ref a), (1, .int x1), (2, .int x2), (3, .int x3), (4, .int x4)] → W p l e (bs_rm 3 0 0 66) s m args below meth c H locs 0 0 Q (F0 m 129 ls [.int t0_129, .int x2, .int x1, .ref (B 13)]) := by
                intro ls t0_129 hl
                refine lv_aload_n hx hb dModel_lookLogic_129 rfl (lv_at hl 0 rfl) ?_
                refine md_gA S hC hM 13 (by decide) rfl qw_7b809afc8c dModel_lookLogic_130 ?_
                refine lv_iload hx hb dModel_lookLogic_133 (lv_at hl 4 rfl) ?_
                refine md_lld S hC hM (vin (by assumption) (by omega)) dModel_lookLogic_135 ?_
                refine lv_topl (fun v102 ev102 => ?_)
                have ev102 : v102 = nur46 x4.toNatClampNeg := ev102
                refine lv_lconst (v := 1) hx hb dModel_lookLogic_136 (by decide) ?_
                refine W.lcmp hx hb dModel_lookLogic_137 ?_
                refine lv_topi (fun v103 ev103 => ?_)
                have J146 : ∀ (ls : Array Slot) (t0_146 : Int32), lv_has ls 6 [(0, .ref a), (1, .int x1), (2, .int x2), (3, .int x3), (4, .int x4)] → W p l e (bs_rm 3 0 0 66) s m args below meth c H locs 0 0 Q (F0 m 146 ls [.int t0_146, .int t0_129, .int x2, .int x1, .ref (B 13)]) := by
                  intro ls t0_146 hl
                  refine pu_Si (rest := [.int x1, .ref (B 13)]) S hC (m_truth l γ _ x2 t0_129 t0_146) meModel_truth qw_32c72cc6df ⟨Nat.le_of_ble_eq_true rfl, Nat.le_of_ble_eq_true rfl⟩ hM rfl hl.1 rfl (Nat.le_of_ble_eq_true rfl) dModel_lookLogic_146 ⟨Nat.zero_le _, Nat.zero_le _⟩ (fun r108 hr108 => ?_)
                  have J157 : ∀ (ls : Array Slot) (t0_157 : Int64), (t0_157 = 0 ∨ t0_157 = 1) → lv_has ls 6 [(0, .ref a), (1, .int x1), (2, .int x2), (3, .int x3), (4, .int x4)] → W p l e (bs_rm 3 0 0 66) s m args below meth c H locs 0 0 Q (F0 m 157 ls [.long t0_157, .int x1, .ref (B 13)]) := by
                    intro ls t0_157 ht0_157 hl
                    have hgnu111 : Fr46 9 x1.toNatClampNeg = 2 → -2147483648 < (t0_157 : Int64).toInt ∧ (t0_157 : Int64).toInt < 2147483648 := (fun _ => by rcases ht0_157 with h9 | h9 <;> rw [h9] <;> decide)
                    refine md_lst S hC hM hS (vin (by assumption) (by omega)) dModel_lookLogic_157 (fun H locs hM hS => ?_)
                    obtain ⟨nu111, enu111⟩ : ∃ z : Nat → Int64, z = vp_updL nur46 x1.toNatClampNeg t0_157 := ⟨_, rfl⟩
                    rw [← enu111] at hM
                    have hL : SL x1.toNatClampNeg F nu Fr46 nu111 := hL.trans (by rw [enu111]; exact SL.num)
                    have hK : GK x1.toNatClampNeg Fr46 nu111 := by rw [enu111]; exact GK.num hgnu111
                    refine lv_goto (tgt := 245) hx hb dModel_lookLogic_158 (by decide) ?_
                    exact J245 ls _ _ Fr46 nu111 hM hS hK hL hZ (lv_sub hl [0, 1, 2, 3, 4] rfl)
                  refine lv_if_eq (tgt := 156) hx hb dModel_lookLogic_149 (by decide) (fun c112 => ?_) (fun c112 => ?_)
                  · refine lv_lconst (v := 0) hx hb dModel_lookLogic_156 (by decide) ?_
                    exact J157 ls 0 (by first | assumption | exact Or.inl rfl | exact Or.inr rfl) (lv_sub hl [0, 1, 2, 3, 4] rfl)
                  · refine lv_lconst (v := 1) hx hb dModel_lookLogic_152 (by decide) ?_
                    refine lv_goto (tgt := 157) hx hb dModel_lookLogic_153 (by decide) ?_
                    exact J157 ls 1 (by first | assumption | exact Or.inl rfl | exact Or.inr rfl) (lv_sub hl [0, 1, 2, 3, 4] rfl)
                refine lv_if_ne (tgt := 145) hx hb dModel_lookLogic_138 (by decide) (fun c113 => ?_) (fun c113 => ?_)
                · refine lv_iconst (v := 0) hx hb dModel_lookLogic_145 (by decide) ?_
                  exact J146 ls 0 (lv_sub hl [0, 1, 2, 3, 4] rfl)
                · refine lv_iconst (v := 1) hx hb dModel_lookLogic_141 (by decide) ?_
                  refine lv_goto (tgt := 146) hx hb dModel_lookLogic_142 (by decide) ?_
                  exact J146 ls 1 (lv_sub hl [0, 1, 2, 3, 4] rfl)
              refine lv_if_ne (tgt := 128) hx hb dModel_lookLogic_121 (by decide) (fun c114 => ?_) (fun c114 => ?_)
              · refine lv_iconst (v := 0) hx hb dModel_lookLogic_128 (by decide) ?_
                exact J129 ls 0 (lv_sub hl [0, 1, 2, 3, 4] rfl)
              · refine lv_iconst (v := 1) hx hb dModel_lookLogic_124 (by decide) ?_
                refine lv_goto (tgt := 129) hx hb dModel_lookLogic_125 (by decide) ?_
                exact J129 ls 1 (lv_sub hl [0, 1, 2, 3, 4] rfl)
          have J93 : ∀ (ls : Array Slot), lv_has ls 6 [(0, .ref a), (1, .int x1), (2, .int x2), (3, .int x3), (4, .int x4)] → W p l e (bs_rm 3 0 0 66) s m args below meth c s.heap [] 0 0 Q (F0 m 93 ls [.int v12, .int v11, .int x1, .ref a]) := by
            intro ls hl
            refine lv_iconst (v := 0) hx hb dModel_lookLogic_93 (by decide) ?_
            exact J94 ls 0 (lv_sub hl [0, 1, 2, 3, 4] rfl)
          refine lv_if_eq (tgt := 93) hx hb dModel_lookLogic_76 (by decide) (fun c115 => ?_) (fun c115 => ?_)
          · exact J93 ls  (lv_sub hl [0, 1, 2, 3, 4] rfl)
          · refine lv_aload_n hx hb dModel_lookLogic_79 rfl (lv_at hl 0 rfl) ?_
            refine md_gA S hC hM 11 (by decide) rfl qw_88b9028ba7 dModel_lookLogic_80 ?_
            refine lv_iload hx hb dModel_lookLogic_83 (lv_at hl 4 rfl) ?_
            refine md_zld S hC hM 11 7 10000 (F 11) rfl rfl (by decide) rfl rfl (vin (by assumption) (by omega)) dModel_lookLogic_85 ?_
            refine lv_topi (fun v116 ev116 => ?_)
            refine lv_if_eq (tgt := 93) hx hb dModel_lookLogic_86 (by decide) (fun c117 => ?_) (fun c117 => ?_)
            · exact J93 ls  (lv_sub hl [0, 1, 2, 3, 4] rfl)
            · refine lv_iconst (v := 1) hx hb dModel_lookLogic_89 (by decide) ?_
              refine lv_goto (tgt := 94) hx hb dModel_lookLogic_90 (by decide) ?_
              exact J94 ls 1 (lv_sub hl [0, 1, 2, 3, 4] rfl)
        · refine lv_iconst (v := 4) hx hb dModel_lookLogic_54 (by decide) ?_
          exact hE _ _ _ _ _ hS ⟨σ, F, nu, hM, hZ, hF, hL, (fun h9 => absurd (show (0 : Int32) < 4 by decide) h9)⟩ dModel_lookLogic_55
      · refine lv_iconst (v := 3) hx hb dModel_lookLogic_36 (by decide) ?_
        exact hE _ _ _ _ _ hS ⟨σ, F, nu, hM, hZ, hF, hL, (fun h9 => absurd (show (0 : Int32) < 3 by decide) h9)⟩ dModel_lookLogic_37
theorem qw_f576e3fc3c : (Cond.methodLink R_Model 220 yModel_isClear) ∈ bs_W0 := bs_in (in_tables_1_6 (List.mem_of_getElem? (i := 137) rfl)) rfl
set_option maxHeartbeats 4000000 in
set_option maxRecDepth 100000 in
theorem m_lookOrder (l : Launch) (γ : gE) (a : Nat) (B : Nat → Nat) (Z : Nat → Prop) (κ b mn : Nat → Nat) (ν : Nat → Int32) (τ : Nat → Nat → Int32) (σ : Nat → Int32) (F : Nat → Nat → Int32) (nu : Nat → Int64) (hT : ST κ b mn ν τ) (x1 : Int32) (x2 : Int32) (x3 : Int32) (x4 : Int32) (hx1 : vp_in x1 (κ 0)) (hx3 : vp_in x3 (κ 0)) (hx4 : vp_in x4 (κ 0)) (ha : x3.toNatClampNeg < x1.toNatClampNeg) (hbk : x4.toNatClampNeg < x1.toNatClampNeg) (hZ : SZ F) (hF : FD σ) : MU l yModel_lookOrder bModel_lookOrder 10 (some .int) 2 48 0 0 [.ref a, .int x1, .int x2, .int x3, .int x4] γ Z (MD γ a B Z ν τ σ F nu) (mQi (fun r H => LKo γ a B Z ν τ x1.toNatClampNeg F nu r H) Z) := by
  refine mu_openI (by decide) (Nat.le_of_ble_eq_true rfl) ?_
  intro p e s m args below meth c ls Q S hnm hC hA hM hE hl
  have hS : va_S Z s.heap s.heap [] := va_S.rf
  obtain ⟨hx, hb, hml, hown, hW⟩ := id S
  obtain ⟨⟨hs0, hs1, hs2, hs3, hs4, hs5, hs6⟩, ⟨hv6, hv8, hv21, hv24, hv30, hv31⟩, hTR, hTY, hOB, hNM⟩ := id hT
  have hL : SL x1.toNatClampNeg F nu F nu := SL.rf
  have hl : lv_has ls 10 [(0, .ref a), (1, .int x1), (2, .int x2), (3, .int x3), (4, .int x4)] := hl
  refine lv_aload_n hx hb dModel_lookOrder_0 rfl (lv_at hl 0 rfl) ?_
  refine md_gA S hC hM 9 (by decide) rfl qw_a119aeeca0 dModel_lookOrder_1 ?_
  refine lv_iload_n hx hb dModel_lookOrder_4 rfl (lv_at hl 3 rfl) ?_
  refine md_ild S hC hM 9 5 10000 (F 9) rfl rfl (by decide) rfl rfl (vin (by assumption) (by omega)) dModel_lookOrder_5 ?_
  refine lv_topi (fun v1 ev1 => ?_)
  refine lv_aload_n hx hb dModel_lookOrder_6 rfl (lv_at hl 0 rfl) ?_
  refine md_gA S hC hM 9 (by decide) rfl qw_a119aeeca0 dModel_lookOrder_7 ?_
  refine lv_iload hx hb dModel_lookOrder_10 (lv_at hl 4 rfl) ?_
  refine md_ild S hC hM 9 5 10000 (F 9) rfl rfl (by decide) rfl rfl (vin (by assumption) (by omega)) dModel_lookOrder_12 ?_
  refine lv_topi (fun v2 ev2 => ?_)
  refine lv_icmp_ne (tgt := 67) hx hb dModel_lookOrder_13 (by decide) (fun c3 => ?_) (fun c3 => ?_)
  · refine lv_iconst (v := 3) hx hb dModel_lookOrder_67 (by decide) ?_
    exact hE _ _ _ _ _ hS ⟨σ, F, nu, hM, hZ, hF, hL, (fun h9 => absurd (show (0 : Int32) < 3 by decide) h9)⟩ dModel_lookOrder_68
  · refine lv_aload_n hx hb dModel_lookOrder_16 rfl (lv_at hl 0 rfl) ?_
    refine md_gA S hC hM 9 (by decide) rfl qw_a119aeeca0 dModel_lookOrder_17 ?_
    refine lv_iload_n hx hb dModel_lookOrder_20 rfl (lv_at hl 3 rfl) ?_
    refine md_ild S hC hM 9 5 10000 (F 9) rfl rfl (by decide) rfl rfl (vin (by assumption) (by omega)) dModel_lookOrder_21 ?_
    refine lv_topi (fun v4 ev4 => ?_)
    refine lv_iconst (v := 4) hx hb dModel_lookOrder_22 (by decide) ?_
    have J42 : ∀ (ls : Array Slot), lv_has ls 10 [(0, .ref a), (1, .int x1), (2, .int x2), (3, .int x3), (4, .int x4)] → W p l e (bs_rm 2 0 0 48) s m args below meth c s.heap [] 0 0 Q (F0 m 42 ls []) := by
      intro ls hl
      refine lv_iload_n hx hb dModel_lookOrder_42 rfl (lv_at hl 2 rfl) ?_
      refine lv_bipush (v := 7) hx hb dModel_lookOrder_43 (by decide) ?_
      have J69 : ∀ (ls : Array Slot), lv_has ls 10 [(0, .ref a), (1, .int x1), (2, .int x2), (3, .int x3), (4, .int x4)] → W p l e (bs_rm 2 0 0 48) s m args below meth c s.heap [] 0 0 Q (F0 m 69 ls []) := by
        intro ls hl
        refine lv_aload_n hx hb dModel_lookOrder_69 rfl (lv_at hl 0 rfl) ?_
        refine md_gA S hC hM 10 (by decide) rfl qw_bd0251c605 dModel_lookOrder_70 ?_
        refine lv_iload_n hx hb dModel_lookOrder_73 rfl (lv_at hl 3 rfl) ?_
        refine md_ild S hC hM 10 6 10000 (F 10) rfl rfl (by decide) rfl rfl (vin (by assumption) (by omega)) dModel_lookOrder_74 ?_
        refine lv_topi (fun v141 ev141 => ?_)
        refine lv_aload_n hx hb dModel_lookOrder_75 rfl (lv_at hl 0 rfl) ?_
        refine md_gA S hC hM 10 (by decide) rfl qw_bd0251c605 dModel_lookOrder_76 ?_
        refine lv_iload hx hb dModel_lookOrder_79 (lv_at hl 4 rfl) ?_
        refine md_ild S hC hM 10 6 10000 (F 10) rfl rfl (by decide) rfl rfl (vin (by assumption) (by omega)) dModel_lookOrder_81 ?_
        refine lv_topi (fun v142 ev142 => ?_)
        refine lv_icmp_eq (tgt := 87) hx hb dModel_lookOrder_82 (by decide) (fun c143 => ?_) (fun c143 => ?_)
        · refine lv_aload_n hx hb dModel_lookOrder_87 rfl (lv_at hl 0 rfl) ?_
          refine md_gA S hC hM 9 (by decide) rfl qw_a119aeeca0 dModel_lookOrder_88 ?_
          refine lv_iload_n hx hb dModel_lookOrder_91 rfl (lv_at hl 3 rfl) ?_
          refine md_ild S hC hM 9 5 10000 (F 9) rfl rfl (by decide) rfl rfl (vin (by assumption) (by omega)) dModel_lookOrder_92 ?_
          refine lv_topi (fun v144 ev144 => ?_)
          refine lv_iconst (v := 3) hx hb dModel_lookOrder_93 (by decide) ?_
          have J102 : ∀ (ls : Array Slot) (t0_102 : Int32), lv_has ls 10 [(0, .ref a), (1, .int x1), (2, .int x2), (3, .int x3), (4, .int x4)] → W p l e (bs_rm 2 0 0 48) s m args below meth c s.heap [] 0 0 Q (F0 m 102 ls [.int t0_102]) := by
            intro ls t0_102 hl
            refine lv_istore (lv' := [(5, .int t0_102), (0, .ref a), (1, .int x1), (2, .int x2), (3, .int x3), (4, .int x4)]) hx hb dModel_lookOrder_102 hl (by decide) rfl (fun ls hl => ?_)
            refine lv_aload_n hx hb dModel_lookOrder_104 rfl (lv_at hl 1 rfl) ?_
            refine md_gA S hC hM 13 (by decide) rfl qw_7b809afc8c dModel_lookOrder_105 ?_
            refine lv_iload_n hx hb dModel_lookOrder_108 rfl (lv_at hl 4 rfl) ?_
            refine md_lld S hC hM (vin (by assumption) (by omega)) dModel_lookOrder_109 ?_
            refine lv_topl (fun v202 ev202 => ?_)
            have ev202 : v202 = nu x3.toNatClampNeg := ev202
            refine lv_aload_n hx hb dModel_lookOrder_110 rfl (lv_at hl 1 rfl) ?_
            refine md_gA S hC hM 13 (by decide) rfl qw_7b809afc8c dModel_lookOrder_111 ?_
            refine lv_iload hx hb dModel_lookOrder_114 (lv_at hl 5 rfl) ?_
            refine md_lld S hC hM (vin (by assumption) (by omega)) dModel_lookOrder_116 ?_
            refine lv_topl (fun v203 ev203 => ?_)
            have ev203 : v203 = nu x4.toNatClampNeg := ev203
            refine W.lcmp hx hb dModel_lookOrder_117 ?_
            refine lv_topi (fun v204 ev204 => ?_)
            have J126 : ∀ (ls : Array Slot) (t0_126 : Int32), lv_has ls 10 [(0, .ref a), (1, .int x1), (2, .int x2), (3, .int x3), (4, .int x4), (5, .int t0_102)] → W p l e (bs_rm 2 0 0 48) s m args below meth c s.heap [] 0 0 Q (F0 m 126 ls [.int t0_126]) := by
              intro ls t0_126 hl
              refine lv_istore (lv' := [(6, .int t0_126), (0, .ref a), (1, .int x1), (2, .int x2), (3, .int x3), (4, .int x4), (5, .int t0_102)]) hx hb dModel_lookOrder_126 hl (by decide) rfl (fun ls hl => ?_)
              refine lv_iconst (v := 0) hx hb dModel_lookOrder_128 (by decide) ?_
              refine lv_istore (lv' := [(7, .int 0), (6, .int t0_126), (0, .ref a), (1, .int x1), (2, .int x2), (3, .int x3), (4, .int x4), (5, .int t0_102)]) hx hb dModel_lookOrder_129 hl (by decide) rfl (fun ls hl => ?_)
              have J131 : ∀ (N131 : Nat) (ls : Array Slot) (i7_131 : Int32) (i6_131 : Int32), (¬ i7_131 < 0) → (2147483647 - i7_131.toInt).toNat = N131 → lv_has ls 10 [(0, .ref a), (1, .int x1), (2, .int x2), (3, .int x3), (4, .int x4), (5, .int t0_102), (6, .int i6_131), (7, .int i7_131)] → W p l e (bs_rm 2 0 0 48) s m args below meth c s.heap [] 0 0 Q (F0 m 131 ls []) := by
                intro N131
                induction N131 using Nat.strongRecOn with
                | ind N131 ih131 =>
                  intro ls i7_131 i6_131 hi7_131 hm131 hl
                  refine lv_iload hx hb dModel_lookOrder_131 (lv_at hl 7 rfl) ?_
                  refine lv_aload_n hx hb dModel_lookOrder_133 rfl (lv_at hl 0 rfl) ?_
                  refine md_gA S hC hM 10 (by decide) rfl qw_bd0251c605 dModel_lookOrder_134 ?_
                  refine lv_iload_n hx hb dModel_lookOrder_137 rfl (lv_at hl 3 rfl) ?_
                  refine md_ild S hC hM 10 6 10000 (F 10) rfl rfl (by decide) rfl rfl (vin (by assumption) (by omega)) dModel_lookOrder_138 ?_
                  refine lv_topi (fun v258 ev258 => ?_)
                  have J183 : ∀ (ls : Array Slot), lv_has ls 10 [(0, .ref a), (1, .int x1), (2, .int x2), (3, .int x3), (4, .int x4), (5, .int t0_102), (6, .int i6_131), (7, .int i7_131)] → W p l e (bs_rm 2 0 0 48) s m args below meth c s.heap [] 0 0 Q (F0 m 183 ls []) := by
                    intro ls hl
                    refine lv_aload_n hx hb dModel_lookOrder_183 rfl (lv_at hl 0 rfl) ?_
                    refine lv_iload_n hx hb dModel_lookOrder_184 rfl (lv_at hl 1 rfl) ?_
                    refine lv_iconst (v := 1) hx hb dModel_lookOrder_185 (by decide) ?_
                    refine lv_iconst (v := 0) hx hb dModel_lookOrder_186 (by decide) ?_
                    refine lv_aload_n hx hb dModel_lookOrder_187 rfl (lv_at hl 0 rfl) ?_
                    refine md_gA S hC hM 11 (by decide) rfl qw_88b9028ba7 dModel_lookOrder_188 ?_
                    refine lv_iload_n hx hb dModel_lookOrder_191 rfl (lv_at hl 3 rfl) ?_
                    refine md_zld S hC hM 11 7 10000 (F 11) rfl rfl (by decide) rfl rfl (vin (by assumption) (by omega)) dModel_lookOrder_192 ?_
                    refine lv_topi (fun v310 ev310 => ?_)
                    have J211 : ∀ (ls : Array Slot) (t0_211 : Int32), lv_has ls 10 [(0, .ref a), (1, .int x1), (2, .int x2), (3, .int x3), (4, .int x4), (5, .int t0_102), (6, .int i6_131), (7, .int i7_131)] → W p l e (bs_rm 2 0 0 48) s m args below meth c s.heap [] 0 0 Q (F0 m 211 ls [.int t0_211, .int 0, .int 1, .int x1, .ref a]) := by
                      intro ls t0_211 hl
                      have hnr354 : ∃ j, j ≤ 1000 ∧ 0 = nI j := ⟨0, by omega, rfl⟩
                      refine mu_Vv (rest := []) S hC (fun q h => hA q (Nat.le_trans hS.1 h)) (fun q h => h) hS (m_fact l γ a B Z κ b mn ν τ σ F nu hT x1 1 0 t0_211 (vin (by assumption) (by omega)) hnr354) meModel_fact qw_02871250ec ⟨Nat.le_of_ble_eq_true rfl, Nat.le_of_ble_eq_true rfl⟩ (md_rv hC hM) hM rfl hl.1 rfl (Nat.le_of_ble_eq_true rfl) dModel_lookOrder_211 ⟨Nat.le_refl _, Nat.le_refl _⟩ (fun H locs hPO hS _ _ => ?_)
                      obtain ⟨Fr354, nur354, hM, hqr354, hcr354⟩ := hPO
                      have hZ : SZ Fr354 := hZ.slt hqr354 hnr354
                      have hL : SL x1.toNatClampNeg F nu Fr354 nur354 := hL.trans (SL.slt hqr354)
                      have hK : GK x1.toNatClampNeg Fr354 nur354 := GK.zero hqr354
                      refine lv_iload_n hx hb dModel_lookOrder_214 rfl (lv_at hl 2 rfl) ?_
                      refine lv_bipush (v := 6) hx hb dModel_lookOrder_215 (by decide) ?_
                      have J235 : ∀ (ls : Array Slot) (t0_235 : Int32), lv_has ls 10 [(0, .ref a), (1, .int x1), (2, .int x2), (3, .int x3), (4, .int x4), (5, .int t0_102), (6, .int i6_131), (7, .int i7_131)] → W p l e (bs_rm 2 0 0 48) s m args below meth c H locs 0 0 Q (F0 m 235 ls [.int t0_235]) := by
                        intro ls t0_235 hl
                        refine lv_istore (lv' := [(7, .int t0_235), (0, .ref a), (1, .int x1), (2, .int x2), (3, .int x3), (4, .int x4), (5, .int t0_102), (6, .int i6_131)]) hx hb dModel_lookOrder_235 hl (by decide) rfl (fun ls hl => ?_)
                        refine lv_iload_n hx hb dModel_lookOrder_237 rfl (lv_at hl 3 rfl) ?_
                        refine lv_bipush (v := 7) hx hb dModel_lookOrder_238 (by decide) ?_
                        have J453 : ∀ (ls : Array Slot) (i7_453 : Int32), lv_has ls 10 [(0, .ref a), (1, .int x1), (2, .int x2), (3, .int x3), (4, .int x4), (5, .int t0_102), (6, .int i6_131), (7, .int i7_453)] → W p l e (bs_rm 2 0 0 48) s m args below meth c H locs 0 0 Q (F0 m 453 ls []) := by
                          intro ls i7_453 hl
                          refine lv_aload_n hx hb dModel_lookOrder_453 rfl (lv_at hl 0 rfl) ?_
                          refine md_gA S hC hM 13 (by decide) rfl qw_7b809afc8c dModel_lookOrder_454 ?_
                          refine lv_iload_n hx hb dModel_lookOrder_457 rfl (lv_at hl 1 rfl) ?_
                          refine lv_iload hx hb dModel_lookOrder_458 (lv_at hl 7 rfl) ?_
                          have J468 : ∀ (ls : Array Slot) (t0_468 : Int64), (t0_468 = 0 ∨ t0_468 = 1) → lv_has ls 10 [(0, .ref a), (1, .int x1), (2, .int x2), (3, .int x3), (4, .int x4), (5, .int t0_102), (6, .int i6_131), (7, .int i7_453)] → W p l e (bs_rm 2 0 0 48) s m args below meth c H locs 0 0 Q (F0 m 468 ls [.long t0_468, .int x1, .ref (B 13)]) := by
                            intro ls t0_468 ht0_468 hl
                            have hgnu434 : Fr354 9 x1.toNatClampNeg = 2 → -2147483648 < (t0_468 : Int64).toInt ∧ (t0_468 : Int64).toInt < 2147483648 := (fun _ => by rcases ht0_468 with h9 | h9 <;> rw [h9] <;> decide)
                            refine md_lst S hC hM hS (vin (by assumption) (by omega)) dModel_lookOrder_468 (fun H locs hM hS => ?_)
                            obtain ⟨nu434, enu434⟩ : ∃ z : Nat → Int64, z = vp_updL nur354 x1.toNatClampNeg t0_468 := ⟨_, rfl⟩
                            rw [← enu434] at hM
                            have hL : SL x1.toNatClampNeg F nu Fr354 nu434 := hL.trans (by rw [enu434]; exact SL.num)
                            have hK : GK x1.toNatClampNeg Fr354 nu434 := by rw [enu434]; exact GK.num hgnu434
                            refine lv_aload_n hx hb dModel_lookOrder_469 rfl (lv_at hl 0 rfl) ?_
                            refine lv_iload_n hx hb dModel_lookOrder_470 rfl (lv_at hl 1 rfl) ?_
                            refine mu_Vi (rest := []) S hC (fun q h => hA q (Nat.le_trans hS.1 h)) (fun q h => h) hS (m_known l γ a B Z κ b mn ν τ σ Fr354 nu434 hT x1 (vin (by assumption) (by omega))) meModel_known qw_aa15322dc3 ⟨Nat.le_of_ble_eq_true rfl, Nat.le_of_ble_eq_true rfl⟩ (md_rv hC hM) hM rfl hl.1 rfl (Nat.le_of_ble_eq_true rfl) dModel_lookOrder_471 ⟨Nat.le_refl _, Nat.le_refl _⟩ (fun r435 H locs hPO hS _ _ => ?_)
                            obtain ⟨hrr435, Fr435, nur435, hM, hqr435, hnr435⟩ := hPO
                            have hZ : SZ Fr435 := hZ.e14 hqr435
                            have hL : SL x1.toNatClampNeg F nu Fr435 nur435 := hL.trans (SL.kn hqr435 hnr435)
                            have hK : GK x1.toNatClampNeg Fr435 nur435 := hK.kn hqr435 hnr435
                            exact hE _ _ _ _ _ hS ⟨σ, Fr435, nur435, hM, hZ, hF, hL, (fun _ => hK)⟩ dModel_lookOrder_474
                          refine lv_if_eq (tgt := 467) hx hb dModel_lookOrder_460 (by decide) (fun c436 => ?_) (fun c436 => ?_)
                          · refine lv_lconst (v := 0) hx hb dModel_lookOrder_467 (by decide) ?_
                            exact J468 ls 0 (by first | assumption | exact Or.inl rfl | exact Or.inr rfl) (lv_sub hl [0, 1, 2, 3, 4, 5, 6, 7] rfl)
                          · refine lv_lconst (v := 1) hx hb dModel_lookOrder_463 (by decide) ?_
                            refine lv_goto (tgt := 468) hx hb dModel_lookOrder_464 (by decide) ?_
                            exact J468 ls 1 (by first | assumption | exact Or.inl rfl | exact Or.inr rfl) (lv_sub hl [0, 1, 2, 3, 4, 5, 6, 7] rfl)
                        refine lv_icmp_le (tgt := 453) hx hb dModel_lookOrder_240 (by decide) (fun c437 => ?_) (fun c437 => ?_)
                        · exact J453 ls t0_235 (lv_sub hl [1, 2, 3, 4, 5, 6, 7, 0] rfl)
                        · refine lv_aload_n hx hb dModel_lookOrder_243 rfl (lv_at hl 1 rfl) ?_
                          refine md_gA S hC hM 13 (by decide) rfl qw_7b809afc8c dModel_lookOrder_244 ?_
                          refine lv_iload_n hx hb dModel_lookOrder_247 rfl (lv_at hl 4 rfl) ?_
                          refine md_lld S hC hM (vin (by assumption) (by omega)) dModel_lookOrder_248 ?_
                          refine lv_topl (fun v438 ev438 => ?_)
                          have ev438 : v438 = nur354 x3.toNatClampNeg := ev438
                          refine lv_aload_n hx hb dModel_lookOrder_249 rfl (lv_at hl 1 rfl) ?_
                          refine md_gA S hC hM 13 (by decide) rfl qw_7b809afc8c dModel_lookOrder_250 ?_
                          refine lv_iload hx hb dModel_lookOrder_253 (lv_at hl 5 rfl) ?_
                          refine md_lld S hC hM (vin (by assumption) (by omega)) dModel_lookOrder_255 ?_
                          refine lv_topl (fun v439 ev439 => ?_)
                          have ev439 : v439 = nur354 x4.toNatClampNeg := ev439
                          refine W.lcmp hx hb dModel_lookOrder_256 ?_
                          refine lv_topi (fun v440 ev440 => ?_)
                          have J286 : ∀ (ls : Array Slot) (t0_286 : Int32), lv_has ls 10 [(0, .ref a), (1, .int x1), (2, .int x2), (3, .int x3), (4, .int x4), (5, .int t0_102), (6, .int i6_131), (7, .int t0_235)] → W p l e (bs_rm 2 0 0 48) s m args below meth c H locs 0 0 Q (F0 m 286 ls [.int t0_286]) := by
                            intro ls t0_286 hl
                            refine lv_istore (lv' := [(8, .int t0_286), (0, .ref a), (1, .int x1), (2, .int x2), (3, .int x3), (4, .int x4), (5, .int t0_102), (6, .int i6_131), (7, .int t0_235)]) hx hb dModel_lookOrder_286 hl (by decide) rfl (fun ls hl => ?_)
                            refine lv_iconst (v := 0) hx hb dModel_lookOrder_288 (by decide) ?_
                            refine lv_istore (lv' := [(9, .int 0), (8, .int t0_286), (0, .ref a), (1, .int x1), (2, .int x2), (3, .int x3), (4, .int x4), (5, .int t0_102), (6, .int i6_131), (7, .int t0_235)]) hx hb dModel_lookOrder_289 hl (by decide) rfl (fun ls hl => ?_)
                            have J291 : ∀ (N291 : Nat) (ls : Array Slot) (i9_291 : Int32) (i8_291 : Int32), (¬ i9_291 < 0) → (2147483647 - i9_291.toInt).toNat = N291 → lv_has ls 10 [(0, .ref a), (1, .int x1), (2, .int x2), (3, .int x3), (4, .int x4), (5, .int t0_102), (6, .int i6_131), (7, .int t0_235), (8, .int i8_291), (9, .int i9_291)] → W p l e (bs_rm 2 0 0 48) s m args below meth c H locs 0 0 Q (F0 m 291 ls []) := by
                              intro N291
                              induction N291 using Nat.strongRecOn with
                              | ind N291 ih291 =>
                                intro ls i9_291 i8_291 hi9_291 hm291 hl
                                refine lv_iload hx hb dModel_lookOrder_291 (lv_at hl 9 rfl) ?_
                                refine lv_aload_n hx hb dModel_lookOrder_293 rfl (lv_at hl 0 rfl) ?_
                                refine md_gA S hC hM 10 (by decide) rfl qw_bd0251c605 dModel_lookOrder_294 ?_
                                refine lv_iload_n hx hb dModel_lookOrder_297 rfl (lv_at hl 3 rfl) ?_
                                refine md_ild S hC hM 10 6 10000 (Fr354 10) rfl rfl (by decide) rfl rfl (vin (by assumption) (by omega)) dModel_lookOrder_298 ?_
                                refine lv_topi (fun v471 ev471 => ?_)
                                have J363 : ∀ (ls : Array Slot), lv_has ls 10 [(0, .ref a), (1, .int x1), (2, .int x2), (3, .int x3), (4, .int x4), (5, .int t0_102), (6, .int i6_131), (7, .int t0_235), (8, .int i8_291), (9, .int i9_291)] → W p l e (bs_rm 2 0 0 48) s m args below meth c H locs 0 0 Q (F0 m 363 ls []) := by
                                  intro ls hl
                                  refine lv_iload hx hb dModel_lookOrder_363 (lv_at hl 5 rfl) ?_
                                  have J390 : ∀ (ls : Array Slot) (t0_390 : Int32), lv_has ls 10 [(0, .ref a), (1, .int x1), (2, .int x2), (3, .int x3), (4, .int x4), (5, .int t0_102), (6, .int i6_131), (7, .int t0_235), (8, .int i8_291), (9, .int i9_291)] → W p l e (bs_rm 2 0 0 48) s m args below meth c H locs 0 0 Q (F0 m 390 ls [.int t0_390]) := by
                                    intro ls t0_390 hl
                                    refine lv_istore (lv' := [(9, .int t0_390), (0, .ref a), (1, .int x1), (2, .int x2), (3, .int x3), (4, .int x4), (5, .int t0_102), (6, .int i6_131), (7, .int t0_235), (8, .int i8_291)]) hx hb dModel_lookOrder_390 hl (by decide) rfl (fun ls hl => ?_)
                                    refine lv_iload hx hb dModel_lookOrder_392 (lv_at hl 0 rfl) ?_
                                    have J451 : ∀ (ls : Array Slot) (t0_451 : Int32), lv_has ls 10 [(0, .ref a), (1, .int x1), (2, .int x2), (3, .int x3), (4, .int x4), (5, .int t0_102), (6, .int i6_131), (7, .int t0_235), (8, .int i8_291), (9, .int t0_390)] → W p l e (bs_rm 2 0 0 48) s m args below meth c H locs 0 0 Q (F0 m 451 ls [.int t0_451]) := by
                                      intro ls t0_451 hl
                                      refine lv_istore (lv' := [(7, .int t0_451), (0, .ref a), (1, .int x1), (2, .int x2), (3, .int x3), (4, .int x4), (5, .int t0_102), (6, .int i6_131), (8, .int i8_291), (9, .int t0_390)]) hx hb dModel_lookOrder_451 hl (by decide) rfl (fun ls hl => ?_)
                                      exact J453 ls t0_451 (lv_sub hl [1, 2, 3, 4, 5, 6, 7, 0] rfl)
                                    have J450 : ∀ (ls : Array Slot), lv_has ls 10 [(0, .ref a), (1, .int x1), (2, .int x2), (3, .int x3), (4, .int x4), (5, .int t0_102), (6, .int i6_131), (7, .int t0_235), (8, .int i8_291), (9, .int t0_390)] → W p l e (bs_rm 2 0 0 48) s m args below meth c H locs 0 0 Q (F0 m 450 ls []) := by
                                      intro ls hl
                                      refine lv_iconst (v := 0) hx hb dModel_lookOrder_450 (by decide) ?_
                                      exact J451 ls 0 (lv_sub hl [0, 1, 2, 3, 4, 5, 6, 7, 8, 9] rfl)
                                    refine lv_if_eq (tgt := 450) hx hb dModel_lookOrder_394 (by decide) (fun c517 => ?_) (fun c517 => ?_)
                                    · exact J450 ls  (lv_sub hl [1, 2, 3, 4, 5, 6, 7, 8, 9, 0] rfl)
                                    · refine lv_iload_n hx hb dModel_lookOrder_397 rfl (lv_at hl 3 rfl) ?_
                                      refine lv_bipush (v := 8) hx hb dModel_lookOrder_398 (by decide) ?_
                                      have J446 : ∀ (ls : Array Slot), lv_has ls 10 [(0, .ref a), (1, .int x1), (2, .int x2), (3, .int x3), (4, .int x4), (5, .int t0_102), (6, .int i6_131), (7, .int t0_235), (8, .int i8_291), (9, .int t0_390)] → W p l e (bs_rm 2 0 0 48) s m args below meth c H locs 0 0 Q (F0 m 446 ls []) := by
                                        intro ls hl
                                        refine lv_iconst (v := 1) hx hb dModel_lookOrder_446 (by decide) ?_
                                        refine lv_goto (tgt := 451) hx hb dModel_lookOrder_447 (by decide) ?_
                                        exact J451 ls 1 (lv_sub hl [0, 1, 2, 3, 4, 5, 6, 7, 8, 9] rfl)
                                      refine lv_icmp_ne (tgt := 411) hx hb dModel_lookOrder_400 (by decide) (fun c525 => ?_) (fun c525 => ?_)
                                      · refine lv_iload_n hx hb dModel_lookOrder_411 rfl (lv_at hl 3 rfl) ?_
                                        refine lv_bipush (v := 9) hx hb dModel_lookOrder_412 (by decide) ?_
                                        refine lv_icmp_ne (tgt := 426) hx hb dModel_lookOrder_414 (by decide) (fun c526 => ?_) (fun c526 => ?_)
                                        · refine lv_iload_n hx hb dModel_lookOrder_426 rfl (lv_at hl 3 rfl) ?_
                                          refine lv_bipush (v := 10) hx hb dModel_lookOrder_427 (by decide) ?_
                                          refine lv_icmp_ne (tgt := 440) hx hb dModel_lookOrder_429 (by decide) (fun c527 => ?_) (fun c527 => ?_)
                                          · refine lv_iload hx hb dModel_lookOrder_440 (lv_at hl 9 rfl) ?_
                                            refine lv_iconst (v := (-1)) hx hb dModel_lookOrder_442 (by decide) ?_
                                            refine lv_icmp_le (tgt := 450) hx hb dModel_lookOrder_443 (by decide) (fun c528 => ?_) (fun c528 => ?_)
                                            · exact J450 ls  (lv_sub hl [1, 2, 3, 4, 5, 6, 7, 8, 9, 0] rfl)
                                            · exact J446 ls  (lv_sub hl [1, 2, 3, 4, 5, 6, 7, 8, 9, 0] rfl)
                                          · refine lv_iload hx hb dModel_lookOrder_432 (lv_at hl 9 rfl) ?_
                                            refine lv_if_le (tgt := 450) hx hb dModel_lookOrder_434 (by decide) (fun c529 => ?_) (fun c529 => ?_)
                                            · exact J450 ls  (lv_sub hl [1, 2, 3, 4, 5, 6, 7, 8, 9, 0] rfl)
                                            · refine lv_goto (tgt := 446) hx hb dModel_lookOrder_437 (by decide) ?_
                                              exact J446 ls  (lv_sub hl [1, 2, 3, 4, 5, 6, 7, 8, 9, 0] rfl)
                                        · refine lv_iload hx hb dModel_lookOrder_417 (lv_at hl 9 rfl) ?_
                                          refine lv_iconst (v := 1) hx hb dModel_lookOrder_419 (by decide) ?_
                                          refine lv_icmp_ge (tgt := 450) hx hb dModel_lookOrder_420 (by decide) (fun c530 => ?_) (fun c530 => ?_)
                                          · exact J450 ls  (lv_sub hl [1, 2, 3, 4, 5, 6, 7, 8, 9, 0] rfl)
                                          · refine lv_goto (tgt := 446) hx hb dModel_lookOrder_423 (by decide) ?_
                                            exact J446 ls  (lv_sub hl [1, 2, 3, 4, 5, 6, 7, 8, 9, 0] rfl)
                                      · refine lv_iload hx hb dModel_lookOrder_403 (lv_at hl 9 rfl) ?_
                                        refine lv_if_ge (tgt := 450) hx hb dModel_lookOrder_405 (by decide) (fun c531 => ?_) (fun c531 => ?_)
                                        · exact J450 ls  (lv_sub hl [1, 2, 3, 4, 5, 6, 7, 8, 9, 0] rfl)
                                        · refine lv_goto (tgt := 446) hx hb dModel_lookOrder_408 (by decide) ?_
                                          exact J446 ls  (lv_sub hl [1, 2, 3, 4, 5, 6, 7, 8, 9, 0] rfl)
                                  have J385 : ∀ (ls : Array Slot), lv_has ls 10 [(0, .ref a), (1, .int x1), (2, .int x2), (3, .int x3), (4, .int x4), (5, .int t0_102), (6, .int i6_131), (7, .int t0_235), (8, .int i8_291), (9, .int i9_291)] → W p l e (bs_rm 2 0 0 48) s m args below meth c H locs 0 0 Q (F0 m 385 ls []) := by
                                    intro ls hl
                                    refine lv_iconst (v := 1) hx hb dModel_lookOrder_385 (by decide) ?_
                                    refine lv_goto (tgt := 390) hx hb dModel_lookOrder_386 (by decide) ?_
                                    exact J390 ls 1 (lv_sub hl [0, 1, 2, 3, 4, 5, 6, 7, 8, 9] rfl)
                                  refine lv_if_eq (tgt := 385) hx hb dModel_lookOrder_365 (by decide) (fun c532 => ?_) (fun c532 => ?_)
                                  · exact J385 ls  (lv_sub hl [0, 1, 2, 3, 4, 5, 6, 7, 8, 9] rfl)
                                  · refine lv_aload_n hx hb dModel_lookOrder_368 rfl (lv_at hl 0 rfl) ?_
                                    refine lv_iload_n hx hb dModel_lookOrder_369 rfl (lv_at hl 3 rfl) ?_
                                    refine pu_Vi (rest := []) S hC (m_isClear l γ a B Z κ b mn ν τ σ Fr354 nur354 hT x3 (vin (by assumption) (by omega)) hZ) meModel_isClear qw_f576e3fc3c ⟨Nat.le_of_ble_eq_true rfl, Nat.le_of_ble_eq_true rfl⟩ (md_rv hC hM) hM rfl hl.1 rfl (Nat.le_of_ble_eq_true rfl) dModel_lookOrder_370 ⟨Nat.zero_le _, Nat.zero_le _⟩ (fun r533 hr533 => ?_)
                                    have J389 : ∀ (ls : Array Slot), lv_has ls 10 [(0, .ref a), (1, .int x1), (2, .int x2), (3, .int x3), (4, .int x4), (5, .int t0_102), (6, .int i6_131), (7, .int t0_235), (8, .int i8_291), (9, .int i9_291)] → W p l e (bs_rm 2 0 0 48) s m args below meth c H locs 0 0 Q (F0 m 389 ls []) := by
                                      intro ls hl
                                      refine lv_iconst (v := 0) hx hb dModel_lookOrder_389 (by decide) ?_
                                      exact J390 ls 0 (lv_sub hl [0, 1, 2, 3, 4, 5, 6, 7, 8, 9] rfl)
                                    refine lv_if_eq (tgt := 389) hx hb dModel_lookOrder_373 (by decide) (fun c537 => ?_) (fun c537 => ?_)
                                    · exact J389 ls  (lv_sub hl [0, 1, 2, 3, 4, 5, 6, 7, 8, 9] rfl)
                                    · refine lv_aload_n hx hb dModel_lookOrder_376 rfl (lv_at hl 0 rfl) ?_
                                      refine lv_iload hx hb dModel_lookOrder_377 (lv_at hl 4 rfl) ?_
                                      refine pu_Vi (rest := []) S hC (m_isClear l γ a B Z κ b mn ν τ σ Fr354 nur354 hT x4 (vin (by assumption) (by omega)) hZ) meModel_isClear qw_f576e3fc3c ⟨Nat.le_of_ble_eq_true rfl, Nat.le_of_ble_eq_true rfl⟩ (md_rv hC hM) hM rfl hl.1 rfl (Nat.le_of_ble_eq_true rfl) dModel_lookOrder_379 ⟨Nat.zero_le _, Nat.zero_le _⟩ (fun r538 hr538 => ?_)
                                      refine lv_if_eq (tgt := 389) hx hb dModel_lookOrder_382 (by decide) (fun c539 => ?_) (fun c539 => ?_)
                                      · exact J389 ls  (lv_sub hl [0, 1, 2, 3, 4, 5, 6, 7, 8, 9] rfl)
                                      · exact J385 ls  (lv_sub hl [0, 1, 2, 3, 4, 5, 6, 7, 8, 9] rfl)
                                refine lv_icmp_ge (tgt := 363) hx hb dModel_lookOrder_299 (by decide) (fun c540 => ?_) (fun c540 => ?_)
                                · exact J363 ls  (lv_sub hl [0, 1, 2, 3, 4, 5, 6, 7, 8, 9] rfl)
                                · have hin9 : vp_in i9_291 1000 := vsz hZ (vix (vin hx3 (by omega))) (by assumption) (by assumption) (by assumption)
                                  refine lv_iload hx hb dModel_lookOrder_302 (lv_at hl 5 rfl) ?_
                                  refine lv_if_eq (tgt := 363) hx hb dModel_lookOrder_304 (by decide) (fun c541 => ?_) (fun c541 => ?_)
                                  · exact J363 ls  (lv_sub hl [0, 1, 2, 3, 4, 5, 6, 7, 8, 9] rfl)
                                  · refine lv_aload_n hx hb dModel_lookOrder_307 rfl (lv_at hl 0 rfl) ?_
                                    refine lv_iload_n hx hb dModel_lookOrder_308 rfl (lv_at hl 3 rfl) ?_
                                    refine lv_iload hx hb dModel_lookOrder_309 (lv_at hl 9 rfl) ?_
                                    refine pu_Vi (rest := []) S hC (m_element l γ a B Z κ b mn ν τ σ Fr354 nur354 hT x3 i9_291 (el_in (by assumption) (by assumption) (by omega))) meModel_element qw_ceb3d87d61 ⟨Nat.le_of_ble_eq_true rfl, Nat.le_of_ble_eq_true rfl⟩ (md_rv hC hM) hM rfl hl.1 rfl (Nat.le_of_ble_eq_true rfl) dModel_lookOrder_311 ⟨Nat.zero_le _, Nat.zero_le _⟩ (fun r542 hr542 => ?_)
                                    refine pu_Si (rest := []) S hC (m_isHigh l γ _ r542) meModel_isHigh qw_7b38890176 ⟨Nat.le_of_ble_eq_true rfl, Nat.le_of_ble_eq_true rfl⟩ hM rfl hl.1 rfl (Nat.le_of_ble_eq_true rfl) dModel_lookOrder_314 ⟨Nat.zero_le _, Nat.zero_le _⟩ (fun r543 hr543 => ?_)
                                    refine lv_aload_n hx hb dModel_lookOrder_317 rfl (lv_at hl 0 rfl) ?_
                                    refine lv_iload hx hb dModel_lookOrder_318 (lv_at hl 4 rfl) ?_
                                    refine lv_iload hx hb dModel_lookOrder_320 (lv_at hl 9 rfl) ?_
                                    refine pu_Vi (rest := [.int r543]) S hC (m_element l γ a B Z κ b mn ν τ σ Fr354 nur354 hT x4 i9_291 (el_in (by assumption) (by assumption) (by omega))) meModel_element qw_ceb3d87d61 ⟨Nat.le_of_ble_eq_true rfl, Nat.le_of_ble_eq_true rfl⟩ (md_rv hC hM) hM rfl hl.1 rfl (Nat.le_of_ble_eq_true rfl) dModel_lookOrder_322 ⟨Nat.zero_le _, Nat.zero_le _⟩ (fun r544 hr544 => ?_)
                                    refine pu_Si (rest := [.int r543]) S hC (m_isHigh l γ _ r544) meModel_isHigh qw_7b38890176 ⟨Nat.le_of_ble_eq_true rfl, Nat.le_of_ble_eq_true rfl⟩ hM rfl hl.1 rfl (Nat.le_of_ble_eq_true rfl) dModel_lookOrder_325 ⟨Nat.zero_le _, Nat.zero_le _⟩ (fun r545 hr545 => ?_)
                                    have J355 : ∀ (ls : Array Slot) (t0_355 : Int32), lv_has ls 10 [(0, .ref a), (1, .int x1), (2, .int x2), (3, .int x3), (4, .int x4), (5, .int t0_102), (6, .int i6_131), (7, .int t0_235), (8, .int i8_291), (9, .int i9_291)] → W p l e (bs_rm 2 0 0 48) s m args below meth c H locs 0 0 Q (F0 m 355 ls [.int t0_355]) := by
                                      intro ls t0_355 hl
                                      refine lv_istore (lv' := [(8, .int t0_355), (0, .ref a), (1, .int x1), (2, .int x2), (3, .int x3), (4, .int x4), (5, .int t0_102), (6, .int i6_131), (7, .int t0_235), (9, .int i9_291)]) hx hb dModel_lookOrder_355 hl (by decide) rfl (fun ls hl => ?_)
                                      obtain ⟨v551, ev551⟩ : ∃ y : Int32, y = i9_291 + 1 := ⟨_, rfl⟩
                                      refine lv_iinc (v := v551) (lv' := [(9, .int v551), (8, .int t0_355), (0, .ref a), (1, .int x1), (2, .int x2), (3, .int x3), (4, .int x4), (5, .int t0_102), (6, .int i6_131), (7, .int t0_235)]) hx hb dModel_lookOrder_357 hl (k := 9) rfl (by rw [ev551]; rfl) (by decide) rfl (fun ls hl => ?_)
                                      refine lv_goto (tgt := 291) hx hb dModel_lookOrder_360 (by decide) ?_
                                      exact ih291 _ (by have q1 : i9_291.toInt < 2147483647 := (by first | assumption | exact (mu_up (k := i9_291) (by assumption)).2); have q2 := mu_lt q1; rw [← ev551] at q2; omega) ls v551 t0_355 (by first | decide | exact nn_inc (by assumption) (by assumption) (by assumption)) rfl (lv_sub hl [2, 3, 4, 5, 6, 7, 8, 9, 1, 0] rfl)
                                    refine lv_icmp_ne (tgt := 336) hx hb dModel_lookOrder_328 (by decide) (fun c552 => ?_) (fun c552 => ?_)
                                    · refine lv_aload_n hx hb dModel_lookOrder_336 rfl (lv_at hl 0 rfl) ?_
                                      refine lv_iload hx hb dModel_lookOrder_337 (lv_at hl 4 rfl) ?_
                                      refine lv_iload hx hb dModel_lookOrder_339 (lv_at hl 9 rfl) ?_
                                      refine pu_Vi (rest := []) S hC (m_element l γ a B Z κ b mn ν τ σ Fr354 nur354 hT x4 i9_291 (el_in (by assumption) (by assumption) (by omega))) meModel_element qw_ceb3d87d61 ⟨Nat.le_of_ble_eq_true rfl, Nat.le_of_ble_eq_true rfl⟩ (md_rv hC hM) hM rfl hl.1 rfl (Nat.le_of_ble_eq_true rfl) dModel_lookOrder_341 ⟨Nat.zero_le _, Nat.zero_le _⟩ (fun r553 hr553 => ?_)
                                      refine pu_Si (rest := []) S hC (m_isHigh l γ _ r553) meModel_isHigh qw_7b38890176 ⟨Nat.le_of_ble_eq_true rfl, Nat.le_of_ble_eq_true rfl⟩ hM rfl hl.1 rfl (Nat.le_of_ble_eq_true rfl) dModel_lookOrder_344 ⟨Nat.zero_le _, Nat.zero_le _⟩ (fun r554 hr554 => ?_)
                                      refine lv_if_eq (tgt := 354) hx hb dModel_lookOrder_347 (by decide) (fun c555 => ?_) (fun c555 => ?_)
                                      · refine lv_iconst (v := 1) hx hb dModel_lookOrder_354 (by decide) ?_
                                        exact J355 ls 1 (lv_sub hl [0, 1, 2, 3, 4, 5, 6, 7, 8, 9] rfl)
                                      · refine lv_iconst (v := (-1)) hx hb dModel_lookOrder_350 (by decide) ?_
                                        refine lv_goto (tgt := 355) hx hb dModel_lookOrder_351 (by decide) ?_
                                        exact J355 ls (-1) (lv_sub hl [0, 1, 2, 3, 4, 5, 6, 7, 8, 9] rfl)
                                    · refine lv_iload hx hb dModel_lookOrder_331 (lv_at hl 8 rfl) ?_
                                      refine lv_goto (tgt := 355) hx hb dModel_lookOrder_333 (by decide) ?_
                                      exact J355 ls i8_291 (lv_sub hl [0, 1, 2, 3, 4, 5, 6, 7, 8, 9] rfl)
                            exact J291 _ ls 0 t0_286 (by first | decide | exact nn_inc (by assumption) (by assumption) (by assumption)) rfl (lv_sub hl [2, 3, 4, 5, 6, 7, 8, 9, 1, 0] rfl)
                          refine lv_if_ge (tgt := 264) hx hb dModel_lookOrder_257 (by decide) (fun c556 => ?_) (fun c556 => ?_)
                          · refine lv_aload_n hx hb dModel_lookOrder_264 rfl (lv_at hl 1 rfl) ?_
                            refine md_gA S hC hM 13 (by decide) rfl qw_7b809afc8c dModel_lookOrder_265 ?_
                            refine lv_iload_n hx hb dModel_lookOrder_268 rfl (lv_at hl 4 rfl) ?_
                            refine md_lld S hC hM (vin (by assumption) (by omega)) dModel_lookOrder_269 ?_
                            refine lv_topl (fun v557 ev557 => ?_)
                            have ev557 : v557 = nur354 x3.toNatClampNeg := ev557
                            refine lv_aload_n hx hb dModel_lookOrder_270 rfl (lv_at hl 1 rfl) ?_
                            refine md_gA S hC hM 13 (by decide) rfl qw_7b809afc8c dModel_lookOrder_271 ?_
                            refine lv_iload hx hb dModel_lookOrder_274 (lv_at hl 5 rfl) ?_
                            refine md_lld S hC hM (vin (by assumption) (by omega)) dModel_lookOrder_276 ?_
                            refine lv_topl (fun v558 ev558 => ?_)
                            have ev558 : v558 = nur354 x4.toNatClampNeg := ev558
                            refine W.lcmp hx hb dModel_lookOrder_277 ?_
                            refine lv_topi (fun v559 ev559 => ?_)
                            refine lv_if_le (tgt := 285) hx hb dModel_lookOrder_278 (by decide) (fun c560 => ?_) (fun c560 => ?_)
                            · refine lv_iconst (v := 0) hx hb dModel_lookOrder_285 (by decide) ?_
                              exact J286 ls 0 (lv_sub hl [1, 2, 3, 4, 5, 6, 7, 0] rfl)
                            · refine lv_iconst (v := 1) hx hb dModel_lookOrder_281 (by decide) ?_
                              refine lv_goto (tgt := 286) hx hb dModel_lookOrder_282 (by decide) ?_
                              exact J286 ls 1 (lv_sub hl [1, 2, 3, 4, 5, 6, 7, 0] rfl)
                          · refine lv_iconst (v := (-1)) hx hb dModel_lookOrder_260 (by decide) ?_
                            refine lv_goto (tgt := 286) hx hb dModel_lookOrder_261 (by decide) ?_
                            exact J286 ls (-1) (lv_sub hl [1, 2, 3, 4, 5, 6, 7, 0] rfl)
                      refine lv_icmp_ne (tgt := 225) hx hb dModel_lookOrder_217 (by decide) (fun c561 => ?_) (fun c561 => ?_)
                      · refine lv_iload hx hb dModel_lookOrder_225 (lv_at hl 6 rfl) ?_
                        refine lv_if_ne (tgt := 234) hx hb dModel_lookOrder_227 (by decide) (fun c562 => ?_) (fun c562 => ?_)
                        · refine lv_iconst (v := 0) hx hb dModel_lookOrder_234 (by decide) ?_
                          exact J235 ls 0 (lv_sub hl [0, 1, 2, 3, 4, 5, 6, 7] rfl)
                        · refine lv_iconst (v := 1) hx hb dModel_lookOrder_230 (by decide) ?_
                          refine lv_goto (tgt := 235) hx hb dModel_lookOrder_231 (by decide) ?_
                          exact J235 ls 1 (lv_sub hl [0, 1, 2, 3, 4, 5, 6, 7] rfl)
                      · refine lv_iload hx hb dModel_lookOrder_220 (lv_at hl 6 rfl) ?_
                        refine lv_goto (tgt := 235) hx hb dModel_lookOrder_222 (by decide) ?_
                        exact J235 ls i6_131 (lv_sub hl [0, 1, 2, 3, 4, 5, 6, 7] rfl)
                    have J210 : ∀ (ls : Array Slot), lv_has ls 10 [(0, .ref a), (1, .int x1), (2, .int x2), (3, .int x3), (4, .int x4), (5, .int t0_102), (6, .int i6_131), (7, .int i7_131)] → W p l e (bs_rm 2 0 0 48) s m args below meth c s.heap [] 0 0 Q (F0 m 210 ls [.int 0, .int 1, .int x1, .ref a]) := by
                      intro ls hl
                      refine lv_iconst (v := 0) hx hb dModel_lookOrder_210 (by decide) ?_
                      exact J211 ls 0 (lv_sub hl [0, 1, 2, 3, 4, 5, 6, 7] rfl)
                    refine lv_if_eq (tgt := 210) hx hb dModel_lookOrder_193 (by decide) (fun c563 => ?_) (fun c563 => ?_)
                    · exact J210 ls  (lv_sub hl [0, 1, 2, 3, 4, 5, 6, 7] rfl)
                    · refine lv_aload_n hx hb dModel_lookOrder_196 rfl (lv_at hl 0 rfl) ?_
                      refine md_gA S hC hM 11 (by decide) rfl qw_88b9028ba7 dModel_lookOrder_197 ?_
                      refine lv_iload hx hb dModel_lookOrder_200 (lv_at hl 4 rfl) ?_
                      refine md_zld S hC hM 11 7 10000 (F 11) rfl rfl (by decide) rfl rfl (vin (by assumption) (by omega)) dModel_lookOrder_202 ?_
                      refine lv_topi (fun v564 ev564 => ?_)
                      refine lv_if_eq (tgt := 210) hx hb dModel_lookOrder_203 (by decide) (fun c565 => ?_) (fun c565 => ?_)
                      · exact J210 ls  (lv_sub hl [0, 1, 2, 3, 4, 5, 6, 7] rfl)
                      · refine lv_iconst (v := 1) hx hb dModel_lookOrder_206 (by decide) ?_
                        refine lv_goto (tgt := 211) hx hb dModel_lookOrder_207 (by decide) ?_
                        exact J211 ls 1 (lv_sub hl [0, 1, 2, 3, 4, 5, 6, 7] rfl)
                  refine lv_icmp_ge (tgt := 183) hx hb dModel_lookOrder_139 (by decide) (fun c566 => ?_) (fun c566 => ?_)
                  · exact J183 ls  (lv_sub hl [0, 1, 2, 3, 4, 5, 6, 7] rfl)
                  · have hin7 : vp_in i7_131 1000 := vsz hZ (vix (vin hx3 (by omega))) (by assumption) (by assumption) (by assumption)
                    refine lv_iload hx hb dModel_lookOrder_142 (lv_at hl 5 rfl) ?_
                    refine lv_if_eq (tgt := 183) hx hb dModel_lookOrder_144 (by decide) (fun c567 => ?_) (fun c567 => ?_)
                    · exact J183 ls  (lv_sub hl [0, 1, 2, 3, 4, 5, 6, 7] rfl)
                    · refine lv_iload hx hb dModel_lookOrder_147 (lv_at hl 6 rfl) ?_
                      have J175 : ∀ (ls : Array Slot) (t0_175 : Int32), lv_has ls 10 [(0, .ref a), (1, .int x1), (2, .int x2), (3, .int x3), (4, .int x4), (5, .int t0_102), (6, .int i6_131), (7, .int i7_131)] → W p l e (bs_rm 2 0 0 48) s m args below meth c s.heap [] 0 0 Q (F0 m 175 ls [.int t0_175]) := by
                        intro ls t0_175 hl
                        refine lv_istore (lv' := [(6, .int t0_175), (0, .ref a), (1, .int x1), (2, .int x2), (3, .int x3), (4, .int x4), (5, .int t0_102), (7, .int i7_131)]) hx hb dModel_lookOrder_175 hl (by decide) rfl (fun ls hl => ?_)
                        obtain ⟨v573, ev573⟩ : ∃ y : Int32, y = i7_131 + 1 := ⟨_, rfl⟩
                        refine lv_iinc (v := v573) (lv' := [(7, .int v573), (6, .int t0_175), (0, .ref a), (1, .int x1), (2, .int x2), (3, .int x3), (4, .int x4), (5, .int t0_102)]) hx hb dModel_lookOrder_177 hl (k := 7) rfl (by rw [ev573]; rfl) (by decide) rfl (fun ls hl => ?_)
                        refine lv_goto (tgt := 131) hx hb dModel_lookOrder_180 (by decide) ?_
                        exact ih131 _ (by have q1 : i7_131.toInt < 2147483647 := (by first | assumption | exact (mu_up (k := i7_131) (by assumption)).2); have q2 := mu_lt q1; rw [← ev573] at q2; omega) ls v573 t0_175 (by first | decide | exact nn_inc (by assumption) (by assumption) (by assumption)) rfl (lv_sub hl [2, 3, 4, 5, 6, 7, 1, 0] rfl)
                      have J174 : ∀ (ls : Array Slot), lv_has ls 10 [(0, .ref a), (1, .int x1), (2, .int x2), (3, .int x3), (4, .int x4), (5, .int t0_102), (6, .int i6_131), (7, .int i7_131)] → W p l e (bs_rm 2 0 0 48) s m args below meth c s.heap [] 0 0 Q (F0 m 174 ls []) := by
                        intro ls hl
                        refine lv_iconst (v := 0) hx hb dModel_lookOrder_174 (by decide) ?_
                        exact J175 ls 0 (lv_sub hl [0, 1, 2, 3, 4, 5, 6, 7] rfl)
                      refine lv_if_eq (tgt := 174) hx hb dModel_lookOrder_149 (by decide) (fun c574 => ?_) (fun c574 => ?_)
                      · exact J174 ls  (lv_sub hl [0, 1, 2, 3, 4, 5, 6, 7] rfl)
                      · refine lv_aload_n hx hb dModel_lookOrder_152 rfl (lv_at hl 0 rfl) ?_
                        refine lv_iload_n hx hb dModel_lookOrder_153 rfl (lv_at hl 3 rfl) ?_
                        refine lv_iload hx hb dModel_lookOrder_154 (lv_at hl 7 rfl) ?_
                        refine pu_Vi (rest := []) S hC (m_element l γ a B Z κ b mn ν τ σ F nu hT x3 i7_131 (el_in (by assumption) (by assumption) (by omega))) meModel_element qw_ceb3d87d61 ⟨Nat.le_of_ble_eq_true rfl, Nat.le_of_ble_eq_true rfl⟩ (md_rv hC hM) hM rfl hl.1 rfl (Nat.le_of_ble_eq_true rfl) dModel_lookOrder_156 ⟨Nat.zero_le _, Nat.zero_le _⟩ (fun r575 hr575 => ?_)
                        refine lv_aload_n hx hb dModel_lookOrder_159 rfl (lv_at hl 0 rfl) ?_
                        refine lv_iload hx hb dModel_lookOrder_160 (lv_at hl 4 rfl) ?_
                        refine lv_iload hx hb dModel_lookOrder_162 (lv_at hl 7 rfl) ?_
                        refine pu_Vi (rest := [.int r575]) S hC (m_element l γ a B Z κ b mn ν τ σ F nu hT x4 i7_131 (el_in (by assumption) (by assumption) (by omega))) meModel_element qw_ceb3d87d61 ⟨Nat.le_of_ble_eq_true rfl, Nat.le_of_ble_eq_true rfl⟩ (md_rv hC hM) hM rfl hl.1 rfl (Nat.le_of_ble_eq_true rfl) dModel_lookOrder_164 ⟨Nat.zero_le _, Nat.zero_le _⟩ (fun r576 hr576 => ?_)
                        refine lv_icmp_ne (tgt := 174) hx hb dModel_lookOrder_167 (by decide) (fun c577 => ?_) (fun c577 => ?_)
                        · exact J174 ls  (lv_sub hl [0, 1, 2, 3, 4, 5, 6, 7] rfl)
                        · refine lv_iconst (v := 1) hx hb dModel_lookOrder_170 (by decide) ?_
                          refine lv_goto (tgt := 175) hx hb dModel_lookOrder_171 (by decide) ?_
                          exact J175 ls 1 (lv_sub hl [0, 1, 2, 3, 4, 5, 6, 7] rfl)
              exact J131 _ ls 0 t0_126 (by first | decide | exact nn_inc (by assumption) (by assumption) (by assumption)) rfl (lv_sub hl [2, 3, 4, 5, 6, 7, 1, 0] rfl)
            refine lv_if_ne (tgt := 125) hx hb dModel_lookOrder_118 (by decide) (fun c578 => ?_) (fun c578 => ?_)
            · refine lv_iconst (v := 0) hx hb dModel_lookOrder_125 (by decide) ?_
              exact J126 ls 0 (lv_sub hl [1, 2, 3, 4, 5, 0] rfl)
            · refine lv_iconst (v := 1) hx hb dModel_lookOrder_121 (by decide) ?_
              refine lv_goto (tgt := 126) hx hb dModel_lookOrder_122 (by decide) ?_
              exact J126 ls 1 (lv_sub hl [1, 2, 3, 4, 5, 0] rfl)
          refine lv_icmp_ne (tgt := 101) hx hb dModel_lookOrder_94 (by decide) (fun c579 => ?_) (fun c579 => ?_)
          · refine lv_iconst (v := 0) hx hb dModel_lookOrder_101 (by decide) ?_
            exact J102 ls 0 (lv_sub hl [0, 1, 2, 3, 4] rfl)
          · refine lv_iconst (v := 1) hx hb dModel_lookOrder_97 (by decide) ?_
            refine lv_goto (tgt := 102) hx hb dModel_lookOrder_98 (by decide) ?_
            exact J102 ls 1 (lv_sub hl [0, 1, 2, 3, 4] rfl)
        · refine lv_iconst (v := 4) hx hb dModel_lookOrder_85 (by decide) ?_
          exact hE _ _ _ _ _ hS ⟨σ, F, nu, hM, hZ, hF, hL, (fun h9 => absurd (show (0 : Int32) < 4 by decide) h9)⟩ dModel_lookOrder_86
      refine lv_icmp_le (tgt := 69) hx hb dModel_lookOrder_45 (by decide) (fun c580 => ?_) (fun c580 => ?_)
      · exact J69 ls  (lv_sub hl [0, 1, 2, 3, 4] rfl)
      · refine lv_aload_n hx hb dModel_lookOrder_48 rfl (lv_at hl 0 rfl) ?_
        refine md_gA S hC hM 9 (by decide) rfl qw_a119aeeca0 dModel_lookOrder_49 ?_
        refine lv_iload_n hx hb dModel_lookOrder_52 rfl (lv_at hl 3 rfl) ?_
        refine md_ild S hC hM 9 5 10000 (F 9) rfl rfl (by decide) rfl rfl (vin (by assumption) (by omega)) dModel_lookOrder_53 ?_
        refine lv_topi (fun v581 ev581 => ?_)
        refine lv_if_eq (tgt := 67) hx hb dModel_lookOrder_54 (by decide) (fun c582 => ?_) (fun c582 => ?_)
        · refine lv_iconst (v := 3) hx hb dModel_lookOrder_67 (by decide) ?_
          exact hE _ _ _ _ _ hS ⟨σ, F, nu, hM, hZ, hF, hL, (fun h9 => absurd (show (0 : Int32) < 3 by decide) h9)⟩ dModel_lookOrder_68
        · refine lv_aload_n hx hb dModel_lookOrder_57 rfl (lv_at hl 0 rfl) ?_
          refine md_gA S hC hM 9 (by decide) rfl qw_a119aeeca0 dModel_lookOrder_58 ?_
          refine lv_iload_n hx hb dModel_lookOrder_61 rfl (lv_at hl 3 rfl) ?_
          refine md_ild S hC hM 9 5 10000 (F 9) rfl rfl (by decide) rfl rfl (vin (by assumption) (by omega)) dModel_lookOrder_62 ?_
          refine lv_topi (fun v583 ev583 => ?_)
          refine lv_iconst (v := 1) hx hb dModel_lookOrder_63 (by decide) ?_
          refine lv_icmp_ne (tgt := 69) hx hb dModel_lookOrder_64 (by decide) (fun c584 => ?_) (fun c584 => ?_)
          · exact J69 ls  (lv_sub hl [0, 1, 2, 3, 4] rfl)
          · refine lv_iconst (v := 3) hx hb dModel_lookOrder_67 (by decide) ?_
            exact hE _ _ _ _ _ hS ⟨σ, F, nu, hM, hZ, hF, hL, (fun h9 => absurd (show (0 : Int32) < 3 by decide) h9)⟩ dModel_lookOrder_68
    refine lv_icmp_ne (tgt := 42) hx hb dModel_lookOrder_23 (by decide) (fun c585 => ?_) (fun c585 => ?_)
    · exact J42 ls  (lv_sub hl [0, 1, 2, 3, 4] rfl)
    · refine lv_aload_n hx hb dModel_lookOrder_26 rfl (lv_at hl 0 rfl) ?_
      refine md_gA S hC hM 10 (by decide) rfl qw_bd0251c605 dModel_lookOrder_27 ?_
      refine lv_iload_n hx hb dModel_lookOrder_30 rfl (lv_at hl 3 rfl) ?_
      refine md_ild S hC hM 10 6 10000 (F 10) rfl rfl (by decide) rfl rfl (vin (by assumption) (by omega)) dModel_lookOrder_31 ?_
      refine lv_topi (fun v586 ev586 => ?_)
      refine lv_aload_n hx hb dModel_lookOrder_32 rfl (lv_at hl 0 rfl) ?_
      refine md_gA S hC hM 10 (by decide) rfl qw_bd0251c605 dModel_lookOrder_33 ?_
      refine lv_iload hx hb dModel_lookOrder_36 (lv_at hl 4 rfl) ?_
      refine md_ild S hC hM 10 6 10000 (F 10) rfl rfl (by decide) rfl rfl (vin (by assumption) (by omega)) dModel_lookOrder_38 ?_
      refine lv_topi (fun v587 ev587 => ?_)
      refine lv_icmp_ne (tgt := 67) hx hb dModel_lookOrder_39 (by decide) (fun c588 => ?_) (fun c588 => ?_)
      · refine lv_iconst (v := 3) hx hb dModel_lookOrder_67 (by decide) ?_
        exact hE _ _ _ _ _ hS ⟨σ, F, nu, hM, hZ, hF, hL, (fun h9 => absurd (show (0 : Int32) < 3 by decide) h9)⟩ dModel_lookOrder_68
      · exact J42 ls  (lv_sub hl [0, 1, 2, 3, 4] rfl)
theorem qw_fff04f2807 : (Cond.methodLink R_Model 227 yModel_integer) ∈ bs_W0 := bs_in (in_tables_1_6 (List.mem_of_getElem? (i := 145) rfl)) rfl
theorem qw_75e699d051 : (Cond.methodLink R_Model 231 yModel_numberOf) ∈ bs_W0 := bs_in (in_tables_1_6 (List.mem_of_getElem? (i := 151) rfl)) rfl
theorem qw_be891c2f99 : (Cond.methodLink R_Model 235 yModel_bits) ∈ bs_W0 := bs_in (in_tables_1_6 (List.mem_of_getElem? (i := 156) rfl)) rfl
set_option maxHeartbeats 4000000 in
set_option maxRecDepth 100000 in
theorem m_lookSum (l : Launch) (γ : gE) (a : Nat) (B : Nat → Nat) (Z : Nat → Prop) (κ b mn : Nat → Nat) (ν : Nat → Int32) (τ : Nat → Nat → Int32) (σ : Nat → Int32) (F : Nat → Nat → Int32) (nu : Nat → Int64) (hT : ST κ b mn ν τ) (x1 : Int32) (x2 : Int32) (x3 : Int32) (x4 : Int32) (hx1 : vp_in x1 (κ 0)) (hx3 : vp_in x3 (κ 0)) (hx4 : vp_in x4 (κ 0)) (ha : x3.toNatClampNeg < x1.toNatClampNeg) (hbk : x4.toNatClampNeg < x1.toNatClampNeg) (hZ : SZ F) (hF : FD σ) : MU l yModel_lookSum bModel_lookSum 14 (some .int) 3 72 0 0 [.ref a, .int x1, .int x2, .int x3, .int x4] γ Z (MD γ a B Z ν τ σ F nu) (mQi (fun r H => LKo γ a B Z ν τ x1.toNatClampNeg F nu r H) Z) := by
  refine mu_openI (by decide) (Nat.le_of_ble_eq_true rfl) ?_
  intro p e s m args below meth c ls Q S hnm hC hA hM hE hl
  have hS : va_S Z s.heap s.heap [] := va_S.rf
  obtain ⟨hx, hb, hml, hown, hW⟩ := id S
  obtain ⟨⟨hs0, hs1, hs2, hs3, hs4, hs5, hs6⟩, ⟨hv6, hv8, hv21, hv24, hv30, hv31⟩, hTR, hTY, hOB, hNM⟩ := id hT
  have hL : SL x1.toNatClampNeg F nu F nu := SL.rf
  have hl : lv_has ls 14 [(0, .ref a), (1, .int x1), (2, .int x2), (3, .int x3), (4, .int x4)] := hl
  refine lv_aload_n hx hb dModel_lookSum_0 rfl (lv_at hl 0 rfl) ?_
  refine md_gA S hC hM 9 (by decide) rfl qw_a119aeeca0 dModel_lookSum_1 ?_
  refine lv_iload_n hx hb dModel_lookSum_4 rfl (lv_at hl 3 rfl) ?_
  refine md_ild S hC hM 9 5 10000 (F 9) rfl rfl (by decide) rfl rfl (vin (by assumption) (by omega)) dModel_lookSum_5 ?_
  refine lv_topi (fun v1 ev1 => ?_)
  refine lv_iconst (v := 3) hx hb dModel_lookSum_6 (by decide) ?_
  have J15 : ∀ (ls : Array Slot) (t0_15 : Int32), lv_has ls 14 [(0, .ref a), (1, .int x1), (2, .int x2), (3, .int x3), (4, .int x4)] → W p l e (bs_rm 3 0 0 72) s m args below meth c s.heap [] 0 0 Q (F0 m 15 ls [.int t0_15]) := by
    intro ls t0_15 hl
    refine lv_istore (lv' := [(5, .int t0_15), (0, .ref a), (1, .int x1), (2, .int x2), (3, .int x3), (4, .int x4)]) hx hb dModel_lookSum_15 hl (by decide) rfl (fun ls hl => ?_)
    refine lv_aload_n hx hb dModel_lookSum_17 rfl (lv_at hl 1 rfl) ?_
    refine md_gA S hC hM 9 (by decide) rfl qw_a119aeeca0 dModel_lookSum_18 ?_
    refine lv_iload hx hb dModel_lookSum_21 (lv_at hl 5 rfl) ?_
    refine md_ild S hC hM 9 5 10000 (F 9) rfl rfl (by decide) rfl rfl (vin (by assumption) (by omega)) dModel_lookSum_23 ?_
    refine lv_topi (fun v59 ev59 => ?_)
    refine lv_iconst (v := 3) hx hb dModel_lookSum_24 (by decide) ?_
    have J33 : ∀ (ls : Array Slot) (t0_33 : Int32), lv_has ls 14 [(0, .ref a), (1, .int x1), (2, .int x2), (3, .int x3), (4, .int x4), (5, .int t0_15)] → W p l e (bs_rm 3 0 0 72) s m args below meth c s.heap [] 0 0 Q (F0 m 33 ls [.int t0_33]) := by
      intro ls t0_33 hl
      refine lv_istore (lv' := [(6, .int t0_33), (0, .ref a), (1, .int x1), (2, .int x2), (3, .int x3), (4, .int x4), (5, .int t0_15)]) hx hb dModel_lookSum_33 hl (by decide) rfl (fun ls hl => ?_)
      refine lv_aload_n hx hb dModel_lookSum_35 rfl (lv_at hl 1 rfl) ?_
      refine md_gA S hC hM 11 (by decide) rfl qw_88b9028ba7 dModel_lookSum_36 ?_
      refine lv_iload_n hx hb dModel_lookSum_39 rfl (lv_at hl 4 rfl) ?_
      refine md_zld S hC hM 11 7 10000 (F 11) rfl rfl (by decide) rfl rfl (vin (by assumption) (by omega)) dModel_lookSum_40 ?_
      refine lv_topi (fun v115 ev115 => ?_)
      have J59 : ∀ (ls : Array Slot) (t0_59 : Int32), lv_has ls 14 [(0, .ref a), (1, .int x1), (2, .int x2), (3, .int x3), (4, .int x4), (5, .int t0_15), (6, .int t0_33)] → W p l e (bs_rm 3 0 0 72) s m args below meth c s.heap [] 0 0 Q (F0 m 59 ls [.int t0_59]) := by
        intro ls t0_59 hl
        refine lv_istore (lv' := [(7, .int t0_59), (0, .ref a), (1, .int x1), (2, .int x2), (3, .int x3), (4, .int x4), (5, .int t0_15), (6, .int t0_33)]) hx hb dModel_lookSum_59 hl (by decide) rfl (fun ls hl => ?_)
        refine lv_aload_n hx hb dModel_lookSum_61 rfl (lv_at hl 1 rfl) ?_
        refine md_gA S hC hM 9 (by decide) rfl qw_a119aeeca0 dModel_lookSum_62 ?_
        refine lv_iload_n hx hb dModel_lookSum_65 rfl (lv_at hl 4 rfl) ?_
        refine md_ild S hC hM 9 5 10000 (F 9) rfl rfl (by decide) rfl rfl (vin (by assumption) (by omega)) dModel_lookSum_66 ?_
        refine lv_topi (fun v169 ev169 => ?_)
        refine lv_iconst (v := 2) hx hb dModel_lookSum_67 (by decide) ?_
        have J125 : ∀ (ls : Array Slot), lv_has ls 14 [(0, .ref a), (1, .int x1), (2, .int x2), (3, .int x3), (4, .int x4), (5, .int t0_15), (6, .int t0_33), (7, .int t0_59)] → W p l e (bs_rm 3 0 0 72) s m args below meth c s.heap [] 0 0 Q (F0 m 125 ls []) := by
          intro ls hl
          refine lv_iload hx hb dModel_lookSum_125 (lv_at hl 5 rfl) ?_
          have J140 : ∀ (ls : Array Slot), lv_has ls 14 [(0, .ref a), (1, .int x1), (2, .int x2), (3, .int x3), (4, .int x4), (5, .int t0_15), (6, .int t0_33), (7, .int t0_59)] → W p l e (bs_rm 3 0 0 72) s m args below meth c s.heap [] 0 0 Q (F0 m 140 ls []) := by
            intro ls hl
            refine lv_iload hx hb dModel_lookSum_140 (lv_at hl 6 rfl) ?_
            have J158 : ∀ (ls : Array Slot), lv_has ls 14 [(0, .ref a), (1, .int x1), (2, .int x2), (3, .int x3), (4, .int x4), (5, .int t0_15), (6, .int t0_33), (7, .int t0_59)] → W p l e (bs_rm 3 0 0 72) s m args below meth c s.heap [] 0 0 Q (F0 m 158 ls []) := by
              intro ls hl
              refine lv_iload hx hb dModel_lookSum_158 (lv_at hl 5 rfl) ?_
              have J186 : ∀ (ls : Array Slot), lv_has ls 14 [(0, .ref a), (1, .int x1), (2, .int x2), (3, .int x3), (4, .int x4), (5, .int t0_15), (6, .int t0_33), (7, .int t0_59)] → W p l e (bs_rm 3 0 0 72) s m args below meth c s.heap [] 0 0 Q (F0 m 186 ls []) := by
                intro ls hl
                refine lv_aload_n hx hb dModel_lookSum_186 rfl (lv_at hl 0 rfl) ?_
                refine lv_iload_n hx hb dModel_lookSum_187 rfl (lv_at hl 1 rfl) ?_
                refine lv_iconst (v := 3) hx hb dModel_lookSum_188 (by decide) ?_
                refine lv_iload hx hb dModel_lookSum_189 (lv_at hl 5 rfl) ?_
                have J210 : ∀ (ls : Array Slot) (t0_210 : Int32), (∃ j, j ≤ 1000 ∧ t0_210 = nI j) → lv_has ls 14 [(0, .ref a), (1, .int x1), (2, .int x2), (3, .int x3), (4, .int x4), (5, .int t0_15), (6, .int t0_33), (7, .int t0_59)] → W p l e (bs_rm 3 0 0 72) s m args below meth c s.heap [] 0 0 Q (F0 m 210 ls [.int t0_210, .int 3, .int x1, .ref a]) := by
                  intro ls t0_210 ht0_210 hl
                  refine lv_iload hx hb dModel_lookSum_210 (lv_at hl 7 rfl) ?_
                  have hnr351 : ∃ j, j ≤ 1000 ∧ t0_210 = nI j := ht0_210
                  refine mu_Vv (rest := []) S hC (fun q h => hA q (Nat.le_trans hS.1 h)) (fun q h => h) hS (m_fact l γ a B Z κ b mn ν τ σ F nu hT x1 3 t0_210 t0_59 (vin (by assumption) (by omega)) hnr351) meModel_fact qw_02871250ec ⟨Nat.le_of_ble_eq_true rfl, Nat.le_of_ble_eq_true rfl⟩ (md_rv hC hM) hM rfl hl.1 rfl (Nat.le_of_ble_eq_true rfl) dModel_lookSum_212 ⟨Nat.le_refl _, Nat.le_refl _⟩ (fun H locs hPO hS _ _ => ?_)
                  obtain ⟨Fr351, nur351, hM, hqr351, hcr351⟩ := hPO
                  have hZ : SZ Fr351 := hZ.slt hqr351 hnr351
                  have hL : SL x1.toNatClampNeg F nu Fr351 nur351 := hL.trans (SL.slt hqr351)
                  have hK : GK x1.toNatClampNeg Fr351 nur351 := GK.zero hqr351
                  refine lv_iload hx hb dModel_lookSum_215 (lv_at hl 5 rfl) ?_
                  have J234 : ∀ (ls : Array Slot) (t0_234 : Int64), lv_has ls 14 [(0, .ref a), (1, .int x1), (2, .int x2), (3, .int x3), (4, .int x4), (5, .int t0_15), (6, .int t0_33), (7, .int t0_59)] → W p l e (bs_rm 3 0 0 72) s m args below meth c H locs 0 0 Q (F0 m 234 ls [.long t0_234]) := by
                    intro ls t0_234 hl
                    refine lv_lstore (lv' := [(8, .long t0_234), (0, .ref a), (1, .int x1), (2, .int x2), (3, .int x3), (4, .int x4), (5, .int t0_15), (6, .int t0_33), (7, .int t0_59)]) hx hb dModel_lookSum_234 hl (by decide) rfl (fun ls hl => ?_)
                    refine lv_iload hx hb dModel_lookSum_236 (lv_at hl 7 rfl) ?_
                    have J257 : ∀ (ls : Array Slot) (t0_257 : Int64), lv_has ls 14 [(0, .ref a), (1, .int x1), (2, .int x2), (3, .int x3), (4, .int x4), (5, .int t0_15), (6, .int t0_33), (7, .int t0_59), (8, .long t0_234)] → W p l e (bs_rm 3 0 0 72) s m args below meth c H locs 0 0 Q (F0 m 257 ls [.long t0_257]) := by
                      intro ls t0_257 hl
                      refine lv_lstore (lv' := [(10, .long t0_257), (0, .ref a), (1, .int x1), (2, .int x2), (3, .int x3), (4, .int x4), (5, .int t0_15), (6, .int t0_33), (7, .int t0_59), (8, .long t0_234)]) hx hb dModel_lookSum_257 hl (by decide) rfl (fun ls hl => ?_)
                      refine lv_iload hx hb dModel_lookSum_259 (lv_at hl 6 rfl) ?_
                      have J291 : ∀ (ls : Array Slot) (t0_291 : Int32), lv_has ls 14 [(0, .ref a), (1, .int x1), (2, .int x2), (3, .int x3), (4, .int x4), (5, .int t0_15), (6, .int t0_33), (7, .int t0_59), (8, .long t0_234), (10, .long t0_257)] → W p l e (bs_rm 3 0 0 72) s m args below meth c H locs 0 0 Q (F0 m 291 ls [.int t0_291]) := by
                        intro ls t0_291 hl
                        refine lv_istore (lv' := [(12, .int t0_291), (0, .ref a), (1, .int x1), (2, .int x2), (3, .int x3), (4, .int x4), (5, .int t0_15), (6, .int t0_33), (7, .int t0_59), (8, .long t0_234), (10, .long t0_257)]) hx hb dModel_lookSum_291 hl (by decide) rfl (fun ls hl => ?_)
                        refine lv_iload hx hb dModel_lookSum_293 (lv_at hl 0 rfl) ?_
                        have J320 : ∀ (ls : Array Slot) (H : Heap) (locs : List Loc) (F_320 : Nat → Nat → Int32), MD γ a B Z ν τ σ F_320 nur351 H → va_S Z s.heap H locs → (GK x1.toNatClampNeg F_320 nur351) → (SL x1.toNatClampNeg F nu F_320 nur351) → (SZ F_320) → lv_has ls 14 [(0, .ref a), (1, .int x1), (2, .int x2), (3, .int x3), (4, .int x4), (5, .int t0_15), (6, .int t0_33), (7, .int t0_59), (8, .long t0_234), (10, .long t0_257), (12, .int t0_291)] → W p l e (bs_rm 3 0 0 72) s m args below meth c H locs 0 0 Q (F0 m 320 ls []) := by
                          intro ls H locs F_320 hM hS hK hL hZ hl
                          refine lv_iconst (v := 0) hx hb dModel_lookSum_320 (by decide) ?_
                          refine lv_istore (lv' := [(13, .int 0), (0, .ref a), (1, .int x1), (2, .int x2), (3, .int x3), (4, .int x4), (5, .int t0_15), (6, .int t0_33), (7, .int t0_59), (8, .long t0_234), (10, .long t0_257), (12, .int t0_291)]) hx hb dModel_lookSum_321 hl (by decide) rfl (fun ls hl => ?_)
                          have J323 : ∀ (N323 : Nat) (ls : Array Slot) (H : Heap) (locs : List Loc) (F_323 : Nat → Nat → Int32) (i13_323 : Int32), MD γ a B Z ν τ σ F_323 nur351 H → va_S Z s.heap H locs → (GK x1.toNatClampNeg F_323 nur351) → (SL x1.toNatClampNeg F nu F_323 nur351) → (SZ F_323) → (¬ i13_323 < 0) → (2147483647 - i13_323.toInt).toNat = N323 → lv_has ls 14 [(0, .ref a), (1, .int x1), (2, .int x2), (3, .int x3), (4, .int x4), (5, .int t0_15), (6, .int t0_33), (7, .int t0_59), (8, .long t0_234), (10, .long t0_257), (12, .int t0_291), (13, .int i13_323)] → W p l e (bs_rm 3 0 0 72) s m args below meth c H locs 0 0 Q (F0 m 323 ls []) := by
                            intro N323
                            induction N323 using Nat.strongRecOn with
                            | ind N323 ih323 =>
                              intro ls H locs F_323 i13_323 hM hS hK hL hZ hi13_323 hm323 hl
                              refine lv_iload hx hb dModel_lookSum_323 (lv_at hl 11 rfl) ?_
                              refine lv_aload_n hx hb dModel_lookSum_325 rfl (lv_at hl 0 rfl) ?_
                              refine md_gA S hC hM 10 (by decide) rfl qw_bd0251c605 dModel_lookSum_326 ?_
                              refine lv_iload_n hx hb dModel_lookSum_329 rfl (lv_at hl 1 rfl) ?_
                              refine md_ild S hC hM 10 6 10000 (F_323 10) rfl rfl (by decide) rfl rfl (vin (by assumption) (by omega)) dModel_lookSum_330 ?_
                              refine lv_topi (fun v423 ev423 => ?_)
                              have J353 : ∀ (ls : Array Slot), lv_has ls 14 [(0, .ref a), (1, .int x1), (2, .int x2), (3, .int x3), (4, .int x4), (5, .int t0_15), (6, .int t0_33), (7, .int t0_59), (8, .long t0_234), (10, .long t0_257), (12, .int t0_291), (13, .int i13_323)] → W p l e (bs_rm 3 0 0 72) s m args below meth c H locs 0 0 Q (F0 m 353 ls []) := by
                                intro ls hl
                                refine lv_aload_n hx hb dModel_lookSum_353 rfl (lv_at hl 0 rfl) ?_
                                refine lv_iload_n hx hb dModel_lookSum_354 rfl (lv_at hl 1 rfl) ?_
                                refine mu_Vi (rest := []) S hC (fun q h => hA q (Nat.le_trans hS.1 h)) (fun q h => h) hS (m_known l γ a B Z κ b mn ν τ σ F_323 nur351 hT x1 (vin (by assumption) (by omega))) meModel_known qw_aa15322dc3 ⟨Nat.le_of_ble_eq_true rfl, Nat.le_of_ble_eq_true rfl⟩ (md_rv hC hM) hM rfl hl.1 rfl (Nat.le_of_ble_eq_true rfl) dModel_lookSum_355 ⟨Nat.le_refl _, Nat.le_refl _⟩ (fun r429 H locs hPO hS _ _ => ?_)
                                obtain ⟨hrr429, Fr429, nur429, hM, hqr429, hnr429⟩ := hPO
                                have hZ : SZ Fr429 := hZ.e14 hqr429
                                have hL : SL x1.toNatClampNeg F nu Fr429 nur429 := hL.trans (SL.kn hqr429 hnr429)
                                have hK : GK x1.toNatClampNeg Fr429 nur429 := hK.kn hqr429 hnr429
                                exact hE _ _ _ _ _ hS ⟨σ, Fr429, nur429, hM, hZ, hF, hL, (fun _ => hK)⟩ dModel_lookSum_358
                              refine lv_icmp_ge (tgt := 353) hx hb dModel_lookSum_331 (by decide) (fun c430 => ?_) (fun c430 => ?_)
                              · exact J353 ls  (lv_sub hl [0, 1, 2, 3, 4, 5, 6, 7, 8, 9, 10, 11] rfl)
                              · have hin13 : vp_in i13_323 1000 := vsz hZ (vix (vin hx1 (by omega))) (by assumption) (by assumption) (by assumption)
                                refine lv_iload hx hb dModel_lookSum_334 (lv_at hl 10 rfl) ?_
                                refine lv_if_ne (tgt := 353) hx hb dModel_lookSum_336 (by decide) (fun c431 => ?_) (fun c431 => ?_)
                                · exact J353 ls  (lv_sub hl [0, 1, 2, 3, 4, 5, 6, 7, 8, 9, 10, 11] rfl)
                                · refine lv_aload_n hx hb dModel_lookSum_339 rfl (lv_at hl 0 rfl) ?_
                                  refine lv_iload_n hx hb dModel_lookSum_340 rfl (lv_at hl 1 rfl) ?_
                                  refine lv_iload hx hb dModel_lookSum_341 (lv_at hl 11 rfl) ?_
                                  refine lv_iconst (v := 1) hx hb dModel_lookSum_343 (by decide) ?_
                                  refine mu_Vv (rest := []) S hC (fun q h => hA q (Nat.le_trans hS.1 h)) (fun q h => h) hS (m_setElement l γ a B Z κ b mn ν τ σ F_323 nur351 hT x1 i13_323 1 (el_in (by assumption) (by assumption) (by omega))) meModel_setElement qw_143403ccb9 ⟨Nat.le_of_ble_eq_true rfl, Nat.le_of_ble_eq_true rfl⟩ (md_rv hC hM) hM rfl hl.1 rfl (Nat.le_of_ble_eq_true rfl) dModel_lookSum_344 ⟨Nat.le_refl _, Nat.le_refl _⟩ (fun H locs hPO hS _ _ => ?_)
                                  obtain ⟨Fr432, hM, hqr432⟩ := hPO
                                  have hZ : SZ Fr432 := hZ.e14 hqr432
                                  have hL : SL x1.toNatClampNeg F nu Fr432 nur351 := hL.trans (SL.e14 hqr432)
                                  have hK : GK x1.toNatClampNeg Fr432 nur351 := hK.e14 hqr432
                                  obtain ⟨v433, ev433⟩ : ∃ y : Int32, y = i13_323 + 1 := ⟨_, rfl⟩
                                  refine lv_iinc (v := v433) (lv' := [(13, .int v433), (0, .ref a), (1, .int x1), (2, .int x2), (3, .int x3), (4, .int x4), (5, .int t0_15), (6, .int t0_33), (7, .int t0_59), (8, .long t0_234), (10, .long t0_257), (12, .int t0_291)]) hx hb dModel_lookSum_347 hl (k := 11) rfl (by rw [ev433]; rfl) (by decide) rfl (fun ls hl => ?_)
                                  refine lv_goto (tgt := 323) hx hb dModel_lookSum_350 (by decide) ?_
                                  exact ih323 _ (by have q1 : i13_323.toInt < 2147483647 := (by first | assumption | exact (mu_up (k := i13_323) (by assumption)).2); have q2 := mu_lt q1; rw [← ev433] at q2; omega) ls _ _ Fr432 v433 hM hS hK hL hZ (by first | decide | exact nn_inc (by assumption) (by assumption) (by assumption)) rfl (lv_sub hl [1, 2, 3, 4, 5, 6, 7, 8, 9, 10, 11, 0] rfl)
                          exact J323 _ ls _ _ F_320 0 hM hS hK hL hZ (by first | decide | exact nn_inc (by assumption) (by assumption) (by assumption)) rfl (lv_sub hl [1, 2, 3, 4, 5, 6, 7, 8, 9, 10, 11, 0] rfl)
                        refine lv_if_eq (tgt := 320) hx hb dModel_lookSum_295 (by decide) (fun c434 => ?_) (fun c434 => ?_)
                        · exact J320 ls _ _ Fr351 hM hS hK hL hZ (lv_sub hl [1, 2, 3, 4, 5, 6, 7, 8, 9, 10, 0] rfl)
                        · refine lv_aload_n hx hb dModel_lookSum_298 rfl (lv_at hl 1 rfl) ?_
                          refine lv_iload_n hx hb dModel_lookSum_299 rfl (lv_at hl 2 rfl) ?_
                          refine lv_iload_n hx hb dModel_lookSum_300 rfl (lv_at hl 3 rfl) ?_
                          have J317 : ∀ (ls : Array Slot) (t0_317 : Int64), lv_has ls 14 [(0, .ref a), (1, .int x1), (2, .int x2), (3, .int x3), (4, .int x4), (5, .int t0_15), (6, .int t0_33), (7, .int t0_59), (8, .long t0_234), (10, .long t0_257), (12, .int t0_291)] → W p l e (bs_rm 3 0 0 72) s m args below meth c H locs 0 0 Q (F0 m 317 ls [.long t0_317, .int x1, .ref a]) := by
                            intro ls t0_317 hl
                            refine mu_Vv (rest := []) S hC (fun q h => hA q (Nat.le_trans hS.1 h)) (fun q h => h) hS (m_bits l γ a B Z κ b mn ν τ σ Fr351 nur351 hT x1 t0_317 (vin (by assumption) (by omega)) hZ) meModel_bits qw_be891c2f99 ⟨Nat.le_of_ble_eq_true rfl, Nat.le_of_ble_eq_true rfl⟩ (md_rv hC hM) hM rfl hl.1 rfl (Nat.le_of_ble_eq_true rfl) dModel_lookSum_317 ⟨Nat.le_refl _, Nat.le_refl _⟩ (fun H locs hPO hS _ _ => ?_)
                            obtain ⟨Fr439, hM, hqr439⟩ := hPO
                            have hZ : SZ Fr439 := hZ.e14 hqr439
                            have hL : SL x1.toNatClampNeg F nu Fr439 nur351 := hL.trans (SL.e14 hqr439)
                            have hK : GK x1.toNatClampNeg Fr439 nur351 := hK.e14 hqr439
                            exact J320 ls _ _ Fr439 hM hS hK hL hZ (lv_sub hl [0, 1, 2, 3, 4, 5, 6, 7, 8, 9, 10] rfl)
                          refine lv_if_eq (tgt := 312) hx hb dModel_lookSum_301 (by decide) (fun c440 => ?_) (fun c440 => ?_)
                          · refine lv_lload hx hb dModel_lookSum_312 (lv_at hl 9 rfl) ?_
                            refine lv_lload hx hb dModel_lookSum_314 (lv_at hl 10 rfl) ?_
                            refine lv_ladd hx hb dModel_lookSum_316 ?_
                            refine lv_topl (fun v441 ev441 => ?_)
                            exact J317 ls v441 (lv_sub hl [1, 2, 3, 4, 5, 6, 7, 8, 9, 10, 0] rfl)
                          · refine lv_lload hx hb dModel_lookSum_304 (lv_at hl 9 rfl) ?_
                            refine lv_lload hx hb dModel_lookSum_306 (lv_at hl 10 rfl) ?_
                            refine lv_lsub hx hb dModel_lookSum_308 ?_
                            refine lv_topl (fun v442 ev442 => ?_)
                            refine lv_goto (tgt := 317) hx hb dModel_lookSum_309 (by decide) ?_
                            exact J317 ls v442 (lv_sub hl [1, 2, 3, 4, 5, 6, 7, 8, 9, 10, 0] rfl)
                      have J290 : ∀ (ls : Array Slot), lv_has ls 14 [(0, .ref a), (1, .int x1), (2, .int x2), (3, .int x3), (4, .int x4), (5, .int t0_15), (6, .int t0_33), (7, .int t0_59), (8, .long t0_234), (10, .long t0_257)] → W p l e (bs_rm 3 0 0 72) s m args below meth c H locs 0 0 Q (F0 m 290 ls []) := by
                        intro ls hl
                        refine lv_iconst (v := 0) hx hb dModel_lookSum_290 (by decide) ?_
                        exact J291 ls 0 (lv_sub hl [0, 1, 2, 3, 4, 5, 6, 7, 8, 9] rfl)
                      have J272 : ∀ (ls : Array Slot), lv_has ls 14 [(0, .ref a), (1, .int x1), (2, .int x2), (3, .int x3), (4, .int x4), (5, .int t0_15), (6, .int t0_33), (7, .int t0_59), (8, .long t0_234), (10, .long t0_257)] → W p l e (bs_rm 3 0 0 72) s m args below meth c H locs 0 0 Q (F0 m 272 ls []) := by
                        intro ls hl
                        refine lv_iload hx hb dModel_lookSum_272 (lv_at hl 6 rfl) ?_
                        have J286 : ∀ (ls : Array Slot), lv_has ls 14 [(0, .ref a), (1, .int x1), (2, .int x2), (3, .int x3), (4, .int x4), (5, .int t0_15), (6, .int t0_33), (7, .int t0_59), (8, .long t0_234), (10, .long t0_257)] → W p l e (bs_rm 3 0 0 72) s m args below meth c H locs 0 0 Q (F0 m 286 ls []) := by
                          intro ls hl
                          refine lv_iconst (v := 1) hx hb dModel_lookSum_286 (by decide) ?_
                          refine lv_goto (tgt := 291) hx hb dModel_lookSum_287 (by decide) ?_
                          exact J291 ls 1 (lv_sub hl [0, 1, 2, 3, 4, 5, 6, 7, 8, 9] rfl)
                        refine lv_if_eq (tgt := 286) hx hb dModel_lookSum_274 (by decide) (fun c446 => ?_) (fun c446 => ?_)
                        · exact J286 ls  (lv_sub hl [0, 1, 2, 3, 4, 5, 6, 7, 8, 9] rfl)
                        · refine lv_aload_n hx hb dModel_lookSum_277 rfl (lv_at hl 0 rfl) ?_
                          refine lv_iload hx hb dModel_lookSum_278 (lv_at hl 4 rfl) ?_
                          refine pu_Vi (rest := []) S hC (m_isClear l γ a B Z κ b mn ν τ σ Fr351 nur351 hT x4 (vin (by assumption) (by omega)) hZ) meModel_isClear qw_f576e3fc3c ⟨Nat.le_of_ble_eq_true rfl, Nat.le_of_ble_eq_true rfl⟩ (md_rv hC hM) hM rfl hl.1 rfl (Nat.le_of_ble_eq_true rfl) dModel_lookSum_280 ⟨Nat.zero_le _, Nat.zero_le _⟩ (fun r447 hr447 => ?_)
                          refine lv_if_eq (tgt := 290) hx hb dModel_lookSum_283 (by decide) (fun c448 => ?_) (fun c448 => ?_)
                          · exact J290 ls  (lv_sub hl [0, 1, 2, 3, 4, 5, 6, 7, 8, 9] rfl)
                          · exact J286 ls  (lv_sub hl [0, 1, 2, 3, 4, 5, 6, 7, 8, 9] rfl)
                      refine lv_if_eq (tgt := 272) hx hb dModel_lookSum_261 (by decide) (fun c449 => ?_) (fun c449 => ?_)
                      · exact J272 ls  (lv_sub hl [1, 2, 3, 4, 5, 6, 7, 8, 9, 0] rfl)
                      · refine lv_aload_n hx hb dModel_lookSum_264 rfl (lv_at hl 1 rfl) ?_
                        refine lv_iload_n hx hb dModel_lookSum_265 rfl (lv_at hl 4 rfl) ?_
                        refine pu_Vi (rest := []) S hC (m_isClear l γ a B Z κ b mn ν τ σ Fr351 nur351 hT x3 (vin (by assumption) (by omega)) hZ) meModel_isClear qw_f576e3fc3c ⟨Nat.le_of_ble_eq_true rfl, Nat.le_of_ble_eq_true rfl⟩ (md_rv hC hM) hM rfl hl.1 rfl (Nat.le_of_ble_eq_true rfl) dModel_lookSum_266 ⟨Nat.zero_le _, Nat.zero_le _⟩ (fun r450 hr450 => ?_)
                        refine lv_if_eq (tgt := 290) hx hb dModel_lookSum_269 (by decide) (fun c451 => ?_) (fun c451 => ?_)
                        · exact J290 ls  (lv_sub hl [1, 2, 3, 4, 5, 6, 7, 8, 9, 0] rfl)
                        · exact J272 ls  (lv_sub hl [1, 2, 3, 4, 5, 6, 7, 8, 9, 0] rfl)
                    refine lv_if_eq (tgt := 250) hx hb dModel_lookSum_238 (by decide) (fun c452 => ?_) (fun c452 => ?_)
                    · refine lv_aload_n hx hb dModel_lookSum_250 rfl (lv_at hl 1 rfl) ?_
                      refine md_gA S hC hM 13 (by decide) rfl qw_7b809afc8c dModel_lookSum_251 ?_
                      refine lv_iload hx hb dModel_lookSum_254 (lv_at hl 5 rfl) ?_
                      refine md_lld S hC hM (vin (by assumption) (by omega)) dModel_lookSum_256 ?_
                      refine lv_topl (fun v453 ev453 => ?_)
                      have ev453 : v453 = nur351 x4.toNatClampNeg := ev453
                      exact J257 ls v453 (lv_sub hl [1, 2, 3, 4, 5, 6, 7, 8, 0] rfl)
                    · refine lv_aload_n hx hb dModel_lookSum_241 rfl (lv_at hl 1 rfl) ?_
                      refine lv_iload hx hb dModel_lookSum_242 (lv_at hl 5 rfl) ?_
                      refine pu_Vl (rest := []) S hC (m_numberOf l γ a B Z κ b mn ν τ σ Fr351 nur351 hT x4 (vin (by assumption) (by omega)) hZ) meModel_numberOf qw_75e699d051 ⟨Nat.le_of_ble_eq_true rfl, Nat.le_of_ble_eq_true rfl⟩ (md_rv hC hM) hM rfl hl.1 rfl (Nat.le_of_ble_eq_true rfl) dModel_lookSum_244 ⟨Nat.zero_le _, Nat.zero_le _⟩ (fun r454 hr454 => ?_)
                      refine lv_goto (tgt := 257) hx hb dModel_lookSum_247 (by decide) ?_
                      exact J257 ls r454 (lv_sub hl [1, 2, 3, 4, 5, 6, 7, 8, 0] rfl)
                  refine lv_if_eq (tgt := 228) hx hb dModel_lookSum_217 (by decide) (fun c455 => ?_) (fun c455 => ?_)
                  · refine lv_aload_n hx hb dModel_lookSum_228 rfl (lv_at hl 0 rfl) ?_
                    refine md_gA S hC hM 13 (by decide) rfl qw_7b809afc8c dModel_lookSum_229 ?_
                    refine lv_iload_n hx hb dModel_lookSum_232 rfl (lv_at hl 3 rfl) ?_
                    refine md_lld S hC hM (vin (by assumption) (by omega)) dModel_lookSum_233 ?_
                    refine lv_topl (fun v456 ev456 => ?_)
                    have ev456 : v456 = nur351 x3.toNatClampNeg := ev456
                    exact J234 ls v456 (lv_sub hl [0, 1, 2, 3, 4, 5, 6, 7] rfl)
                  · refine lv_aload_n hx hb dModel_lookSum_220 rfl (lv_at hl 0 rfl) ?_
                    refine lv_iload_n hx hb dModel_lookSum_221 rfl (lv_at hl 3 rfl) ?_
                    refine pu_Vl (rest := []) S hC (m_numberOf l γ a B Z κ b mn ν τ σ Fr351 nur351 hT x3 (vin (by assumption) (by omega)) hZ) meModel_numberOf qw_75e699d051 ⟨Nat.le_of_ble_eq_true rfl, Nat.le_of_ble_eq_true rfl⟩ (md_rv hC hM) hM rfl hl.1 rfl (Nat.le_of_ble_eq_true rfl) dModel_lookSum_222 ⟨Nat.zero_le _, Nat.zero_le _⟩ (fun r457 hr457 => ?_)
                    refine lv_goto (tgt := 234) hx hb dModel_lookSum_225 (by decide) ?_
                    exact J234 ls r457 (lv_sub hl [0, 1, 2, 3, 4, 5, 6, 7] rfl)
                refine lv_if_eq (tgt := 203) hx hb dModel_lookSum_191 (by decide) (fun c458 => ?_) (fun c458 => ?_)
                · refine lv_aload_n hx hb dModel_lookSum_203 rfl (lv_at hl 0 rfl) ?_
                  refine md_gA S hC hM 10 (by decide) rfl qw_bd0251c605 dModel_lookSum_204 ?_
                  refine lv_iload hx hb dModel_lookSum_207 (lv_at hl 4 rfl) ?_
                  refine md_ild S hC hM 10 6 10000 (F 10) rfl rfl (by decide) rfl rfl (vin (by assumption) (by omega)) dModel_lookSum_209 ?_
                  refine lv_topi (fun v459 ev459 => ?_)
                  exact J210 ls v459 (by rw [ev459]; exact hZ _ (vix (vin (by assumption) (by omega)))) (lv_sub hl [0, 1, 2, 3, 4, 5, 6, 7] rfl)
                · refine lv_aload_n hx hb dModel_lookSum_194 rfl (lv_at hl 0 rfl) ?_
                  refine md_gA S hC hM 10 (by decide) rfl qw_bd0251c605 dModel_lookSum_195 ?_
                  refine lv_iload_n hx hb dModel_lookSum_198 rfl (lv_at hl 3 rfl) ?_
                  refine md_ild S hC hM 10 6 10000 (F 10) rfl rfl (by decide) rfl rfl (vin (by assumption) (by omega)) dModel_lookSum_199 ?_
                  refine lv_topi (fun v460 ev460 => ?_)
                  refine lv_goto (tgt := 210) hx hb dModel_lookSum_200 (by decide) ?_
                  exact J210 ls v460 (by rw [ev460]; exact hZ _ (vix (vin (by assumption) (by omega)))) (lv_sub hl [0, 1, 2, 3, 4, 5, 6, 7] rfl)
              refine lv_if_eq (tgt := 186) hx hb dModel_lookSum_160 (by decide) (fun c461 => ?_) (fun c461 => ?_)
              · exact J186 ls  (lv_sub hl [0, 1, 2, 3, 4, 5, 6, 7] rfl)
              · refine lv_iload hx hb dModel_lookSum_163 (lv_at hl 6 rfl) ?_
                refine lv_if_eq (tgt := 186) hx hb dModel_lookSum_165 (by decide) (fun c462 => ?_) (fun c462 => ?_)
                · exact J186 ls  (lv_sub hl [0, 1, 2, 3, 4, 5, 6, 7] rfl)
                · refine lv_aload_n hx hb dModel_lookSum_168 rfl (lv_at hl 0 rfl) ?_
                  refine md_gA S hC hM 10 (by decide) rfl qw_bd0251c605 dModel_lookSum_169 ?_
                  refine lv_iload_n hx hb dModel_lookSum_172 rfl (lv_at hl 3 rfl) ?_
                  refine md_ild S hC hM 10 6 10000 (F 10) rfl rfl (by decide) rfl rfl (vin (by assumption) (by omega)) dModel_lookSum_173 ?_
                  refine lv_topi (fun v463 ev463 => ?_)
                  refine lv_aload_n hx hb dModel_lookSum_174 rfl (lv_at hl 0 rfl) ?_
                  refine md_gA S hC hM 10 (by decide) rfl qw_bd0251c605 dModel_lookSum_175 ?_
                  refine lv_iload hx hb dModel_lookSum_178 (lv_at hl 4 rfl) ?_
                  refine md_ild S hC hM 10 6 10000 (F 10) rfl rfl (by decide) rfl rfl (vin (by assumption) (by omega)) dModel_lookSum_180 ?_
                  refine lv_topi (fun v464 ev464 => ?_)
                  refine lv_icmp_eq (tgt := 186) hx hb dModel_lookSum_181 (by decide) (fun c465 => ?_) (fun c465 => ?_)
                  · exact J186 ls  (lv_sub hl [0, 1, 2, 3, 4, 5, 6, 7] rfl)
                  · refine lv_iconst (v := 4) hx hb dModel_lookSum_184 (by decide) ?_
                    exact hE _ _ _ _ _ hS ⟨σ, F, nu, hM, hZ, hF, hL, (fun h9 => absurd (show (0 : Int32) < 4 by decide) h9)⟩ dModel_lookSum_185
            refine lv_if_ne (tgt := 158) hx hb dModel_lookSum_142 (by decide) (fun c466 => ?_) (fun c466 => ?_)
            · exact J158 ls  (lv_sub hl [0, 1, 2, 3, 4, 5, 6, 7] rfl)
            · refine lv_aload_n hx hb dModel_lookSum_145 rfl (lv_at hl 0 rfl) ?_
              refine md_gA S hC hM 9 (by decide) rfl qw_a119aeeca0 dModel_lookSum_146 ?_
              refine lv_iload hx hb dModel_lookSum_149 (lv_at hl 4 rfl) ?_
              refine md_ild S hC hM 9 5 10000 (F 9) rfl rfl (by decide) rfl rfl (vin (by assumption) (by omega)) dModel_lookSum_151 ?_
              refine lv_topi (fun v467 ev467 => ?_)
              refine lv_iconst (v := 2) hx hb dModel_lookSum_152 (by decide) ?_
              refine lv_icmp_eq (tgt := 158) hx hb dModel_lookSum_153 (by decide) (fun c468 => ?_) (fun c468 => ?_)
              · exact J158 ls  (lv_sub hl [0, 1, 2, 3, 4, 5, 6, 7] rfl)
              · refine lv_iconst (v := 3) hx hb dModel_lookSum_156 (by decide) ?_
                exact hE _ _ _ _ _ hS ⟨σ, F, nu, hM, hZ, hF, hL, (fun h9 => absurd (show (0 : Int32) < 3 by decide) h9)⟩ dModel_lookSum_157
          refine lv_if_ne (tgt := 140) hx hb dModel_lookSum_127 (by decide) (fun c469 => ?_) (fun c469 => ?_)
          · exact J140 ls  (lv_sub hl [0, 1, 2, 3, 4, 5, 6, 7] rfl)
          · refine lv_aload_n hx hb dModel_lookSum_130 rfl (lv_at hl 0 rfl) ?_
            refine md_gA S hC hM 9 (by decide) rfl qw_a119aeeca0 dModel_lookSum_131 ?_
            refine lv_iload_n hx hb dModel_lookSum_134 rfl (lv_at hl 3 rfl) ?_
            refine md_ild S hC hM 9 5 10000 (F 9) rfl rfl (by decide) rfl rfl (vin (by assumption) (by omega)) dModel_lookSum_135 ?_
            refine lv_topi (fun v470 ev470 => ?_)
            refine lv_iconst (v := 2) hx hb dModel_lookSum_136 (by decide) ?_
            refine lv_icmp_ne (tgt := 156) hx hb dModel_lookSum_137 (by decide) (fun c471 => ?_) (fun c471 => ?_)
            · refine lv_iconst (v := 3) hx hb dModel_lookSum_156 (by decide) ?_
              exact hE _ _ _ _ _ hS ⟨σ, F, nu, hM, hZ, hF, hL, (fun h9 => absurd (show (0 : Int32) < 3 by decide) h9)⟩ dModel_lookSum_157
            · exact J140 ls  (lv_sub hl [0, 1, 2, 3, 4, 5, 6, 7] rfl)
        refine lv_icmp_ne (tgt := 125) hx hb dModel_lookSum_68 (by decide) (fun c472 => ?_) (fun c472 => ?_)
        · exact J125 ls  (lv_sub hl [1, 2, 3, 4, 5, 6, 7, 0] rfl)
        · refine lv_aload_n hx hb dModel_lookSum_71 rfl (lv_at hl 1 rfl) ?_
          refine md_gA S hC hM 9 (by decide) rfl qw_a119aeeca0 dModel_lookSum_72 ?_
          refine lv_iload hx hb dModel_lookSum_75 (lv_at hl 5 rfl) ?_
          refine md_ild S hC hM 9 5 10000 (F 9) rfl rfl (by decide) rfl rfl (vin (by assumption) (by omega)) dModel_lookSum_77 ?_
          refine lv_topi (fun v473 ev473 => ?_)
          refine lv_iconst (v := 2) hx hb dModel_lookSum_78 (by decide) ?_
          refine lv_icmp_ne (tgt := 125) hx hb dModel_lookSum_79 (by decide) (fun c474 => ?_) (fun c474 => ?_)
          · exact J125 ls  (lv_sub hl [1, 2, 3, 4, 5, 6, 7, 0] rfl)
          · refine lv_aload_n hx hb dModel_lookSum_82 rfl (lv_at hl 1 rfl) ?_
            refine lv_iload_n hx hb dModel_lookSum_83 rfl (lv_at hl 2 rfl) ?_
            refine lv_iload hx hb dModel_lookSum_84 (lv_at hl 0 rfl) ?_
            refine lv_iload_n hx hb dModel_lookSum_86 rfl (lv_at hl 3 rfl) ?_
            have J121 : ∀ (ls : Array Slot) (t0_121 : Int64), lv_has ls 14 [(0, .ref a), (1, .int x1), (2, .int x2), (3, .int x3), (4, .int x4), (5, .int t0_15), (6, .int t0_33), (7, .int t0_59)] → W p l e (bs_rm 3 0 0 72) s m args below meth c s.heap [] 0 0 Q (F0 m 121 ls [.long t0_121, .int t0_59, .int x1, .ref a]) := by
              intro ls t0_121 hl
              refine mu_Vi (rest := []) S hC (fun q h => hA q (Nat.le_trans hS.1 h)) (fun q h => h) hS (m_integer l γ a B Z κ b mn ν τ σ F nu hT x1 t0_59 t0_121 (vin (by assumption) (by omega)) hZ hF) meModel_integer qw_fff04f2807 ⟨Nat.le_of_ble_eq_true rfl, Nat.le_of_ble_eq_true rfl⟩ (md_rv hC hM) hM rfl hl.1 rfl (Nat.le_of_ble_eq_true rfl) dModel_lookSum_121 ⟨Nat.le_refl _, Nat.le_refl _⟩ (fun r483 H locs hPO hS _ _ => ?_)
              obtain ⟨σr483, Fr483, nur483, hM, hZ, hF, hLr483, hRr483⟩ := hPO
              have hL : SL x1.toNatClampNeg F nu Fr483 nur483 := hL.trans hLr483
              exact hE _ _ _ _ _ hS ⟨σr483, Fr483, nur483, hM, hZ, hF, hL, hRr483⟩ dModel_lookSum_124
            refine lv_if_eq (tgt := 107) hx hb dModel_lookSum_87 (by decide) (fun c484 => ?_) (fun c484 => ?_)
            · refine lv_aload_n hx hb dModel_lookSum_107 rfl (lv_at hl 1 rfl) ?_
              refine md_gA S hC hM 13 (by decide) rfl qw_7b809afc8c dModel_lookSum_108 ?_
              refine lv_iload_n hx hb dModel_lookSum_111 rfl (lv_at hl 4 rfl) ?_
              refine md_lld S hC hM (vin (by assumption) (by omega)) dModel_lookSum_112 ?_
              refine lv_topl (fun v485 ev485 => ?_)
              have ev485 : v485 = nu x3.toNatClampNeg := ev485
              refine lv_aload_n hx hb dModel_lookSum_113 rfl (lv_at hl 1 rfl) ?_
              refine md_gA S hC hM 13 (by decide) rfl qw_7b809afc8c dModel_lookSum_114 ?_
              refine lv_iload hx hb dModel_lookSum_117 (lv_at hl 5 rfl) ?_
              refine md_lld S hC hM (vin (by assumption) (by omega)) dModel_lookSum_119 ?_
              refine lv_topl (fun v486 ev486 => ?_)
              have ev486 : v486 = nu x4.toNatClampNeg := ev486
              refine lv_ladd hx hb dModel_lookSum_120 ?_
              refine lv_topl (fun v487 ev487 => ?_)
              exact J121 ls v487 (lv_sub hl [1, 2, 3, 4, 5, 6, 7, 0] rfl)
            · refine lv_aload_n hx hb dModel_lookSum_90 rfl (lv_at hl 1 rfl) ?_
              refine md_gA S hC hM 13 (by decide) rfl qw_7b809afc8c dModel_lookSum_91 ?_
              refine lv_iload_n hx hb dModel_lookSum_94 rfl (lv_at hl 4 rfl) ?_
              refine md_lld S hC hM (vin (by assumption) (by omega)) dModel_lookSum_95 ?_
              refine lv_topl (fun v488 ev488 => ?_)
              have ev488 : v488 = nu x3.toNatClampNeg := ev488
              refine lv_aload_n hx hb dModel_lookSum_96 rfl (lv_at hl 1 rfl) ?_
              refine md_gA S hC hM 13 (by decide) rfl qw_7b809afc8c dModel_lookSum_97 ?_
              refine lv_iload hx hb dModel_lookSum_100 (lv_at hl 5 rfl) ?_
              refine md_lld S hC hM (vin (by assumption) (by omega)) dModel_lookSum_102 ?_
              refine lv_topl (fun v489 ev489 => ?_)
              have ev489 : v489 = nu x4.toNatClampNeg := ev489
              refine lv_lsub hx hb dModel_lookSum_103 ?_
              refine lv_topl (fun v490 ev490 => ?_)
              refine lv_goto (tgt := 121) hx hb dModel_lookSum_104 (by decide) ?_
              exact J121 ls v490 (lv_sub hl [1, 2, 3, 4, 5, 6, 7, 0] rfl)
      have J58 : ∀ (ls : Array Slot), lv_has ls 14 [(0, .ref a), (1, .int x1), (2, .int x2), (3, .int x3), (4, .int x4), (5, .int t0_15), (6, .int t0_33)] → W p l e (bs_rm 3 0 0 72) s m args below meth c s.heap [] 0 0 Q (F0 m 58 ls []) := by
        intro ls hl
        refine lv_iconst (v := 0) hx hb dModel_lookSum_58 (by decide) ?_
        exact J59 ls 0 (lv_sub hl [0, 1, 2, 3, 4, 5, 6] rfl)
      refine lv_if_eq (tgt := 58) hx hb dModel_lookSum_41 (by decide) (fun c491 => ?_) (fun c491 => ?_)
      · exact J58 ls  (lv_sub hl [1, 2, 3, 4, 5, 6, 0] rfl)
      · refine lv_aload_n hx hb dModel_lookSum_44 rfl (lv_at hl 1 rfl) ?_
        refine md_gA S hC hM 11 (by decide) rfl qw_88b9028ba7 dModel_lookSum_45 ?_
        refine lv_iload hx hb dModel_lookSum_48 (lv_at hl 5 rfl) ?_
        refine md_zld S hC hM 11 7 10000 (F 11) rfl rfl (by decide) rfl rfl (vin (by assumption) (by omega)) dModel_lookSum_50 ?_
        refine lv_topi (fun v492 ev492 => ?_)
        refine lv_if_eq (tgt := 58) hx hb dModel_lookSum_51 (by decide) (fun c493 => ?_) (fun c493 => ?_)
        · exact J58 ls  (lv_sub hl [1, 2, 3, 4, 5, 6, 0] rfl)
        · refine lv_iconst (v := 1) hx hb dModel_lookSum_54 (by decide) ?_
          refine lv_goto (tgt := 59) hx hb dModel_lookSum_55 (by decide) ?_
          exact J59 ls 1 (lv_sub hl [1, 2, 3, 4, 5, 6, 0] rfl)
    refine lv_icmp_ne (tgt := 32) hx hb dModel_lookSum_25 (by decide) (fun c494 => ?_) (fun c494 => ?_)
    · refine lv_iconst (v := 0) hx hb dModel_lookSum_32 (by decide) ?_
      exact J33 ls 0 (lv_sub hl [1, 2, 3, 4, 5, 0] rfl)
    · refine lv_iconst (v := 1) hx hb dModel_lookSum_28 (by decide) ?_
      refine lv_goto (tgt := 33) hx hb dModel_lookSum_29 (by decide) ?_
      exact J33 ls 1 (lv_sub hl [1, 2, 3, 4, 5, 0] rfl)
  refine lv_icmp_ne (tgt := 14) hx hb dModel_lookSum_7 (by decide) (fun c495 => ?_) (fun c495 => ?_)
  · refine lv_iconst (v := 0) hx hb dModel_lookSum_14 (by decide) ?_
    exact J15 ls 0 (lv_sub hl [0, 1, 2, 3, 4] rfl)
  · refine lv_iconst (v := 1) hx hb dModel_lookSum_10 (by decide) ?_
    refine lv_goto (tgt := 15) hx hb dModel_lookSum_11 (by decide) ?_
    exact J15 ls 1 (lv_sub hl [0, 1, 2, 3, 4] rfl)
