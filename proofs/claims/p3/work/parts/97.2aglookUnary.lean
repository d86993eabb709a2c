theorem qw_aa15322dc3 : (Cond.methodLink R_Model 190 yModel_known) ∈ bs_W0 := bs_in (in_tables_1_6 (List.mem_of_getElem? (i := 99) rfl)) rfl
set_option maxHeartbeats 4000000 in
set_option maxRecDepth 100000 in
theorem m_lookUnary (l : Launch) (γ : gE) (a : Nat) (B : Nat → Nat) (Z : Nat → Prop) (κ b mn : Nat → Nat) (ν : Nat → Int32) (τ : Nat → Nat → Int32) (σ : Nat → Int32) (F : Nat → Nat → Int32) (nu : Nat → Int64) (hT : ST κ b mn ν τ) (x1 : Int32) (x2 : Int32) (hx1 : vp_in x1 (κ 0)) (hx2 : vp_in x2 (κ 0)) (ha : x2.toNatClampNeg < x1.toNatClampNeg) (hZ : SZ F) (hF : FD σ) (hg : GK x2.toNatClampNeg F nu) : MU l yModel_lookUnary bModel_lookUnary 5 (some .int) 2 48 0 0 [.ref a, .int x1, .int x2] γ Z (MD γ a B Z ν τ σ F nu) (mQi (fun r H => LKo γ a B Z ν τ x1.toNatClampNeg F nu r H) Z) := by
  refine mu_openI (by decide) (Nat.le_of_ble_eq_true rfl) ?_
  intro p e s m args below meth c ls Q S hnm hC hA hM hE hl
  have hS : va_S Z s.heap s.heap [] := va_S.rf
  obtain ⟨hx, hb, hml, hown, hW⟩ := id S
  obtain ⟨⟨hs0, hs1, hs2, hs3, hs4, hs5, hs6⟩, ⟨hv6, hv8, hv21, hv24, hv30, hv31⟩, hTR, hTY, hOB, hNM⟩ := id hT
  have hL : SL x1.toNatClampNeg F nu F nu := SL.rf
  have hl : lv_has ls 5 [(0, .ref a), (1, .int x1), (2, .int x2)] := hl
  refine lv_aload_n hx hb dModel_lookUnary_0 rfl (lv_at hl 0 rfl) ?_
  refine md_gA S hC hM 3 (by decide) rfl qw_9fb851a5fa dModel_lookUnary_1 ?_
  refine lv_iload_n hx hb dModel_lookUnary_4 rfl (lv_at hl 1 rfl) ?_
  refine md_ild S hC hM 3 1 4000 (τ 3) rfl rfl (by decide) rfl rfl (vin (by assumption) (by omega)) dModel_lookUnary_5 ?_
  refine lv_topi (fun v1 ev1 => ?_)
  refine lv_istore_n (lv' := [(3, .int v1), (0, .ref a), (1, .int x1), (2, .int x2)]) hx hb dModel_lookUnary_6 rfl hl (by decide) rfl (fun ls hl => ?_)
  refine lv_aload_n hx hb dModel_lookUnary_7 rfl (lv_at hl 1 rfl) ?_
  refine lv_iload_n hx hb dModel_lookUnary_8 rfl (lv_at hl 2 rfl) ?_
  refine lv_aload_n hx hb dModel_lookUnary_9 rfl (lv_at hl 1 rfl) ?_
  refine md_gA S hC hM 9 (by decide) rfl qw_a119aeeca0 dModel_lookUnary_10 ?_
  refine lv_iload_n hx hb dModel_lookUnary_13 rfl (lv_at hl 3 rfl) ?_
  refine md_ild S hC hM 9 5 10000 (F 9) rfl rfl (by decide) rfl rfl (vin (by assumption) (by omega)) dModel_lookUnary_14 ?_
  refine lv_topi (fun v2 ev2 => ?_)
  refine lv_aload_n hx hb dModel_lookUnary_15 rfl (lv_at hl 1 rfl) ?_
  refine md_gA S hC hM 10 (by decide) rfl qw_bd0251c605 dModel_lookUnary_16 ?_
  refine lv_iload_n hx hb dModel_lookUnary_19 rfl (lv_at hl 3 rfl) ?_
  refine md_ild S hC hM 10 6 10000 (F 10) rfl rfl (by decide) rfl rfl (vin (by assumption) (by omega)) dModel_lookUnary_20 ?_
  refine lv_topi (fun v3 ev3 => ?_)
  refine lv_aload_n hx hb dModel_lookUnary_21 rfl (lv_at hl 1 rfl) ?_
  refine md_gA S hC hM 11 (by decide) rfl qw_88b9028ba7 dModel_lookUnary_22 ?_
  refine lv_iload_n hx hb dModel_lookUnary_25 rfl (lv_at hl 3 rfl) ?_
  refine md_zld S hC hM 11 7 10000 (F 11) rfl rfl (by decide) rfl rfl (vin (by assumption) (by omega)) dModel_lookUnary_26 ?_
  refine lv_topi (fun v4 ev4 => ?_)
  have hnr5 : ∃ j, j ≤ 1000 ∧ v3 = nI j := (by rw [ev3]; exact hZ _ (vix (vin (by assumption) (by omega))))
  refine mu_Vv (rest := []) S hC (fun q h => hA q (Nat.le_trans hS.1 h)) (fun q h => h) hS (m_fact l γ a B Z κ b mn ν τ σ F nu hT x1 v2 v3 v4 (vin (by assumption) (by omega)) hnr5) meModel_fact qw_02871250ec ⟨Nat.le_of_ble_eq_true rfl, Nat.le_of_ble_eq_true rfl⟩ (md_rv hC hM) hM rfl hl.1 rfl (Nat.le_of_ble_eq_true rfl) dModel_lookUnary_27 ⟨Nat.le_refl _, Nat.le_refl _⟩ (fun H locs hPO hS _ _ => ?_)
  obtain ⟨Fr5, nur5, hM, hqr5, hcr5⟩ := hPO
  have hZ : SZ Fr5 := hZ.slt hqr5 hnr5
  have hL : SL x1.toNatClampNeg F nu Fr5 nur5 := hL.trans (SL.slt hqr5)
  have hK : GK x1.toNatClampNeg Fr5 nur5 := GK.zero hqr5
  refine lv_iload_n hx hb dModel_lookUnary_30 rfl (lv_at hl 0 rfl) ?_
  refine lv_if_le (tgt := 97) hx hb dModel_lookUnary_31 (by decide) (fun c6 => ?_) (fun c6 => ?_)
  · refine lv_aload_n hx hb dModel_lookUnary_97 rfl (lv_at hl 1 rfl) ?_
    refine md_gA S hC hM 9 (by decide) rfl qw_a119aeeca0 dModel_lookUnary_98 ?_
    refine lv_iload_n hx hb dModel_lookUnary_101 rfl (lv_at hl 3 rfl) ?_
    refine md_ild S hC hM 9 5 10000 (Fr5 9) rfl rfl (by decide) rfl rfl (vin (by assumption) (by omega)) dModel_lookUnary_102 ?_
    refine lv_topi (fun v7 ev7 => ?_)
    refine lv_iconst (v := 2) hx hb dModel_lookUnary_103 (by decide) ?_
    refine lv_icmp_eq (tgt := 117) hx hb dModel_lookUnary_104 (by decide) (fun c8 => ?_) (fun c8 => ?_)
    · refine lv_iconst (v := 3) hx hb dModel_lookUnary_117 (by decide) ?_
      exact hE _ _ _ _ _ hS ⟨σ, Fr5, nur5, hM, hZ, hF, hL, (fun h9 => absurd (show (0 : Int32) < 3 by decide) h9)⟩ dModel_lookUnary_118
    · refine lv_aload_n hx hb dModel_lookUnary_107 rfl (lv_at hl 1 rfl) ?_
      refine md_gA S hC hM 9 (by decide) rfl qw_a119aeeca0 dModel_lookUnary_108 ?_
      refine lv_iload_n hx hb dModel_lookUnary_111 rfl (lv_at hl 3 rfl) ?_
      refine md_ild S hC hM 9 5 10000 (Fr5 9) rfl rfl (by decide) rfl rfl (vin (by assumption) (by omega)) dModel_lookUnary_112 ?_
      refine lv_topi (fun v9 ev9 => ?_)
      refine lv_iconst (v := 4) hx hb dModel_lookUnary_113 (by decide) ?_
      refine lv_icmp_ne (tgt := 119) hx hb dModel_lookUnary_114 (by decide) (fun c10 => ?_) (fun c10 => ?_)
      · refine lv_aload_n hx hb dModel_lookUnary_119 rfl (lv_at hl 1 rfl) ?_
        refine md_gA S hC hM 13 (by decide) rfl qw_7b809afc8c dModel_lookUnary_120 ?_
        refine lv_iload_n hx hb dModel_lookUnary_123 rfl (lv_at hl 2 rfl) ?_
        refine lv_aload_n hx hb dModel_lookUnary_124 rfl (lv_at hl 1 rfl) ?_
        refine md_gA S hC hM 9 (by decide) rfl qw_a119aeeca0 dModel_lookUnary_125 ?_
        refine lv_iload_n hx hb dModel_lookUnary_128 rfl (lv_at hl 3 rfl) ?_
        refine md_ild S hC hM 9 5 10000 (Fr5 9) rfl rfl (by decide) rfl rfl (vin (by assumption) (by omega)) dModel_lookUnary_129 ?_
        refine lv_topi (fun v11 ev11 => ?_)
        refine lv_iconst (v := 1) hx hb dModel_lookUnary_130 (by decide) ?_
        have J169 : ∀ (ls : Array Slot) (t0_169 : Int64), lv_has ls 5 [(0, .ref a), (1, .int x1), (2, .int x2), (3, .int v1)] → W p l e (bs_rm 2 0 0 48) s m args below meth c H locs 0 0 Q (F0 m 169 ls [.long t0_169, .int x1, .ref (B 13)]) := by
          intro ls t0_169 hl
          have hgnu31 : Fr5 9 x1.toNatClampNeg = 2 → -2147483648 < (t0_169 : Int64).toInt ∧ (t0_169 : Int64).toInt < 2147483648 := (fun h9 => absurd h9 (gk_ne hqr5 ev2 ha ev7 (by assumption)))
          refine md_lst S hC hM hS (vin (by assumption) (by omega)) dModel_lookUnary_169 (fun H locs hM hS => ?_)
          obtain ⟨nu31, enu31⟩ : ∃ z : Nat → Int64, z = vp_updL nur5 x1.toNatClampNeg t0_169 := ⟨_, rfl⟩
          rw [← enu31] at hM
          have hL : SL x1.toNatClampNeg F nu Fr5 nu31 := hL.trans (by rw [enu31]; exact SL.num)
          have hK : GK x1.toNatClampNeg Fr5 nu31 := by rw [enu31]; exact GK.num hgnu31
          refine lv_iconst (v := 0) hx hb dModel_lookUnary_170 (by decide) ?_
          refine lv_istore (lv' := [(4, .int 0), (0, .ref a), (1, .int x1), (2, .int x2), (3, .int v1)]) hx hb dModel_lookUnary_171 hl (by decide) rfl (fun ls hl => ?_)
          have J173 : ∀ (N173 : Nat) (ls : Array Slot) (H : Heap) (locs : List Loc) (F_173 : Nat → Nat → Int32) (i4_173 : Int32), MD γ a B Z ν τ σ F_173 nu31 H → va_S Z s.heap H locs → (GK x1.toNatClampNeg F_173 nu31) → (SL x1.toNatClampNeg F nu F_173 nu31) → (SZ F_173) → (¬ i4_173 < 0) → (2147483647 - i4_173.toInt).toNat = N173 → lv_has ls 5 [(0, .ref a), (1, .int x1), (2, .int x2), (3, .int v1), (4, .int i4_173)] → W p l e (bs_rm 2 0 0 48) s m args below meth c H locs 0 0 Q (F0 m 173 ls []) := by
            intro N173
            induction N173 using Nat.strongRecOn with
            | ind N173 ih173 =>
              intro ls H locs F_173 i4_173 hM hS hK hL hZ hi4_173 hm173 hl
              refine lv_iload hx hb dModel_lookUnary_173 (lv_at hl 4 rfl) ?_
              refine lv_aload_n hx hb dModel_lookUnary_175 rfl (lv_at hl 0 rfl) ?_
              refine md_gA S hC hM 10 (by decide) rfl qw_bd0251c605 dModel_lookUnary_176 ?_
              refine lv_iload_n hx hb dModel_lookUnary_179 rfl (lv_at hl 2 rfl) ?_
              refine md_ild S hC hM 10 6 10000 (F_173 10) rfl rfl (by decide) rfl rfl (vin (by assumption) (by omega)) dModel_lookUnary_180 ?_
              refine lv_topi (fun v32 ev32 => ?_)
              have J217 : ∀ (ls : Array Slot), lv_has ls 5 [(0, .ref a), (1, .int x1), (2, .int x2), (3, .int v1), (4, .int i4_173)] → W p l e (bs_rm 2 0 0 48) s m args below meth c H locs 0 0 Q (F0 m 217 ls []) := by
                intro ls hl
                refine lv_aload_n hx hb dModel_lookUnary_217 rfl (lv_at hl 0 rfl) ?_
                refine lv_iload_n hx hb dModel_lookUnary_218 rfl (lv_at hl 1 rfl) ?_
                refine mu_Vi (rest := []) S hC (fun q h => hA q (Nat.le_trans hS.1 h)) (fun q h => h) hS (m_known l γ a B Z κ b mn ν τ σ F_173 nu31 hT x1 (vin (by assumption) (by omega))) meModel_known qw_aa15322dc3 ⟨Nat.le_of_ble_eq_true rfl, Nat.le_of_ble_eq_true rfl⟩ (md_rv hC hM) hM rfl hl.1 rfl (Nat.le_of_ble_eq_true rfl) dModel_lookUnary_219 ⟨Nat.le_refl _, Nat.le_refl _⟩ (fun r41 H locs hPO hS _ _ => ?_)
                obtain ⟨hrr41, Fr41, nur41, hM, hqr41, hnr41⟩ := hPO
                have hZ : SZ Fr41 := hZ.e14 hqr41
                have hL : SL x1.toNatClampNeg F nu Fr41 nur41 := hL.trans (SL.kn hqr41 hnr41)
                have hK : GK x1.toNatClampNeg Fr41 nur41 := hK.kn hqr41 hnr41
                exact hE _ _ _ _ _ hS ⟨σ, Fr41, nur41, hM, hZ, hF, hL, (fun _ => hK)⟩ dModel_lookUnary_222
              refine lv_icmp_ge (tgt := 217) hx hb dModel_lookUnary_181 (by decide) (fun c42 => ?_) (fun c42 => ?_)
              · exact J217 ls  (lv_sub hl [0, 1, 2, 3, 4] rfl)
              · have hin4 : vp_in i4_173 1000 := vsz hZ (vix (vin hx2 (by omega))) (by assumption) (by assumption) (by assumption)
                refine lv_aload_n hx hb dModel_lookUnary_184 rfl (lv_at hl 0 rfl) ?_
                refine md_gA S hC hM 9 (by decide) rfl qw_a119aeeca0 dModel_lookUnary_185 ?_
                refine lv_iload_n hx hb dModel_lookUnary_188 rfl (lv_at hl 2 rfl) ?_
                refine md_ild S hC hM 9 5 10000 (F_173 9) rfl rfl (by decide) rfl rfl (vin (by assumption) (by omega)) dModel_lookUnary_189 ?_
                refine lv_topi (fun v43 ev43 => ?_)
                refine lv_iconst (v := 3) hx hb dModel_lookUnary_190 (by decide) ?_
                refine lv_icmp_ne (tgt := 217) hx hb dModel_lookUnary_191 (by decide) (fun c44 => ?_) (fun c44 => ?_)
                · exact J217 ls  (lv_sub hl [0, 1, 2, 3, 4] rfl)
                · refine lv_aload_n hx hb dModel_lookUnary_194 rfl (lv_at hl 0 rfl) ?_
                  refine lv_iload_n hx hb dModel_lookUnary_195 rfl (lv_at hl 1 rfl) ?_
                  refine lv_iload hx hb dModel_lookUnary_196 (lv_at hl 4 rfl) ?_
                  refine lv_aload_n hx hb dModel_lookUnary_198 rfl (lv_at hl 0 rfl) ?_
                  refine lv_iload_n hx hb dModel_lookUnary_199 rfl (lv_at hl 2 rfl) ?_
                  refine lv_iload hx hb dModel_lookUnary_200 (lv_at hl 4 rfl) ?_
                  refine pu_Vi (rest := [.int i4_173, .int x1, .ref a]) S hC (m_element l γ a B Z κ b mn ν τ σ F_173 nu31 hT x2 i4_173 (el_in (by assumption) (by assumption) (by omega))) meModel_element qw_ceb3d87d61 ⟨Nat.le_of_ble_eq_true rfl, Nat.le_of_ble_eq_true rfl⟩ (md_rv hC hM) hM rfl hl.1 rfl (Nat.le_of_ble_eq_true rfl) dModel_lookUnary_202 ⟨Nat.zero_le _, Nat.zero_le _⟩ (fun r45 hr45 => ?_)
                  refine pu_Si (rest := [.int i4_173, .int x1, .ref a]) S hC (m_not l γ _ r45) meModel_not qw_ecedfa5d8c ⟨Nat.le_of_ble_eq_true rfl, Nat.le_of_ble_eq_true rfl⟩ hM rfl hl.1 rfl (Nat.le_of_ble_eq_true rfl) dModel_lookUnary_205 ⟨Nat.zero_le _, Nat.zero_le _⟩ (fun r46 hr46 => ?_)
                  refine mu_Vv (rest := []) S hC (fun q h => hA q (Nat.le_trans hS.1 h)) (fun q h => h) hS (m_setElement l γ a B Z κ b mn ν τ σ F_173 nu31 hT x1 i4_173 r46 (el_in (by assumption) (by assumption) (by omega))) meModel_setElement qw_143403ccb9 ⟨Nat.le_of_ble_eq_true rfl, Nat.le_of_ble_eq_true rfl⟩ (md_rv hC hM) hM rfl hl.1 rfl (Nat.le_of_ble_eq_true rfl) dModel_lookUnary_208 ⟨Nat.le_refl _, Nat.le_refl _⟩ (fun H locs hPO hS _ _ => ?_)
                  obtain ⟨Fr47, hM, hqr47⟩ := hPO
                  have hZ : SZ Fr47 := hZ.e14 hqr47
                  have hL : SL x1.toNatClampNeg F nu Fr47 nu31 := hL.trans (SL.e14 hqr47)
                  have hK : GK x1.toNatClampNeg Fr47 nu31 := hK.e14 hqr47
                  obtain ⟨v48, ev48⟩ : ∃ y : Int32, y = i4_173 + 1 := ⟨_, rfl⟩
                  refine lv_iinc (v := v48) (lv' := [(4, .int v48), (0, .ref a), (1, .int x1), (2, .int x2), (3, .int v1)]) hx hb dModel_lookUnary_211 hl (k := 4) rfl (by rw [ev48]; rfl) (by decide) rfl (fun ls hl => ?_)
                  refine lv_goto (tgt := 173) hx hb dModel_lookUnary_214 (by decide) ?_
                  exact ih173 _ (by have q1 : i4_173.toInt < 2147483647 := (by first | assumption | exact (mu_up (k := i4_173) (by assumption)).2); have q2 := mu_lt q1; rw [← ev48] at q2; omega) ls _ _ Fr47 v48 hM hS hK hL hZ (by first | decide | exact nn_inc (by assumption) (by assumption) (by assumption)) rfl (lv_sub hl [1, 2, 3, 4, 0] rfl)
          exact J173 _ ls _ _ Fr5 0 hM hS hK hL hZ (by first | decide | exact nn_inc (by assumption) (by assumption) (by assumption)) rfl (lv_sub hl [1, 2, 3, 4, 0] rfl)
        refine lv_icmp_ne (tgt := 145) hx hb dModel_lookUnary_131 (by decide) (fun c49 => ?_) (fun c49 => ?_)
        · refine lv_aload_n hx hb dModel_lookUnary_145 rfl (lv_at hl 1 rfl) ?_
          refine md_gA S hC hM 9 (by decide) rfl qw_a119aeeca0 dModel_lookUnary_146 ?_
          refine lv_iload_n hx hb dModel_lookUnary_149 rfl (lv_at hl 3 rfl) ?_
          refine md_ild S hC hM 9 5 10000 (Fr5 9) rfl rfl (by decide) rfl rfl (vin (by assumption) (by omega)) dModel_lookUnary_150 ?_
          refine lv_topi (fun v50 ev50 => ?_)
          refine lv_if_ne (tgt := 168) hx hb dModel_lookUnary_151 (by decide) (fun c51 => ?_) (fun c51 => ?_)
          · refine lv_lconst (v := 0) hx hb dModel_lookUnary_168 (by decide) ?_
            exact J169 ls 0 (lv_sub hl [1, 2, 3, 0] rfl)
          · refine lv_aload_n hx hb dModel_lookUnary_154 rfl (lv_at hl 1 rfl) ?_
            refine md_gA S hC hM 13 (by decide) rfl qw_7b809afc8c dModel_lookUnary_155 ?_
            refine lv_iload_n hx hb dModel_lookUnary_158 rfl (lv_at hl 3 rfl) ?_
            refine md_lld S hC hM (vin (by assumption) (by omega)) dModel_lookUnary_159 ?_
            refine lv_topl (fun v52 ev52 => ?_)
            have ev52 : v52 = nur5 x2.toNatClampNeg := ev52
            refine lv_l2i hx hb dModel_lookUnary_160 rfl ?_
            refine lv_topi (fun v53 ev53 => ?_)
            refine pu_Si (rest := [.int x1, .ref (B 13)]) S hC (m_not l γ _ v53) meModel_not qw_ecedfa5d8c ⟨Nat.le_of_ble_eq_true rfl, Nat.le_of_ble_eq_true rfl⟩ hM rfl hl.1 rfl (Nat.le_of_ble_eq_true rfl) dModel_lookUnary_161 ⟨Nat.zero_le _, Nat.zero_le _⟩ (fun r54 hr54 => ?_)
            refine lv_i2l hx hb dModel_lookUnary_164 rfl ?_
            refine lv_topl (fun v55 ev55 => ?_)
            refine lv_goto (tgt := 169) hx hb dModel_lookUnary_165 (by decide) ?_
            exact J169 ls v55 (lv_sub hl [1, 2, 3, 0] rfl)
        · refine lv_lconst (v := 1) hx hb dModel_lookUnary_134 (by decide) ?_
          refine lv_aload_n hx hb dModel_lookUnary_135 rfl (lv_at hl 1 rfl) ?_
          refine md_gA S hC hM 13 (by decide) rfl qw_7b809afc8c dModel_lookUnary_136 ?_
          refine lv_iload_n hx hb dModel_lookUnary_139 rfl (lv_at hl 3 rfl) ?_
          refine md_lld S hC hM (vin (by assumption) (by omega)) dModel_lookUnary_140 ?_
          refine lv_topl (fun v56 ev56 => ?_)
          have ev56 : v56 = nur5 x2.toNatClampNeg := ev56
          refine lv_lsub hx hb dModel_lookUnary_141 ?_
          refine lv_topl (fun v57 ev57 => ?_)
          refine lv_goto (tgt := 169) hx hb dModel_lookUnary_142 (by decide) ?_
          exact J169 ls v57 (lv_sub hl [1, 2, 3, 0] rfl)
      · refine lv_iconst (v := 3) hx hb dModel_lookUnary_117 (by decide) ?_
        exact hE _ _ _ _ _ hS ⟨σ, Fr5, nur5, hM, hZ, hF, hL, (fun h9 => absurd (show (0 : Int32) < 3 by decide) h9)⟩ dModel_lookUnary_118
  · refine lv_aload_n hx hb dModel_lookUnary_34 rfl (lv_at hl 1 rfl) ?_
    refine md_gA S hC hM 13 (by decide) rfl qw_7b809afc8c dModel_lookUnary_35 ?_
    refine lv_iload_n hx hb dModel_lookUnary_38 rfl (lv_at hl 2 rfl) ?_
    refine lv_iload_n hx hb dModel_lookUnary_39 rfl (lv_at hl 0 rfl) ?_
    refine lv_iconst (v := 1) hx hb dModel_lookUnary_40 (by decide) ?_
    have J60 : ∀ (ls : Array Slot), lv_has ls 5 [(0, .ref a), (1, .int x1), (2, .int x2), (3, .int v1)] → W p l e (bs_rm 2 0 0 48) s m args below meth c H locs 0 0 Q (F0 m 60 ls [.int x1, .ref (B 13)]) := by
      intro ls hl
      refine lv_aload_n hx hb dModel_lookUnary_60 rfl (lv_at hl 0 rfl) ?_
      refine md_gA S hC hM 13 (by decide) rfl qw_7b809afc8c dModel_lookUnary_61 ?_
      refine lv_iload_n hx hb dModel_lookUnary_64 rfl (lv_at hl 2 rfl) ?_
      refine md_lld S hC hM (vin (by assumption) (by omega)) dModel_lookUnary_65 ?_
      refine lv_topl (fun v74 ev74 => ?_)
      have ev74 : v74 = nur5 x2.toNatClampNeg := ev74
      refine lv_lneg hx hb dModel_lookUnary_66 ?_
      refine lv_topl (fun v75 ev75 => ?_)
      refine lv_goto (tgt := 76) hx hb dModel_lookUnary_67 (by decide) ?_
      have hgnu76 : Fr5 9 x1.toNatClampNeg = 2 → -2147483648 < (v75 : Int64).toInt ∧ (v75 : Int64).toInt < 2147483648 := (gk_neg hqr5 ev2 ha hg ev74 (by first | exact Or.inl rfl | exact Or.inr (by assumption)))
      refine md_lst S hC hM hS (vin (by assumption) (by omega)) dModel_lookUnary_76 (fun H locs hM hS => ?_)
      obtain ⟨nu76, enu76⟩ : ∃ z : Nat → Int64, z = vp_updL nur5 x1.toNatClampNeg v75 := ⟨_, rfl⟩
      rw [← enu76] at hM
      have hL : SL x1.toNatClampNeg F nu Fr5 nu76 := hL.trans (by rw [enu76]; exact SL.num)
      have hK : GK x1.toNatClampNeg Fr5 nu76 := by rw [enu76]; exact GK.num hgnu76
      refine lv_aload_n hx hb dModel_lookUnary_77 rfl (lv_at hl 0 rfl) ?_
      refine md_gA S hC hM 9 (by decide) rfl qw_a119aeeca0 dModel_lookUnary_78 ?_
      refine lv_iload_n hx hb dModel_lookUnary_81 rfl (lv_at hl 2 rfl) ?_
      refine md_ild S hC hM 9 5 10000 (Fr5 9) rfl rfl (by decide) rfl rfl (vin (by assumption) (by omega)) dModel_lookUnary_82 ?_
      refine lv_topi (fun v77 ev77 => ?_)
      refine lv_iconst (v := 2) hx hb dModel_lookUnary_83 (by decide) ?_
      refine lv_icmp_ne (tgt := 95) hx hb dModel_lookUnary_84 (by decide) (fun c78 => ?_) (fun c78 => ?_)
      · refine lv_iconst (v := 3) hx hb dModel_lookUnary_95 (by decide) ?_
        exact hE _ _ _ _ _ hS ⟨σ, Fr5, nu76, hM, hZ, hF, hL, (fun h9 => absurd (show (0 : Int32) < 3 by decide) h9)⟩ dModel_lookUnary_96
      · refine lv_aload_n hx hb dModel_lookUnary_87 rfl (lv_at hl 0 rfl) ?_
        refine lv_iload_n hx hb dModel_lookUnary_88 rfl (lv_at hl 1 rfl) ?_
        refine mu_Vi (rest := []) S hC (fun q h => hA q (Nat.le_trans hS.1 h)) (fun q h => h) hS (m_known l γ a B Z κ b mn ν τ σ Fr5 nu76 hT x1 (vin (by assumption) (by omega))) meModel_known qw_aa15322dc3 ⟨Nat.le_of_ble_eq_true rfl, Nat.le_of_ble_eq_true rfl⟩ (md_rv hC hM) hM rfl hl.1 rfl (Nat.le_of_ble_eq_true rfl) dModel_lookUnary_89 ⟨Nat.le_refl _, Nat.le_refl _⟩ (fun r79 H locs hPO hS _ _ => ?_)
        obtain ⟨hrr79, Fr79, nur79, hM, hqr79, hnr79⟩ := hPO
        have hZ : SZ Fr79 := hZ.e14 hqr79
        have hL : SL x1.toNatClampNeg F nu Fr79 nur79 := hL.trans (SL.kn hqr79 hnr79)
        have hK : GK x1.toNatClampNeg Fr79 nur79 := hK.kn hqr79 hnr79
        refine lv_goto (tgt := 96) hx hb dModel_lookUnary_92 (by decide) ?_
        exact hE _ _ _ _ _ hS ⟨σ, Fr79, nur79, hM, hZ, hF, hL, (fun _ => hK)⟩ dModel_lookUnary_96
    refine lv_icmp_eq (tgt := 60) hx hb dModel_lookUnary_41 (by decide) (fun c80 => ?_) (fun c80 => ?_)
    · exact J60 ls  (lv_sub hl [1, 2, 3, 0] rfl)
    · refine lv_iload_n hx hb dModel_lookUnary_44 rfl (lv_at hl 0 rfl) ?_
      refine lv_iconst (v := 3) hx hb dModel_lookUnary_45 (by decide) ?_
      have J70 : ∀ (ls : Array Slot), lv_has ls 5 [(0, .ref a), (1, .int x1), (2, .int x2), (3, .int v1)] → W p l e (bs_rm 2 0 0 48) s m args below meth c H locs 0 0 Q (F0 m 70 ls [.int x1, .ref (B 13)]) := by
        intro ls hl
        refine lv_aload_n hx hb dModel_lookUnary_70 rfl (lv_at hl 0 rfl) ?_
        refine md_gA S hC hM 13 (by decide) rfl qw_7b809afc8c dModel_lookUnary_71 ?_
        refine lv_iload_n hx hb dModel_lookUnary_74 rfl (lv_at hl 2 rfl) ?_
        refine md_lld S hC hM (vin (by assumption) (by omega)) dModel_lookUnary_75 ?_
        refine lv_topl (fun v90 ev90 => ?_)
        have ev90 : v90 = nur5 x2.toNatClampNeg := ev90
        have hgnu91 : Fr5 9 x1.toNatClampNeg = 2 → -2147483648 < (v90 : Int64).toInt ∧ (v90 : Int64).toInt < 2147483648 := (gk_neg hqr5 ev2 ha hg ev90 (by first | exact Or.inl rfl | exact Or.inr (by assumption)))
        refine md_lst S hC hM hS (vin (by assumption) (by omega)) dModel_lookUnary_76 (fun H locs hM hS => ?_)
        obtain ⟨nu91, enu91⟩ : ∃ z : Nat → Int64, z = vp_updL nur5 x1.toNatClampNeg v90 := ⟨_, rfl⟩
        rw [← enu91] at hM
        have hL : SL x1.toNatClampNeg F nu Fr5 nu91 := hL.trans (by rw [enu91]; exact SL.num)
        have hK : GK x1.toNatClampNeg Fr5 nu91 := by rw [enu91]; exact GK.num hgnu91
        refine lv_aload_n hx hb dModel_lookUnary_77 rfl (lv_at hl 0 rfl) ?_
        refine md_gA S hC hM 9 (by decide) rfl qw_a119aeeca0 dModel_lookUnary_78 ?_
        refine lv_iload_n hx hb dModel_lookUnary_81 rfl (lv_at hl 2 rfl) ?_
        refine md_ild S hC hM 9 5 10000 (Fr5 9) rfl rfl (by decide) rfl rfl (vin (by assumption) (by omega)) dModel_lookUnary_82 ?_
        refine lv_topi (fun v92 ev92 => ?_)
        refine lv_iconst (v := 2) hx hb dModel_lookUnary_83 (by decide) ?_
        refine lv_icmp_ne (tgt := 95) hx hb dModel_lookUnary_84 (by decide) (fun c93 => ?_) (fun c93 => ?_)
        · refine lv_iconst (v := 3) hx hb dModel_lookUnary_95 (by decide) ?_
          exact hE _ _ _ _ _ hS ⟨σ, Fr5, nu91, hM, hZ, hF, hL, (fun h9 => absurd (show (0 : Int32) < 3 by decide) h9)⟩ dModel_lookUnary_96
        · refine lv_aload_n hx hb dModel_lookUnary_87 rfl (lv_at hl 0 rfl) ?_
          refine lv_iload_n hx hb dModel_lookUnary_88 rfl (lv_at hl 1 rfl) ?_
          refine mu_Vi (rest := []) S hC (fun q h => hA q (Nat.le_trans hS.1 h)) (fun q h => h) hS (m_known l γ a B Z κ b mn ν τ σ Fr5 nu91 hT x1 (vin (by assumption) (by omega))) meModel_known qw_aa15322dc3 ⟨Nat.le_of_ble_eq_true rfl, Nat.le_of_ble_eq_true rfl⟩ (md_rv hC hM) hM rfl hl.1 rfl (Nat.le_of_ble_eq_true rfl) dModel_lookUnary_89 ⟨Nat.le_refl _, Nat.le_refl _⟩ (fun r94 H locs hPO hS _ _ => ?_)
          obtain ⟨hrr94, Fr94, nur94, hM, hqr94, hnr94⟩ := hPO
          have hZ : SZ Fr94 := hZ.e14 hqr94
          have hL : SL x1.toNatClampNeg F nu Fr94 nur94 := hL.trans (SL.kn hqr94 hnr94)
          have hK : GK x1.toNatClampNeg Fr94 nur94 := hK.kn hqr94 hnr94
          refine lv_goto (tgt := 96) hx hb dModel_lookUnary_92 (by decide) ?_
          exact hE _ _ _ _ _ hS ⟨σ, Fr94, nur94, hM, hZ, hF, hL, (fun _ => hK)⟩ dModel_lookUnary_96
      refine lv_icmp_ne (tgt := 70) hx hb dModel_lookUnary_46 (by decide) (fun c95 => ?_) (fun c95 => ?_)
      · exact J70 ls  (lv_sub hl [1, 2, 3, 0] rfl)
      · refine lv_aload_n hx hb dModel_lookUnary_49 rfl (lv_at hl 1 rfl) ?_
        refine md_gA S hC hM 13 (by decide) rfl qw_7b809afc8c dModel_lookUnary_50 ?_
        refine lv_iload_n hx hb dModel_lookUnary_53 rfl (lv_at hl 3 rfl) ?_
        refine md_lld S hC hM (vin (by assumption) (by omega)) dModel_lookUnary_54 ?_
        refine lv_topl (fun v96 ev96 => ?_)
        have ev96 : v96 = nur5 x2.toNatClampNeg := ev96
        refine lv_lconst (v := 0) hx hb dModel_lookUnary_55 (by decide) ?_
        refine W.lcmp hx hb dModel_lookUnary_56 ?_
        refine lv_topi (fun v97 ev97 => ?_)
        refine lv_if_ge (tgt := 70) hx hb dModel_lookUnary_57 (by decide) (fun c98 => ?_) (fun c98 => ?_)
        · exact J70 ls  (lv_sub hl [1, 2, 3, 0] rfl)
        · exact J60 ls  (lv_sub hl [1, 2, 3, 0] rfl)
