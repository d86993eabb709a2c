set_option maxHeartbeats 4000000 in
set_option maxRecDepth 100000 in
theorem m_lookShift (l : Launch) (γ : gE) (a : Nat) (B : Nat → Nat) (Z : Nat → Prop) (κ b mn : Nat → Nat) (ν : Nat → Int32) (τ : Nat → Nat → Int32) (σ : Nat → Int32) (F : Nat → Nat → Int32) (nu : Nat → Int64) (hT : ST κ b mn ν τ) (x1 : Int32) (x2 : Int32) (x3 : Int32) (x4 : Int32) (hx1 : vp_in x1 (κ 0)) (hx3 : vp_in x3 (κ 0)) (hx4 : vp_in x4 (κ 0)) (ha : x3.toNatClampNeg < x1.toNatClampNeg) (hbk : x4.toNatClampNeg < x1.toNatClampNeg) (hZ : SZ F) (hF : FD σ) : MU l yModel_lookShift bModel_lookShift 10 (some .int) 2 48 0 0 [.ref a, .int x1, .int x2, .int x3, .int x4] γ Z (MD γ a B Z ν τ σ F nu) (mQi (fun r H => LKo γ a B Z ν τ x1.toNatClampNeg F nu r H) Z) := by
  refine mu_openI (by decide) (Nat.le_of_ble_eq_true rfl) ?_
  intro p e s m args below meth c ls Q S hnm hC hA hM hE hl
  have hS : va_S Z s.heap s.heap [] := va_S.rf
  obtain ⟨hx, hb, hml, hown, hW⟩ := id S
  obtain ⟨⟨hs0, hs1, hs2, hs3, hs4, hs5, hs6⟩, ⟨hv6, hv8, hv21, hv24, hv30, hv31⟩, hTR, hTY, hOB, hNM⟩ := id hT
  have hL : SL x1.toNatClampNeg F nu F nu := SL.rf
  have hl : lv_has ls 10 [(0, .ref a), (1, .int x1), (2, .int x2), (3, .int x3), (4, .int x4)] := hl
  refine lv_aload_n hx hb dModel_lookShift_0 rfl (lv_at hl 0 rfl) ?_
  refine md_gA S hC hM 9 (by decide) rfl qw_a119aeeca0 dModel_lookShift_1 ?_
  refine lv_iload_n hx hb dModel_lookShift_4 rfl (lv_at hl 3 rfl) ?_
  refine md_ild S hC hM 9 5 10000 (F 9) rfl rfl (by decide) rfl rfl (vin (by assumption) (by omega)) dModel_lookShift_5 ?_
  refine lv_topi (fun v1 ev1 => ?_)
  refine lv_iconst (v := 3) hx hb dModel_lookShift_6 (by decide) ?_
  refine lv_icmp_ne (tgt := 21) hx hb dModel_lookShift_7 (by decide) (fun c2 => ?_) (fun c2 => ?_)
  · refine lv_iconst (v := 3) hx hb dModel_lookShift_21 (by decide) ?_
    exact hE _ _ _ _ _ hS ⟨σ, F, nu, hM, hZ, hF, hL, (fun h9 => absurd (show (0 : Int32) < 3 by decide) h9)⟩ dModel_lookShift_22
  · refine lv_aload_n hx hb dModel_lookShift_10 rfl (lv_at hl 0 rfl) ?_
    refine md_gA S hC hM 9 (by decide) rfl qw_a119aeeca0 dModel_lookShift_11 ?_
    refine lv_iload hx hb dModel_lookShift_14 (lv_at hl 4 rfl) ?_
    refine md_ild S hC hM 9 5 10000 (F 9) rfl rfl (by decide) rfl rfl (vin (by assumption) (by omega)) dModel_lookShift_16 ?_
    refine lv_topi (fun v3 ev3 => ?_)
    refine lv_iconst (v := 2) hx hb dModel_lookShift_17 (by decide) ?_
    refine lv_icmp_eq (tgt := 23) hx hb dModel_lookShift_18 (by decide) (fun c4 => ?_) (fun c4 => ?_)
    · refine lv_aload_n hx hb dModel_lookShift_23 rfl (lv_at hl 0 rfl) ?_
      refine lv_iload_n hx hb dModel_lookShift_24 rfl (lv_at hl 1 rfl) ?_
      refine lv_iconst (v := 3) hx hb dModel_lookShift_25 (by decide) ?_
      refine lv_aload_n hx hb dModel_lookShift_26 rfl (lv_at hl 0 rfl) ?_
      refine md_gA S hC hM 10 (by decide) rfl qw_bd0251c605 dModel_lookShift_27 ?_
      refine lv_iload_n hx hb dModel_lookShift_30 rfl (lv_at hl 3 rfl) ?_
      refine md_ild S hC hM 10 6 10000 (F 10) rfl rfl (by decide) rfl rfl (vin (by assumption) (by omega)) dModel_lookShift_31 ?_
      refine lv_topi (fun v5 ev5 => ?_)
      refine lv_aload_n hx hb dModel_lookShift_32 rfl (lv_at hl 0 rfl) ?_
      refine md_gA S hC hM 11 (by decide) rfl qw_88b9028ba7 dModel_lookShift_33 ?_
      refine lv_iload_n hx hb dModel_lookShift_36 rfl (lv_at hl 3 rfl) ?_
      refine md_zld S hC hM 11 7 10000 (F 11) rfl rfl (by decide) rfl rfl (vin (by assumption) (by omega)) dModel_lookShift_37 ?_
      refine lv_topi (fun v6 ev6 => ?_)
      have J56 : ∀ (ls : Array Slot) (t0_56 : Int32), lv_has ls 10 [(0, .ref a), (1, .int x1), (2, .int x2), (3, .int x3), (4, .int x4)] → W p l e (bs_rm 2 0 0 48) s m args below meth c s.heap [] 0 0 Q (F0 m 56 ls [.int t0_56, .int v5, .int 3, .int x1, .ref a]) := by
        intro ls t0_56 hl
        have hnr30 : ∃ j, j ≤ 1000 ∧ v5 = nI j := (by rw [ev5]; exact hZ _ (vix (vin (by assumption) (by omega))))
        refine mu_Vv (rest := []) S hC (fun q h => hA q (Nat.le_trans hS.1 h)) (fun q h => h) hS (m_fact l γ a B Z κ b mn ν τ σ F nu hT x1 3 v5 t0_56 (vin (by assumption) (by omega)) hnr30) meModel_fact qw_02871250ec ⟨Nat.le_of_ble_eq_true rfl, Nat.le_of_ble_eq_true rfl⟩ (md_rv hC hM) hM rfl hl.1 rfl (Nat.le_of_ble_eq_true rfl) dModel_lookShift_56 ⟨Nat.le_refl _, Nat.le_refl _⟩ (fun H locs hPO hS _ _ => ?_)
        obtain ⟨Fr30, nur30, hM, hqr30, hcr30⟩ := hPO
        have hZ : SZ Fr30 := hZ.slt hqr30 hnr30
        have hL : SL x1.toNatClampNeg F nu Fr30 nur30 := hL.trans (SL.slt hqr30)
        have hK : GK x1.toNatClampNeg Fr30 nur30 := GK.zero hqr30
        refine lv_iload_n hx hb dModel_lookShift_59 rfl (lv_at hl 2 rfl) ?_
        have J81 : ∀ (ls : Array Slot) (t0_81 : Int64), lv_has ls 10 [(0, .ref a), (1, .int x1), (2, .int x2), (3, .int x3), (4, .int x4)] → W p l e (bs_rm 2 0 0 48) s m args below meth c H locs 0 0 Q (F0 m 81 ls [.long t0_81]) := by
          intro ls t0_81 hl
          refine lv_lstore (lv' := [(5, .long t0_81), (0, .ref a), (1, .int x1), (2, .int x2), (3, .int x3), (4, .int x4)]) hx hb dModel_lookShift_81 hl (by decide) rfl (fun ls hl => ?_)
          refine lv_iconst (v := 0) hx hb dModel_lookShift_83 (by decide) ?_
          refine lv_istore (lv' := [(7, .int 0), (5, .long t0_81), (0, .ref a), (1, .int x1), (2, .int x2), (3, .int x3), (4, .int x4)]) hx hb dModel_lookShift_84 hl (by decide) rfl (fun ls hl => ?_)
          have J86 : ∀ (N86 : Nat) (ls : Array Slot) (H : Heap) (locs : List Loc) (F_86 : Nat → Nat → Int32) (i7_86 : Int32), MD γ a B Z ν τ σ F_86 nur30 H → va_S Z s.heap H locs → (GK x1.toNatClampNeg F_86 nur30) → (SL x1.toNatClampNeg F nu F_86 nur30) → (SZ F_86) → (¬ i7_86 < 0) → (2147483647 - i7_86.toInt).toNat = N86 → lv_has ls 10 [(0, .ref a), (1, .int x1), (2, .int x2), (3, .int x3), (4, .int x4), (5, .long t0_81), (7, .int i7_86)] → W p l e (bs_rm 2 0 0 48) s m args below meth c H locs 0 0 Q (F0 m 86 ls []) := by
            intro N86
            induction N86 using Nat.strongRecOn with
            | ind N86 ih86 =>
              intro ls H locs F_86 i7_86 hM hS hK hL hZ hi7_86 hm86 hl
              refine lv_iload hx hb dModel_lookShift_86 (lv_at hl 6 rfl) ?_
              refine lv_aload_n hx hb dModel_lookShift_88 rfl (lv_at hl 0 rfl) ?_
              refine md_gA S hC hM 10 (by decide) rfl qw_bd0251c605 dModel_lookShift_89 ?_
              refine lv_iload_n hx hb dModel_lookShift_92 rfl (lv_at hl 3 rfl) ?_
              refine md_ild S hC hM 10 6 10000 (F_86 10) rfl rfl (by decide) rfl rfl (vin (by assumption) (by omega)) dModel_lookShift_93 ?_
              refine lv_topi (fun v50 ev50 => ?_)
              refine lv_icmp_ge (tgt := 150) hx hb dModel_lookShift_94 (by decide) (fun c51 => ?_) (fun c51 => ?_)
              · refine lv_aload_n hx hb dModel_lookShift_150 rfl (lv_at hl 0 rfl) ?_
                refine lv_iload_n hx hb dModel_lookShift_151 rfl (lv_at hl 1 rfl) ?_
                refine mu_Vi (rest := []) S hC (fun q h => hA q (Nat.le_trans hS.1 h)) (fun q h => h) hS (m_known l γ a B Z κ b mn ν τ σ F_86 nur30 hT x1 (vin (by assumption) (by omega))) meModel_known qw_aa15322dc3 ⟨Nat.le_of_ble_eq_true rfl, Nat.le_of_ble_eq_true rfl⟩ (md_rv hC hM) hM rfl hl.1 rfl (Nat.le_of_ble_eq_true rfl) dModel_lookShift_152 ⟨Nat.le_refl _, Nat.le_refl _⟩ (fun r52 H locs hPO hS _ _ => ?_)
                obtain ⟨hrr52, Fr52, nur52, hM, hqr52, hnr52⟩ := hPO
                have hZ : SZ Fr52 := hZ.e14 hqr52
                have hL : SL x1.toNatClampNeg F nu Fr52 nur52 := hL.trans (SL.kn hqr52 hnr52)
                have hK : GK x1.toNatClampNeg Fr52 nur52 := hK.kn hqr52 hnr52
                exact hE _ _ _ _ _ hS ⟨σ, Fr52, nur52, hM, hZ, hF, hL, (fun _ => hK)⟩ dModel_lookShift_155
              · have hin7 : vp_in i7_86 1000 := vsz hZ (vix (vin hx3 (by omega))) (by assumption) (by assumption) (by assumption)
                refine lv_iload hx hb dModel_lookShift_97 (lv_at hl 6 rfl) ?_
                refine lv_i2l hx hb dModel_lookShift_99 rfl ?_
                refine lv_topl (fun v53 ev53 => ?_)
                refine lv_lload hx hb dModel_lookShift_100 (lv_at hl 5 rfl) ?_
                refine lv_lsub hx hb dModel_lookShift_102 ?_
                refine lv_topl (fun v54 ev54 => ?_)
                refine lv_lstore (lv' := [(8, .long v54), (0, .ref a), (1, .int x1), (2, .int x2), (3, .int x3), (4, .int x4), (5, .long t0_81), (7, .int i7_86)]) hx hb dModel_lookShift_103 hl (by decide) rfl (fun ls hl => ?_)
                refine lv_aload_n hx hb dModel_lookShift_105 rfl (lv_at hl 1 rfl) ?_
                refine lv_iload_n hx hb dModel_lookShift_106 rfl (lv_at hl 2 rfl) ?_
                refine lv_iload hx hb dModel_lookShift_107 (lv_at hl 7 rfl) ?_
                refine lv_lload hx hb dModel_lookShift_109 (lv_at hl 0 rfl) ?_
                refine lv_lconst (v := 0) hx hb dModel_lookShift_111 (by decide) ?_
                refine W.lcmp hx hb dModel_lookShift_112 ?_
                refine lv_topi (fun v55 ev55 => ?_)
                have J141 : ∀ (ls : Array Slot) (t0_141 : Int32), lv_has ls 10 [(0, .ref a), (1, .int x1), (2, .int x2), (3, .int x3), (4, .int x4), (5, .long t0_81), (7, .int i7_86), (8, .long v54)] → W p l e (bs_rm 2 0 0 48) s m args below meth c H locs 0 0 Q (F0 m 141 ls [.int t0_141, .int i7_86, .int x1, .ref a]) := by
                  intro ls t0_141 hl
                  refine mu_Vv (rest := []) S hC (fun q h => hA q (Nat.le_trans hS.1 h)) (fun q h => h) hS (m_setElement l γ a B Z κ b mn ν τ σ F_86 nur30 hT x1 i7_86 t0_141 (el_in (by assumption) (by assumption) (by omega))) meModel_setElement qw_143403ccb9 ⟨Nat.le_of_ble_eq_true rfl, Nat.le_of_ble_eq_true rfl⟩ (md_rv hC hM) hM rfl hl.1 rfl (Nat.le_of_ble_eq_true rfl) dModel_lookShift_141 ⟨Nat.le_refl _, Nat.le_refl _⟩ (fun H locs hPO hS _ _ => ?_)
                  obtain ⟨Fr65, hM, hqr65⟩ := hPO
                  have hZ : SZ Fr65 := hZ.e14 hqr65
                  have hL : SL x1.toNatClampNeg F nu Fr65 nur30 := hL.trans (SL.e14 hqr65)
                  have hK : GK x1.toNatClampNeg Fr65 nur30 := hK.e14 hqr65
                  obtain ⟨v66, ev66⟩ : ∃ y : Int32, y = i7_86 + 1 := ⟨_, rfl⟩
                  refine lv_iinc (v := v66) (lv' := [(7, .int v66), (0, .ref a), (1, .int x1), (2, .int x2), (3, .int x3), (4, .int x4), (5, .long t0_81), (8, .long v54)]) hx hb dModel_lookShift_144 hl (k := 6) rfl (by rw [ev66]; rfl) (by decide) rfl (fun ls hl => ?_)
                  refine lv_goto (tgt := 86) hx hb dModel_lookShift_147 (by decide) ?_
                  exact ih86 _ (by have q1 : i7_86.toInt < 2147483647 := (by first | assumption | exact (mu_up (k := i7_86) (by assumption)).2); have q2 := mu_lt q1; rw [← ev66] at q2; omega) ls _ _ Fr65 v66 hM hS hK hL hZ (by first | decide | exact nn_inc (by assumption) (by assumption) (by assumption)) rfl (lv_sub hl [1, 2, 3, 4, 5, 6, 0] rfl)
                have J140 : ∀ (ls : Array Slot), lv_has ls 10 [(0, .ref a), (1, .int x1), (2, .int x2), (3, .int x3), (4, .int x4), (5, .long t0_81), (7, .int i7_86), (8, .long v54)] → W p l e (bs_rm 2 0 0 48) s m args below meth c H locs 0 0 Q (F0 m 140 ls [.int i7_86, .int x1, .ref a]) := by
                  intro ls hl
                  refine lv_iconst (v := 2) hx hb dModel_lookShift_140 (by decide) ?_
                  exact J141 ls 2 (lv_sub hl [0, 1, 2, 3, 4, 5, 6, 7] rfl)
                refine lv_if_lt (tgt := 140) hx hb dModel_lookShift_113 (by decide) (fun c67 => ?_) (fun c67 => ?_)
                · exact J140 ls  (lv_sub hl [1, 2, 3, 4, 5, 6, 7, 0] rfl)
                · refine lv_lload hx hb dModel_lookShift_116 (lv_at hl 0 rfl) ?_
                  refine lv_aload_n hx hb dModel_lookShift_118 rfl (lv_at hl 1 rfl) ?_
                  refine md_gA S hC hM 10 (by decide) rfl qw_bd0251c605 dModel_lookShift_119 ?_
                  refine lv_iload_n hx hb dModel_lookShift_122 rfl (lv_at hl 4 rfl) ?_
                  refine md_ild S hC hM 10 6 10000 (F_86 10) rfl rfl (by decide) rfl rfl (vin (by assumption) (by omega)) dModel_lookShift_123 ?_
                  refine lv_topi (fun v68 ev68 => ?_)
                  refine lv_i2l hx hb dModel_lookShift_124 rfl ?_
                  refine lv_topl (fun v69 ev69 => ?_)
                  refine W.lcmp hx hb dModel_lookShift_125 ?_
                  refine lv_topi (fun v70 ev70 => ?_)
                  refine lv_if_ge (tgt := 140) hx hb dModel_lookShift_126 (by decide) (fun c71 => ?_) (fun c71 => ?_)
                  · exact J140 ls  (lv_sub hl [1, 2, 3, 4, 5, 6, 7, 0] rfl)
                  · refine lv_aload_n hx hb dModel_lookShift_129 rfl (lv_at hl 1 rfl) ?_
                    refine lv_iload_n hx hb dModel_lookShift_130 rfl (lv_at hl 4 rfl) ?_
                    refine lv_lload hx hb dModel_lookShift_131 (lv_at hl 0 rfl) ?_
                    refine lv_l2i hx hb dModel_lookShift_133 rfl ?_
                    refine lv_topi (fun v72 ev72 => ?_)
                    have hfr : vp_in v72 1000 := sh_in ev55 (by assumption) ev69 (by rw [ev68]; exact hZ _ (vix (vin hx3 (by omega)))) ev70 (by assumption) ev72
                    refine pu_Vi (rest := [.int i7_86, .int x1, .ref a]) S hC (m_element l γ a B Z κ b mn ν τ σ F_86 nur30 hT x3 v72 (el_in (by assumption) (by assumption) (by omega))) meModel_element qw_ceb3d87d61 ⟨Nat.le_of_ble_eq_true rfl, Nat.le_of_ble_eq_true rfl⟩ (md_rv hC hM) hM rfl hl.1 rfl (Nat.le_of_ble_eq_true rfl) dModel_lookShift_134 ⟨Nat.zero_le _, Nat.zero_le _⟩ (fun r73 hr73 => ?_)
                    refine lv_goto (tgt := 141) hx hb dModel_lookShift_137 (by decide) ?_
                    exact J141 ls r73 (lv_sub hl [1, 2, 3, 4, 5, 6, 7, 0] rfl)
          exact J86 _ ls _ _ Fr30 0 hM hS hK hL hZ (by first | decide | exact nn_inc (by assumption) (by assumption) (by assumption)) rfl (lv_sub hl [2, 3, 4, 5, 6, 1, 0] rfl)
        refine lv_if_eq (tgt := 73) hx hb dModel_lookShift_60 (by decide) (fun c74 => ?_) (fun c74 => ?_)
        · refine lv_aload_n hx hb dModel_lookShift_73 rfl (lv_at hl 0 rfl) ?_
          refine md_gA S hC hM 13 (by decide) rfl qw_7b809afc8c dModel_lookShift_74 ?_
          refine lv_iload hx hb dModel_lookShift_77 (lv_at hl 4 rfl) ?_
          refine md_lld S hC hM (vin (by assumption) (by omega)) dModel_lookShift_79 ?_
          refine lv_topl (fun v75 ev75 => ?_)
          have ev75 : v75 = nur30 x4.toNatClampNeg := ev75
          refine lv_lneg hx hb dModel_lookShift_80 ?_
          refine lv_topl (fun v76 ev76 => ?_)
          exact J81 ls v76 (lv_sub hl [0, 1, 2, 3, 4] rfl)
        · refine lv_aload_n hx hb dModel_lookShift_63 rfl (lv_at hl 0 rfl) ?_
          refine md_gA S hC hM 13 (by decide) rfl qw_7b809afc8c dModel_lookShift_64 ?_
          refine lv_iload hx hb dModel_lookShift_67 (lv_at hl 4 rfl) ?_
          refine md_lld S hC hM (vin (by assumption) (by omega)) dModel_lookShift_69 ?_
          refine lv_topl (fun v77 ev77 => ?_)
          have ev77 : v77 = nur30 x4.toNatClampNeg := ev77
          refine lv_goto (tgt := 81) hx hb dModel_lookShift_70 (by decide) ?_
          exact J81 ls v77 (lv_sub hl [0, 1, 2, 3, 4] rfl)
      have J55 : ∀ (ls : Array Slot), lv_has ls 10 [(0, .ref a), (1, .int x1), (2, .int x2), (3, .int x3), (4, .int x4)] → W p l e (bs_rm 2 0 0 48) s m args below meth c s.heap [] 0 0 Q (F0 m 55 ls [.int v5, .int 3, .int x1, .ref a]) := by
        intro ls hl
        refine lv_iconst (v := 0) hx hb dModel_lookShift_55 (by decide) ?_
        exact J56 ls 0 (lv_sub hl [0, 1, 2, 3, 4] rfl)
      refine lv_if_eq (tgt := 55) hx hb dModel_lookShift_38 (by decide) (fun c78 => ?_) (fun c78 => ?_)
      · exact J55 ls  (lv_sub hl [0, 1, 2, 3, 4] rfl)
      · refine lv_aload_n hx hb dModel_lookShift_41 rfl (lv_at hl 0 rfl) ?_
        refine md_gA S hC hM 11 (by decide) rfl qw_88b9028ba7 dModel_lookShift_42 ?_
        refine lv_iload hx hb dModel_lookShift_45 (lv_at hl 4 rfl) ?_
        refine md_zld S hC hM 11 7 10000 (F 11) rfl rfl (by decide) rfl rfl (vin (by assumption) (by omega)) dModel_lookShift_47 ?_
        refine lv_topi (fun v79 ev79 => ?_)
        refine lv_if_eq (tgt := 55) hx hb dModel_lookShift_48 (by decide) (fun c80 => ?_) (fun c80 => ?_)
        · exact J55 ls  (lv_sub hl [0, 1, 2, 3, 4] rfl)
        · refine lv_iconst (v := 1) hx hb dModel_lookShift_51 (by decide) ?_
          refine lv_goto (tgt := 56) hx hb dModel_lookShift_52 (by decide) ?_
          exact J56 ls 1 (lv_sub hl [0, 1, 2, 3, 4] rfl)
    · refine lv_iconst (v := 3) hx hb dModel_lookShift_21 (by decide) ?_
      exact hE _ _ _ _ _ hS ⟨σ, F, nu, hM, hZ, hF, hL, (fun h9 => absurd (show (0 : Int32) < 3 by decide) h9)⟩ dModel_lookShift_22
theorem qw_9989324b00 : (Cond.methodLink R_Model 210 yModel_lookShift) ∈ bs_W0 := bs_in (in_tables_1_6 (List.mem_of_getElem? (i := 164) rfl)) rfl
theorem qw_e252724d8c : (Cond.methodLink R_Model 207 yModel_lookNumbers) ∈ bs_W0 := bs_in (in_tables_1_6 (List.mem_of_getElem? (i := 160) rfl)) rfl
theorem qw_eedff52c6d : (Cond.methodLink R_Model 204 yModel_lookJoined) ∈ bs_W0 := bs_in (in_tables_1_6 (List.mem_of_getElem? (i := 156) rfl)) rfl
theorem qw_c857c4ab9d : (Cond.methodLink R_Model 200 yModel_lookSum) ∈ bs_W0 := bs_in (in_tables_1_6 (List.mem_of_getElem? (i := 137) rfl)) rfl
theorem qw_25c6887e45 : (Cond.methodLink R_Model 197 yModel_lookOrder) ∈ bs_W0 := bs_in (in_tables_1_6 (List.mem_of_getElem? (i := 129) rfl)) rfl
theorem qw_210034d4bb : (Cond.methodLink R_Model 193 yModel_lookLogic) ∈ bs_W0 := bs_in (in_tables_1_6 (List.mem_of_getElem? (i := 116) rfl)) rfl
set_option maxHeartbeats 4000000 in
set_option maxRecDepth 100000 in
theorem m_lookBinary (l : Launch) (γ : gE) (a : Nat) (B : Nat → Nat) (Z : Nat → Prop) (κ b mn : Nat → Nat) (ν : Nat → Int32) (τ : Nat → Nat → Int32) (σ : Nat → Int32) (F : Nat → Nat → Int32) (nu : Nat → Int64) (hT : ST κ b mn ν τ) (x1 : Int32) (x2 : Int32) (x3 : Int32) (hx1 : vp_in x1 (κ 0)) (hx2 : vp_in x2 (κ 0)) (hx3 : vp_in x3 (κ 0)) (ha : x2.toNatClampNeg < x1.toNatClampNeg) (hbk : x3.toNatClampNeg < x1.toNatClampNeg) (hZ : SZ F) (hF : FD σ) : MU l yModel_lookBinary bModel_lookBinary 5 (some .int) 4 107 0 0 [.ref a, .int x1, .int x2, .int x3] γ Z (MD γ a B Z ν τ σ F nu) (mQi (fun r H => LKo γ a B Z ν τ x1.toNatClampNeg F nu r H) Z) := by
  refine mu_openI (by decide) (Nat.le_of_ble_eq_true rfl) ?_
  intro p e s m args below meth c ls Q S hnm hC hA hM hE hl
  have hS : va_S Z s.heap s.heap [] := va_S.rf
  obtain ⟨hx, hb, hml, hown, hW⟩ := id S
  obtain ⟨⟨hs0, hs1, hs2, hs3, hs4, hs5, hs6⟩, ⟨hv6, hv8, hv21, hv24, hv30, hv31⟩, hTR, hTY, hOB, hNM⟩ := id hT
  have hL : SL x1.toNatClampNeg F nu F nu := SL.rf
  have hl : lv_has ls 5 [(0, .ref a), (1, .int x1), (2, .int x2), (3, .int x3)] := hl
  refine lv_aload_n hx hb dModel_lookBinary_0 rfl (lv_at hl 0 rfl) ?_
  refine md_gA S hC hM 3 (by decide) rfl qw_9fb851a5fa dModel_lookBinary_1 ?_
  refine lv_iload_n hx hb dModel_lookBinary_4 rfl (lv_at hl 1 rfl) ?_
  refine md_ild S hC hM 3 1 4000 (τ 3) rfl rfl (by decide) rfl rfl (vin (by assumption) (by omega)) dModel_lookBinary_5 ?_
  refine lv_topi (fun v1 ev1 => ?_)
  refine lv_istore (lv' := [(4, .int v1), (0, .ref a), (1, .int x1), (2, .int x2), (3, .int x3)]) hx hb dModel_lookBinary_6 hl (by decide) rfl (fun ls hl => ?_)
  refine lv_iload hx hb dModel_lookBinary_8 (lv_at hl 0 rfl) ?_
  refine lv_bipush (v := 6) hx hb dModel_lookBinary_10 (by decide) ?_
  refine lv_icmp_ge (tgt := 25) hx hb dModel_lookBinary_12 (by decide) (fun c2 => ?_) (fun c2 => ?_)
  · refine lv_iload hx hb dModel_lookBinary_25 (lv_at hl 0 rfl) ?_
    refine lv_bipush (v := 12) hx hb dModel_lookBinary_27 (by decide) ?_
    refine lv_icmp_ge (tgt := 42) hx hb dModel_lookBinary_29 (by decide) (fun c3 => ?_) (fun c3 => ?_)
    · refine lv_iload hx hb dModel_lookBinary_42 (lv_at hl 0 rfl) ?_
      refine lv_bipush (v := 12) hx hb dModel_lookBinary_44 (by decide) ?_
      have J56 : ∀ (ls : Array Slot), lv_has ls 5 [(0, .ref a), (1, .int x1), (2, .int x2), (3, .int x3), (4, .int v1)] → W p l e (bs_rm 4 0 0 107) s m args below meth c s.heap [] 0 0 Q (F0 m 56 ls []) := by
        intro ls hl
        refine lv_aload_n hx hb dModel_lookBinary_56 rfl (lv_at hl 0 rfl) ?_
        refine lv_iload_n hx hb dModel_lookBinary_57 rfl (lv_at hl 1 rfl) ?_
        refine lv_iload hx hb dModel_lookBinary_58 (lv_at hl 4 rfl) ?_
        refine lv_bipush (v := 13) hx hb dModel_lookBinary_60 (by decide) ?_
        have J70 : ∀ (ls : Array Slot) (t0_70 : Int32), lv_has ls 5 [(0, .ref a), (1, .int x1), (2, .int x2), (3, .int x3), (4, .int v1)] → W p l e (bs_rm 4 0 0 107) s m args below meth c s.heap [] 0 0 Q (F0 m 70 ls [.int t0_70, .int x1, .ref a]) := by
          intro ls t0_70 hl
          refine lv_iload_n hx hb dModel_lookBinary_70 rfl (lv_at hl 2 rfl) ?_
          refine lv_iload_n hx hb dModel_lookBinary_71 rfl (lv_at hl 3 rfl) ?_
          refine mu_Vi (rest := []) S hC (fun q h => hA q (Nat.le_trans hS.1 h)) (fun q h => h) hS (m_lookSum l γ a B Z κ b mn ν τ σ F nu hT x1 t0_70 x2 x3 (vin (by assumption) (by omega)) (vin (by assumption) (by omega)) (vin (by assumption) (by omega)) (by assumption) (by assumption) hZ hF) meModel_lookSum qw_c857c4ab9d ⟨Nat.le_of_ble_eq_true rfl, Nat.le_of_ble_eq_true rfl⟩ (md_rv hC hM) hM rfl hl.1 rfl (Nat.le_of_ble_eq_true rfl) dModel_lookBinary_72 ⟨Nat.le_refl _, Nat.le_refl _⟩ (fun r16 H locs hPO hS _ _ => ?_)
          obtain ⟨σr16, Fr16, nur16, hM, hZ, hF, hLr16, hRr16⟩ := hPO
          have hL : SL x1.toNatClampNeg F nu Fr16 nur16 := hL.trans hLr16
          exact hE _ _ _ _ _ hS ⟨σr16, Fr16, nur16, hM, hZ, hF, hL, hRr16⟩ dModel_lookBinary_75
        refine lv_icmp_ne (tgt := 69) hx hb dModel_lookBinary_62 (by decide) (fun c17 => ?_) (fun c17 => ?_)
        · refine lv_iconst (v := 0) hx hb dModel_lookBinary_69 (by decide) ?_
          exact J70 ls 0 (lv_sub hl [0, 1, 2, 3, 4] rfl)
        · refine lv_iconst (v := 1) hx hb dModel_lookBinary_65 (by decide) ?_
          refine lv_goto (tgt := 70) hx hb dModel_lookBinary_66 (by decide) ?_
          exact J70 ls 1 (lv_sub hl [0, 1, 2, 3, 4] rfl)
      refine lv_icmp_eq (tgt := 56) hx hb dModel_lookBinary_46 (by decide) (fun c18 => ?_) (fun c18 => ?_)
      · exact J56 ls  (lv_sub hl [1, 2, 3, 4, 0] rfl)
      · refine lv_iload hx hb dModel_lookBinary_49 (lv_at hl 0 rfl) ?_
        refine lv_bipush (v := 13) hx hb dModel_lookBinary_51 (by decide) ?_
        refine lv_icmp_ne (tgt := 76) hx hb dModel_lookBinary_53 (by decide) (fun c19 => ?_) (fun c19 => ?_)
        · refine lv_iload hx hb dModel_lookBinary_76 (lv_at hl 0 rfl) ?_
          refine lv_bipush (v := 14) hx hb dModel_lookBinary_78 (by decide) ?_
          refine lv_icmp_ne (tgt := 91) hx hb dModel_lookBinary_80 (by decide) (fun c20 => ?_) (fun c20 => ?_)
          · refine lv_iload hx hb dModel_lookBinary_91 (lv_at hl 0 rfl) ?_
            refine lv_bipush (v := 19) hx hb dModel_lookBinary_93 (by decide) ?_
            refine lv_icmp_ge (tgt := 110) hx hb dModel_lookBinary_95 (by decide) (fun c21 => ?_) (fun c21 => ?_)
            · refine lv_aload_n hx hb dModel_lookBinary_110 rfl (lv_at hl 1 rfl) ?_
              refine lv_iload_n hx hb dModel_lookBinary_111 rfl (lv_at hl 2 rfl) ?_
              refine lv_iload hx hb dModel_lookBinary_112 (lv_at hl 0 rfl) ?_
              refine lv_bipush (v := 19) hx hb dModel_lookBinary_114 (by decide) ?_
              have J124 : ∀ (ls : Array Slot) (t0_124 : Int32), lv_has ls 5 [(0, .ref a), (1, .int x1), (2, .int x2), (3, .int x3), (4, .int v1)] → W p l e (bs_rm 4 0 0 107) s m args below meth c s.heap [] 0 0 Q (F0 m 124 ls [.int t0_124, .int x1, .ref a]) := by
                intro ls t0_124 hl
                refine lv_iload_n hx hb dModel_lookBinary_124 rfl (lv_at hl 2 rfl) ?_
                refine lv_iload_n hx hb dModel_lookBinary_125 rfl (lv_at hl 3 rfl) ?_
                refine mu_Vi (rest := []) S hC (fun q h => hA q (Nat.le_trans hS.1 h)) (fun q h => h) hS (m_lookShift l γ a B Z κ b mn ν τ σ F nu hT x1 t0_124 x2 x3 (vin (by assumption) (by omega)) (vin (by assumption) (by omega)) (vin (by assumption) (by omega)) (by assumption) (by assumption) hZ hF) meModel_lookShift qw_9989324b00 ⟨Nat.le_of_ble_eq_true rfl, Nat.le_of_ble_eq_true rfl⟩ (md_rv hC hM) hM rfl hl.1 rfl (Nat.le_of_ble_eq_true rfl) dModel_lookBinary_126 ⟨Nat.le_refl _, Nat.le_refl _⟩ (fun r24 H locs hPO hS _ _ => ?_)
                obtain ⟨σr24, Fr24, nur24, hM, hZ, hF, hLr24, hRr24⟩ := hPO
                have hL : SL x1.toNatClampNeg F nu Fr24 nur24 := hL.trans hLr24
                exact hE _ _ _ _ _ hS ⟨σr24, Fr24, nur24, hM, hZ, hF, hL, hRr24⟩ dModel_lookBinary_129
              refine lv_icmp_ne (tgt := 123) hx hb dModel_lookBinary_116 (by decide) (fun c25 => ?_) (fun c25 => ?_)
              · refine lv_iconst (v := 0) hx hb dModel_lookBinary_123 (by decide) ?_
                exact J124 ls 0 (lv_sub hl [1, 2, 3, 4, 0] rfl)
              · refine lv_iconst (v := 1) hx hb dModel_lookBinary_119 (by decide) ?_
                refine lv_goto (tgt := 124) hx hb dModel_lookBinary_120 (by decide) ?_
                exact J124 ls 1 (lv_sub hl [1, 2, 3, 4, 0] rfl)
            · refine lv_aload_n hx hb dModel_lookBinary_98 rfl (lv_at hl 1 rfl) ?_
              refine lv_iload_n hx hb dModel_lookBinary_99 rfl (lv_at hl 2 rfl) ?_
              refine lv_iload hx hb dModel_lookBinary_100 (lv_at hl 0 rfl) ?_
              refine lv_iload_n hx hb dModel_lookBinary_102 rfl (lv_at hl 3 rfl) ?_
              refine lv_iload_n hx hb dModel_lookBinary_103 rfl (lv_at hl 4 rfl) ?_
              refine mu_Vi (rest := []) S hC (fun q h => hA q (Nat.le_trans hS.1 h)) (fun q h => h) hS (m_lookNumbers l γ a B Z κ b mn ν τ σ F nu hT x1 v1 x2 x3 (vin (by assumption) (by omega)) (vin (by assumption) (by omega)) (vin (by assumption) (by omega)) (by assumption) (by assumption) hZ hF) meModel_lookNumbers qw_e252724d8c ⟨Nat.le_of_ble_eq_true rfl, Nat.le_of_ble_eq_true rfl⟩ (md_rv hC hM) hM rfl hl.1 rfl (Nat.le_of_ble_eq_true rfl) dModel_lookBinary_104 ⟨Nat.le_refl _, Nat.le_refl _⟩ (fun r26 H locs hPO hS _ _ => ?_)
              obtain ⟨σr26, Fr26, nur26, hM, hZ, hF, hLr26, hRr26⟩ := hPO
              have hL : SL x1.toNatClampNeg F nu Fr26 nur26 := hL.trans hLr26
              refine lv_goto (tgt := 129) hx hb dModel_lookBinary_107 (by decide) ?_
              exact hE _ _ _ _ _ hS ⟨σr26, Fr26, nur26, hM, hZ, hF, hL, hRr26⟩ dModel_lookBinary_129
          · refine lv_aload_n hx hb dModel_lookBinary_83 rfl (lv_at hl 1 rfl) ?_
            refine lv_iload_n hx hb dModel_lookBinary_84 rfl (lv_at hl 2 rfl) ?_
            refine lv_iload_n hx hb dModel_lookBinary_85 rfl (lv_at hl 3 rfl) ?_
            refine lv_iload_n hx hb dModel_lookBinary_86 rfl (lv_at hl 4 rfl) ?_
            refine mu_Vi (rest := []) S hC (fun q h => hA q (Nat.le_trans hS.1 h)) (fun q h => h) hS (m_lookJoined l γ a B Z κ b mn ν τ σ F nu hT x1 x2 x3 (vin (by assumption) (by omega)) (vin (by assumption) (by omega)) (vin (by assumption) (by omega)) (by assumption) (by assumption) hZ hF) meModel_lookJoined qw_eedff52c6d ⟨Nat.le_of_ble_eq_true rfl, Nat.le_of_ble_eq_true rfl⟩ (md_rv hC hM) hM rfl hl.1 rfl (Nat.le_of_ble_eq_true rfl) dModel_lookBinary_87 ⟨Nat.le_refl _, Nat.le_refl _⟩ (fun r27 H locs hPO hS _ _ => ?_)
            obtain ⟨σr27, Fr27, nur27, hM, hZ, hF, hLr27, hRr27⟩ := hPO
            have hL : SL x1.toNatClampNeg F nu Fr27 nur27 := hL.trans hLr27
            exact hE _ _ _ _ _ hS ⟨σr27, Fr27, nur27, hM, hZ, hF, hL, hRr27⟩ dModel_lookBinary_90
        · exact J56 ls  (lv_sub hl [1, 2, 3, 4, 0] rfl)
    · refine lv_aload_n hx hb dModel_lookBinary_32 rfl (lv_at hl 1 rfl) ?_
      refine lv_iload_n hx hb dModel_lookBinary_33 rfl (lv_at hl 2 rfl) ?_
      refine lv_iload hx hb dModel_lookBinary_34 (lv_at hl 0 rfl) ?_
      refine lv_iload_n hx hb dModel_lookBinary_36 rfl (lv_at hl 3 rfl) ?_
      refine lv_iload_n hx hb dModel_lookBinary_37 rfl (lv_at hl 4 rfl) ?_
      refine mu_Vi (rest := []) S hC (fun q h => hA q (Nat.le_trans hS.1 h)) (fun q h => h) hS (m_lookOrder l γ a B Z κ b mn ν τ σ F nu hT x1 v1 x2 x3 (vin (by assumption) (by omega)) (vin (by assumption) (by omega)) (vin (by assumption) (by omega)) (by assumption) (by assumption) hZ hF) meModel_lookOrder qw_25c6887e45 ⟨Nat.le_of_ble_eq_true rfl, Nat.le_of_ble_eq_true rfl⟩ (md_rv hC hM) hM rfl hl.1 rfl (Nat.le_of_ble_eq_true rfl) dModel_lookBinary_38 ⟨Nat.le_refl _, Nat.le_refl _⟩ (fun r28 H locs hPO hS _ _ => ?_)
      obtain ⟨σr28, Fr28, nur28, hM, hZ, hF, hLr28, hRr28⟩ := hPO
      have hL : SL x1.toNatClampNeg F nu Fr28 nur28 := hL.trans hLr28
      exact hE _ _ _ _ _ hS ⟨σr28, Fr28, nur28, hM, hZ, hF, hL, hRr28⟩ dModel_lookBinary_41
  · refine lv_aload_n hx hb dModel_lookBinary_15 rfl (lv_at hl 1 rfl) ?_
    refine lv_iload_n hx hb dModel_lookBinary_16 rfl (lv_at hl 2 rfl) ?_
    refine lv_iload hx hb dModel_lookBinary_17 (lv_at hl 0 rfl) ?_
    refine lv_iload_n hx hb dModel_lookBinary_19 rfl (lv_at hl 3 rfl) ?_
    refine lv_iload_n hx hb dModel_lookBinary_20 rfl (lv_at hl 4 rfl) ?_
    refine mu_Vi (rest := []) S hC (fun q h => hA q (Nat.le_trans hS.1 h)) (fun q h => h) hS (m_lookLogic l γ a B Z κ b mn ν τ σ F nu hT x1 v1 x2 x3 (vin (by assumption) (by omega)) (vin (by assumption) (by omega)) (vin (by assumption) (by omega)) (by assumption) (by assumption) hZ hF) meModel_lookLogic qw_210034d4bb ⟨Nat.le_of_ble_eq_true rfl, Nat.le_of_ble_eq_true rfl⟩ (md_rv hC hM) hM rfl hl.1 rfl (Nat.le_of_ble_eq_true rfl) dModel_lookBinary_21 ⟨Nat.le_refl _, Nat.le_refl _⟩ (fun r29 H locs hPO hS _ _ => ?_)
    obtain ⟨σr29, Fr29, nur29, hM, hZ, hF, hLr29, hRr29⟩ := hPO
    have hL : SL x1.toNatClampNeg F nu Fr29 nur29 := hL.trans hLr29
    exact hE _ _ _ _ _ hS ⟨σr29, Fr29, nur29, hM, hZ, hF, hL, hRr29⟩ dModel_lookBinary_24
