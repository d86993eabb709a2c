set_option maxHeartbeats 4000000 in
set_option maxRecDepth 100000 in
theorem m_lookJoined (l : Launch) (γ : gE) (a : Nat) (B : Nat → Nat) (Z : Nat → Prop) (κ b mn : Nat → Nat) (ν : Nat → Int32) (τ : Nat → Nat → Int32) (σ : Nat → Int32) (F : Nat → Nat → Int32) (nu : Nat → Int64) (hT : ST κ b mn ν τ) (x1 : Int32) (x2 : Int32) (x3 : Int32) (hx1 : vp_in x1 (κ 0)) (hx2 : vp_in x2 (κ 0)) (hx3 : vp_in x3 (κ 0)) (ha : x2.toNatClampNeg < x1.toNatClampNeg) (hbk : x3.toNatClampNeg < x1.toNatClampNeg) (hZ : SZ F) (hF : FD σ) : MU l yModel_lookJoined bModel_lookJoined 7 (some .int) 2 48 0 0 [.ref a, .int x1, .int x2, .int x3] γ Z (MD γ a B Z ν τ σ F nu) (mQi (fun r H => LKo γ a B Z ν τ x1.toNatClampNeg F nu r H) Z) := by
  refine mu_openI (by decide) (Nat.le_of_ble_eq_true rfl) ?_
  intro p e s m args below meth c ls Q S hnm hC hA hM hE hl
  have hS : va_S Z s.heap s.heap [] := va_S.rf
  obtain ⟨hx, hb, hml, hown, hW⟩ := id S
  obtain ⟨⟨hs0, hs1, hs2, hs3, hs4, hs5, hs6⟩, ⟨hv6, hv8, hv21, hv24, hv30, hv31⟩, hTR, hTY, hOB, hNM⟩ := id hT
  have hL : SL x1.toNatClampNeg F nu F nu := SL.rf
  have hl : lv_has ls 7 [(0, .ref a), (1, .int x1), (2, .int x2), (3, .int x3)] := hl
  refine lv_aload_n hx hb dModel_lookJoined_0 rfl (lv_at hl 0 rfl) ?_
  refine md_gA S hC hM 9 (by decide) rfl qw_a119aeeca0 dModel_lookJoined_1 ?_
  refine lv_iload_n hx hb dModel_lookJoined_4 rfl (lv_at hl 2 rfl) ?_
  refine md_ild S hC hM 9 5 10000 (F 9) rfl rfl (by decide) rfl rfl (vin (by assumption) (by omega)) dModel_lookJoined_5 ?_
  refine lv_topi (fun v1 ev1 => ?_)
  have J19 : ∀ (ls : Array Slot), lv_has ls 7 [(0, .ref a), (1, .int x1), (2, .int x2), (3, .int x3)] → W p l e (bs_rm 2 0 0 48) s m args below meth c s.heap [] 0 0 Q (F0 m 19 ls []) := by
    intro ls hl
    refine lv_aload_n hx hb dModel_lookJoined_19 rfl (lv_at hl 0 rfl) ?_
    refine md_gA S hC hM 9 (by decide) rfl qw_a119aeeca0 dModel_lookJoined_20 ?_
    refine lv_iload_n hx hb dModel_lookJoined_23 rfl (lv_at hl 3 rfl) ?_
    refine md_ild S hC hM 9 5 10000 (F 9) rfl rfl (by decide) rfl rfl (vin (by assumption) (by omega)) dModel_lookJoined_24 ?_
    refine lv_topi (fun v41 ev41 => ?_)
    have J40 : ∀ (ls : Array Slot), lv_has ls 7 [(0, .ref a), (1, .int x1), (2, .int x2), (3, .int x3)] → W p l e (bs_rm 2 0 0 48) s m args below meth c s.heap [] 0 0 Q (F0 m 40 ls []) := by
      intro ls hl
      refine lv_aload_n hx hb dModel_lookJoined_40 rfl (lv_at hl 0 rfl) ?_
      refine md_gA S hC hM 9 (by decide) rfl qw_a119aeeca0 dModel_lookJoined_41 ?_
      refine lv_iload_n hx hb dModel_lookJoined_44 rfl (lv_at hl 2 rfl) ?_
      refine md_ild S hC hM 9 5 10000 (F 9) rfl rfl (by decide) rfl rfl (vin (by assumption) (by omega)) dModel_lookJoined_45 ?_
      refine lv_topi (fun v77 ev77 => ?_)
      have J59 : ∀ (ls : Array Slot) (t0_59 : Int32), (∃ j, j ≤ 1000 ∧ t0_59 = nI j) → lv_has ls 7 [(0, .ref a), (1, .int x1), (2, .int x2), (3, .int x3)] → W p l e (bs_rm 2 0 0 48) s m args below meth c s.heap [] 0 0 Q (F0 m 59 ls [.int t0_59]) := by
        intro ls t0_59 ht0_59 hl
        refine lv_istore (lv' := [(4, .int t0_59), (0, .ref a), (1, .int x1), (2, .int x2), (3, .int x3)]) hx hb dModel_lookJoined_59 hl (by decide) rfl (fun ls hl => ?_)
        refine lv_aload_n hx hb dModel_lookJoined_61 rfl (lv_at hl 1 rfl) ?_
        refine md_gA S hC hM 9 (by decide) rfl qw_a119aeeca0 dModel_lookJoined_62 ?_
        refine lv_iload_n hx hb dModel_lookJoined_65 rfl (lv_at hl 4 rfl) ?_
        refine md_ild S hC hM 9 5 10000 (F 9) rfl rfl (by decide) rfl rfl (vin (by assumption) (by omega)) dModel_lookJoined_66 ?_
        refine lv_topi (fun v109 ev109 => ?_)
        have J80 : ∀ (ls : Array Slot) (t0_80 : Int32), (∃ j, j ≤ 1000 ∧ t0_80 = nI j) → lv_has ls 7 [(0, .ref a), (1, .int x1), (2, .int x2), (3, .int x3), (4, .int t0_59)] → W p l e (bs_rm 2 0 0 48) s m args below meth c s.heap [] 0 0 Q (F0 m 80 ls [.int t0_80]) := by
          intro ls t0_80 ht0_80 hl
          refine lv_istore (lv' := [(5, .int t0_80), (0, .ref a), (1, .int x1), (2, .int x2), (3, .int x3), (4, .int t0_59)]) hx hb dModel_lookJoined_80 hl (by decide) rfl (fun ls hl => ?_)
          refine lv_iload hx hb dModel_lookJoined_82 (lv_at hl 5 rfl) ?_
          refine lv_iload hx hb dModel_lookJoined_84 (lv_at hl 0 rfl) ?_
          refine lv_iadd hx hb dModel_lookJoined_86 ?_
          refine lv_topi (fun v138 ev138 => ?_)
          refine lv_bipush (v := 64) hx hb dModel_lookJoined_87 (by decide) ?_
          refine lv_icmp_le (tgt := 94) hx hb dModel_lookJoined_89 (by decide) (fun c139 => ?_) (fun c139 => ?_)
          · refine lv_aload_n hx hb dModel_lookJoined_94 rfl (lv_at hl 1 rfl) ?_
            refine lv_iload_n hx hb dModel_lookJoined_95 rfl (lv_at hl 2 rfl) ?_
            refine lv_iconst (v := 3) hx hb dModel_lookJoined_96 (by decide) ?_
            refine lv_iload hx hb dModel_lookJoined_97 (lv_at hl 5 rfl) ?_
            refine lv_iload hx hb dModel_lookJoined_99 (lv_at hl 0 rfl) ?_
            refine lv_iadd hx hb dModel_lookJoined_101 ?_
            refine lv_topi (fun v140 ev140 => ?_)
            refine lv_aload_n hx hb dModel_lookJoined_102 rfl (lv_at hl 1 rfl) ?_
            refine md_gA S hC hM 11 (by decide) rfl qw_88b9028ba7 dModel_lookJoined_103 ?_
            refine lv_iload_n hx hb dModel_lookJoined_106 rfl (lv_at hl 3 rfl) ?_
            refine md_zld S hC hM 11 7 10000 (F 11) rfl rfl (by decide) rfl rfl (vin (by assumption) (by omega)) dModel_lookJoined_107 ?_
            refine lv_topi (fun v141 ev141 => ?_)
            have J125 : ∀ (ls : Array Slot) (t0_125 : Int32), lv_has ls 7 [(0, .ref a), (1, .int x1), (2, .int x2), (3, .int x3), (4, .int t0_59), (5, .int t0_80)] → W p l e (bs_rm 2 0 0 48) s m args below meth c s.heap [] 0 0 Q (F0 m 125 ls [.int t0_125, .int v140, .int 3, .int x1, .ref a]) := by
              intro ls t0_125 hl
              have hnr164 : ∃ j, j ≤ 1000 ∧ v140 = nI j := (jn_ok ht0_59 ht0_80 ev138 (by assumption) ev140)
              refine mu_Vv (rest := []) S hC (fun q h => hA q (Nat.le_trans hS.1 h)) (fun q h => h) hS (m_fact l γ a B Z κ b mn ν τ σ F nu hT x1 3 v140 t0_125 (vin (by assumption) (by omega)) hnr164) meModel_fact qw_02871250ec ⟨Nat.le_of_ble_eq_true rfl, Nat.le_of_ble_eq_true rfl⟩ (md_rv hC hM) hM rfl hl.1 rfl (Nat.le_of_ble_eq_true rfl) dModel_lookJoined_125 ⟨Nat.le_refl _, Nat.le_refl _⟩ (fun H locs hPO hS _ _ => ?_)
              obtain ⟨Fr164, nur164, hM, hqr164, hcr164⟩ := hPO
              have hZ : SZ Fr164 := hZ.slt hqr164 hnr164
              have hL : SL x1.toNatClampNeg F nu Fr164 nur164 := hL.trans (SL.slt hqr164)
              have hK : GK x1.toNatClampNeg Fr164 nur164 := GK.zero hqr164
              refine lv_iconst (v := 0) hx hb dModel_lookJoined_128 (by decide) ?_
              refine lv_istore (lv' := [(6, .int 0), (0, .ref a), (1, .int x1), (2, .int x2), (3, .int x3), (4, .int t0_59), (5, .int t0_80)]) hx hb dModel_lookJoined_129 hl (by decide) rfl (fun ls hl => ?_)
              have J131 : ∀ (N131 : Nat) (ls : Array Slot) (H : Heap) (locs : List Loc) (F_131 : Nat → Nat → Int32) (i6_131 : Int32), MD γ a B Z ν τ σ F_131 nur164 H → va_S Z s.heap H locs → (GK x1.toNatClampNeg F_131 nur164) → (SL x1.toNatClampNeg F nu F_131 nur164) → (SZ F_131) → (¬ i6_131 < 0) → (2147483647 - i6_131.toInt).toNat = N131 → lv_has ls 7 [(0, .ref a), (1, .int x1), (2, .int x2), (3, .int x3), (4, .int t0_59), (5, .int t0_80), (6, .int i6_131)] → W p l e (bs_rm 2 0 0 48) s m args below meth c H locs 0 0 Q (F0 m 131 ls []) := by
                intro N131
                induction N131 using Nat.strongRecOn with
                | ind N131 ih131 =>
                  intro ls H locs F_131 i6_131 hM hS hK hL hZ hi6_131 hm131 hl
                  refine lv_iload hx hb dModel_lookJoined_131 (lv_at hl 6 rfl) ?_
                  refine lv_iload hx hb dModel_lookJoined_133 (lv_at hl 5 rfl) ?_
                  refine lv_icmp_ge (tgt := 177) hx hb dModel_lookJoined_135 (by decide) (fun c165 => ?_) (fun c165 => ?_)
                  · refine lv_iconst (v := 0) hx hb dModel_lookJoined_177 (by decide) ?_
                    refine lv_istore (lv' := [(6, .int 0), (0, .ref a), (1, .int x1), (2, .int x2), (3, .int x3), (4, .int t0_59), (5, .int t0_80)]) hx hb dModel_lookJoined_178 hl (by decide) rfl (fun ls hl => ?_)
                    have J180 : ∀ (N180 : Nat) (ls : Array Slot) (H : Heap) (locs : List Loc) (F_180 : Nat → Nat → Int32) (i6_180 : Int32), MD γ a B Z ν τ σ F_180 nur164 H → va_S Z s.heap H locs → (GK x1.toNatClampNeg F_180 nur164) → (SL x1.toNatClampNeg F nu F_180 nur164) → (SZ F_180) → (¬ i6_180 < 0) → (2147483647 - i6_180.toInt).toNat = N180 → lv_has ls 7 [(0, .ref a), (1, .int x1), (2, .int x2), (3, .int x3), (4, .int t0_59), (5, .int t0_80), (6, .int i6_180)] → W p l e (bs_rm 2 0 0 48) s m args below meth c H locs 0 0 Q (F0 m 180 ls []) := by
                      intro N180
                      induction N180 using Nat.strongRecOn with
                      | ind N180 ih180 =>
                        intro ls H locs F_180 i6_180 hM hS hK hL hZ hi6_180 hm180 hl
                        refine lv_iload hx hb dModel_lookJoined_180 (lv_at hl 6 rfl) ?_
                        refine lv_iload hx hb dModel_lookJoined_182 (lv_at hl 4 rfl) ?_
                        refine lv_icmp_ge (tgt := 229) hx hb dModel_lookJoined_184 (by decide) (fun c166 => ?_) (fun c166 => ?_)
                        · refine lv_aload_n hx hb dModel_lookJoined_229 rfl (lv_at hl 0 rfl) ?_
                          refine lv_iload_n hx hb dModel_lookJoined_230 rfl (lv_at hl 1 rfl) ?_
                          refine mu_Vi (rest := []) S hC (fun q h => hA q (Nat.le_trans hS.1 h)) (fun q h => h) hS (m_known l γ a B Z κ b mn ν τ σ F_180 nur164 hT x1 (vin (by assumption) (by omega))) meModel_known qw_aa15322dc3 ⟨Nat.le_of_ble_eq_true rfl, Nat.le_of_ble_eq_true rfl⟩ (md_rv hC hM) hM rfl hl.1 rfl (Nat.le_of_ble_eq_true rfl) dModel_lookJoined_231 ⟨Nat.le_refl _, Nat.le_refl _⟩ (fun r167 H locs hPO hS _ _ => ?_)
                          obtain ⟨hrr167, Fr167, nur167, hM, hqr167, hnr167⟩ := hPO
                          have hZ : SZ Fr167 := hZ.e14 hqr167
                          have hL : SL x1.toNatClampNeg F nu Fr167 nur167 := hL.trans (SL.kn hqr167 hnr167)
                          have hK : GK x1.toNatClampNeg Fr167 nur167 := hK.kn hqr167 hnr167
                          exact hE _ _ _ _ _ hS ⟨σ, Fr167, nur167, hM, hZ, hF, hL, (fun _ => hK)⟩ dModel_lookJoined_234
                        · have hin6 : vp_in i6_180 1000 := vle ht0_59 (by assumption) (by assumption)
                          refine lv_aload_n hx hb dModel_lookJoined_187 rfl (lv_at hl 0 rfl) ?_
                          refine lv_iload_n hx hb dModel_lookJoined_188 rfl (lv_at hl 1 rfl) ?_
                          refine lv_iload hx hb dModel_lookJoined_189 (lv_at hl 5 rfl) ?_
                          refine lv_iload hx hb dModel_lookJoined_191 (lv_at hl 6 rfl) ?_
                          refine lv_iadd hx hb dModel_lookJoined_193 ?_
                          refine lv_topi (fun v168 ev168 => ?_)
                          have hqi : vp_in v168 2000 := vadd ht0_80 hin6 ev168
                          refine lv_aload_n hx hb dModel_lookJoined_194 rfl (lv_at hl 0 rfl) ?_
                          refine md_gA S hC hM 9 (by decide) rfl qw_a119aeeca0 dModel_lookJoined_195 ?_
                          refine lv_iload_n hx hb dModel_lookJoined_198 rfl (lv_at hl 2 rfl) ?_
                          refine md_ild S hC hM 9 5 10000 (F_180 9) rfl rfl (by decide) rfl rfl (vin (by assumption) (by omega)) dModel_lookJoined_199 ?_
                          refine lv_topi (fun v169 ev169 => ?_)
                          have J220 : ∀ (ls : Array Slot) (t0_220 : Int32), lv_has ls 7 [(0, .ref a), (1, .int x1), (2, .int x2), (3, .int x3), (4, .int t0_59), (5, .int t0_80), (6, .int i6_180)] → W p l e (bs_rm 2 0 0 48) s m args below meth c H locs 0 0 Q (F0 m 220 ls [.int t0_220, .int v168, .int x1, .ref a]) := by
                            intro ls t0_220 hl
                            refine mu_Vv (rest := []) S hC (fun q h => hA q (Nat.le_trans hS.1 h)) (fun q h => h) hS (m_setElement l γ a B Z κ b mn ν τ σ F_180 nur164 hT x1 v168 t0_220 (el_in (by assumption) (by assumption) (by omega))) meModel_setElement qw_143403ccb9 ⟨Nat.le_of_ble_eq_true rfl, Nat.le_of_ble_eq_true rfl⟩ (md_rv hC hM) hM rfl hl.1 rfl (Nat.le_of_ble_eq_true rfl) dModel_lookJoined_220 ⟨Nat.le_refl _, Nat.le_refl _⟩ (fun H locs hPO hS _ _ => ?_)
                            obtain ⟨Fr176, hM, hqr176⟩ := hPO
                            have hZ : SZ Fr176 := hZ.e14 hqr176
                            have hL : SL x1.toNatClampNeg F nu Fr176 nur164 := hL.trans (SL.e14 hqr176)
                            have hK : GK x1.toNatClampNeg Fr176 nur164 := hK.e14 hqr176
                            obtain ⟨v177, ev177⟩ : ∃ y : Int32, y = i6_180 + 1 := ⟨_, rfl⟩
                            refine lv_iinc (v := v177) (lv' := [(6, .int v177), (0, .ref a), (1, .int x1), (2, .int x2), (3, .int x3), (4, .int t0_59), (5, .int t0_80)]) hx hb dModel_lookJoined_223 hl (k := 6) rfl (by rw [ev177]; rfl) (by decide) rfl (fun ls hl => ?_)
                            refine lv_goto (tgt := 180) hx hb dModel_lookJoined_226 (by decide) ?_
                            exact ih180 _ (by have q1 : i6_180.toInt < 2147483647 := (by first | assumption | exact (mu_up (k := i6_180) (by assumption)).2); have q2 := mu_lt q1; rw [← ev177] at q2; omega) ls _ _ Fr176 v177 hM hS hK hL hZ (by first | decide | exact nn_inc (by assumption) (by assumption) (by assumption)) rfl (lv_sub hl [1, 2, 3, 4, 5, 6, 0] rfl)
                          refine lv_if_ne (tgt := 213) hx hb dModel_lookJoined_200 (by decide) (fun c178 => ?_) (fun c178 => ?_)
                          · refine lv_aload_n hx hb dModel_lookJoined_213 rfl (lv_at hl 0 rfl) ?_
                            refine lv_iload_n hx hb dModel_lookJoined_214 rfl (lv_at hl 2 rfl) ?_
                            refine lv_iload hx hb dModel_lookJoined_215 (lv_at hl 6 rfl) ?_
                            refine pu_Vi (rest := [.int v168, .int x1, .ref a]) S hC (m_element l γ a B Z κ b mn ν τ σ F_180 nur164 hT x2 i6_180 (el_in (by assumption) (by assumption) (by omega))) meModel_element qw_ceb3d87d61 ⟨Nat.le_of_ble_eq_true rfl, Nat.le_of_ble_eq_true rfl⟩ (md_rv hC hM) hM rfl hl.1 rfl (Nat.le_of_ble_eq_true rfl) dModel_lookJoined_217 ⟨Nat.zero_le _, Nat.zero_le _⟩ (fun r179 hr179 => ?_)
                            exact J220 ls r179 (lv_sub hl [0, 1, 2, 3, 4, 5, 6] rfl)
                          · refine lv_aload_n hx hb dModel_lookJoined_203 rfl (lv_at hl 0 rfl) ?_
                            refine md_gA S hC hM 13 (by decide) rfl qw_7b809afc8c dModel_lookJoined_204 ?_
                            refine lv_iload_n hx hb dModel_lookJoined_207 rfl (lv_at hl 2 rfl) ?_
                            refine md_lld S hC hM (vin (by assumption) (by omega)) dModel_lookJoined_208 ?_
                            refine lv_topl (fun v180 ev180 => ?_)
                            have ev180 : v180 = nur164 x2.toNatClampNeg := ev180
                            refine lv_l2i hx hb dModel_lookJoined_209 rfl ?_
                            refine lv_topi (fun v181 ev181 => ?_)
                            refine lv_goto (tgt := 220) hx hb dModel_lookJoined_210 (by decide) ?_
                            exact J220 ls v181 (lv_sub hl [0, 1, 2, 3, 4, 5, 6] rfl)
                    exact J180 _ ls _ _ F_131 0 hM hS hK hL hZ (by first | decide | exact nn_inc (by assumption) (by assumption) (by assumption)) rfl (lv_sub hl [1, 2, 3, 4, 5, 6, 0] rfl)
                  · have hin6 : vp_in i6_131 1000 := vle ht0_80 (by assumption) (by assumption)
                    refine lv_aload_n hx hb dModel_lookJoined_138 rfl (lv_at hl 0 rfl) ?_
                    refine lv_iload_n hx hb dModel_lookJoined_139 rfl (lv_at hl 1 rfl) ?_
                    refine lv_iload hx hb dModel_lookJoined_140 (lv_at hl 6 rfl) ?_
                    refine lv_aload_n hx hb dModel_lookJoined_142 rfl (lv_at hl 0 rfl) ?_
                    refine md_gA S hC hM 9 (by decide) rfl qw_a119aeeca0 dModel_lookJoined_143 ?_
                    refine lv_iload_n hx hb dModel_lookJoined_146 rfl (lv_at hl 3 rfl) ?_
                    refine md_ild S hC hM 9 5 10000 (F_131 9) rfl rfl (by decide) rfl rfl (vin (by assumption) (by omega)) dModel_lookJoined_147 ?_
                    refine lv_topi (fun v182 ev182 => ?_)
                    have J168 : ∀ (ls : Array Slot) (t0_168 : Int32), lv_has ls 7 [(0, .ref a), (1, .int x1), (2, .int x2), (3, .int x3), (4, .int t0_59), (5, .int t0_80), (6, .int i6_131)] → W p l e (bs_rm 2 0 0 48) s m args below meth c H locs 0 0 Q (F0 m 168 ls [.int t0_168, .int i6_131, .int x1, .ref a]) := by
                      intro ls t0_168 hl
                      refine mu_Vv (rest := []) S hC (fun q h => hA q (Nat.le_trans hS.1 h)) (fun q h => h) hS (m_setElement l γ a B Z κ b mn ν τ σ F_131 nur164 hT x1 i6_131 t0_168 (el_in (by assumption) (by assumption) (by omega))) meModel_setElement qw_143403ccb9 ⟨Nat.le_of_ble_eq_true rfl, Nat.le_of_ble_eq_true rfl⟩ (md_rv hC hM) hM rfl hl.1 rfl (Nat.le_of_ble_eq_true rfl) dModel_lookJoined_168 ⟨Nat.le_refl _, Nat.le_refl _⟩ (fun H locs hPO hS _ _ => ?_)
                      obtain ⟨Fr189, hM, hqr189⟩ := hPO
                      have hZ : SZ Fr189 := hZ.e14 hqr189
                      have hL : SL x1.toNatClampNeg F nu Fr189 nur164 := hL.trans (SL.e14 hqr189)
                      have hK : GK x1.toNatClampNeg Fr189 nur164 := hK.e14 hqr189
                      obtain ⟨v190, ev190⟩ : ∃ y : Int32, y = i6_131 + 1 := ⟨_, rfl⟩
                      refine lv_iinc (v := v190) (lv' := [(6, .int v190), (0, .ref a), (1, .int x1), (2, .int x2), (3, .int x3), (4, .int t0_59), (5, .int t0_80)]) hx hb dModel_lookJoined_171 hl (k := 6) rfl (by rw [ev190]; rfl) (by decide) rfl (fun ls hl => ?_)
                      refine lv_goto (tgt := 131) hx hb dModel_lookJoined_174 (by decide) ?_
                      exact ih131 _ (by have q1 : i6_131.toInt < 2147483647 := (by first | assumption | exact (mu_up (k := i6_131) (by assumption)).2); have q2 := mu_lt q1; rw [← ev190] at q2; omega) ls _ _ Fr189 v190 hM hS hK hL hZ (by first | decide | exact nn_inc (by assumption) (by assumption) (by assumption)) rfl (lv_sub hl [1, 2, 3, 4, 5, 6, 0] rfl)
                    refine lv_if_ne (tgt := 161) hx hb dModel_lookJoined_148 (by decide) (fun c191 => ?_) (fun c191 => ?_)
                    · refine lv_aload_n hx hb dModel_lookJoined_161 rfl (lv_at hl 0 rfl) ?_
                      refine lv_iload_n hx hb dModel_lookJoined_162 rfl (lv_at hl 3 rfl) ?_
                      refine lv_iload hx hb dModel_lookJoined_163 (lv_at hl 6 rfl) ?_
                      refine pu_Vi (rest := [.int i6_131, .int x1, .ref a]) S hC (m_element l γ a B Z κ b mn ν τ σ F_131 nur164 hT x3 i6_131 (el_in (by assumption) (by assumption) (by omega))) meModel_element qw_ceb3d87d61 ⟨Nat.le_of_ble_eq_true rfl, Nat.le_of_ble_eq_true rfl⟩ (md_rv hC hM) hM rfl hl.1 rfl (Nat.le_of_ble_eq_true rfl) dModel_lookJoined_165 ⟨Nat.zero_le _, Nat.zero_le _⟩ (fun r192 hr192 => ?_)
                      exact J168 ls r192 (lv_sub hl [0, 1, 2, 3, 4, 5, 6] rfl)
                    · refine lv_aload_n hx hb dModel_lookJoined_151 rfl (lv_at hl 0 rfl) ?_
                      refine md_gA S hC hM 13 (by decide) rfl qw_7b809afc8c dModel_lookJoined_152 ?_
                      refine lv_iload_n hx hb dModel_lookJoined_155 rfl (lv_at hl 3 rfl) ?_
                      refine md_lld S hC hM (vin (by assumption) (by omega)) dModel_lookJoined_156 ?_
                      refine lv_topl (fun v193 ev193 => ?_)
                      have ev193 : v193 = nur164 x3.toNatClampNeg := ev193
                      refine lv_l2i hx hb dModel_lookJoined_157 rfl ?_
                      refine lv_topi (fun v194 ev194 => ?_)
                      refine lv_goto (tgt := 168) hx hb dModel_lookJoined_158 (by decide) ?_
                      exact J168 ls v194 (lv_sub hl [0, 1, 2, 3, 4, 5, 6] rfl)
              exact J131 _ ls _ _ Fr164 0 hM hS hK hL hZ (by first | decide | exact nn_inc (by assumption) (by assumption) (by assumption)) rfl (lv_sub hl [1, 2, 3, 4, 5, 6, 0] rfl)
            have J124 : ∀ (ls : Array Slot), lv_has ls 7 [(0, .ref a), (1, .int x1), (2, .int x2), (3, .int x3), (4, .int t0_59), (5, .int t0_80)] → W p l e (bs_rm 2 0 0 48) s m args below meth c s.heap [] 0 0 Q (F0 m 124 ls [.int v140, .int 3, .int x1, .ref a]) := by
              intro ls hl
              refine lv_iconst (v := 0) hx hb dModel_lookJoined_124 (by decide) ?_
              exact J125 ls 0 (lv_sub hl [0, 1, 2, 3, 4, 5] rfl)
            refine lv_if_eq (tgt := 124) hx hb dModel_lookJoined_108 (by decide) (fun c195 => ?_) (fun c195 => ?_)
            · exact J124 ls  (lv_sub hl [1, 2, 3, 4, 5, 0] rfl)
            · refine lv_aload_n hx hb dModel_lookJoined_111 rfl (lv_at hl 1 rfl) ?_
              refine md_gA S hC hM 11 (by decide) rfl qw_88b9028ba7 dModel_lookJoined_112 ?_
              refine lv_iload_n hx hb dModel_lookJoined_115 rfl (lv_at hl 4 rfl) ?_
              refine md_zld S hC hM 11 7 10000 (F 11) rfl rfl (by decide) rfl rfl (vin (by assumption) (by omega)) dModel_lookJoined_116 ?_
              refine lv_topi (fun v196 ev196 => ?_)
              refine lv_if_eq (tgt := 124) hx hb dModel_lookJoined_117 (by decide) (fun c197 => ?_) (fun c197 => ?_)
              · exact J124 ls  (lv_sub hl [1, 2, 3, 4, 5, 0] rfl)
              · refine lv_iconst (v := 1) hx hb dModel_lookJoined_120 (by decide) ?_
                refine lv_goto (tgt := 125) hx hb dModel_lookJoined_121 (by decide) ?_
                exact J125 ls 1 (lv_sub hl [1, 2, 3, 4, 5, 0] rfl)
          · refine lv_iconst (v := 4) hx hb dModel_lookJoined_92 (by decide) ?_
            exact hE _ _ _ _ _ hS ⟨σ, F, nu, hM, hZ, hF, hL, (fun h9 => absurd (show (0 : Int32) < 4 by decide) h9)⟩ dModel_lookJoined_93
        refine lv_if_ne (tgt := 74) hx hb dModel_lookJoined_67 (by decide) (fun c198 => ?_) (fun c198 => ?_)
        · refine lv_aload_n hx hb dModel_lookJoined_74 rfl (lv_at hl 1 rfl) ?_
          refine md_gA S hC hM 10 (by decide) rfl qw_bd0251c605 dModel_lookJoined_75 ?_
          refine lv_iload_n hx hb dModel_lookJoined_78 rfl (lv_at hl 4 rfl) ?_
          refine md_ild S hC hM 10 6 10000 (F 10) rfl rfl (by decide) rfl rfl (vin (by assumption) (by omega)) dModel_lookJoined_79 ?_
          refine lv_topi (fun v199 ev199 => ?_)
          exact J80 ls v199 (by first | exact ⟨1, by omega, rfl⟩ | (rw [ev199]; exact hZ _ (vix (vin (by assumption) (by omega))))) (lv_sub hl [1, 2, 3, 4, 0] rfl)
        · refine lv_iconst (v := 1) hx hb dModel_lookJoined_70 (by decide) ?_
          refine lv_goto (tgt := 80) hx hb dModel_lookJoined_71 (by decide) ?_
          exact J80 ls 1 (by first | exact ⟨1, by omega, rfl⟩ | (rw [e1]; exact hZ _ (vix (vin (by assumption) (by omega))))) (lv_sub hl [1, 2, 3, 4, 0] rfl)
      refine lv_if_ne (tgt := 53) hx hb dModel_lookJoined_46 (by decide) (fun c200 => ?_) (fun c200 => ?_)
      · refine lv_aload_n hx hb dModel_lookJoined_53 rfl (lv_at hl 0 rfl) ?_
        refine md_gA S hC hM 10 (by decide) rfl qw_bd0251c605 dModel_lookJoined_54 ?_
        refine lv_iload_n hx hb dModel_lookJoined_57 rfl (lv_at hl 2 rfl) ?_
        refine md_ild S hC hM 10 6 10000 (F 10) rfl rfl (by decide) rfl rfl (vin (by assumption) (by omega)) dModel_lookJoined_58 ?_
        refine lv_topi (fun v201 ev201 => ?_)
        exact J59 ls v201 (by first | exact ⟨1, by omega, rfl⟩ | (rw [ev201]; exact hZ _ (vix (vin (by assumption) (by omega))))) (lv_sub hl [0, 1, 2, 3] rfl)
      · refine lv_iconst (v := 1) hx hb dModel_lookJoined_49 (by decide) ?_
        refine lv_goto (tgt := 59) hx hb dModel_lookJoined_50 (by decide) ?_
        exact J59 ls 1 (by first | exact ⟨1, by omega, rfl⟩ | (rw [e1]; exact hZ _ (vix (vin (by assumption) (by omega))))) (lv_sub hl [0, 1, 2, 3] rfl)
    refine lv_if_eq (tgt := 40) hx hb dModel_lookJoined_25 (by decide) (fun c202 => ?_) (fun c202 => ?_)
    · exact J40 ls  (lv_sub hl [0, 1, 2, 3] rfl)
    · refine lv_aload_n hx hb dModel_lookJoined_28 rfl (lv_at hl 0 rfl) ?_
      refine md_gA S hC hM 9 (by decide) rfl qw_a119aeeca0 dModel_lookJoined_29 ?_
      refine lv_iload_n hx hb dModel_lookJoined_32 rfl (lv_at hl 3 rfl) ?_
      refine md_ild S hC hM 9 5 10000 (F 9) rfl rfl (by decide) rfl rfl (vin (by assumption) (by omega)) dModel_lookJoined_33 ?_
      refine lv_topi (fun v203 ev203 => ?_)
      refine lv_iconst (v := 3) hx hb dModel_lookJoined_34 (by decide) ?_
      refine lv_icmp_eq (tgt := 40) hx hb dModel_lookJoined_35 (by decide) (fun c204 => ?_) (fun c204 => ?_)
      · exact J40 ls  (lv_sub hl [0, 1, 2, 3] rfl)
      · refine lv_iconst (v := 3) hx hb dModel_lookJoined_38 (by decide) ?_
        exact hE _ _ _ _ _ hS ⟨σ, F, nu, hM, hZ, hF, hL, (fun h9 => absurd (show (0 : Int32) < 3 by decide) h9)⟩ dModel_lookJoined_39
  refine lv_if_eq (tgt := 19) hx hb dModel_lookJoined_6 (by decide) (fun c205 => ?_) (fun c205 => ?_)
  · exact J19 ls  (lv_sub hl [0, 1, 2, 3] rfl)
  · refine lv_aload_n hx hb dModel_lookJoined_9 rfl (lv_at hl 0 rfl) ?_
    refine md_gA S hC hM 9 (by decide) rfl qw_a119aeeca0 dModel_lookJoined_10 ?_
    refine lv_iload_n hx hb dModel_lookJoined_13 rfl (lv_at hl 2 rfl) ?_
    refine md_ild S hC hM 9 5 10000 (F 9) rfl rfl (by decide) rfl rfl (vin (by assumption) (by omega)) dModel_lookJoined_14 ?_
    refine lv_topi (fun v206 ev206 => ?_)
    refine lv_iconst (v := 3) hx hb dModel_lookJoined_15 (by decide) ?_
    refine lv_icmp_ne (tgt := 38) hx hb dModel_lookJoined_16 (by decide) (fun c207 => ?_) (fun c207 => ?_)
    · refine lv_iconst (v := 3) hx hb dModel_lookJoined_38 (by decide) ?_
      exact hE _ _ _ _ _ hS ⟨σ, F, nu, hM, hZ, hF, hL, (fun h9 => absurd (show (0 : Int32) < 3 by decide) h9)⟩ dModel_lookJoined_39
    · exact J19 ls  (lv_sub hl [0, 1, 2, 3] rfl)
set_option maxHeartbeats 4000000 in
set_option maxRecDepth 100000 in
theorem m_lookNumbers (l : Launch) (γ : gE) (a : Nat) (B : Nat → Nat) (Z : Nat → Prop) (κ b mn : Nat → Nat) (ν : Nat → Int32) (τ : Nat → Nat → Int32) (σ : Nat → Int32) (F : Nat → Nat → Int32) (nu : Nat → Int64) (hT : ST κ b mn ν τ) (x1 : Int32) (x2 : Int32) (x3 : Int32) (x4 : Int32) (hx1 : vp_in x1 (κ 0)) (hx3 : vp_in x3 (κ 0)) (hx4 : vp_in x4 (κ 0)) (ha : x3.toNatClampNeg < x1.toNatClampNeg) (hbk : x4.toNatClampNeg < x1.toNatClampNeg) (hZ : SZ F) (hF : FD σ) : MU l yModel_lookNumbers bModel_lookNumbers 16 (some .int) 3 72 0 0 [.ref a, .int x1, .int x2, .int x3, .int x4] γ Z (MD γ a B Z ν τ σ F nu) (mQi (fun r H => LKo γ a B Z ν τ x1.toNatClampNeg F nu r H) Z) := by
  refine mu_openI (by decide) (Nat.le_of_ble_eq_true rfl) ?_
  intro p e s m args below meth c ls Q S hnm hC hA hM hE hl
  have hS : va_S Z s.heap s.heap [] := va_S.rf
  obtain ⟨hx, hb, hml, hown, hW⟩ := id S
  obtain ⟨⟨hs0, hs1, hs2, hs3, hs4, hs5, hs6⟩, ⟨hv6, hv8, hv21, hv24, hv30, hv31⟩, hTR, hTY, hOB, hNM⟩ := id hT
  have hL : SL x1.toNatClampNeg F nu F nu := SL.rf
  have hl : lv_has ls 16 [(0, .ref a), (1, .int x1), (2, .int x2), (3, .int x3), (4, .int x4)] := hl
  refine lv_aload_n hx hb dModel_lookNumbers_0 rfl (lv_at hl 0 rfl) ?_
  refine md_gA S hC hM 9 (by decide) rfl qw_a119aeeca0 dModel_lookNumbers_1 ?_
  refine lv_iload_n hx hb dModel_lookNumbers_4 rfl (lv_at hl 3 rfl) ?_
  refine md_ild S hC hM 9 5 10000 (F 9) rfl rfl (by decide) rfl rfl (vin (by assumption) (by omega)) dModel_lookNumbers_5 ?_
  refine lv_topi (fun v1 ev1 => ?_)
  refine lv_iconst (v := 2) hx hb dModel_lookNumbers_6 (by decide) ?_
  refine lv_icmp_ne (tgt := 21) hx hb dModel_lookNumbers_7 (by decide) (fun c2 => ?_) (fun c2 => ?_)
  · refine lv_iconst (v := 3) hx hb dModel_lookNumbers_21 (by decide) ?_
    exact hE _ _ _ _ _ hS ⟨σ, F, nu, hM, hZ, hF, hL, (fun h9 => absurd (show (0 : Int32) < 3 by decide) h9)⟩ dModel_lookNumbers_22
  · refine lv_aload_n hx hb dModel_lookNumbers_10 rfl (lv_at hl 0 rfl) ?_
    refine md_gA S hC hM 9 (by decide) rfl qw_a119aeeca0 dModel_lookNumbers_11 ?_
    refine lv_iload hx hb dModel_lookNumbers_14 (lv_at hl 4 rfl) ?_
    refine md_ild S hC hM 9 5 10000 (F 9) rfl rfl (by decide) rfl rfl (vin (by assumption) (by omega)) dModel_lookNumbers_16 ?_
    refine lv_topi (fun v3 ev3 => ?_)
    refine lv_iconst (v := 2) hx hb dModel_lookNumbers_17 (by decide) ?_
    refine lv_icmp_eq (tgt := 23) hx hb dModel_lookNumbers_18 (by decide) (fun c4 => ?_) (fun c4 => ?_)
    · refine lv_aload_n hx hb dModel_lookNumbers_23 rfl (lv_at hl 0 rfl) ?_
      refine md_gA S hC hM 11 (by decide) rfl qw_88b9028ba7 dModel_lookNumbers_24 ?_
      refine lv_iload_n hx hb dModel_lookNumbers_27 rfl (lv_at hl 3 rfl) ?_
      refine md_zld S hC hM 11 7 10000 (F 11) rfl rfl (by decide) rfl rfl (vin (by assumption) (by omega)) dModel_lookNumbers_28 ?_
      refine lv_topi (fun v5 ev5 => ?_)
      have J47 : ∀ (ls : Array Slot) (t0_47 : Int32), lv_has ls 16 [(0, .ref a), (1, .int x1), (2, .int x2), (3, .int x3), (4, .int x4)] → W p l e (bs_rm 3 0 0 72) s m args below meth c s.heap [] 0 0 Q (F0 m 47 ls [.int t0_47]) := by
        intro ls t0_47 hl
        refine lv_istore (lv' := [(5, .int t0_47), (0, .ref a), (1, .int x1), (2, .int x2), (3, .int x3), (4, .int x4)]) hx hb dModel_lookNumbers_47 hl (by decide) rfl (fun ls hl => ?_)
        refine lv_aload_n hx hb dModel_lookNumbers_49 rfl (lv_at hl 1 rfl) ?_
        refine md_gA S hC hM 13 (by decide) rfl qw_7b809afc8c dModel_lookNumbers_50 ?_
        refine lv_iload_n hx hb dModel_lookNumbers_53 rfl (lv_at hl 4 rfl) ?_
        refine md_lld S hC hM (vin (by assumption) (by omega)) dModel_lookNumbers_54 ?_
        refine lv_topl (fun v31 ev31 => ?_)
        have ev31 : v31 = nu x3.toNatClampNeg := ev31
        refine lv_lstore (lv' := [(6, .long v31), (5, .int t0_47), (0, .ref a), (1, .int x1), (2, .int x2), (3, .int x3), (4, .int x4)]) hx hb dModel_lookNumbers_55 hl (by decide) rfl (fun ls hl => ?_)
        refine lv_aload_n hx hb dModel_lookNumbers_57 rfl (lv_at hl 2 rfl) ?_
        refine md_gA S hC hM 13 (by decide) rfl qw_7b809afc8c dModel_lookNumbers_58 ?_
        refine lv_iload hx hb dModel_lookNumbers_61 (lv_at hl 6 rfl) ?_
        refine md_lld S hC hM (vin (by assumption) (by omega)) dModel_lookNumbers_63 ?_
        refine lv_topl (fun v32 ev32 => ?_)
        have ev32 : v32 = nu x4.toNatClampNeg := ev32
        refine lv_lstore (lv' := [(8, .long v32), (6, .long v31), (5, .int t0_47), (0, .ref a), (1, .int x1), (2, .int x2), (3, .int x3), (4, .int x4)]) hx hb dModel_lookNumbers_64 hl (by decide) rfl (fun ls hl => ?_)
        refine lv_iload_n hx hb dModel_lookNumbers_66 rfl (lv_at hl 5 rfl) ?_
        refine lv_bipush (v := 15) hx hb dModel_lookNumbers_67 (by decide) ?_
        have J77 : ∀ (ls : Array Slot), lv_has ls 16 [(0, .ref a), (1, .int x1), (2, .int x2), (3, .int x3), (4, .int x4), (5, .int t0_47), (6, .long v31), (8, .long v32)] → W p l e (bs_rm 3 0 0 72) s m args below meth c s.heap [] 0 0 Q (F0 m 77 ls []) := by
          intro ls hl
          refine lv_aload_n hx hb dModel_lookNumbers_77 rfl (lv_at hl 0 rfl) ?_
          refine lv_iload_n hx hb dModel_lookNumbers_78 rfl (lv_at hl 1 rfl) ?_
          refine lv_iload hx hb dModel_lookNumbers_79 (lv_at hl 5 rfl) ?_
          refine lv_lload hx hb dModel_lookNumbers_81 (lv_at hl 6 rfl) ?_
          refine lv_lload hx hb dModel_lookNumbers_83 (lv_at hl 7 rfl) ?_
          refine lv_lmul hx hb dModel_lookNumbers_85 ?_
          refine lv_topl (fun v53 ev53 => ?_)
          refine mu_Vi (rest := []) S hC (fun q h => hA q (Nat.le_trans hS.1 h)) (fun q h => h) hS (m_integer l γ a B Z κ b mn ν τ σ F nu hT x1 t0_47 v53 (vin (by assumption) (by omega)) hZ hF) meModel_integer qw_fff04f2807 ⟨Nat.le_of_ble_eq_true rfl, Nat.le_of_ble_eq_true rfl⟩ (md_rv hC hM) hM rfl hl.1 rfl (Nat.le_of_ble_eq_true rfl) dModel_lookNumbers_86 ⟨Nat.le_refl _, Nat.le_refl _⟩ (fun r54 H locs hPO hS _ _ => ?_)
          obtain ⟨σr54, Fr54, nur54, hM, hZ, hF, hLr54, hRr54⟩ := hPO
          have hL : SL x1.toNatClampNeg F nu Fr54 nur54 := hL.trans hLr54
          exact hE _ _ _ _ _ hS ⟨σr54, Fr54, nur54, hM, hZ, hF, hL, hRr54⟩ dModel_lookNumbers_89
        refine lv_icmp_eq (tgt := 77) hx hb dModel_lookNumbers_69 (by decide) (fun c55 => ?_) (fun c55 => ?_)
        · exact J77 ls  (lv_sub hl [3, 4, 5, 6, 7, 2, 1, 0] rfl)
        · refine lv_iload hx hb dModel_lookNumbers_72 (lv_at hl 2 rfl) ?_
          refine lv_if_ne (tgt := 90) hx hb dModel_lookNumbers_74 (by decide) (fun c56 => ?_) (fun c56 => ?_)
          · refine lv_lload hx hb dModel_lookNumbers_90 (lv_at hl 0 rfl) ?_
            refine lv_lconst (v := 0) hx hb dModel_lookNumbers_92 (by decide) ?_
            refine W.lcmp hx hb dModel_lookNumbers_93 ?_
            refine lv_topi (fun v57 ev57 => ?_)
            refine lv_if_ne (tgt := 100) hx hb dModel_lookNumbers_94 (by decide) (fun c58 => ?_) (fun c58 => ?_)
            · refine lv_lload hx hb dModel_lookNumbers_100 (lv_at hl 1 rfl) ?_
              refine lv_lload hx hb dModel_lookNumbers_102 (lv_at hl 0 rfl) ?_
              refine lv_ldiv hx hb dModel_lookNumbers_104 (lc_nz (by assumption) (by assumption)) ?_
              refine lv_topl (fun v59 ev59 => ?_)
              refine lv_lstore (lv' := [(10, .long v59), (8, .long v32), (6, .long v31), (5, .int t0_47), (0, .ref a), (1, .int x1), (2, .int x2), (3, .int x3), (4, .int x4)]) hx hb dModel_lookNumbers_105 hl (by decide) rfl (fun ls hl => ?_)
              refine lv_lload hx hb dModel_lookNumbers_107 (lv_at hl 2 rfl) ?_
              refine lv_lload hx hb dModel_lookNumbers_109 (lv_at hl 0 rfl) ?_
              refine lv_lload hx hb dModel_lookNumbers_111 (lv_at hl 1 rfl) ?_
              refine lv_lmul hx hb dModel_lookNumbers_113 ?_
              refine lv_topl (fun v60 ev60 => ?_)
              refine lv_lsub hx hb dModel_lookNumbers_114 ?_
              refine lv_topl (fun v61 ev61 => ?_)
              refine lv_lstore (lv' := [(12, .long v61), (10, .long v59), (8, .long v32), (6, .long v31), (5, .int t0_47), (0, .ref a), (1, .int x1), (2, .int x2), (3, .int x3), (4, .int x4)]) hx hb dModel_lookNumbers_115 hl (by decide) rfl (fun ls hl => ?_)
              refine lv_lload hx hb dModel_lookNumbers_117 (lv_at hl 0 rfl) ?_
              refine lv_lconst (v := 0) hx hb dModel_lookNumbers_119 (by decide) ?_
              refine W.lcmp hx hb dModel_lookNumbers_120 ?_
              refine lv_topi (fun v62 ev62 => ?_)
              have J161 : ∀ (ls : Array Slot) (t0_161 : Int64), lv_has ls 16 [(0, .ref a), (1, .int x1), (2, .int x2), (3, .int x3), (4, .int x4), (5, .int t0_47), (6, .long v31), (8, .long v32), (10, .long v59), (12, .long v61)] → W p l e (bs_rm 3 0 0 72) s m args below meth c s.heap [] 0 0 Q (F0 m 161 ls [.long t0_161]) := by
                intro ls t0_161 hl
                refine lv_lstore (lv' := [(14, .long t0_161), (0, .ref a), (1, .int x1), (2, .int x2), (3, .int x3), (4, .int x4), (5, .int t0_47), (6, .long v31), (8, .long v32), (10, .long v59), (12, .long v61)]) hx hb dModel_lookNumbers_161 hl (by decide) rfl (fun ls hl => ?_)
                refine lv_aload_n hx hb dModel_lookNumbers_163 rfl (lv_at hl 1 rfl) ?_
                refine lv_iload_n hx hb dModel_lookNumbers_164 rfl (lv_at hl 2 rfl) ?_
                refine lv_iconst (v := 1) hx hb dModel_lookNumbers_165 (by decide) ?_
                refine lv_iload_n hx hb dModel_lookNumbers_166 rfl (lv_at hl 3 rfl) ?_
                refine lv_bipush (v := 16) hx hb dModel_lookNumbers_167 (by decide) ?_
                have J190 : ∀ (ls : Array Slot) (t0_190 : Int64), lv_has ls 16 [(0, .ref a), (1, .int x1), (2, .int x2), (3, .int x3), (4, .int x4), (5, .int t0_47), (6, .long v31), (8, .long v32), (10, .long v59), (12, .long v61), (14, .long t0_161)] → W p l e (bs_rm 3 0 0 72) s m args below meth c s.heap [] 0 0 Q (F0 m 190 ls [.long t0_190, .int 1, .int x1, .ref a]) := by
                  intro ls t0_190 hl
                  refine mu_Vi (rest := []) S hC (fun q h => hA q (Nat.le_trans hS.1 h)) (fun q h => h) hS (m_integer l γ a B Z κ b mn ν τ σ F nu hT x1 1 t0_190 (vin (by assumption) (by omega)) hZ hF) meModel_integer qw_fff04f2807 ⟨Nat.le_of_ble_eq_true rfl, Nat.le_of_ble_eq_true rfl⟩ (md_rv hC hM) hM rfl hl.1 rfl (Nat.le_of_ble_eq_true rfl) dModel_lookNumbers_190 ⟨Nat.le_refl _, Nat.le_refl _⟩ (fun r76 H locs hPO hS _ _ => ?_)
                  obtain ⟨σr76, Fr76, nur76, hM, hZ, hF, hLr76, hRr76⟩ := hPO
                  have hL : SL x1.toNatClampNeg F nu Fr76 nur76 := hL.trans hLr76
                  exact hE _ _ _ _ _ hS ⟨σr76, Fr76, nur76, hM, hZ, hF, hL, hRr76⟩ dModel_lookNumbers_193
                refine lv_icmp_ne (tgt := 177) hx hb dModel_lookNumbers_169 (by decide) (fun c77 => ?_) (fun c77 => ?_)
                · refine lv_iload_n hx hb dModel_lookNumbers_177 rfl (lv_at hl 3 rfl) ?_
                  refine lv_bipush (v := 17) hx hb dModel_lookNumbers_178 (by decide) ?_
                  refine lv_icmp_ne (tgt := 188) hx hb dModel_lookNumbers_180 (by decide) (fun c78 => ?_) (fun c78 => ?_)
                  · refine lv_lload hx hb dModel_lookNumbers_188 (lv_at hl 10 rfl) ?_
                    exact J190 ls v61 (lv_sub hl [1, 2, 3, 4, 5, 6, 7, 8, 9, 10, 0] rfl)
                  · refine lv_lload hx hb dModel_lookNumbers_183 (lv_at hl 0 rfl) ?_
                    refine lv_goto (tgt := 190) hx hb dModel_lookNumbers_185 (by decide) ?_
                    exact J190 ls t0_161 (lv_sub hl [1, 2, 3, 4, 5, 6, 7, 8, 9, 10, 0] rfl)
                · refine lv_lload hx hb dModel_lookNumbers_172 (lv_at hl 9 rfl) ?_
                  refine lv_goto (tgt := 190) hx hb dModel_lookNumbers_174 (by decide) ?_
                  exact J190 ls v59 (lv_sub hl [1, 2, 3, 4, 5, 6, 7, 8, 9, 10, 0] rfl)
              have J159 : ∀ (ls : Array Slot), lv_has ls 16 [(0, .ref a), (1, .int x1), (2, .int x2), (3, .int x3), (4, .int x4), (5, .int t0_47), (6, .long v31), (8, .long v32), (10, .long v59), (12, .long v61)] → W p l e (bs_rm 3 0 0 72) s m args below meth c s.heap [] 0 0 Q (F0 m 159 ls []) := by
                intro ls hl
                refine lv_lload hx hb dModel_lookNumbers_159 (lv_at hl 9 rfl) ?_
                exact J161 ls v61 (lv_sub hl [0, 1, 2, 3, 4, 5, 6, 7, 8, 9] rfl)
              refine lv_if_eq (tgt := 159) hx hb dModel_lookNumbers_121 (by decide) (fun c79 => ?_) (fun c79 => ?_)
              · exact J159 ls  (lv_sub hl [5, 6, 7, 8, 9, 4, 3, 2, 1, 0] rfl)
              · refine lv_lload hx hb dModel_lookNumbers_124 (lv_at hl 0 rfl) ?_
                refine lv_lconst (v := 0) hx hb dModel_lookNumbers_126 (by decide) ?_
                refine W.lcmp hx hb dModel_lookNumbers_127 ?_
                refine lv_topi (fun v80 ev80 => ?_)
                have J136 : ∀ (ls : Array Slot) (t0_136 : Int32), lv_has ls 16 [(0, .ref a), (1, .int x1), (2, .int x2), (3, .int x3), (4, .int x4), (5, .int t0_47), (6, .long v31), (8, .long v32), (10, .long v59), (12, .long v61)] → W p l e (bs_rm 3 0 0 72) s m args below meth c s.heap [] 0 0 Q (F0 m 136 ls [.int t0_136]) := by
                  intro ls t0_136 hl
                  refine lv_lload hx hb dModel_lookNumbers_136 (lv_at hl 7 rfl) ?_
                  refine lv_lconst (v := 0) hx hb dModel_lookNumbers_138 (by decide) ?_
                  refine W.lcmp hx hb dModel_lookNumbers_139 ?_
                  refine lv_topi (fun v86 ev86 => ?_)
                  have J148 : ∀ (ls : Array Slot) (t0_148 : Int32), lv_has ls 16 [(0, .ref a), (1, .int x1), (2, .int x2), (3, .int x3), (4, .int x4), (5, .int t0_47), (6, .long v31), (8, .long v32), (10, .long v59), (12, .long v61)] → W p l e (bs_rm 3 0 0 72) s m args below meth c s.heap [] 0 0 Q (F0 m 148 ls [.int t0_148, .int t0_136]) := by
                    intro ls t0_148 hl
                    refine lv_icmp_eq (tgt := 159) hx hb dModel_lookNumbers_148 (by decide) (fun c90 => ?_) (fun c90 => ?_)
                    · exact J159 ls  (lv_sub hl [0, 1, 2, 3, 4, 5, 6, 7, 8, 9] rfl)
                    · refine lv_lload hx hb dModel_lookNumbers_151 (lv_at hl 9 rfl) ?_
                      refine lv_lload hx hb dModel_lookNumbers_153 (lv_at hl 7 rfl) ?_
                      refine lv_ladd hx hb dModel_lookNumbers_155 ?_
                      refine lv_topl (fun v91 ev91 => ?_)
                      refine lv_goto (tgt := 161) hx hb dModel_lookNumbers_156 (by decide) ?_
                      exact J161 ls v91 (lv_sub hl [0, 1, 2, 3, 4, 5, 6, 7, 8, 9] rfl)
                  refine lv_if_ge (tgt := 147) hx hb dModel_lookNumbers_140 (by decide) (fun c92 => ?_) (fun c92 => ?_)
                  · refine lv_iconst (v := 0) hx hb dModel_lookNumbers_147 (by decide) ?_
                    exact J148 ls 0 (lv_sub hl [0, 1, 2, 3, 4, 5, 6, 7, 8, 9] rfl)
                  · refine lv_iconst (v := 1) hx hb dModel_lookNumbers_143 (by decide) ?_
                    refine lv_goto (tgt := 148) hx hb dModel_lookNumbers_144 (by decide) ?_
                    exact J148 ls 1 (lv_sub hl [0, 1, 2, 3, 4, 5, 6, 7, 8, 9] rfl)
                refine lv_if_ge (tgt := 135) hx hb dModel_lookNumbers_128 (by decide) (fun c93 => ?_) (fun c93 => ?_)
                · refine lv_iconst (v := 0) hx hb dModel_lookNumbers_135 (by decide) ?_
                  exact J136 ls 0 (lv_sub hl [5, 6, 7, 8, 9, 4, 3, 2, 1, 0] rfl)
                · refine lv_iconst (v := 1) hx hb dModel_lookNumbers_131 (by decide) ?_
                  refine lv_goto (tgt := 136) hx hb dModel_lookNumbers_132 (by decide) ?_
                  exact J136 ls 1 (lv_sub hl [5, 6, 7, 8, 9, 4, 3, 2, 1, 0] rfl)
            · refine lv_bipush (v := 10) hx hb dModel_lookNumbers_97 (by decide) ?_
              exact hE _ _ _ _ _ hS ⟨σ, F, nu, hM, hZ, hF, hL, (fun h9 => absurd (show (0 : Int32) < 10 by decide) h9)⟩ dModel_lookNumbers_99
          · exact J77 ls  (lv_sub hl [3, 4, 5, 6, 7, 2, 1, 0] rfl)
      have J46 : ∀ (ls : Array Slot), lv_has ls 16 [(0, .ref a), (1, .int x1), (2, .int x2), (3, .int x3), (4, .int x4)] → W p l e (bs_rm 3 0 0 72) s m args below meth c s.heap [] 0 0 Q (F0 m 46 ls []) := by
        intro ls hl
        refine lv_iconst (v := 0) hx hb dModel_lookNumbers_46 (by decide) ?_
        exact J47 ls 0 (lv_sub hl [0, 1, 2, 3, 4] rfl)
      refine lv_if_eq (tgt := 46) hx hb dModel_lookNumbers_29 (by decide) (fun c94 => ?_) (fun c94 => ?_)
      · exact J46 ls  (lv_sub hl [0, 1, 2, 3, 4] rfl)
      · refine lv_aload_n hx hb dModel_lookNumbers_32 rfl (lv_at hl 0 rfl) ?_
        refine md_gA S hC hM 11 (by decide) rfl qw_88b9028ba7 dModel_lookNumbers_33 ?_
        refine lv_iload hx hb dModel_lookNumbers_36 (lv_at hl 4 rfl) ?_
        refine md_zld S hC hM 11 7 10000 (F 11) rfl rfl (by decide) rfl rfl (vin (by assumption) (by omega)) dModel_lookNumbers_38 ?_
        refine lv_topi (fun v95 ev95 => ?_)
        refine lv_if_eq (tgt := 46) hx hb dModel_lookNumbers_39 (by decide) (fun c96 => ?_) (fun c96 => ?_)
        · exact J46 ls  (lv_sub hl [0, 1, 2, 3, 4] rfl)
        · refine lv_iconst (v := 1) hx hb dModel_lookNumbers_42 (by decide) ?_
          refine lv_goto (tgt := 47) hx hb dModel_lookNumbers_43 (by decide) ?_
          exact J47 ls 1 (lv_sub hl [0, 1, 2, 3, 4] rfl)
    · refine lv_iconst (v := 3) hx hb dModel_lookNumbers_21 (by decide) ?_
      exact hE _ _ _ _ _ hS ⟨σ, F, nu, hM, hZ, hF, hL, (fun h9 => absurd (show (0 : Int32) < 3 by decide) h9)⟩ dModel_lookNumbers_22
