theorem qw_fff04f2807 : (Cond.methodLink R_Model 227 yModel_integer) ∈ bs_W0 := bs_in (in_tables_1_6 (List.mem_of_getElem? (i := 141) rfl)) rfl
theorem qw_75e699d051 : (Cond.methodLink R_Model 231 yModel_numberOf) ∈ bs_W0 := bs_in (in_tables_1_6 (List.mem_of_getElem? (i := 147) rfl)) rfl
theorem qw_be891c2f99 : (Cond.methodLink R_Model 235 yModel_bits) ∈ bs_W0 := bs_in (in_tables_1_6 (List.mem_of_getElem? (i := 152) rfl)) rfl
set_option maxHeartbeats 4000000 in
set_option maxRecDepth 100000 in
theorem m_lookSum (l : Launch) (γ : gE) (a : Nat) (B : Nat → Nat) (Z : Nat → Prop) (κ b mn : Nat → Nat) (ν : Nat → Int32) (τ : Nat → Nat → Int32) (σ : Nat → Int32) (F : Nat → Nat → Int32) (nu : Nat → Int64) (hT : ST κ b mn ν τ) (x1 : Int32) (x2 : Int32) (x3 : Int32) (x4 : Int32) (hx1 : vp_in x1 (κ 0)) (hx3 : vp_in x3 (κ 0)) (hx4 : vp_in x4 (κ 0)) (ha : x3.toNatClampNeg < x1.toNatClampNeg) (hbk : x4.toNatClampNeg < x1.toNatClampNeg) (hZ : SZ F) (hF : FD σ) : MU l yModel_lookSum bModel_lookSum 14 (some .int) 3 72 0 0 [.ref a, .int x1, .int x2, .int x3, .int x4] γ Z (MD γ a B Z ν τ σ F nu) (mQi (fun r H => LKo γ a B Z ν τ x1.toNatClampNeg F nu r H) Z) := by
  refine mu_openI (by decide) (Nat.le_of_ble_eq_true rfl) ?_
  intro p e s m args below meth c ls Q S hnm hC hA hM hE hl
  have hS : va_S Z s.heap s.heap [] := va_S.rf
  obtain ⟨hx, hb, hml, hown, hW⟩ := id S
  obtain ⟨⟨hs0, hs1, hs2, hs3, hs4, hs5, hs6⟩, ⟨hv6, hv8, hv21, hv24, hv30, hv31⟩, hTR, hTY, hOB, hNM⟩ := id hT
  have hL : SL x1.toNatClampNeg F nu F nu := SL.rf
  have hl : lv_has ls 14 [(0, .ref a), (1, .int x1), (2, .int x2), (3, .int x3), (4, .int x4)] := hl
  refine lv_aload_n hx hb dModel_lookSum_0 rfl (lv_at hl 0 rfl) ?_
  refine md_gA S hC hM 9 (by decide) rfl qw_a119aeeca0 dModel_lookSum_1 ?_
  refine lv_iload_n hx hb dModel_lookSum_4 rfl (lv_at hl 3 rfl) ?_
  refine md_ild S hC hM 9 5 10000 (F 9) rfl rfl (by decide) rfl rfl (vin (by assumption) (by omega)) dModel_lookSum_5 ?_
  refine lv_topi (fun v1 ev1 => ?_)
  refine lv_iconst (v := 3) hx hb dModel_lookSum_6 (by decide) ?_
  have J15 : ∀ (ls : Array Slot) (t0_15 : Int32), lv_has ls 14 [(0, .ref a), (1, .int x1), (2, .int x2), (3, .int x3), (4, .int x4)] → W p l e (bs_rm 3 0 0 72) s m args below meth c s.heap [] 0 0 Q (F0 m 15 ls [.int t0_15]) := by
    intro ls t0_15 hl
    refine lv_istore (lv' := [(5, .int t0_15), (0, .ref a), (1, .int x1), (2, .int x2), (3, .int x3), (4, .int x4)]) hx hb dModel_lookSum_15 hl (by decide) rfl (fun ls hl => ?_)
    refine lv_aload_n hx hb dModel_lookSum_17 rfl (lv_at hl 1 rfl) ?_
    refine md_gA S hC hM 9 (by decide) rfl qw_a119aeeca0 dModel_lookSum_18 ?_
    refine lv_iload hx hb dModel_lookSum_21 (lv_at hl 5 rfl) ?_
    refine md_ild S hC hM 9 5 10000 (F 9) rfl rfl (by decide) rfl rfl (vin (by assumption) (by omega)) dModel_lookSum_23 ?_
    refine lv_topi (fun v59 ev59 => ?_)
    refine lv_iconst (v := 3) hx hb dModel_lookSum_24 (by decide) ?_
    have J33 : ∀ (ls : Array Slot) (t0_33 : Int32), lv_has ls 14 [(0, .ref a), (1, .int x1), (2, .int x2), (3, .int x3), (4, .int x4), (5, .int t0_15)] → W p l e (bs_rm 3 0 0 72) s m args below meth c s.heap [] 0 0 Q (F0 m 33 ls [.int t0_33]) := by
      intro ls t0_33 hl
      refine lv_istore (lv' := [(6, .int t0_33), (0, .ref a), (1, .int x1), (2, .int x2), (3, .int x3), (4, .int x4), (5, .int t0_15)]) hx hb dModel_lookSum_33 hl (by decide) rfl (fun ls hl => ?_)
      refine lv_aload_n hx hb dModel_lookSum_35 rfl (lv_at hl 1 rfl) ?_
      refine md_gA S hC hM 11 (by decide) rfl qw_88b9028ba7 dModel_lookSum_36 ?_
      refine lv_iload_n hx hb dModel_lookSum_39 rfl (lv_at hl 4 rfl) ?_
      refine md_zld S hC hM 11 7 10000 (F 11) rfl rfl (by decide) rfl rfl (vin (by assumption) (by omega)) dModel_lookSum_40 ?_
      refine lv_topi (fun v115 ev115 => ?_)
      have J59 : ∀ (ls : Array Slot) (t0_59 : Int32), lv_has ls 14 [(0, .ref a), (1, .int x1), (2, .int x2), (3, .int x3), (4, .int x4), (5, .int t0_15), (6, .int t0_33)] → W p l e (bs_rm 3 0 0 72) s m args below meth c s.heap [] 0 0 Q (F0 m 59 ls [.int t0_59]) := by
        intro ls t0_59 hl
        refine lv_istore (lv' := [(7, .int t0_59), (0, .ref a), (1, .int x1), (2, .int x2), (3, .int x3), (4, .int x4), (5, .int t0_15), (6, .int t0_33)]) hx hb dModel_lookSum_59 hl (by decide) rfl (fun ls hl => ?_)
        refine lv_aload_n hx hb dModel_lookSum_61 rfl (lv_at hl 1 rfl) ?_
        refine md_gA S hC hM 9 (by decide) rfl qw_a119aeeca0 dModel_lookSum_62 ?_
        refine lv_iload_n hx hb dModel_lookSum_65 rfl (lv_at hl 4 rfl) ?_
        refine md_ild S hC hM 9 5 10000 (F 9) rfl rfl (by decide) rfl rfl (vin (by assumption) (by omega)) dModel_lookSum_66 ?_
        refine lv_topi (fun v169 ev169 => ?_)
        refine lv_iconst (v := 2) hx hb dModel_lookSum_67 (by decide) ?_
        have J125 : ∀ (ls : Array Slot), lv_has ls 14 [(0, .ref a), (1, .int x1), (2, .int x2), (3, .int x3), (4, .int x4), (5, .int t0_15), (6, .int t0_33), (7, .int t0_59)] → W p l e (bs_rm 3 0 0 72) s m args below meth c s.heap [] 0 0 Q (F0 m 125 ls []) := by
          intro ls hl
          refine lv_iload hx hb dModel_lookSum_125 (lv_at hl 5 rfl) ?_
          have J140 : ∀ (ls : Array Slot), lv_has ls 14 [(0, .ref a), (1, .int x1), (2, .int x2), (3, .int x3), (4, .int x4), (5, .int t0_15), (6, .int t0_33), (7, .int t0_59)] → W p l e (bs_rm 3 0 0 72) s m args below meth c s.heap [] 0 0 Q (F0 m 140 ls []) := by
            intro ls hl
            refine lv_iload hx hb dModel_lookSum_140 (lv_at hl 6 rfl) ?_
            have J158 : ∀ (ls : Array Slot), lv_has ls 14 [(0, .ref a), (1, .int x1), (2, .int x2), (3, .int x3), (4, .int x4), (5, .int t0_15), (6, .int t0_33), (7, .int t0_59)] → W p l e (bs_rm 3 0 0 72) s m args below meth c s.heap [] 0 0 Q (F0 m 158 ls []) := by
              intro ls hl
              refine lv_iload hx hb dModel_lookSum_158 (lv_at hl 5 rfl) ?_
              have J186 : ∀ (ls : Array Slot), lv_has ls 14 [(0, .ref a), (1, .int x1), (2, .int x2), (3, .int x3), (4, .int x4), (5, .int t0_15), (6, .int t0_33), (7, .int t0_59)] → W p l e (bs_rm 3 0 0 72) s m args below meth c s.heap [] 0 0 Q (F0 m 186 ls []) := by
                intro ls hl
                refine lv_aload_n hx hb dModel_lookSum_186 rfl (lv_at hl 0 rfl) ?_
                refine lv_iload_n hx hb dModel_lookSum_187 rfl (lv_at hl 1 rfl) ?_
                refine lv_iconst (v := 3) hx hb dModel_lookSum_188 (by decide) ?_
                refine lv_iload hx hb dModel_lookSum_189 (lv_at hl 5 rfl) ?_
                have J210 : ∀ (ls : Array Slot) (t0_210 : Int32), (∃ j, j ≤ 1000 ∧ t0_210 = nI j) → lv_has ls 14 [(0, .ref a), (1, .int x1), (2, .int x2), (3, .int x3), (4, .int x4), (5, .int t0_15), (6, .int t0_33), (7, .int t0_59)] → W p l e (bs_rm 3 0 0 72) s m args below meth c s.heap [] 0 0 Q (F0 m 210 ls [.int t0_210, .int 3, .int x1, .ref a]) := by
                  intro ls t0_210 ht0_210 hl
                  refine lv_iload hx hb dModel_lookSum_210 (lv_at hl 7 rfl) ?_
                  have hnr351 : ∃ j, j ≤ 1000 ∧ t0_210 = nI j := ht0_210
                  refine mu_Vv (rest := []) S hC (fun q h => hA q (Nat.le_trans hS.1 h)) (fun q h => h) hS (m_fact l γ a B Z κ b mn ν τ σ F nu hT x1 3 t0_210 t0_59 (vin (by assumption) (by omega)) hnr351) meModel_fact qw_02871250ec ⟨Nat.le_of_ble_eq_true rfl, Nat.le_of_ble_eq_true rfl⟩ (md_rv hC hM) hM rfl hl.1 rfl (Nat.le_of_ble_eq_true rfl) dModel_lookSum_212 ⟨Nat.le_refl _, Nat.le_refl _⟩ (fun H locs hPO hS _ _ => ?_)
                  obtain ⟨Fr351, nur351, hM, hqr351, hcr351⟩ := hPO
                  have hZ : SZ Fr351 := hZ.slt hqr351 hnr351
                  have hL : SL x1.toNatClampNeg F nu Fr351 nur351 := hL.trans (SL.slt hqr351)
                  have hK : GK x1.toNatClampNeg Fr351 nur351 := GK.zero hqr351
                  refine lv_iload hx hb dModel_lookSum_215 (lv_at hl 5 rfl) ?_
                  have J234 : ∀ (ls : Array Slot) (t0_234 : Int64), lv_has ls 14 [(0, .ref a), (1, .int x1), (2, .int x2), (3, .int x3), (4, .int x4), (5, .int t0_15), (6, .int t0_33), (7, .int t0_59)] → W p l e (bs_rm 3 0 0 72) s m args below meth c H locs 0 0 Q (F0 m 234 ls [.long t0_234]) := by
                    intro ls t0_234 hl
                    refine lv_lstore (lv' := [(8, .long t0_234), (0, .ref a), (1, .int x1), (2, .int x2), (3, .int x3), (4, .int x4), (5, .int t0_15), (6, .int t0_33), (7, .int t0_59)]) hx hb dModel_lookSum_234 hl (by decide) rfl (fun ls hl => ?_)
                    refine lv_iload hx hb dModel_lookSum_236 (lv_at hl 7 rfl) ?_
                    have J257 : ∀ (ls : Array Slot) (t0_257 : Int64), lv_has ls 14 [(0, .ref a), (1, .int x1), (2, .int x2), (3, .int x3), (4, .int x4), (5, .int t0_15), (6, .int t0_33), (7, .int t0_59), (8, .long t0_234)] → W p l e (bs_rm 3 0 0 72) s m args below meth c H locs 0 0 Q (F0 m 257 ls [.long t0_257]) := by
                      intro ls t0_257 hl
                      refine lv_lstore (lv' := [(10, .long t0_257), (0, .ref a), (1, .int x1), (2, .int x2), (3, .int x3), (4, .int x4), (5, .int t0_15), (6, .int t0_33), (7, .int t0_59), (8, .long t0_234)]) hx hb dModel_lookSum_257 hl (by decide) rfl (fun ls hl => ?_)
                      refine lv_iload hx hb dModel_lookSum_259 (lv_at hl 6 rfl) ?_
                      have J291 : ∀ (ls : Array Slot) (t0_291 : Int32), lv_has ls 14 [(0, .ref a), (1, .int x1), (2, .int x2), (3, .int x3), (4, .int x4), (5, .int t0_15), (6, .int t0_33), (7, .int t0_59), (8, .long t0_234), (10, .long t0_257)] → W p l e (bs_rm 3 0 0 72) s m args below meth c H locs 0 0 Q (F0 m 291 ls [.int t0_291]) := by
                        intro ls t0_291 hl
                        refine lv_istore (lv' := [(12, .int t0_291), (0, .ref a), (1, .int x1), (2, .int x2), (3, .int x3), (4, .int x4), (5, .int t0_15), (6, .int t0_33), (7, .int t0_59), (8, .long t0_234), (10, .long t0_257)]) hx hb dModel_lookSum_291 hl (by decide) rfl (fun ls hl => ?_)
                        refine lv_iload hx hb dModel_lookSum_293 (lv_at hl 0 rfl) ?_
                        have J320 : ∀ (ls : Array Slot) (H : Heap) (locs : List Loc) (F_320 : Nat → Nat → Int32), MD γ a B Z ν τ σ F_320 nur351 H → va_S Z s.heap H locs → (GK x1.toNatClampNeg F_320 nur351) → (SL x1.toNatClampNeg F nu F_320 nur351) → (SZ F_320) → lv_has ls 14 [(0, .ref a), (1, .int x1), (2, .int x2), (3, .int x3), (4, .int x4), (5, .int t0_15), (6, .int t0_33), (7, .int t0_59), (8, .long t0_234), (10, .long t0_257), (12, .int t0_291)] → W p l e (bs_rm 3 0 0 72) s m args below meth c H locs 0 0 Q (F0 m 320 ls []) := by
                          intro ls H locs F_320 hM hS hK hL hZ hl
                          refine lv_iconst (v := 0) hx hb dModel_lookSum_320 (by decide) ?_
                          refine lv_istore (lv' := [(13, .int 0), (0, .ref a), (1, .int x1), (2, .int x2), (3, .int x3), (4, .int x4), (5, .int t0_15), (6, .int t0_33), (7, .int t0_59), (8, .long t0_234), (10, .long t0_257), (12, .int t0_291)]) hx hb dModel_lookSum_321 hl (by decide) rfl (fun ls hl => ?_)
                          have J323 : ∀ (N323 : Nat) (ls : Array Slot) (H : Heap) (locs : List Loc) (F_323 : Nat → Nat → Int32) (i13_323 : Int32), MD γ a B Z ν τ σ F_323 nur351 H → va_S Z s.heap H locs → (GK x1.toNatClampNeg F_323 nur351) → (SL x1.toNatClampNeg F nu F_323 nur351) → (SZ F_323) → (¬ i13_323 < 0) → (2147483647 - i13_323.toInt).toNat = N323 → lv_has ls 14 [(0, .ref a), (1, .int x1), (2, .int x2), (3, .int x3), (4, .int x4), (5, .int t0_15), (6, .int t0_33), (7, .int t0_59), (8, .long t0_234), (10, .long t0_257), (12, .int t0_291), (13, .int i13_323)] → W p l e (bs_rm 3 0 0 72) s m args below meth c H locs 0 0 Q (F0 m 323 ls []) := by
                            intro N323
                            induction N323 using Nat.strongRecOn with
                            | ind N323 ih323 =>
                              intro ls H locs F_323 i13_323 hM hS hK hL hZ hi13_323 hm323 hl
                              refine lv_iload hx hb dModel_lookSum_323 (lv_at hl 11 rfl) ?_
                              refine lv_aload_n hx hb dModel_lookSum_325 rfl (lv_at hl 0 rfl) ?_
                              refine md_gA S hC hM 10 (by decide) rfl qw_bd0251c605 dModel_lookSum_326 ?_
                              refine lv_iload_n hx hb dModel_lookSum_329 rfl (lv_at hl 1 rfl) ?_
                              refine md_ild S hC hM 10 6 10000 (F_323 10) rfl rfl (by decide) rfl rfl (vin (by assumption) (by omega)) dModel_lookSum_330 ?_
                              refine lv_topi (fun v423 ev423 => ?_)
                              have J353 : ∀ (ls : Array Slot), lv_has ls 14 [(0, .ref a), (1, .int x1), (2, .int x2), (3, .int x3), (4, .int x4), (5, .int t0_15), (6, .int t0_33), (7, .int t0_59), (8, .long t0_234), (10, .long t0_257), (12, .int t0_291), (13, .int i13_323)] → W p l e (bs_rm 3 0 0 72) s m args below meth c H locs 0 0 Q (F0 m 353 ls []) := by
                                intro ls hl
                                refine lv_aload_n hx hb dModel_lookSum_353 rfl (lv_at hl 0 rfl) ?_
                                refine lv_iload_n hx hb dModel_lookSum_354 rfl (lv_at hl 1 rfl) ?_
                                refine mu_Vi (rest := []) S hC (fun q h => hA q (Nat.le_trans hS.1 h)) (fun q h => h) hS (m_known l γ a B Z κ b mn ν τ σ F_323 nur351 hT x1 (vin (by assumption) (by omega))) meModel_known qw_aa15322dc3 ⟨Nat.le_of_ble_eq_true rfl, Nat.le_of_ble_eq_true rfl⟩ (md_rv hC hM) hM rfl hl.1 rfl (Nat.le_of_ble_eq_true rfl) dModel_lookSum_355 ⟨Nat.le_refl _, Nat.le_refl _⟩ (fun r429 H locs hPO hS _ _ => ?_)
                                obtain ⟨hrr429, Fr429, nur429, hM, hqr429, hnr429⟩ := hPO
                                have hZ : SZ Fr429 := hZ.e14 hqr429
                                have hL : SL x1.toNatClampNeg F nu Fr429 nur429 := hL.trans (SL.kn hqr429 hnr429)
                                have hK : GK x1.toNatClampNeg Fr429 nur429 := hK.kn hqr429 hnr429
                                exact hE _ _ _ _ _ hS ⟨σ, Fr429, nur429, hM, hZ, hF, hL, (fun _ => hK)⟩ dModel_lookSum_358
                              refine lv_icmp_ge (tgt := 353) hx hb dModel_lookSum_331 (by decide) (fun c430 => ?_) (fun c430 => ?_)
                              · exact J353 ls  (lv_sub hl [0, 1, 2, 3, 4, 5, 6, 7, 8, 9, 10, 11] rfl)
                              · have hin13 : vp_in i13_323 1000 := vsz hZ (vix (vin hx1 (by omega))) (by assumption) (by assumption) (by assumption)
                                refine lv_iload hx hb dModel_lookSum_334 (lv_at hl 10 rfl) ?_
                                refine lv_if_ne (tgt := 353) hx hb dModel_lookSum_336 (by decide) (fun c431 => ?_) (fun c431 => ?_)
                                · exact J353 ls  (lv_sub hl [0, 1, 2, 3, 4, 5, 6, 7, 8, 9, 10, 11] rfl)
                                · refine lv_aload_n hx hb dModel_lookSum_339 rfl (lv_at hl 0 rfl) ?_
                                  refine lv_iload_n hx hb dModel_lookSum_340 rfl (lv_at hl 1 rfl) ?_
                                  refine lv_iload hx hb dModel_lookSum_341 (lv_at hl 11 rfl) ?_
                                  refine lv_iconst (v := 1) hx hb dModel_lookSum_343 (by decide) ?_
                                  refine mu_Vv (rest := []) S hC (fun q h => hA q (Nat.le_trans hS.1 h)) (fun q h => h) hS (m_setElement l γ a B Z κ b mn ν τ σ F_323 nur351 hT x1 i13_323 1 (el_in (by assumption) (by assumption) (by omega))) meModel_setElement qw_143403ccb9 ⟨Nat.le_of_ble_eq_true rfl, Nat.le_of_ble_eq_true rfl⟩ (md_rv hC hM) hM rfl hl.1 rfl (Nat.le_of_ble_eq_true rfl) dModel_lookSum_344 ⟨Nat.le_refl _, Nat.le_refl _⟩ (fun H locs hPO hS _ _ => ?_)
                                  obtain ⟨Fr432, hM, hqr432⟩ := hPO
                                  have hZ : SZ Fr432 := hZ.e14 hqr432
                                  have hL : SL x1.toNatClampNeg F nu Fr432 nur351 := hL.trans (SL.e14 hqr432)
                                  have hK : GK x1.toNatClampNeg Fr432 nur351 := hK.e14 hqr432
                                  obtain ⟨v433, ev433⟩ : ∃ y : Int32, y = i13_323 + 1 := ⟨_, rfl⟩
                                  refine lv_iinc (v := v433) (lv' := [(13, .int v433), (0, .ref a), (1, .int x1), (2, .int x2), (3, .int x3), (4, .int x4), (5, .int t0_15), (6, .int t0_33), (7, .int t0_59), (8, .long t0_234), (10, .long t0_257), (12, .int t0_291)]) hx hb dModel_lookSum_347 hl (k := 11) rfl (by rw [ev433]; rfl) (by decide) rfl (fun ls hl => ?_)
                                  refine lv_goto (tgt := 323) hx hb dModel_lookSum_350 (by decide) ?_
                                  exact ih323 _ (by have q1 : i13_323.toInt < 2147483647 := (by first | assumption | exact (mu_up (k := i13_323) (by assumption)).2); have q2 := mu_lt q1; rw [← ev433] at q2; omega) ls _ _ Fr432 v433 hM hS hK hL hZ (by first | decide | exact nn_inc (by assumption) (by assumption) (by assumption)) rfl (lv_sub hl [1, 2, 3, 4, 5, 6, 7, 8, 9, 10, 11, 0] rfl)
                          exact J323 _ ls _ _ F_320 0 hM hS hK hL hZ (by first | decide | exact nn_inc (by assumption) (by assumption) (by assumption)) rfl (lv_sub hl [1, 2, 3, 4, 5, 6, 7, 8, 9, 10, 11, 0] rfl)
                        refine lv_if_eq (tgt := 320) hx hb dModel_lookSum_295 (by decide) (fun c434 => ?_) (fun c434 => ?_)
                        · exact J320 ls _ _ Fr351 hM hS hK hL hZ (lv_sub hl [1, 2, 3, 4, 5, 6, 7, 8, 9, 10, 0] rfl)
                        · refine lv_aload_n hx hb dModel_lookSum_298 rfl (lv_at hl 1 rfl) ?_
                          refine lv_iload_n hx hb dModel_lookSum_299 rfl (lv_at hl 2 rfl) ?_
                          refine lv_iload_n hx hb dModel_lookSum_300 rfl (lv_at hl 3 rfl) ?_
                          have J317 : ∀ (ls : Array Slot) (t0_317 : Int64), lv_has ls 14 [(0, .ref a), (1, .int x1), (2, .int x2), (3, .int x3), (4, .int x4), (5, .int t0_15), (6, .int t0_33), (7, .int t0_59), (8, .long t0_234), (10, .long t0_257), (12, .int t0_291)] → W p l e (bs_rm 3 0 0 72) s m args below meth c H locs 0 0 Q (F0 m 317 ls [.long t0_317, .int x1, .ref a]) := by
                            intro ls t0_317 hl
                            refine mu_Vv (rest := []) S hC (fun q h => hA q (Nat.le_trans hS.1 h)) (fun q h => h) hS (m_bits l γ a B Z κ b mn ν τ σ Fr351 nur351 hT x1 t0_317 (vin (by assumption) (by omega)) hZ) meModel_bits qw_be891c2f99 ⟨Nat.le_of_ble_eq_true rfl, Nat.le_of_ble_eq_true rfl⟩ (md_rv hC hM) hM rfl hl.1 rfl (Nat.le_of_ble_eq_true rfl) dModel_lookSum_317 ⟨Nat.le_refl _, Nat.le_refl _⟩ (fun H locs hPO hS _ _ => ?_)
                            obtain ⟨Fr439, hM, hqr439⟩ := hPO
                            have hZ : SZ Fr439 := hZ.e14 hqr439
                            have hL : SL x1.toNatClampNeg F nu Fr439 nur351 := hL.trans (SL.e14 hqr439)
                            have hK : GK x1.toNatClampNeg Fr439 nur351 := hK.e14 hqr439
                            exact J320 ls _ _ Fr439 hM hS hK hL hZ (lv_sub hl [0, 1, 2, 3, 4, 5, 6, 7, 8, 9, 10] rfl)
                          refine lv_if_eq (tgt := 312) hx hb dModel_lookSum_301 (by decide) (fun c440 => ?_) (fun c440 => ?_)
                          · refine lv_lload hx hb dModel_lookSum_312 (lv_at hl 9 rfl) ?_
                            refine lv_lload hx hb dModel_lookSum_314 (lv_at hl 10 rfl) ?_
                            refine lv_ladd hx hb dModel_lookSum_316 ?_
                            refine lv_topl (fun v441 ev441 => ?_)
                            exact J317 ls v441 (lv_sub hl [1, 2, 3, 4, 5, 6, 7, 8, 9, 10, 0] rfl)
                          · refine lv_lload hx hb dModel_lookSum_304 (lv_at hl 9 rfl) ?_
                            refine lv_lload hx hb dModel_lookSum_306 (lv_at hl 10 rfl) ?_
                            refine lv_lsub hx hb dModel_lookSum_308 ?_
                            refine lv_topl (fun v442 ev442 => ?_)
                            refine lv_goto (tgt := 317) hx hb dModel_lookSum_309 (by decide) ?_
                            exact J317 ls v442 (lv_sub hl [1, 2, 3, 4, 5, 6, 7, 8, 9, 10, 0] rfl)
                      have J290 : ∀ (ls : Array Slot), lv_has ls 14 [(0, .ref a), (1, .int x1), (2, .int x2), (3, .int x3), (4, .int x4), (5, .int t0_15), (6, .int t0_33), (7, .int t0_59), (8, .long t0_234), (10, .long t0_257)] → W p l e (bs_rm 3 0 0 72) s m args below meth c H locs 0 0 Q (F0 m 290 ls []) := by
                        intro ls hl
                        refine lv_iconst (v := 0) hx hb dModel_lookSum_290 (by decide) ?_
                        exact J291 ls 0 (lv_sub hl [0, 1, 2, 3, 4, 5, 6, 7, 8, 9] rfl)
                      have J272 : ∀ (ls : Array Slot), lv_has ls 14 [(0, .ref a), (1, .int x1), (2, .int x2), (3, .int x3), (4, .int x4), (5, .int t0_15), (6, .int t0_33), (7, .int t0_59), (8, .long t0_234), (10, .long t0_257)] → W p l e (bs_rm 3 0 0 72) s m args below meth c H locs 0 0 Q (F0 m 272 ls []) := by
                        intro ls hl
                        refine lv_iload hx hb dModel_lookSum_272 (lv_at hl 6 rfl) ?_
                        have J286 : ∀ (ls : Array Slot), lv_has ls 14 [(0, .ref a), (1, .int x1), (2, .int x2), (3, .int x3), (4, .int x4), (5, .int t0_15), (6, .int t0_33), (7, .int t0_59), (8, .long t0_234), (10, .long t0_257)] → W p l e (bs_rm 3 0 0 72) s m args below meth c H locs 0 0 Q (F0 m 286 ls []) := by
                          intro ls hl
                          refine lv_iconst (v := 1) hx hb dModel_lookSum_286 (by decide) ?_
                          refine lv_goto (tgt := 291) hx hb dModel_lookSum_287 (by decide) ?_
                          exact J291 ls 1 (lv_sub hl [0, 1, 2, 3, 4, 5, 6, 7, 8, 9] rfl)
                        refine lv_if_eq (tgt := 286) hx hb dModel_lookSum_274 (by decide) (fun c446 => ?_) (fun c446 => ?_)
                        · exact J286 ls  (lv_sub hl [0, 1, 2, 3, 4, 5, 6, 7, 8, 9] rfl)
                        · refine lv_aload_n hx hb dModel_lookSum_277 rfl (lv_at hl 0 rfl) ?_
                          refine lv_iload hx hb dModel_lookSum_278 (lv_at hl 4 rfl) ?_
                          refine pu_Vi (rest := []) S hC (m_isClear l γ a B Z κ b mn ν τ σ Fr351 nur351 hT x4 (vin (by assumption) (by omega)) hZ) meModel_isClear qw_f576e3fc3c ⟨Nat.le_of_ble_eq_true rfl, Nat.le_of_ble_eq_true rfl⟩ (md_rv hC hM) hM rfl hl.1 rfl (Nat.le_of_ble_eq_true rfl) dModel_lookSum_280 ⟨Nat.zero_le _, Nat.zero_le _⟩ (fun r447 hr447 => ?_)
                          refine lv_if_eq (tgt := 290) hx hb dModel_lookSum_283 (by decide) (fun c448 => ?_) (fun c448 => ?_)
                          · exact J290 ls  (lv_sub hl [0, 1, 2, 3, 4, 5, 6, 7, 8, 9] rfl)
                          · exact J286 ls  (lv_sub hl [0, 1, 2, 3, 4, 5, 6, 7, 8, 9] rfl)
                      refine lv_if_eq (tgt := 272) hx hb dModel_lookSum_261 (by decide) (fun c449 => ?_) (fun c449 => ?_)
                      · exact J272 ls  (lv_sub hl [1, 2, 3, 4, 5, 6, 7, 8, 9, 0] rfl)
                      · refine lv_aload_n hx hb dModel_lookSum_264 rfl (lv_at hl 1 rfl) ?_
                        refine lv_iload_n hx hb dModel_lookSum_265 rfl (lv_at hl 4 rfl) ?_
                        refine pu_Vi (rest := []) S hC (m_isClear l γ a B Z κ b mn ν τ σ Fr351 nur351 hT x3 (vin (by assumption) (by omega)) hZ) meModel_isClear qw_f576e3fc3c ⟨Nat.le_of_ble_eq_true rfl, Nat.le_of_ble_eq_true rfl⟩ (md_rv hC hM) hM rfl hl.1 rfl (Nat.le_of_ble_eq_true rfl) dModel_lookSum_266 ⟨Nat.zero_le _, Nat.zero_le _⟩ (fun r450 hr450 => ?_)
                        refine lv_if_eq (tgt := 290) hx hb dModel_lookSum_269 (by decide) (fun c451 => ?_) (fun c451 => ?_)
                        · exact J290 ls  (lv_sub hl [1, 2, 3, 4, 5, 6, 7, 8, 9, 0] rfl)
                        · exact J272 ls  (lv_sub hl [1, 2, 3, 4, 5, 6, 7, 8, 9, 0] rfl)
                    refine lv_if_eq (tgt := 250) hx hb dModel_lookSum_238 (by decide) (fun c452 => ?_) (fun c452 => ?_)
                    · refine lv_aload_n hx hb dModel_lookSum_250 rfl (lv_at hl 1 rfl) ?_
                      refine md_gA S hC hM 13 (by decide) rfl qw_7b809afc8c dModel_lookSum_251 ?_
                      refine lv_iload hx hb dModel_lookSum_254 (lv_at hl 5 rfl) ?_
                      refine md_lld S hC hM (vin (by assumption) (by omega)) dModel_lookSum_256 ?_
                      refine lv_topl (fun v453 ev453 => ?_)
                      have ev453 : v453 = nur351 x4.toNatClampNeg := ev453
                      exact J257 ls v453 (lv_sub hl [1, 2, 3, 4, 5, 6, 7, 8, 0] rfl)
                    · refine lv_aload_n hx hb dModel_lookSum_241 rfl (lv_at hl 1 rfl) ?_
                      refine lv_iload hx hb dModel_lookSum_242 (lv_at hl 5 rfl) ?_
                      refine pu_Vl (rest := []) S hC (m_numberOf l γ a B Z κ b mn ν τ σ Fr351 nur351 hT x4 (vin (by assumption) (by omega)) hZ) meModel_numberOf qw_75e699d051 ⟨Nat.le_of_ble_eq_true rfl, Nat.le_of_ble_eq_true rfl⟩ (md_rv hC hM) hM rfl hl.1 rfl (Nat.le_of_ble_eq_true rfl) dModel_lookSum_244 ⟨Nat.zero_le _, Nat.zero_le _⟩ (fun r454 hr454 => ?_)
                      refine lv_goto (tgt := 257) hx hb dModel_lookSum_247 (by decide) ?_
                      exact J257 ls r454 (lv_sub hl [1, 2, 3, 4, 5, 6, 7, 8, 0] rfl)
                  refine lv_if_eq (tgt := 228) hx hb dModel_lookSum_217 (by decide) (fun c455 => ?_) (fun c455 => ?_)
                  · refine lv_aload_n hx hb dModel_lookSum_228 rfl (lv_at hl 0 rfl) ?_
                    refine md_gA S hC hM 13 (by decide) rfl qw_7b809afc8c dModel_lookSum_229 ?_
                    refine lv_iload_n hx hb dModel_lookSum_232 rfl (lv_at hl 3 rfl) ?_
                    refine md_lld S hC hM (vin (by assumption) (by omega)) dModel_lookSum_233 ?_
                    refine lv_topl (fun v456 ev456 => ?_)
                    have ev456 : v456 = nur351 x3.toNatClampNeg := ev456
                    exact J234 ls v456 (lv_sub hl [0, 1, 2, 3, 4, 5, 6, 7] rfl)
                  · refine lv_aload_n hx hb dModel_lookSum_220 rfl (lv_at hl 0 rfl) ?_
                    refine lv_iload_n hx hb dModel_lookSum_221 rfl (lv_at hl 3 rfl) ?_
                    refine pu_Vl (rest := []) S hC (m_numberOf l γ a B Z κ b mn ν τ σ Fr351 nur351 hT x3 (vin (by assumption) (by omega)) hZ) meModel_numberOf qw_75e699d051 ⟨Nat.le_of_ble_eq_true rfl, Nat.le_of_ble_eq_true rfl⟩ (md_rv hC hM) hM rfl hl.1 rfl (Nat.le_of_ble_eq_true rfl) dModel_lookSum_222 ⟨Nat.zero_le _, Nat.zero_le _⟩ (fun r457 hr457 => ?_)
                    refine lv_goto (tgt := 234) hx hb dModel_lookSum_225 (by decide) ?_
                    exact J234 ls r457 (lv_sub hl [0, 1, 2, 3, 4, 5, 6, 7] rfl)
                refine lv_if_eq (tgt := 203) hx hb dModel_lookSum_191 (by decide) (fun c458 => ?_) (fun c458 => ?_)
                · refine lv_aload_n hx hb dModel_lookSum_203 rfl (lv_at hl 0 rfl) ?_
                  refine md_gA S hC hM 10 (by decide) rfl qw_bd0251c605 dModel_lookSum_204 ?_
                  refine lv_iload hx hb dModel_lookSum_207 (lv_at hl 4 rfl) ?_
                  refine md_ild S hC hM 10 6 10000 (F 10) rfl rfl (by decide) rfl rfl (vin (by assumption) (by omega)) dModel_lookSum_209 ?_
                  refine lv_topi (fun v459 ev459 => ?_)
                  exact J210 ls v459 (by rw [ev459]; exact hZ _ (vix (vin (by assumption) (by omega)))) (lv_sub hl [0, 1, 2, 3, 4, 5, 6, 7] rfl)
                · refine lv_aload_n hx hb dModel_lookSum_194 rfl (lv_at hl 0 rfl) ?_
                  refine md_gA S hC hM 10 (by decide) rfl qw_bd0251c605 dModel_lookSum_195 ?_
                  refine lv_iload_n hx hb dModel_lookSum_198 rfl (lv_at hl 3 rfl) ?_
                  refine md_ild S hC hM 10 6 10000 (F 10) rfl rfl (by decide) rfl rfl (vin (by assumption) (by omega)) dModel_lookSum_199 ?_
                  refine lv_topi (fun v460 ev460 => ?_)
                  refine lv_goto (tgt := 210) hx hb dModel_lookSum_200 (by decide) ?_
                  exact J210 ls v460 (by rw [ev460]; exact hZ _ (vix (vin (by assumption) (by omega)))) (lv_sub hl [0, 1, 2, 3, 4, 5, 6, 7] rfl)
              refine lv_if_eq (tgt := 186) hx hb dModel_lookSum_160 (by decide) (fun c461 => ?_) (fun c461 => ?_)
              · exact J186 ls  (lv_sub hl [0, 1, 2, 3, 4, 5, 6, 7] rfl)
              · refine lv_iload hx hb dModel_lookSum_163 (lv_at hl 6 rfl) ?_
                refine lv_if_eq (tgt := 186) hx hb dModel_lookSum_165 (by decide) (fun c462 => ?_) (fun c462 => ?_)
                · exact J186 ls  (lv_sub hl [0, 1, 2, 3, 4, 5, 6, 7] rfl)
                · refine lv_aload_n hx hb dModel_lookSum_168 rfl (lv_at hl 0 rfl) ?_
                  refine md_gA S hC hM 10 (by decide) rfl qw_bd0251c605 dModel_lookSum_169 ?_
                  refine lv_iload_n hx hb dModel_lookSum_172 rfl (lv_at hl 3 rfl) ?_
                  refine md_ild S hC hM 10 6 10000 (F 10) rfl rfl (by decide) rfl rfl (vin (by assumption) (by omega)) dModel_lookSum_173 ?_
                  refine lv_topi (fun v463 ev463 => ?_)
                  refine lv_aload_n hx hb dModel_lookSum_174 rfl (lv_at hl 0 rfl) ?_
                  refine md_gA S hC hM 10 (by decide) rfl qw_bd0251c605 dModel_lookSum_175 ?_
                  refine lv_iload hx hb dModel_lookSum_178 (lv_at hl 4 rfl) ?_
                  refine md_ild S hC hM 10 6 10000 (F 10) rfl rfl (by decide) rfl rfl (vin (by assumption) (by omega)) dModel_lookSum_180 ?_
                  refine lv_topi (fun v464 ev464 => ?_)
                  refine lv_icmp_eq (tgt := 186) hx hb dModel_lookSum_181 (by decide) (fun c465 => ?_) (fun c465 => ?_)
                  · exact J186 ls  (lv_sub hl [0, 1, 2, 3, 4, 5, 6, 7] rfl)
                  · refine lv_iconst (v := 4) hx hb dModel_lookSum_184 (by decide) ?_
                    exact hE _ _ _ _ _ hS ⟨σ, F, nu, hM, hZ, hF, hL, (fun h9 => absurd (show (0 : Int32) < 4 by decide) h9)⟩ dModel_lookSum_185
            refine lv_if_ne (tgt := 158) hx hb dModel_lookSum_142 (by decide) (fun c466 => ?_) (fun c466 => ?_)
            · exact J158 ls  (lv_sub hl [0, 1, 2, 3, 4, 5, 6, 7] rfl)
            · refine lv_aload_n hx hb dModel_lookSum_145 rfl (lv_at hl 0 rfl) ?_
              refine md_gA S hC hM 9 (by decide) rfl qw_a119aeeca0 dModel_lookSum_146 ?_
              refine lv_iload hx hb dModel_lookSum_149 (lv_at hl 4 rfl) ?_
              refine md_ild S hC hM 9 5 10000 (F 9) rfl rfl (by decide) rfl rfl (vin (by assumption) (by omega)) dModel_lookSum_151 ?_
              refine lv_topi (fun v467 ev467 => ?_)
              refine lv_iconst (v := 2) hx hb dModel_lookSum_152 (by decide) ?_
              refine lv_icmp_eq (tgt := 158) hx hb dModel_lookSum_153 (by decide) (fun c468 => ?_) (fun c468 => ?_)
              · exact J158 ls  (lv_sub hl [0, 1, 2, 3, 4, 5, 6, 7] rfl)
              · refine lv_iconst (v := 3) hx hb dModel_lookSum_156 (by decide) ?_
                exact hE _ _ _ _ _ hS ⟨σ, F, nu, hM, hZ, hF, hL, (fun h9 => absurd (show (0 : Int32) < 3 by decide) h9)⟩ dModel_lookSum_157
          refine lv_if_ne (tgt := 140) hx hb dModel_lookSum_127 (by decide) (fun c469 => ?_) (fun c469 => ?_)
          · exact J140 ls  (lv_sub hl [0, 1, 2, 3, 4, 5, 6, 7] rfl)
          · refine lv_aload_n hx hb dModel_lookSum_130 rfl (lv_at hl 0 rfl) ?_
            refine md_gA S hC hM 9 (by decide) rfl qw_a119aeeca0 dModel_lookSum_131 ?_
            refine lv_iload_n hx hb dModel_lookSum_134 rfl (lv_at hl 3 rfl) ?_
            refine md_ild S hC hM 9 5 10000 (F 9) rfl rfl (by decide) rfl rfl (vin (by assumption) (by omega)) dModel_lookSum_135 ?_
            refine lv_topi (fun v470 ev470 => ?_)
            refine lv_iconst (v := 2) hx hb dModel_lookSum_136 (by decide) ?_
            refine lv_icmp_ne (tgt := 156) hx hb dModel_lookSum_137 (by decide) (fun c471 => ?_) (fun c471 => ?_)
            · refine lv_iconst (v := 3) hx hb dModel_lookSum_156 (by decide) ?_
              exact hE _ _ _ _ _ hS ⟨σ, F, nu, hM, hZ, hF, hL, (fun h9 => absurd (show (0 : Int32) < 3 by decide) h9)⟩ dModel_lookSum_157
            · exact J140 ls  (lv_sub hl [0, 1, 2, 3, 4, 5, 6, 7] rfl)
        refine lv_icmp_ne (tgt := 125) hx hb dModel_lookSum_68 (by decide) (fun c472 => ?_) (fun c472 => ?_)
        · exact J125 ls  (lv_sub hl [1, 2, 3, 4, 5, 6, 7, 0] rfl)
        · refine lv_aload_n hx hb dModel_lookSum_71 rfl (lv_at hl 1 rfl) ?_
          refine md_gA S hC hM 9 (by decide) rfl qw_a119aeeca0 dModel_lookSum_72 ?_
          refine lv_iload hx hb dModel_lookSum_75 (lv_at hl 5 rfl) ?_
          refine md_ild S hC hM 9 5 10000 (F 9) rfl rfl (by decide) rfl rfl (vin (by assumption) (by omega)) dModel_lookSum_77 ?_
          refine lv_topi (fun v473 ev473 => ?_)
          refine lv_iconst (v := 2) hx hb dModel_lookSum_78 (by decide) ?_
          refine lv_icmp_ne (tgt := 125) hx hb dModel_lookSum_79 (by decide) (fun c474 => ?_) (fun c474 => ?_)
          · exact J125 ls  (lv_sub hl [1, 2, 3, 4, 5, 6, 7, 0] rfl)
          · refine lv_aload_n hx hb dModel_lookSum_82 rfl (lv_at hl 1 rfl) ?_
            refine lv_iload_n hx hb dModel_lookSum_83 rfl (lv_at hl 2 rfl) ?_
            refine lv_iload hx hb dModel_lookSum_84 (lv_at hl 0 rfl) ?_
            refine lv_iload_n hx hb dModel_lookSum_86 rfl (lv_at hl 3 rfl) ?_
            have J121 : ∀ (ls : Array Slot) (t0_121 : Int64), lv_has ls 14 [(0, .ref a), (1, .int x1), (2, .int x2), (3, .int x3), (4, .int x4), (5, .int t0_15), (6, .int t0_33), (7, .int t0_59)] → W p l e (bs_rm 3 0 0 72) s m args below meth c s.heap [] 0 0 Q (F0 m 121 ls [.long t0_121, .int t0_59, .int x1, .ref a]) := by
              intro ls t0_121 hl
              refine mu_Vi (rest := []) S hC (fun q h => hA q (Nat.le_trans hS.1 h)) (fun q h => h) hS (m_integer l γ a B Z κ b mn ν τ σ F nu hT x1 t0_59 t0_121 (vin (by assumption) (by omega)) hZ hF) meModel_integer qw_fff04f2807 ⟨Nat.le_of_ble_eq_true rfl, Nat.le_of_ble_eq_true rfl⟩ (md_rv hC hM) hM rfl hl.1 rfl (Nat.le_of_ble_eq_true rfl) dModel_lookSum_121 ⟨Nat.le_refl _, Nat.le_refl _⟩ (fun r483 H locs hPO hS _ _ => ?_)
              obtain ⟨σr483, Fr483, nur483, hM, hZ, hF, hLr483, hRr483⟩ := hPO
              have hL : SL x1.toNatClampNeg F nu Fr483 nur483 := hL.trans hLr483
              exact hE _ _ _ _ _ hS ⟨σr483, Fr483, nur483, hM, hZ, hF, hL, hRr483⟩ dModel_lookSum_124
            refine lv_if_eq (tgt := 107) hx hb dModel_lookSum_87 (by decide) (fun c484 => ?_) (fun c484 => ?_)
            · refine lv_aload_n hx hb dModel_lookSum_107 rfl (lv_at hl 1 rfl) ?_
              refine md_gA S hC hM 13 (by decide) rfl qw_7b809afc8c dModel_lookSum_108 ?_
              refine lv_iload_n hx hb dModel_lookSum_111 rfl (lv_at hl 4 rfl) ?_
              refine md_lld S hC hM (vin (by assumption) (by omega)) dModel_lookSum_112 ?_
              refine lv_topl (fun v485 ev485 => ?_)
              have ev485 : v485 = nu x3.toNatClampNeg := ev485
              refine lv_aload_n hx hb dModel_lookSum_113 rfl (lv_at hl 1 rfl) ?_
              refine md_gA S hC hM 13 (by decide) rfl qw_7b809afc8c dModel_lookSum_114 ?_
              refine lv_iload hx hb dModel_lookSum_117 (lv_at hl 5 rfl) ?_
              refine md_lld S hC hM (vin (by assumption) (by omega)) dModel_lookSum_119 ?_
              refine lv_topl (fun v486 ev486 => ?_)
              have ev486 : v486 = nu x4.toNatClampNeg := ev486
              refine lv_ladd hx hb dModel_lookSum_120 ?_
              refine lv_topl (fun v487 ev487 => ?_)
              exact J121 ls v487 (lv_sub hl [1, 2, 3, 4, 5, 6, 7, 0] rfl)
            · refine lv_aload_n hx hb dModel_lookSum_90 rfl (lv_at hl 1 rfl) ?_
              refine md_gA S hC hM 13 (by decide) rfl qw_7b809afc8c dModel_lookSum_91 ?_
              refine lv_iload_n hx hb dModel_lookSum_94 rfl (lv_at hl 4 rfl) ?_
              refine md_lld S hC hM (vin (by assumption) (by omega)) dModel_lookSum_95 ?_
              refine lv_topl (fun v488 ev488 => ?_)
              have ev488 : v488 = nu x3.toNatClampNeg := ev488
              refine lv_aload_n hx hb dModel_lookSum_96 rfl (lv_at hl 1 rfl) ?_
              refine md_gA S hC hM 13 (by decide) rfl qw_7b809afc8c dModel_lookSum_97 ?_
              refine lv_iload hx hb dModel_lookSum_100 (lv_at hl 5 rfl) ?_
              refine md_lld S hC hM (vin (by assumption) (by omega)) dModel_lookSum_102 ?_
              refine lv_topl (fun v489 ev489 => ?_)
              have ev489 : v489 = nu x4.toNatClampNeg := ev489
              refine lv_lsub hx hb dModel_lookSum_103 ?_
              refine lv_topl (fun v490 ev490 => ?_)
              refine lv_goto (tgt := 121) hx hb dModel_lookSum_104 (by decide) ?_
              exact J121 ls v490 (lv_sub hl [1, 2, 3, 4, 5, 6, 7, 0] rfl)
      have J58 : ∀ (ls : Array Slot), lv_has ls 14 [(0, .ref a), (1, .int x1), (2, .int x2), (3, .int x3), (4, .int x4), (5, .int t0_15), (6, .int t0_33)] → W p l e (bs_rm 3 0 0 72) s m args below meth c s.heap [] 0 0 Q (F0 m 58 ls []) := by
        intro ls hl
        refine lv_iconst (v := 0) hx hb dModel_lookSum_58 (by decide) ?_
        exact J59 ls 0 (lv_sub hl [0, 1, 2, 3, 4, 5, 6] rfl)
      refine lv_if_eq (tgt := 58) hx hb dModel_lookSum_41 (by decide) (fun c491 => ?_) (fun c491 => ?_)
      · exact J58 ls  (lv_sub hl [1, 2, 3, 4, 5, 6, 0] rfl)
      · refine lv_aload_n hx hb dModel_lookSum_44 rfl (lv_at hl 1 rfl) ?_
        refine md_gA S hC hM 11 (by decide) rfl qw_88b9028ba7 dModel_lookSum_45 ?_
        refine lv_iload hx hb dModel_lookSum_48 (lv_at hl 5 rfl) ?_
        refine md_zld S hC hM 11 7 10000 (F 11) rfl rfl (by decide) rfl rfl (vin (by assumption) (by omega)) dModel_lookSum_50 ?_
        refine lv_topi (fun v492 ev492 => ?_)
        refine lv_if_eq (tgt := 58) hx hb dModel_lookSum_51 (by decide) (fun c493 => ?_) (fun c493 => ?_)
        · exact J58 ls  (lv_sub hl [1, 2, 3, 4, 5, 6, 0] rfl)
        · refine lv_iconst (v := 1) hx hb dModel_lookSum_54 (by decide) ?_
          refine lv_goto (tgt := 59) hx hb dModel_lookSum_55 (by decide) ?_
          exact J59 ls 1 (lv_sub hl [1, 2, 3, 4, 5, 6, 0] rfl)
    refine lv_icmp_ne (tgt := 32) hx hb dModel_lookSum_25 (by decide) (fun c494 => ?_) (fun c494 => ?_)
    · refine lv_iconst (v := 0) hx hb dModel_lookSum_32 (by decide) ?_
      exact J33 ls 0 (lv_sub hl [1, 2, 3, 4, 5, 0] rfl)
    · refine lv_iconst (v := 1) hx hb dModel_lookSum_28 (by decide) ?_
      refine lv_goto (tgt := 33) hx hb dModel_lookSum_29 (by decide) ?_
      exact J33 ls 1 (lv_sub hl [1, 2, 3, 4, 5, 0] rfl)
  refine lv_icmp_ne (tgt := 14) hx hb dModel_lookSum_7 (by decide) (fun c495 => ?_) (fun c495 => ?_)
  · refine lv_iconst (v := 0) hx hb dModel_lookSum_14 (by decide) ?_
    exact J15 ls 0 (lv_sub hl [0, 1, 2, 3, 4] rfl)
  · refine lv_iconst (v := 1) hx hb dModel_lookSum_10 (by decide) ?_
    refine lv_goto (tgt := 15) hx hb dModel_lookSum_11 (by decide) ?_
    exact J15 ls 1 (lv_sub hl [0, 1, 2, 3, 4] rfl)
