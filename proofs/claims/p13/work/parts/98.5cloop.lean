set_option maxHeartbeats 4000000 in
set_option maxRecDepth 100000 in
theorem law_loop {p : Program} {l : Launch} {e : Env} {s : State} {m : MethodId} {below : List Frame} {meth : Method} {c : Code} {b L : Nat} {xs : Nat → Int32} {γ : gE} {A : Nat → Prop} {m0 : Nat} (K : LC l p s m c b L xs γ A m0) (hr : meth.sig.returnType = ret) (hlocks : meth.locks = false) : ∀ (N q : Nat) (x4 : Int32) (H : Heap) (locs : List Loc) (κ : Nat → Nat) (φ : gF) (ψ : gG) (κm : Nat → Nat) (τ : gf) (σ : gs) (F : gf) (nu : gg) (g : Nat → Int64) (ls : Array Slot), L + 5 ≤ q + N → q ≤ 2600 → x4 = nI q → LIF s γ A m0 κ φ ψ κm τ σ F nu g H locs → RXK κ φ ψ κm τ F nu → lv_has ls 7 [(0, .ref b), (1, .ref (γ.2.2.2 0)), (2, .ref m0), (3, .ref (m0 + 25)), (4, .int x4)] → W p l e room_1 s m #[Value.ref b] below meth c H locs (CC κ q) (SS κ q) (lw_Z below #[Value.ref b] s) (F0 m 23 ls []) := by
  obtain ⟨hx, hb, hml, hown, hW⟩ := id K.S
  have hbA : ¬ (fun q : Nat => s.heap.size ≤ q) b := Nat.not_le.mpr K.hbl
  intro N
  induction N using Nat.strongRecOn with
  | ind N ih =>
    intro q x4 H locs κ φ ψ κm τ σ F nu g ls hN hq2 ex4 I h3 hl
    refine lv_iload hx hb dLaw_law_23 (lv_at hl 4 rfl) ?_
    refine lv_aload_n hx hb dLaw_law_25 rfl (lv_at hl 0 rfl) ?_
    refine va_slen hx hb K.hX K.hbl hbA I.hS dLaw_law_26 ?_
    refine lv_iconst (v := 5) hx hb dLaw_law_27 (by decide) ?_
    refine lv_isub hx hb dLaw_law_28 ?_
    refine lv_icmp_gt (tgt := 568) hx hb dLaw_law_29 (by decide) (fun c1 => ?_) (fun c1 => ?_)
    · refine lv_iconst (v := 1) hx hb dLaw_law_568 (by decide) ?_
      refine va_forget (fun q hq => I.hS.2.2 q hq) ?_
      have he := cc_end I.hP hq2
      refine W.up he.1 he.2 ?_
      exact lw_ret hx hb hr hlocks dLaw_law_569
    · have hq : q + 5 ≤ L := lw_len K.hL hq2 ex4 c1
      have J : ∀ (H : Heap) (locs : List Loc) (κ : Nat → Nat) (φ : gF) (ψ : gG) (κm : Nat → Nat) (τ : gf) (σ : gs) (F : gf) (nu : gg) (g : Nat → Int64) (ls : Array Slot), LIF s γ A m0 κ φ ψ κm τ σ F nu g H locs → RXK κ φ ψ κm τ F nu → lv_has ls 7 [(0, .ref b), (1, .ref (γ.2.2.2 0)), (2, .ref m0), (3, .ref (m0 + 25)), (4, .int x4)] → W p l e room_1 s m #[Value.ref b] below meth c H locs (CC κ (q + 5)) (SS κ (q + 5)) (lw_Z below #[Value.ref b] s) (F0 m 562 ls []) := by
        intro H locs κ φ ψ κm τ σ F nu g ls I h3 hl
        obtain ⟨x5, ex5⟩ : ∃ y : Int32, y = x4 + 5 := ⟨_, rfl⟩
        refine lv_iinc (v := x5) (lv' := [(4, .int x5), (0, .ref b), (1, .ref (γ.2.2.2 0)), (2, .ref m0), (3, .ref (m0 + 25))]) hx hb dLaw_law_562 hl (k := 4) rfl (by rw [ex5]; rfl) (by decide) rfl (fun ls hl => ?_)
        refine lv_goto (tgt := 23) hx hb dLaw_law_565 (by decide) ?_
        have hL := K.hL
        exact ih (N - 5) (by omega) (q + 5) x5 H locs κ φ ψ κm τ σ F nu g ls (by omega) (by omega) (by rw [ex5, ex4]; exact nI_add q 5) I h3 (lv_sub hl [1, 2, 3, 4, 0] rfl)
      refine lv_aload_n hx hb dLaw_law_32 rfl (lv_at hl 0 rfl) ?_
      refine lv_iload hx hb dLaw_law_33 (lv_at hl 4 rfl) ?_
      refine va_sld hx hb K.hX K.hbl hbA I.hS (lw_in0 K.hL hq ex4) dLaw_law_35 ?_
      refine lv_bipush (v := 15) hx hb dLaw_law_36 (by decide) ?_
      refine lv_iand hx hb dLaw_law_38 ?_
      refine lv_topi (fun v ev => ?_)
      by_cases k0 : v = 0
      · rw [k0]
        refine lv_tableIn (tgt := 104) hx hb dLaw_law_39 (by decide) (by decide) rfl (by decide) ?_
        exact lc_0 K hq ex4 J I h3 hl
      by_cases k1 : v = 1
      · rw [k1]
        refine lv_tableIn (tgt := 156) hx hb dLaw_law_39 (by decide) (by decide) rfl (by decide) ?_
        exact lc_1 K hq ex4 J I h3 hl
      by_cases k2 : v = 2
      · rw [k2]
        refine lv_tableIn (tgt := 169) hx hb dLaw_law_39 (by decide) (by decide) rfl (by decide) ?_
        exact lc_2 K hq ex4 J I h3 hl
      by_cases k3 : v = 3
      · rw [k3]
        refine lv_tableIn (tgt := 185) hx hb dLaw_law_39 (by decide) (by decide) rfl (by decide) ?_
        exact lc_3 K hq ex4 J I h3 hl
      by_cases k4 : v = 4
      · rw [k4]
        refine lv_tableIn (tgt := 201) hx hb dLaw_law_39 (by decide) (by decide) rfl (by decide) ?_
        exact lc_4 K hq ex4 J I h3 hl
      by_cases k5 : v = 5
      · rw [k5]
        refine lv_tableIn (tgt := 229) hx hb dLaw_law_39 (by decide) (by decide) rfl (by decide) ?_
        exact lc_5 K hq ex4 J I h3 hl
      by_cases k6 : v = 6
      · rw [k6]
        refine lv_tableIn (tgt := 257) hx hb dLaw_law_39 (by decide) (by decide) rfl (by decide) ?_
        exact lc_6 K hq ex4 J I h3 hl
      by_cases k7 : v = 7
      · rw [k7]
        refine lv_tableIn (tgt := 297) hx hb dLaw_law_39 (by decide) (by decide) rfl (by decide) ?_
        exact lc_7 K hq ex4 J I h3 hl
      by_cases k8 : v = 8
      · rw [k8]
        refine lv_tableIn (tgt := 361) hx hb dLaw_law_39 (by decide) (by decide) rfl (by decide) ?_
        exact lc_8 K hq ex4 J I h3 hl
      by_cases k9 : v = 9
      · rw [k9]
        refine lv_tableIn (tgt := 401) hx hb dLaw_law_39 (by decide) (by decide) rfl (by decide) ?_
        exact lc_9 K hq ex4 J I h3 hl
      by_cases k10 : v = 10
      · rw [k10]
        refine lv_tableIn (tgt := 414) hx hb dLaw_law_39 (by decide) (by decide) rfl (by decide) ?_
        exact lc_10 K hq ex4 J I h3 hl
      by_cases k11 : v = 11
      · rw [k11]
        refine lv_tableIn (tgt := 454) hx hb dLaw_law_39 (by decide) (by decide) rfl (by decide) ?_
        exact lc_11 K hq ex4 J I h3 hl
      by_cases k12 : v = 12
      · rw [k12]
        refine lv_tableIn (tgt := 522) hx hb dLaw_law_39 (by decide) (by decide) rfl (by decide) ?_
        exact lc_12 K hq ex4 J I h3 hl
      refine lv_tableOut (tgt := 562) hx hb dLaw_law_39 (by have q0 := lv_neT (a := 0) k0 (by decide); have q1 := lv_neT (a := 1) k1 (by decide); have q2 := lv_neT (a := 2) k2 (by decide); have q3 := lv_neT (a := 3) k3 (by decide); have q4 := lv_neT (a := 4) k4 (by decide); have q5 := lv_neT (a := 5) k5 (by decide); have q6 := lv_neT (a := 6) k6 (by decide); have q7 := lv_neT (a := 7) k7 (by decide); have q8 := lv_neT (a := 8) k8 (by decide); have q9 := lv_neT (a := 9) k9 (by decide); have q10 := lv_neT (a := 10) k10 (by decide); have q11 := lv_neT (a := 11) k11 (by decide); have q12 := lv_neT (a := 12) k12 (by decide); clear J ih; omega) (by decide) ?_
      refine W.up (Nat.le_trans (Nat.le_succ _) cc_5.1) (Nat.le_trans (Nat.le_add_right _ 6) cc_5.2) ?_
      exact J _ _ _ _ _ _ _ _ _ _ _ _ I h3 hl
