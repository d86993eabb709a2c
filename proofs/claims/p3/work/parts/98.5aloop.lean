-- THE LAW's loop: what is counted
def CC (κ : Nat → Nat) (q : Nat) : Nat := 100 + Ph κ + q
def SS (κ : Nat → Nat) (q : Nat) : Nat := 745000 + 2 * Ph κ + 6 * q
theorem ph_le {γ : gE} {A : Nat → Prop} {κ : Nat → Nat} {H : Heap} (hI : INV γ A κ H) : Ph κ ≤ 319488 := by
  obtain ⟨⟨h1, h2, h3, h4, h5, h6, h7, h8, h9, h0⟩, -⟩ := inv_len hI
  unfold Ph
  omega
theorem cc_room {κ : Nat → Nat} {q : Nat} (h : Ph κ ≤ 319488) (hq : q ≤ 2600) : CC κ q + 50000 ≤ room_1.cells ∧ SS κ q + 1000000 ≤ room_1.slots := by
  show 100 + Ph κ + q + 50000 ≤ 601024 ∧ 745000 + 2 * Ph κ + 6 * q + 1000000 ≤ 7293034
  omega
theorem cc_room1 {κ : Nat → Nat} {q : Nat} (h : Ph κ ≤ 319488) (hq : q ≤ 2600) : CC κ q + 1 + 0 ≤ room_1.cells ∧ SS κ q + 6 + 0 ≤ room_1.slots := by
  show 100 + Ph κ + q + 1 + 0 ≤ 601024 ∧ 745000 + 2 * Ph κ + 6 * q + 6 + 0 ≤ 7293034
  omega
theorem cc_step {κ κ1 : Nat → Nat} {q : Nat} (h : Ph κ ≤ Ph κ1) : CC κ q + (Ph κ1 - Ph κ + 1) ≤ CC κ1 q + 1 ∧ SS κ q + (2 * (Ph κ1 - Ph κ) + 6) ≤ SS κ1 q + 6 := by
  show 100 + Ph κ + q + (Ph κ1 - Ph κ + 1) ≤ 100 + Ph κ1 + q + 1 ∧ 745000 + 2 * Ph κ + 6 * q + (2 * (Ph κ1 - Ph κ) + 6) ≤ 745000 + 2 * Ph κ1 + 6 * q + 6
  omega
theorem cc_5 {κ : Nat → Nat} {q : Nat} : CC κ q + 1 ≤ CC κ (q + 5) ∧ SS κ q + 6 ≤ SS κ (q + 5) := by
  show 100 + Ph κ + q + 1 ≤ 100 + Ph κ + (q + 5) ∧ 745000 + 2 * Ph κ + 6 * q + 6 ≤ 745000 + 2 * Ph κ + 6 * (q + 5)
  omega
theorem cc_end {κ : Nat → Nat} {q : Nat} (h : Ph κ ≤ 319488) (hq : q ≤ 2600) : CC κ q ≤ 601024 ∧ SS κ q ≤ 7293034 := by
  show 100 + Ph κ + q ≤ 601024 ∧ 745000 + 2 * Ph κ + 6 * q ≤ 7293034
  omega
theorem ph_clear {κ : Nat → Nat} : Ph (ku (ku κ 0 0) 1 0) = Ph κ := rfl
theorem lw_len {q L : Nat} {x4 : Int32} (hL : L ≤ 2560) (hq : q ≤ 2600) (ex : x4 = nI q) (h : ¬ Int32.ofNat L - 5 < x4) : q + 5 ≤ L := by
  have h1 : (nI L).toInt = (L : Int) := nI_toInt (by omega)
  have h2 : (nI q).toInt = (q : Int) := nI_toInt (by omega)
  rw [ex, Int32.lt_iff_toInt_lt] at h
  have h3 : (nI L - 5).toInt = (L : Int) - 5 := by
    rw [Int32.toInt_sub, h1, show (5 : Int32).toInt = 5 by decide]
    exact Int.bmod_eq_of_le (by omega) (by omega)
  have h4 : ¬ (nI L - 5).toInt < (nI q).toInt := h
  omega
theorem lw_in {q L : Nat} {x4 : Int32} (hL : L ≤ 2560) (hq : q + 5 ≤ L) (ex : x4 = nI q) (j : Nat) (hj : j < 5) {y : Int32} (hy : y = nI j) : vp_in (x4 + y) L := by
  rw [ex, hy, nI_add]
  exact vp_in_nI (by omega) (by omega)
theorem lw_in0 {q L : Nat} {x4 : Int32} (hL : L ≤ 2560) (hq : q + 5 ≤ L) (ex : x4 = nI q) : vp_in x4 L := by
  rw [ex]
  exact vp_in_nI (by omega) (by omega)
/-- what stays for the whole of the loop -/
def LC (l : Launch) (p : Program) (s : State) (m : MethodId) (c : Code) (b L : Nat) (xs : Nat → Int32) (γ : gE) (A : Nat → Prop) (m0 : Nat) : Prop := (l.stackTraces = false) ∧ (bs_F p s m #[Value.ref b] c code 7 R_law) ∧ (CX γ s) ∧ (SW s) ∧ (NCs s) ∧ (∀ q, A q → s.heap.size ≤ q) ∧ (∀ q, A q → ¬ (m0 ≤ q ∧ q < m0 + 25)) ∧ (¬ A (m0 + 25)) ∧ (∀ q, m0 + 26 ≤ q → A q) ∧ (s.heap.size ≤ m0) ∧ (va_X b L xs s s.heap) ∧ (b < s.heap.size) ∧ (L ≤ 2560)
theorem LC.hst {l : Launch} {p : Program} {s : State} {m : MethodId} {c : Code} {b L : Nat} {xs : Nat → Int32} {γ : gE} {A : Nat → Prop} {m0 : Nat} (h : LC l p s m c b L xs γ A m0) : l.stackTraces = false := h.1
theorem LC.S {l : Launch} {p : Program} {s : State} {m : MethodId} {c : Code} {b L : Nat} {xs : Nat → Int32} {γ : gE} {A : Nat → Prop} {m0 : Nat} (h : LC l p s m c b L xs γ A m0) : bs_F p s m #[Value.ref b] c code 7 R_law := h.2.1
theorem LC.hC {l : Launch} {p : Program} {s : State} {m : MethodId} {c : Code} {b L : Nat} {xs : Nat → Int32} {γ : gE} {A : Nat → Prop} {m0 : Nat} (h : LC l p s m c b L xs γ A m0) : CX γ s := h.2.2.1
theorem LC.hw0 {l : Launch} {p : Program} {s : State} {m : MethodId} {c : Code} {b L : Nat} {xs : Nat → Int32} {γ : gE} {A : Nat → Prop} {m0 : Nat} (h : LC l p s m c b L xs γ A m0) : SW s := h.2.2.2.1
theorem LC.hnc {l : Launch} {p : Program} {s : State} {m : MethodId} {c : Code} {b L : Nat} {xs : Nat → Int32} {γ : gE} {A : Nat → Prop} {m0 : Nat} (h : LC l p s m c b L xs γ A m0) : NCs s := h.2.2.2.2.1
theorem LC.hA0 {l : Launch} {p : Program} {s : State} {m : MethodId} {c : Code} {b L : Nat} {xs : Nat → Int32} {γ : gE} {A : Nat → Prop} {m0 : Nat} (h : LC l p s m c b L xs γ A m0) : ∀ q, A q → s.heap.size ≤ q := h.2.2.2.2.2.1
theorem LC.hAm {l : Launch} {p : Program} {s : State} {m : MethodId} {c : Code} {b L : Nat} {xs : Nat → Int32} {γ : gE} {A : Nat → Prop} {m0 : Nat} (h : LC l p s m c b L xs γ A m0) : ∀ q, A q → ¬ (m0 ≤ q ∧ q < m0 + 25) := h.2.2.2.2.2.2.1
theorem LC.hAo {l : Launch} {p : Program} {s : State} {m : MethodId} {c : Code} {b L : Nat} {xs : Nat → Int32} {γ : gE} {A : Nat → Prop} {m0 : Nat} (h : LC l p s m c b L xs γ A m0) : ¬ A (m0 + 25) := h.2.2.2.2.2.2.2.1
theorem LC.hAn {l : Launch} {p : Program} {s : State} {m : MethodId} {c : Code} {b L : Nat} {xs : Nat → Int32} {γ : gE} {A : Nat → Prop} {m0 : Nat} (h : LC l p s m c b L xs γ A m0) : ∀ q, m0 + 26 ≤ q → A q := h.2.2.2.2.2.2.2.2.1
theorem LC.hm0 {l : Launch} {p : Program} {s : State} {m : MethodId} {c : Code} {b L : Nat} {xs : Nat → Int32} {γ : gE} {A : Nat → Prop} {m0 : Nat} (h : LC l p s m c b L xs γ A m0) : s.heap.size ≤ m0 := h.2.2.2.2.2.2.2.2.2.1
theorem LC.hX {l : Launch} {p : Program} {s : State} {m : MethodId} {c : Code} {b L : Nat} {xs : Nat → Int32} {γ : gE} {A : Nat → Prop} {m0 : Nat} (h : LC l p s m c b L xs γ A m0) : va_X b L xs s s.heap := h.2.2.2.2.2.2.2.2.2.2.1
theorem LC.hbl {l : Launch} {p : Program} {s : State} {m : MethodId} {c : Code} {b L : Nat} {xs : Nat → Int32} {γ : gE} {A : Nat → Prop} {m0 : Nat} (h : LC l p s m c b L xs γ A m0) : b < s.heap.size := h.2.2.2.2.2.2.2.2.2.2.2.1
theorem LC.hL {l : Launch} {p : Program} {s : State} {m : MethodId} {c : Code} {b L : Nat} {xs : Nat → Int32} {γ : gE} {A : Nat → Prop} {m0 : Nat} (h : LC l p s m c b L xs γ A m0) : L ≤ 2560 := h.2.2.2.2.2.2.2.2.2.2.2.2
/-- what stands between two calls -/
def LI (s : State) (γ : gE) (A : Nat → Prop) (m0 : Nat) (κ κm : Nat → Nat) (cd : Int32) (g : Nat → Int64) (H : Heap) (locs : List Loc) : Prop := (INV γ A κ H) ∧ (MI γ m0 (B0 m0) (iv m0 (m0 + 25)) κm cd H) ∧ (OU γ (m0 + 25) g H) ∧ (m0 + 26 ≤ H.size) ∧ (va_S (fun q => s.heap.size ≤ q) s.heap H locs)
theorem LI.hI {s : State} {γ : gE} {A : Nat → Prop} {m0 : Nat} {κ κm : Nat → Nat} {cd : Int32} {g : Nat → Int64} {H : Heap} {locs : List Loc} (h : LI s γ A m0 κ κm cd g H locs) : INV γ A κ H := h.1
theorem LI.hM {s : State} {γ : gE} {A : Nat → Prop} {m0 : Nat} {κ κm : Nat → Nat} {cd : Int32} {g : Nat → Int64} {H : Heap} {locs : List Loc} (h : LI s γ A m0 κ κm cd g H locs) : MI γ m0 (B0 m0) (iv m0 (m0 + 25)) κm cd H := h.2.1
theorem LI.hO {s : State} {γ : gE} {A : Nat → Prop} {m0 : Nat} {κ κm : Nat → Nat} {cd : Int32} {g : Nat → Int64} {H : Heap} {locs : List Loc} (h : LI s γ A m0 κ κm cd g H locs) : OU γ (m0 + 25) g H := h.2.2.1
theorem LI.hz {s : State} {γ : gE} {A : Nat → Prop} {m0 : Nat} {κ κm : Nat → Nat} {cd : Int32} {g : Nat → Int64} {H : Heap} {locs : List Loc} (h : LI s γ A m0 κ κm cd g H locs) : m0 + 26 ≤ H.size := h.2.2.2.1
theorem LI.hS {s : State} {γ : gE} {A : Nat → Prop} {m0 : Nat} {κ κm : Nat → Nat} {cd : Int32} {g : Nat → Int64} {H : Heap} {locs : List Loc} (h : LI s γ A m0 κ κm cd g H locs) : va_S (fun q => s.heap.size ≤ q) s.heap H locs := h.2.2.2.2
-- what both say
abbrev EQ3 (κ κm : Nat → Nat) : Prop := κ 3 = κm 5 ∧ κ 0 = κm 0 ∧ κ 1 = κm 1
def ENR (κ κ1 : Nat → Nat) (r : Int32) (g0 : Int64) : Prop := (r = 0 ∧ κ 3 < 32 ∧ g0 = (nI (κ 3 + 1)).toInt64 ∧ (κ1 3 = κ 3 + 1 ∧ κ1 0 = κ 0 ∧ κ1 1 = κ 1)) ∨ (r = 1 ∧ κ 3 = 32 ∧ (κ1 3 = κ 3 ∧ κ1 0 = κ 0 ∧ κ1 1 = κ 1))
def ENM (κm κ2 : Nat → Nat) (r cd : Int32) : Prop := (κm 5 = 32 ∧ κ2 = κm ∧ cd = 1) ∨ (κm 5 < 32 ∧ r = nI (κm 5 + 1) ∧ (κ2 5 = κm 5 + 1 ∧ κ2 0 = κm 0 ∧ κ2 1 = κm 1) ∧ cd = 0)
def LVR (κ κ1 : Nat → Nat) (r : Int32) (g0 : Int64) : Prop := (r = 0 ∧ 1 < κ 3 ∧ g0 = (nI (κ 3 - 1)).toInt64 ∧ (κ1 3 = κ 3 - 1 ∧ κ1 0 = κ 0 ∧ κ1 1 = κ 1)) ∨ (r = 1 ∧ κ 3 = 1 ∧ (κ1 3 = κ 3 ∧ κ1 0 = κ 0 ∧ κ1 1 = κ 1))
def LVM (κm κ2 : Nat → Nat) (r cd : Int32) : Prop := (κm 5 = 1 ∧ κ2 = κm ∧ cd = 1) ∨ (1 < κm 5 ∧ r = nI (κm 5 - 1) ∧ (κ2 5 = κm 5 - 1 ∧ κ2 0 = κm 0 ∧ κ2 1 = κm 1) ∧ cd = 0)
def ADR (κ κ1 : Nat → Nat) (r : Int32) (g0 : Int64) (a1 a2 a3 : Int32) : Prop := (r = 0 ∧ (¬ BA (κ 1) a1 a2 a3 ∧ κ 0 < 4000) ∧ g0 = (nI (κ 0)).toInt64 ∧ (κ1 3 = κ 3 ∧ κ1 0 = κ 0 + 1 ∧ ∃ k, a3 = nI k ∧ k ≤ κ 1 ∧ κ1 1 = κ 1 + 1 - k)) ∨ (((r = 1 ∧ BA (κ 1) a1 a2 a3) ∨ (r = 2 ∧ ¬ BA (κ 1) a1 a2 a3 ∧ 4000 ≤ κ 0)) ∧ (κ1 3 = κ 3 ∧ κ1 0 = κ 0 ∧ κ1 1 = κ 1))
def ADM (κm κ2 : Nat → Nat) (r cd : Int32) (a1 a2 a3 : Int32) : Prop := (BA (κm 1) a1 a2 a3 ∧ κ2 = κm ∧ cd = 1) ∨ (¬ BA (κm 1) a1 a2 a3 ∧ κm 0 = 4000 ∧ κ2 = κm ∧ cd = 2) ∨ (¬ BA (κm 1) a1 a2 a3 ∧ κm 0 < 4000 ∧ r = nI (κm 0) ∧ κ2 5 = κm 5 ∧ κ2 0 = κm 0 + 1 ∧ (∃ k, a3 = nI k ∧ k ≤ κm 1 ∧ κ2 1 = κm 1 - k + 1) ∧ cd = 0)
theorem one_ne : ∀ {r : Int32}, r = 1 → r = 0 → False := fun h h0 => by rw [h] at h0; exact absurd h0 (by decide)
theorem two_ne : ∀ {r : Int32}, r = 2 → r = 0 → False := fun h h0 => by rw [h] at h0; exact absurd h0 (by decide)
theorem cmp_enter {κ κ1 κm κ2 : Nat → Nat} {r r2 cd : Int32} {g0 : Int64} (h3 : EQ3 κ κm) (hb : κ 1 ≤ 8192) (hr : ENR κ κ1 r g0) (hr2 : ENM κm κ2 r2 cd) : cd = r ∧ (r = 0 → g0 = r2.toInt64) ∧ EQ3 κ1 κ2 := by
  obtain ⟨e1, e2, e3⟩ := h3
  rcases hr with ⟨a1, a2, a3, a4, a5, a6⟩ | ⟨a1, a2, a4, a5, a6⟩ <;> rcases hr2 with ⟨b1, b2, b3⟩ | ⟨b1, b2, ⟨b3, b4, b5⟩, b6⟩
  · exfalso; omega
  · exact ⟨by rw [a1, b6], fun _ => by rw [a3, b2, e1], by omega, by omega, by omega⟩
  · subst b2
    exact ⟨by rw [a1, b3], fun h => (one_ne a1 h).elim, by omega, by omega, by omega⟩
  · exfalso; omega
theorem cmp_leave {κ κ1 κm κ2 : Nat → Nat} {r r2 cd : Int32} {g0 : Int64} (h3 : EQ3 κ κm) (hb : κ 1 ≤ 8192) (hr : LVR κ κ1 r g0) (hr2 : LVM κm κ2 r2 cd) : cd = r ∧ (r = 0 → g0 = r2.toInt64) ∧ EQ3 κ1 κ2 := by
  obtain ⟨e1, e2, e3⟩ := h3
  rcases hr with ⟨a1, a2, a3, a4, a5, a6⟩ | ⟨a1, a2, a4, a5, a6⟩ <;> rcases hr2 with ⟨b1, b2, b3⟩ | ⟨b1, b2, ⟨b3, b4, b5⟩, b6⟩
  · exfalso; omega
  · exact ⟨by rw [a1, b6], fun _ => by rw [a3, b2, e1], by omega, by omega, by omega⟩
  · subst b2
    exact ⟨by rw [a1, b3], fun h => (one_ne a1 h).elim, by omega, by omega, by omega⟩
  · exfalso; omega
theorem cmp_add {κ κ1 κm κ2 : Nat → Nat} {r r2 cd a1 a2 a3 : Int32} {g0 : Int64} (h3 : EQ3 κ κm) (hb : κ 1 ≤ 8192) (hr : ADR κ κ1 r g0 a1 a2 a3) (hr2 : ADM κm κ2 r2 cd a1 a2 a3) : cd = r ∧ (r = 0 → g0 = r2.toInt64) ∧ EQ3 κ1 κ2 := by
  obtain ⟨e1, e2, e3⟩ := h3
  unfold ADM at hr2
  rw [← e3, ← e2] at hr2
  rcases hr with ⟨c1, ⟨c2, c3⟩, c4, c5, c6, k, k1, k2, k3⟩ | ⟨⟨c1, c2⟩ | ⟨c1, c2, c3⟩, c5, c6, c7⟩ <;> rcases hr2 with ⟨d1, d2, d3⟩ | ⟨d1, d2, d3, d4⟩ | ⟨d1, d2, d3, d4, d5, ⟨k', l1, l2, l3⟩, d7⟩
  · exact absurd d1 c2
  · exfalso; omega
  · have hk : k = k' := (nI_eq (by omega) (by omega)).mp (k1.symm.trans l1)
    exact ⟨by rw [c1, d7], fun _ => by rw [c4, d3], by omega, by omega, by omega⟩
  · subst d2
    exact ⟨by rw [c1, d3], fun h => (one_ne c1 h).elim, by omega, by omega, by omega⟩
  · exact absurd c2 d1
  · exact absurd c2 d1
  · exact absurd d1 c2
  · subst d3
    exact ⟨by rw [c1, d4], fun h => (two_ne c1 h).elim, by omega, by omega, by omega⟩
  · exfalso; omega
theorem hb8 {s : State} {γ : gE} {A : Nat → Prop} {m0 : Nat} {κ κm : Nat → Nat} {cd : Int32} {g : Nat → Int64} {H : Heap} {locs : List Loc} (I : LI s γ A m0 κ κm cd g H locs) : κ 1 ≤ 8192 := by
  obtain ⟨⟨h1, h2, h3, h4, h5, h6, h7, h8, h9, h0⟩, i1, i2, -⟩ := inv_len I.hI
  omega
section LWL
variable {p : Program} {l : Launch} {e : Env} {s : State} {m : MethodId} {below : List Frame} {meth : Method} {c : Code} {H : Heap} {locs : List Loc} {Q : State → Prop}
variable {y : MethodName} {bytes : ByteArray} {maxL n index fr lo cells slots : Nat} {As st0 : List Value} {pc b L m0 q : Nat} {xs : Nat → Int32} {ls : Array Slot} {γ : gE} {A : Nat → Prop} {hh : List (Nat × Nat × Nat × Nat)} {κ κm : Nat → Nat} {cd : Int32} {g : Nat → Int64}
theorem lc_wrap {PO : Int32 → Heap → Prop} {RES : Int32 → (Nat → Nat) → (Nat → Int64) → Prop} (K : LC l p s m c b L xs γ A m0) (I : LI s γ A m0 κ κm cd g H locs) (hq : q ≤ 2600)
    (hM : WM l y bytes maxL hh fr lo 50000 1000000 As γ (fun q => A q ∨ q = m0 + 25) (PSw s H γ A κ (m0 + 25) g) (mQi PO (fun q => A q ∨ q = m0 + 25))) (me : bs_Mw y bytes maxL hh n) (lk : Cond.methodLink R_law index y ∈ bs_W0) (hR : fr + 1 ≤ room_1.frames ∧ 8 + (maxL + 11) + lo ≤ room_1.locals) (hn : As.length = n) (hsz : ls.size = 7) (hst : st0 = As.reverse ++ []) (hdg : decode code pc = .ok (.invokestatic index, 3))
    (hPO : ∀ r H1, PO r H1 → ∃ g1 : Nat → Int64, OU γ (m0 + 25) g1 H1 ∧ PB γ A κ H (fun κ1 => RES r κ1 g1) H1)
    (kk : ∀ (r : Int32) (H1 : Heap) (locs1 : List Loc) (κ1 : Nat → Nat) (g1 : Nat → Int64), RES r κ1 g1 → LI s γ A m0 κ1 κm cd g1 H1 locs1 → W p l e room_1 s m #[Value.ref b] below meth c H1 locs1 (CC κ1 q + 1) (SS κ1 q + 6) Q (F0 m (pc + 3) ls [.int r])) : W p l e room_1 s m #[Value.ref b] below meth c H locs (CC κ q) (SS κ q) Q (F0 m pc ls st0) := by
  refine W.know (fun a1 a2 a3 => ?_)
  have hG0 : GR s.heap H (CC κ q) (SS κ q) := ⟨I.hS.1, a1, a2, a3⟩
  have hAn' : ∀ q, H.size ≤ q → A q := fun q h => K.hAn q (Nat.le_trans I.hz h)
  refine wm_Si (A := fun q => A q ∨ q = m0 + 25) (A0 := fun q => s.heap.size ≤ q) (rest := []) K.S K.hC (fun q h => Or.inl (hAn' q h)) (fun q h => h.elim (K.hA0 q) (fun e => by rw [e]; exact Nat.le_trans K.hm0 (Nat.le_add_right _ _))) I.hS hM psw_bl me lk hR (fun U hU hWU => ⟨⟨hWU, by rw [hU]; exact I.hS.1, fun a ha => by rw [hU]; exact I.hS.2.1 a ha (Nat.not_le.mpr ha)⟩, hU, by rw [hU]; exact I.hI, by rw [hU]; exact I.hO, by rw [hU]; exact hAn'⟩) hn hsz hst (Nat.zero_le _) hdg (cc_room (ph_le I.hI) hq) (fun r H1 locs1 hP hS1 hz1 hk1 => ?_)
  obtain ⟨g1, hO1, κ1, hI1, hr, hp, hG1⟩ := hPO r H1 hP
  have hc := cc_step (q := q) hp
  have hG := (hG0.trans hG1).mono hc.1 hc.2
  refine W.tight hG.2.1 hG.2.2.1 ?_
  refine kk r H1 locs1 κ1 g1 hr ⟨hI1, mi_kept I.hM (fun q h1 h2 => hk1 q (Nat.lt_of_lt_of_le h2 (Nat.le_trans (Nat.le_succ _) I.hz)) (fun h => h.elim (fun h => K.hAm q h ⟨h1, h2⟩) (fun e => by omega))), hO1, Nat.le_trans I.hz hz1, hS1⟩
theorem lc_model {rest : List Value} {PO : Int32 → Heap → Prop} {RES : Int32 → (Nat → Nat) → Int32 → Prop} (K : LC l p s m c b L xs γ A m0) (I : LI s γ A m0 κ κm cd g H locs)
    (hM : ∀ (b mn : Nat → Nat) (ν : Nat → Int32) (τ : Nat → Nat → Int32) (σ : Nat → Int32) (F : Nat → Nat → Int32) (nu : Nat → Int64), ST κm b mn ν τ → SZ F → FD σ → GD F nu → σ 0 = cd → MU l y bytes maxL (some .int) fr lo 0 0 (.ref m0 :: As) γ (fun q => (m0 ≤ q ∧ q < m0 + 25) ∨ H.size ≤ q) (MD γ m0 (B0 m0) (fun q => (m0 ≤ q ∧ q < m0 + 25) ∨ H.size ≤ q) ν τ σ F nu) (mQi PO (fun q => (m0 ≤ q ∧ q < m0 + 25) ∨ H.size ≤ q))) (me : bs_Mi y bytes maxL (some .int) n) (hy : y.cls = R_Model) (lk : Cond.methodLink R_law index y ∈ bs_W0) (hR : fr + 1 ≤ room_1.frames ∧ 8 + (maxL + 11) + lo ≤ room_1.locals) (hn : As.length = n) (hsz : ls.size = 7) (hst : st0 = As.reverse ++ .ref m0 :: rest) (hrm : (rest.map fun v => v.category).sum ≤ 8) (hdg : decode code pc = .ok (.invokevirtual index, 3)) (hf : cells + 0 ≤ room_1.cells ∧ slots + 0 ≤ room_1.slots)
    (hPO : ∀ r H1, PO r H1 → ∃ (κ1 : Nat → Nat) (cd1 : Int32), MI γ m0 (B0 m0) (fun q => (m0 ≤ q ∧ q < m0 + 25) ∨ H.size ≤ q) κ1 cd1 H1 ∧ RES r κ1 cd1)
    (kk : ∀ (r : Int32) (H1 : Heap) (locs1 : List Loc) (κ1 : Nat → Nat) (cd1 : Int32), RES r κ1 cd1 → LI s γ A m0 κ κ1 cd1 g H1 locs1 → W p l e room_1 s m #[Value.ref b] below meth c H1 locs1 cells slots Q (F0 m (pc + 3) ls (.int r :: rest))) : W p l e room_1 s m #[Value.ref b] below meth c H locs cells slots Q (F0 m pc ls st0) := by
  have hM1 : MI γ m0 (B0 m0) (fun q => (m0 ≤ q ∧ q < m0 + 25) ∨ H.size ≤ q) κm cd H := mi_Z I.hM (fun q h1 h2 => Or.inl ⟨h1, h2⟩)
  obtain ⟨b', mn, ν, τ, σ, F, nu, hT, hZ, hF, hG, hσ, hMD⟩ := hM1
  refine mu_Vi (A := fun q => (m0 ≤ q ∧ q < m0 + 25) ∨ H.size ≤ q) (A0 := fun q => s.heap.size ≤ q) (rest := rest) K.S K.hC (fun q h => Or.inr h) (fun q h => h.elim (fun h => Nat.le_trans K.hm0 h.1) (fun h => Nat.le_trans I.hS.1 h)) I.hS (hM b' mn ν τ σ F nu hT hZ hF hG hσ) me lk hR (by rw [hy]; exact md_rv K.hC hMD) hMD hn hsz hst hrm hdg hf (fun r H1 locs1 hP hS1 hz1 hk1 => ?_)
  obtain ⟨κ1, cd1, hM2, hr⟩ := hPO r H1 hP
  refine kk r H1 locs1 κ1 cd1 hr ⟨inv_off I.hI (fun q h1 h2 => hk1 q h2 (fun h => h.elim (K.hAm q h1) (fun h => by omega))), mi_Z hM2 (fun q h1 h2 => ⟨h1, h2⟩), I.hO.kept (hk1 _ I.hO.lt (fun h => h.elim (fun h => by omega) (fun h => absurd I.hO.lt (Nat.not_lt.mpr h)))), Nat.le_trans I.hz hz1, hS1⟩
theorem lc_clear (K : LC l p s m c b L xs γ A m0) (I : LI s γ A m0 κ κm cd g H locs) (hsz : ls.size = 7) (lk : Cond.methodLink R_law index yTypeBook_clear ∈ bs_W0) (hdg : decode code pc = .ok (.invokevirtual index, 3)) (hf : cells + 0 ≤ room_1.cells ∧ slots + 0 ≤ room_1.slots)
    (kk : ∀ (r : Int32) (H1 : Heap) (locs1 : List Loc), r = nI (κ 0) → LI s γ A m0 (ku (ku κ 0 0) 1 0) κm cd g H1 locs1 → W p l e room_1 s m #[Value.ref b] below meth c H1 locs1 cells slots Q (F0 m (pc + 3) ls [.int r])) : W p l e room_1 s m #[Value.ref b] below meth c H locs cells slots Q (F0 m pc ls [.ref (γ.2.2.2 0)]) := by
  refine mu_Vi (As := []) (A := A) (A0 := fun q => s.heap.size ≤ q) (rest := []) K.S K.hC (fun q h => K.hAn q (Nat.le_trans I.hz h)) K.hA0 I.hS (k_TypeBook_clear l γ A κ) meTypeBook_clear lk ⟨Nat.le_of_ble_eq_true rfl, Nat.le_of_ble_eq_true rfl⟩ (rv_0 K.hC I.hI) I.hI rfl hsz rfl (Nat.zero_le _) hdg hf (fun r H1 locs1 hP hS1 hz1 hk1 => ?_)
  exact kk r H1 locs1 hP.1 ⟨hP.2, mi_kept I.hM (fun q h1 h2 => hk1 q (Nat.lt_of_lt_of_le h2 (Nat.le_trans (Nat.le_succ _) I.hz)) (fun h => K.hAm q h ⟨h1, h2⟩)), I.hO.kept (hk1 _ I.hO.lt K.hAo), Nat.le_trans I.hz hz1, hS1⟩
theorem lc_place (K : LC l p s m c b L xs γ A m0) (I : LI s γ A m0 κ κm cd g H locs) (hsz : ls.size = 7) (lk : Cond.methodLink R_law index yTypeBook_place ∈ bs_W0) (hdg : decode code pc = .ok (.invokevirtual index, 3)) (hf : cells ≤ room_1.cells ∧ slots ≤ room_1.slots)
    (kk : ∀ r : Int32, W p l e room_1 s m #[Value.ref b] below meth c H locs cells slots Q (F0 m (pc + 3) ls [.int r])) : W p l e room_1 s m #[Value.ref b] below meth c H locs cells slots Q (F0 m pc ls [.ref (γ.2.2.2 0)]) :=
  pu_Vi (As := []) (rest := []) K.S K.hC (k_TypeBook_place l γ A κ) meTypeBook_place lk ⟨Nat.le_of_ble_eq_true rfl, Nat.le_of_ble_eq_true rfl⟩ (rv_0 K.hC I.hI) I.hI rfl hsz rfl (Nat.zero_le _) hdg hf (fun r _ => kk r)
end LWL
