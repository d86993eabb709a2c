-- BASE: one list of words for all methods; contracts of methods that only read (PU) and of methods that write (MU)
def bs_W0 : List Cond := lw_tbl.filter goodWord
theorem bs_in {w : Cond} (h : w ∈ lw_tbl) (g : goodWord w = true) : w ∈ bs_W0 := List.mem_filter.mpr ⟨h, g⟩
theorem bs_all {a : Cond} (ha : a ∈ bs_W0) : GoodIn bs_W0 (a :: bs_W0) := by
  intro w hw
  rcases List.mem_cons.mp hw with rfl | h
  · exact ⟨ha, good_of_word (List.mem_filter.mp ha).2⟩
  · exact ⟨h, good_of_word (List.mem_filter.mp h).2⟩
/-- what is known of a callee: an instance method -/
def bs_Mi (y : MethodName) (bytes : ByteArray) (maxL : Nat) (ret : Option FieldType) (n : Nat) : Prop :=
  Cond.instanceMethod y ∈ bs_W0 ∧ Cond.selects y.cls y y ∈ bs_W0 ∧ Cond.initialized y.cls ∈ bs_W0 ∧ Cond.code y bytes maxL ret ∈ bs_W0 ∧ (y.cls ≠ "java/lang/invoke/MethodHandle" ∧ y.cls ≠ "java/lang/invoke/VarHandle" ∧ (parseMethodDescriptor y.desc).map (fun d => d.parameters.length) = some n)
/-- a static one -/
def bs_Ms (y : MethodName) (bytes : ByteArray) (maxL : Nat) (ret : Option FieldType) (n : Nat) : Prop :=
  Cond.static y ∈ bs_W0 ∧ Cond.initialized y.cls ∈ bs_W0 ∧ Cond.code y bytes maxL ret ∈ bs_W0 ∧ (y.cls ≠ "java/lang/invoke/MethodHandle" ∧ y.cls ≠ "java/lang/invoke/VarHandle" ∧ (parseMethodDescriptor y.desc).map (fun d => d.parameters.length) = some n)
section BS
variable {p : Program} {l : Launch} {e : Env} {R : Room} {s : State} {m : MethodId} {args : Array Value} {below : List Frame} {meth : Method} {c : Code} {H : Heap} {locs : List Loc} {cells slots : Nat} {Q : State → Prop}
variable {y : MethodName} {bytes cc : ByteArray} {maxL nL mc ms n index : Nat} {ret : Option FieldType} {rm : Room} {Pc : Array Value → State → Prop} {Qc : Array Value → State → Outcome → State → Prop} {free : Addr → Prop} {own : String} {b : Addr} {As rest st0 : List Value} {pc : Nat} {ls : Array Slot}
/-- the machine's standing facts in a walk -/
abbrev bs_F (p : Program) (s : State) (m : MethodId) (args : Array Value) (c : Code) (cc : ByteArray) (nL : Nat) (own : String) : Prop := CallFix p m c cc nL s args bs_W0 own
theorem bs_cwV (hW : ∀ w ∈ bs_W0, w.before args s = true) (me : bs_Mi y bytes maxL ret n) (lk : Cond.methodLink own index y ∈ bs_W0) (hrc : rm.cells = mc) (hrs : rm.slots = ms) (hR : rm.frames + 1 ≤ R.frames ∧ 8 + (maxL + 11) + rm.locals ≤ R.locals) :
    CallW R s args own y.cls index y bytes maxL ret (Cond.code y bytes maxL ret :: bs_W0) rm mc ms n := by
  obtain ⟨h1, h2, h3, h4, h5⟩ := me
  exact ⟨callB_of n hW (bs_all h4) rfl hrc hrs (hW _ h3) (hW _ lk) h5 hR, hW _ h1, hW _ h2⟩
theorem bs_cwS (hW : ∀ w ∈ bs_W0, w.before args s = true) (me : bs_Ms y bytes maxL ret n) (lk : Cond.methodLink own index y ∈ bs_W0) (hrc : rm.cells = mc) (hrs : rm.slots = ms) (hR : rm.frames + 1 ≤ R.frames ∧ 8 + (maxL + 11) + rm.locals ≤ R.locals) :
    CallB R s args own index y bytes maxL ret (Cond.code y bytes maxL ret :: bs_W0) rm mc ms n ∧ (Cond.static y).before args s = true := by
  obtain ⟨h1, h3, h4, h5⟩ := me
  exact ⟨callB_of n hW (bs_all h4) rfl hrc hrs (hW _ h3) (hW _ lk) h5 hR, hW _ h1⟩
theorem bs_cnV {host : String} (hW : ∀ w ∈ bs_W0, w.before args s = true) (me : bs_Mi y bytes maxL ret n) (lk : va_Nw (.methodLinkNest own index y host) s) (hrc : rm.cells = mc) (hrs : rm.slots = ms) (hR : rm.frames + 1 ≤ R.frames ∧ 8 + (maxL + 11) + rm.locals ≤ R.locals) :
    va_CN R s args own index y host bytes maxL ret (Cond.code y bytes maxL ret :: bs_W0) rm mc ms n ∧ (Cond.instanceMethod y).before args s = true ∧ (Cond.selects y.cls y y).before args s = true := by
  obtain ⟨h1, h2, h3, h4, h5⟩ := me
  exact ⟨va_cnB n hW (bs_all h4) rfl hrc hrs lk (hW _ h3) h5 hR, hW _ h1, hW _ h2⟩
theorem bs_cnS {host : String} (hW : ∀ w ∈ bs_W0, w.before args s = true) (me : bs_Ms y bytes maxL ret n) (lk : va_Nw (.methodLinkNest own index y host) s) (hrc : rm.cells = mc) (hrs : rm.slots = ms) (hR : rm.frames + 1 ≤ R.frames ∧ 8 + (maxL + 11) + rm.locals ≤ R.locals) :
    va_CN R s args own index y host bytes maxL ret (Cond.code y bytes maxL ret :: bs_W0) rm mc ms n ∧ (Cond.static y).before args s = true ∧ True := by
  obtain ⟨h1, h3, h4, h5⟩ := me
  exact ⟨va_cnB n hW (bs_all h4) rfl hrc hrs lk (hW _ h3) h5 hR, hW _ h1, trivial⟩
/-- the words of a method's contract give all of bs_W0 -/
theorem bs_hts {w0 : Cond} (h : ∀ w ∈ w0 :: bs_W0, w.before args s = true) : ∀ w ∈ bs_W0, w.before args s = true := fun w hw => h w (List.mem_cons_of_mem _ hw)
/-- what was really made: the walk may go on with less -/
theorem W.tight {g : JFrame} {k n : Nat} (h1 : H.size ≤ s.heap.size + k) (h2 : ((H.toList.drop s.heap.size).map (·.slots.size)).sum ≤ n) (kk : W p l e R s m args below meth c H locs k n Q g) : W p l e R s m args below meth c H locs cells slots Q g := by
  intro T hT X
  subst hT
  refine kk T rfl ?_
  obtain ⟨a1, a2, a3, a4, a5, a6⟩ := X.same
  exact { X with same := ⟨a1, a2, h1, a4, h2, a6⟩ }
/-- what the walk's own record says of the heap -/
theorem W.know {g : JFrame} (kk : H.size ≤ s.heap.size + cells → ((H.toList.drop s.heap.size).map (·.slots.size)).sum ≤ slots → (∀ (a : Nat) (c : Cell), s.heap[a]? = some c → ∃ c', H[a]? = some c' ∧ c'.slots.size = c.slots.size) → W p l e R s m args below meth c H locs cells slots Q g) : W p l e R s m args below meth c H locs cells slots Q g := by
  intro T hT X
  subst hT
  obtain ⟨a1, a2, a3, a4, a5, a6⟩ := X.same
  exact kk a3 a5 (fun a c h => by obtain ⟨c', b1, _, b3, _⟩ := a6 a c h; exact ⟨c', b1, b3⟩) T rfl X
end BS
def gsum (H0 H1 : Heap) : Nat := ((H1.toList.drop H0.size).map (·.slots.size)).sum
/-- what has come since H0: at most k cells of n slots; no old cell is longer or shorter -/
def GR (H0 H1 : Heap) (k n : Nat) : Prop := H0.size ≤ H1.size ∧ H1.size ≤ H0.size + k ∧ gsum H0 H1 ≤ n ∧ ∀ (a : Nat) (c : Cell), H0[a]? = some c → ∃ c', H1[a]? = some c' ∧ c'.slots.size = c.slots.size
theorem GR.rf (H : Heap) : GR H H 0 0 := ⟨Nat.le_refl _, Nat.le_refl _, by unfold gsum; rw [List.drop_eq_nil_of_le (Nat.le_of_eq (by simp))]; exact Nat.le_refl _, fun a c h => ⟨c, h, rfl⟩⟩
theorem GR.mono {H0 H1 : Heap} {k n k' n' : Nat} (h : GR H0 H1 k n) (hk : k ≤ k') (hn : n ≤ n') : GR H0 H1 k' n' := ⟨h.1, Nat.le_trans h.2.1 (Nat.add_le_add_left hk _), Nat.le_trans h.2.2.1 hn, h.2.2.2⟩
theorem GR.trans {H0 H1 H2 : Heap} {k n k' n' : Nat} (h1 : GR H0 H1 k n) (h2 : GR H1 H2 k' n') : GR H0 H2 (k + k') (n + n') := by
  obtain ⟨a1, a2, a3, a4⟩ := h1
  obtain ⟨b1, b2, b3, b4⟩ := h2
  refine ⟨Nat.le_trans a1 b1, by omega, ?_, fun a c h => ?_⟩
  · have e : (H2.toList.drop H0.size).map (·.slots.size) = (H1.toList.drop H0.size).map (·.slots.size) ++ (H2.toList.drop H1.size).map (·.slots.size) := by
      apply List.ext_getElem?
      intro i
      by_cases hi : i < H1.size - H0.size
      · rw [List.getElem?_append_left (by simp; omega)]
        simp only [List.getElem?_map, List.getElem?_drop]
        have hlt : H0.size + i < H1.size := by omega
        have hc : H1[H0.size + i]? = some H1[H0.size + i] := Array.getElem?_eq_getElem hlt
        obtain ⟨c', hc', e⟩ := b4 _ _ hc
        rw [Array.getElem?_toList, Array.getElem?_toList, hc, hc']
        simp [e]
      · rw [List.getElem?_append_right (by simp; omega)]
        simp only [List.getElem?_map, List.getElem?_drop, List.length_map, List.length_drop, Array.length_toList]
        congr 2
        omega
    unfold gsum at *
    rw [e, List.sum_append]
    omega
  · obtain ⟨c', h1, e1⟩ := a4 a c h
    obtain ⟨c'', h2, e2⟩ := b4 a c' h1
    exact ⟨c'', h2, e2.trans e1⟩
theorem tb_in {w : Cond} (h : w ∈ tables_1) : w ∈ lw_tbl := List.mem_append_right _ h
theorem in_tables_1_1 {w : Cond} (h : w ∈ tables_1_1) : w ∈ lw_tbl := tb_in (List.mem_append_left _ h)
theorem in_tables_1_2 {w : Cond} (h : w ∈ tables_1_2) : w ∈ lw_tbl := tb_in (List.mem_append_right _ (List.mem_append_left _ h))
theorem in_tables_1_3 {w : Cond} (h : w ∈ tables_1_3) : w ∈ lw_tbl := tb_in (List.mem_append_right _ (List.mem_append_right _ (List.mem_append_left _ h)))
theorem in_tables_1_4 {w : Cond} (h : w ∈ tables_1_4) : w ∈ lw_tbl := tb_in (List.mem_append_right _ (List.mem_append_right _ (List.mem_append_right _ (List.mem_append_left _ h))))
theorem in_tables_1_5 {w : Cond} (h : w ∈ tables_1_5) : w ∈ lw_tbl := tb_in (List.mem_append_right _ (List.mem_append_right _ (List.mem_append_right _ (List.mem_append_right _ (List.mem_append_left _ h)))))
theorem in_tables_1_6 {w : Cond} (h : w ∈ tables_1_6) : w ∈ lw_tbl := tb_in (List.mem_append_right _ (List.mem_append_right _ (List.mem_append_right _ (List.mem_append_right _ (List.mem_append_right _ (List.mem_append_left _ h))))))
theorem in_tables_1_7 {w : Cond} (h : w ∈ tables_1_7) : w ∈ lw_tbl := tb_in (List.mem_append_right _ (List.mem_append_right _ (List.mem_append_right _ (List.mem_append_right _ (List.mem_append_right _ (List.mem_append_right _ (h)))))))
theorem n_TypeBook : ∀ a, a < 7 → ∀ b, b < 7 → a ≠ b → (T_TypeBook a).2.1 ≠ (T_TypeBook b).2.1 := by decide +kernel
theorem t_TypeBook_ok : ∀ k, k < 7 → parseFieldDescriptor (T_TypeBook k).2.2.1 = some (t_TypeBook k) := by decide +kernel
theorem in_TypeBook : ∀ w ∈ u_ws R_TypeBook T_TypeBook 7, w ∈ bs_W0 := List.forall_mem_cons.mpr ⟨bs_in (in_tables_1_2 (List.mem_of_getElem? (i := 59) rfl)) rfl, List.forall_mem_cons.mpr  ⟨bs_in (in_tables_1_2 (List.mem_of_getElem? (i := 61) rfl)) rfl, List.forall_mem_cons.mpr  ⟨bs_in (in_tables_1_2 (List.mem_of_getElem? (i := 63) rfl)) rfl, List.forall_mem_cons.mpr  ⟨bs_in (in_tables_1_2 (List.mem_of_getElem? (i := 65) rfl)) rfl, List.forall_mem_cons.mpr  ⟨bs_in (in_tables_1_2 (List.mem_of_getElem? (i := 67) rfl)) rfl, List.forall_mem_cons.mpr  ⟨bs_in (in_tables_1_2 (List.mem_of_getElem? (i := 69) rfl)) rfl, List.forall_mem_cons.mpr  ⟨bs_in (in_tables_1_2 (List.mem_of_getElem? (i := 71) rfl)) rfl, fun _ h => absurd h List.not_mem_nil⟩⟩⟩⟩⟩⟩⟩
theorem n_Trees : ∀ a, a < 6 → ∀ b, b < 6 → a ≠ b → (T_Trees a).2.1 ≠ (T_Trees b).2.1 := by decide +kernel
theorem t_Trees_ok : ∀ k, k < 6 → parseFieldDescriptor (T_Trees k).2.2.1 = some (t_Trees k) := by decide +kernel
theorem in_Trees : ∀ w ∈ u_ws R_Trees T_Trees 6, w ∈ bs_W0 := List.forall_mem_cons.mpr ⟨bs_in (in_tables_1_1 (List.mem_of_getElem? (i := 46) rfl)) rfl, List.forall_mem_cons.mpr  ⟨bs_in (in_tables_1_1 (List.mem_of_getElem? (i := 48) rfl)) rfl, List.forall_mem_cons.mpr  ⟨bs_in (in_tables_1_1 (List.mem_of_getElem? (i := 50) rfl)) rfl, List.forall_mem_cons.mpr  ⟨bs_in (in_tables_1_1 (List.mem_of_getElem? (i := 52) rfl)) rfl, List.forall_mem_cons.mpr  ⟨bs_in (in_tables_1_1 (List.mem_of_getElem? (i := 54) rfl)) rfl, List.forall_mem_cons.mpr  ⟨bs_in (in_tables_1_1 (List.mem_of_getElem? (i := 56) rfl)) rfl, fun _ h => absurd h List.not_mem_nil⟩⟩⟩⟩⟩⟩
theorem n_Names : ∀ a, a < 9 → ∀ b, b < 9 → a ≠ b → (T_Names a).2.1 ≠ (T_Names b).2.1 := by decide +kernel
theorem t_Names_ok : ∀ k, k < 9 → parseFieldDescriptor (T_Names k).2.2.1 = some (t_Names k) := by decide +kernel
theorem in_Names : ∀ w ∈ u_ws R_Names T_Names 9, w ∈ bs_W0 := List.forall_mem_cons.mpr ⟨bs_in (in_tables_1_1 (List.mem_of_getElem? (i := 109) rfl)) rfl, List.forall_mem_cons.mpr  ⟨bs_in (in_tables_1_1 (List.mem_of_getElem? (i := 111) rfl)) rfl, List.forall_mem_cons.mpr  ⟨bs_in (in_tables_1_1 (List.mem_of_getElem? (i := 113) rfl)) rfl, List.forall_mem_cons.mpr  ⟨bs_in (in_tables_1_1 (List.mem_of_getElem? (i := 115) rfl)) rfl, List.forall_mem_cons.mpr  ⟨bs_in (in_tables_1_1 (List.mem_of_getElem? (i := 117) rfl)) rfl, List.forall_mem_cons.mpr  ⟨bs_in (in_tables_1_1 (List.mem_of_getElem? (i := 119) rfl)) rfl, List.forall_mem_cons.mpr  ⟨bs_in (in_tables_1_1 (List.mem_of_getElem? (i := 121) rfl)) rfl, List.forall_mem_cons.mpr  ⟨bs_in (in_tables_1_1 (List.mem_of_getElem? (i := 123) rfl)) rfl, List.forall_mem_cons.mpr  ⟨bs_in (in_tables_1_1 (List.mem_of_getElem? (i := 125) rfl)) rfl, fun _ h => absurd h List.not_mem_nil⟩⟩⟩⟩⟩⟩⟩⟩⟩
theorem n_Types : ∀ a, a < 5 → ∀ b, b < 5 → a ≠ b → (T_Types a).2.1 ≠ (T_Types b).2.1 := by decide +kernel
theorem t_Types_ok : ∀ k, k < 5 → parseFieldDescriptor (T_Types k).2.2.1 = some (t_Types k) := by decide +kernel
theorem in_Types : ∀ w ∈ u_ws R_Types T_Types 5, w ∈ bs_W0 := List.forall_mem_cons.mpr ⟨bs_in (in_tables_1_1 (List.mem_of_getElem? (i := 147) rfl)) rfl, List.forall_mem_cons.mpr  ⟨bs_in (in_tables_1_1 (List.mem_of_getElem? (i := 149) rfl)) rfl, List.forall_mem_cons.mpr  ⟨bs_in (in_tables_1_1 (List.mem_of_getElem? (i := 151) rfl)) rfl, List.forall_mem_cons.mpr  ⟨bs_in (in_tables_1_1 (List.mem_of_getElem? (i := 153) rfl)) rfl, List.forall_mem_cons.mpr  ⟨bs_in (in_tables_1_1 (List.mem_of_getElem? (i := 155) rfl)) rfl, fun _ h => absurd h List.not_mem_nil⟩⟩⟩⟩⟩
theorem n_Objects : ∀ a, a < 5 → ∀ b, b < 5 → a ≠ b → (T_Objects a).2.1 ≠ (T_Objects b).2.1 := by decide +kernel
theorem t_Objects_ok : ∀ k, k < 5 → parseFieldDescriptor (T_Objects k).2.2.1 = some (t_Objects k) := by decide +kernel
theorem in_Objects : ∀ w ∈ u_ws R_Objects T_Objects 5, w ∈ bs_W0 := List.forall_mem_cons.mpr ⟨bs_in (in_tables_1_1 (List.mem_of_getElem? (i := 183) rfl)) rfl, List.forall_mem_cons.mpr  ⟨bs_in (in_tables_1_1 (List.mem_of_getElem? (i := 185) rfl)) rfl, List.forall_mem_cons.mpr  ⟨bs_in (in_tables_1_1 (List.mem_of_getElem? (i := 187) rfl)) rfl, List.forall_mem_cons.mpr  ⟨bs_in (in_tables_1_1 (List.mem_of_getElem? (i := 189) rfl)) rfl, List.forall_mem_cons.mpr  ⟨bs_in (in_tables_1_1 (List.mem_of_getElem? (i := 191) rfl)) rfl, fun _ h => absurd h List.not_mem_nil⟩⟩⟩⟩⟩
theorem n_Rows : ∀ a, a < 1 → ∀ b, b < 1 → a ≠ b → (T_Rows a).2.1 ≠ (T_Rows b).2.1 := by decide +kernel
theorem t_Rows_ok : ∀ k, k < 1 → parseFieldDescriptor (T_Rows k).2.2.1 = some (t_Rows k) := by decide +kernel
theorem in_Rows : ∀ w ∈ u_ws R_Rows T_Rows 1, w ∈ bs_W0 := List.forall_mem_cons.mpr ⟨bs_in (in_tables_1_1 (List.mem_of_getElem? (i := 172) rfl)) rfl, fun _ h => absurd h List.not_mem_nil⟩
theorem n_Looks : ∀ a, a < 6 → ∀ b, b < 6 → a ≠ b → (T_Looks a).2.1 ≠ (T_Looks b).2.1 := by decide +kernel
theorem t_Looks_ok : ∀ k, k < 6 → parseFieldDescriptor (T_Looks k).2.2.1 = some (t_Looks k) := by decide +kernel
theorem in_Looks : ∀ w ∈ u_ws R_Looks T_Looks 6, w ∈ bs_W0 := List.forall_mem_cons.mpr ⟨bs_in (in_tables_1_1 (List.mem_of_getElem? (i := 213) rfl)) rfl, List.forall_mem_cons.mpr  ⟨bs_in (in_tables_1_1 (List.mem_of_getElem? (i := 215) rfl)) rfl, List.forall_mem_cons.mpr  ⟨bs_in (in_tables_1_1 (List.mem_of_getElem? (i := 217) rfl)) rfl, List.forall_mem_cons.mpr  ⟨bs_in (in_tables_1_1 (List.mem_of_getElem? (i := 219) rfl)) rfl, List.forall_mem_cons.mpr  ⟨bs_in (in_tables_1_1 (List.mem_of_getElem? (i := 221) rfl)) rfl, List.forall_mem_cons.mpr  ⟨bs_in (in_tables_1_1 (List.mem_of_getElem? (i := 223) rfl)) rfl, fun _ h => absurd h List.not_mem_nil⟩⟩⟩⟩⟩⟩
theorem n_Looker : ∀ a, a < 8 → ∀ b, b < 8 → a ≠ b → (T_Looker a).2.1 ≠ (T_Looker b).2.1 := by decide +kernel
theorem t_Looker_ok : ∀ k, k < 8 → parseFieldDescriptor (T_Looker k).2.2.1 = some (t_Looker k) := by decide +kernel
theorem in_Looker : ∀ w ∈ u_ws R_Looker T_Looker 8, w ∈ bs_W0 := List.forall_mem_cons.mpr ⟨bs_in (in_tables_1_2 (List.mem_of_getElem? (i := 35) rfl)) rfl, List.forall_mem_cons.mpr  ⟨bs_in (in_tables_1_2 (List.mem_of_getElem? (i := 37) rfl)) rfl, List.forall_mem_cons.mpr  ⟨bs_in (in_tables_1_2 (List.mem_of_getElem? (i := 39) rfl)) rfl, List.forall_mem_cons.mpr  ⟨bs_in (in_tables_1_2 (List.mem_of_getElem? (i := 41) rfl)) rfl, List.forall_mem_cons.mpr  ⟨bs_in (in_tables_1_2 (List.mem_of_getElem? (i := 43) rfl)) rfl, List.forall_mem_cons.mpr  ⟨bs_in (in_tables_1_2 (List.mem_of_getElem? (i := 45) rfl)) rfl, List.forall_mem_cons.mpr  ⟨bs_in (in_tables_1_2 (List.mem_of_getElem? (i := 47) rfl)) rfl, List.forall_mem_cons.mpr  ⟨bs_in (in_tables_1_2 (List.mem_of_getElem? (i := 49) rfl)) rfl, fun _ h => absurd h List.not_mem_nil⟩⟩⟩⟩⟩⟩⟩⟩
theorem n_Operators : ∀ a, a < 1 → ∀ b, b < 1 → a ≠ b → (T_Operators a).2.1 ≠ (T_Operators b).2.1 := by decide +kernel
theorem t_Operators_ok : ∀ k, k < 1 → parseFieldDescriptor (T_Operators k).2.2.1 = some (t_Operators k) := by decide +kernel
theorem in_Operators : ∀ w ∈ u_ws R_Operators T_Operators 1, w ∈ bs_W0 := List.forall_mem_cons.mpr ⟨bs_in (in_tables_1_2 (List.mem_of_getElem? (i := 1) rfl)) rfl, fun _ h => absurd h List.not_mem_nil⟩
theorem n_Meanings : ∀ a, a < 5 → ∀ b, b < 5 → a ≠ b → (T_Meanings a).2.1 ≠ (T_Meanings b).2.1 := by decide +kernel
theorem t_Meanings_ok : ∀ k, k < 5 → parseFieldDescriptor (T_Meanings k).2.2.1 = some (t_Meanings k) := by decide +kernel
theorem in_Meanings : ∀ w ∈ u_ws R_Meanings T_Meanings 5, w ∈ bs_W0 := List.forall_mem_cons.mpr ⟨bs_in (in_tables_1_2 (List.mem_of_getElem? (i := 15) rfl)) rfl, List.forall_mem_cons.mpr  ⟨bs_in (in_tables_1_2 (List.mem_of_getElem? (i := 17) rfl)) rfl, List.forall_mem_cons.mpr  ⟨bs_in (in_tables_1_2 (List.mem_of_getElem? (i := 19) rfl)) rfl, List.forall_mem_cons.mpr  ⟨bs_in (in_tables_1_2 (List.mem_of_getElem? (i := 21) rfl)) rfl, List.forall_mem_cons.mpr  ⟨bs_in (in_tables_1_2 (List.mem_of_getElem? (i := 23) rfl)) rfl, fun _ h => absurd h List.not_mem_nil⟩⟩⟩⟩⟩
theorem n_Model : ∀ a, a < 35 → ∀ b, b < 35 → a ≠ b → (T_Model a).2.1 ≠ (T_Model b).2.1 := by decide +kernel
theorem t_Model_ok : ∀ k, k < 35 → parseFieldDescriptor (T_Model k).2.2.1 = some (t_Model k) := by decide +kernel
theorem in_Model : ∀ w ∈ u_ws R_Model T_Model 35, w ∈ bs_W0 := List.forall_mem_cons.mpr ⟨bs_in (in_tables_1_5 (List.mem_of_getElem? (i := 188) rfl)) rfl, List.forall_mem_cons.mpr  ⟨bs_in (in_tables_1_5 (List.mem_of_getElem? (i := 190) rfl)) rfl, List.forall_mem_cons.mpr  ⟨bs_in (in_tables_1_5 (List.mem_of_getElem? (i := 192) rfl)) rfl, List.forall_mem_cons.mpr  ⟨bs_in (in_tables_1_5 (List.mem_of_getElem? (i := 194) rfl)) rfl, List.forall_mem_cons.mpr  ⟨bs_in (in_tables_1_5 (List.mem_of_getElem? (i := 196) rfl)) rfl, List.forall_mem_cons.mpr  ⟨bs_in (in_tables_1_5 (List.mem_of_getElem? (i := 198) rfl)) rfl, List.forall_mem_cons.mpr  ⟨bs_in (in_tables_1_5 (List.mem_of_getElem? (i := 200) rfl)) rfl, List.forall_mem_cons.mpr  ⟨bs_in (in_tables_1_5 (List.mem_of_getElem? (i := 202) rfl)) rfl, List.forall_mem_cons.mpr  ⟨bs_in (in_tables_1_5 (List.mem_of_getElem? (i := 204) rfl)) rfl, List.forall_mem_cons.mpr  ⟨bs_in (in_tables_1_5 (List.mem_of_getElem? (i := 206) rfl)) rfl, List.forall_mem_cons.mpr  ⟨bs_in (in_tables_1_5 (List.mem_of_getElem? (i := 208) rfl)) rfl, List.forall_mem_cons.mpr  ⟨bs_in (in_tables_1_5 (List.mem_of_getElem? (i := 210) rfl)) rfl, List.forall_mem_cons.mpr  ⟨bs_in (in_tables_1_5 (List.mem_of_getElem? (i := 212) rfl)) rfl, List.forall_mem_cons.mpr  ⟨bs_in (in_tables_1_5 (List.mem_of_getElem? (i := 214) rfl)) rfl, List.forall_mem_cons.mpr  ⟨bs_in (in_tables_1_5 (List.mem_of_getElem? (i := 216) rfl)) rfl, List.forall_mem_cons.mpr  ⟨bs_in (in_tables_1_5 (List.mem_of_getElem? (i := 218) rfl)) rfl, List.forall_mem_cons.mpr  ⟨bs_in (in_tables_1_5 (List.mem_of_getElem? (i := 220) rfl)) rfl, List.forall_mem_cons.mpr  ⟨bs_in (in_tables_1_5 (List.mem_of_getElem? (i := 222) rfl)) rfl, List.forall_mem_cons.mpr  ⟨bs_in (in_tables_1_5 (List.mem_of_getElem? (i := 224) rfl)) rfl, List.forall_mem_cons.mpr  ⟨bs_in (in_tables_1_5 (List.mem_of_getElem? (i := 226) rfl)) rfl, List.forall_mem_cons.mpr  ⟨bs_in (in_tables_1_5 (List.mem_of_getElem? (i := 228) rfl)) rfl, List.forall_mem_cons.mpr  ⟨bs_in (in_tables_1_5 (List.mem_of_getElem? (i := 230) rfl)) rfl, List.forall_mem_cons.mpr  ⟨bs_in (in_tables_1_5 (List.mem_of_getElem? (i := 232) rfl)) rfl, List.forall_mem_cons.mpr  ⟨bs_in (in_tables_1_5 (List.mem_of_getElem? (i := 234) rfl)) rfl, List.forall_mem_cons.mpr  ⟨bs_in (in_tables_1_5 (List.mem_of_getElem? (i := 236) rfl)) rfl, List.forall_mem_cons.mpr  ⟨bs_in (in_tables_1_5 (List.mem_of_getElem? (i := 238) rfl)) rfl, List.forall_mem_cons.mpr  ⟨bs_in (in_tables_1_6 (List.mem_of_getElem? (i := 0) rfl)) rfl, List.forall_mem_cons.mpr  ⟨bs_in (in_tables_1_6 (List.mem_of_getElem? (i := 2) rfl)) rfl, List.forall_mem_cons.mpr  ⟨bs_in (in_tables_1_6 (List.mem_of_getElem? (i := 4) rfl)) rfl, List.forall_mem_cons.mpr  ⟨bs_in (in_tables_1_6 (List.mem_of_getElem? (i := 6) rfl)) rfl, List.forall_mem_cons.mpr  ⟨bs_in (in_tables_1_6 (List.mem_of_getElem? (i := 8) rfl)) rfl, List.forall_mem_cons.mpr  ⟨bs_in (in_tables_1_6 (List.mem_of_getElem? (i := 10) rfl)) rfl, List.forall_mem_cons.mpr  ⟨bs_in (in_tables_1_6 (List.mem_of_getElem? (i := 12) rfl)) rfl, List.forall_mem_cons.mpr  ⟨bs_in (in_tables_1_6 (List.mem_of_getElem? (i := 14) rfl)) rfl, List.forall_mem_cons.mpr  ⟨bs_in (in_tables_1_6 (List.mem_of_getElem? (i := 16) rfl)) rfl, fun _ h => absurd h List.not_mem_nil⟩⟩⟩⟩⟩⟩⟩⟩⟩⟩⟩⟩⟩⟩⟩⟩⟩⟩⟩⟩⟩⟩⟩⟩⟩⟩⟩⟩⟩⟩⟩⟩⟩⟩⟩
