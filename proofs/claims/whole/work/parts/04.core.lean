/-! ===== CORE: a world is a tagged partial memory; a walk's state is a memory, a list of locals, a stack ===== -/
abbrev ai_M : Type := Nat → Option (Nat × va_E)
abbrev ai_G : Type := va_G × (Nat → ClassId) × (Nat → Nat) × Nat
def ai_A (G : ai_G) : Nat → Prop := fun q => G.2.2.2 ≤ q
def ai_T (G : ai_G) : List (ClassId × FieldType) := [(G.2.1 0, .int), (G.2.1 1, .boolean), (G.2.1 2, .object "AlertIndex$Posting"), (G.2.1 3, .object "java/lang/Object"), (G.2.1 4, .long)]
abbrev ai_eI (G : ai_G) (n : Nat) (f : Nat → Int32) : va_E := .inl (G.2.1 0, n, .inl f)
abbrev ai_eZ (G : ai_G) (n : Nat) (f : Nat → Int32) : va_E := .inl (G.2.1 1, n, .inl f)
abbrev ai_eP (G : ai_G) (n : Nat) (f : Nat → Option Nat) : va_E := .inl (G.2.1 2, n, .inr (.inr (.inr (.inr f))))
abbrev ai_eO (G : ai_G) (n : Nat) (f : Nat → Option Nat) : va_E := .inl (G.2.1 3, n, .inr (.inr (.inr (.inr f))))
abbrev ai_eJ (G : ai_G) (n : Nat) (f : Nat → Int64) : va_E := .inl (G.2.1 4, n, .inr (.inl f))
def ai_P (G : ai_G) (M : ai_M) (H : Heap) : Prop := ∃ ws : va_W, va_P G.1 vwCl ws H ∧ va_D (ai_A G) ws ∧ ∀ (a g : Nat) (e : va_E), M a = some (g, e) → ∃ k : Nat, ws[k]? = some (a, e)
def ai_U (M : ai_M) (a g : Nat) (e : va_E) : ai_M := fun q => if q = a then some (g, e) else M q
theorem ai_U_s {M : ai_M} {a g : Nat} {e : va_E} : ai_U M a g e a = some (g, e) := if_pos rfl
theorem ai_U_n {M : ai_M} {a b g : Nat} {e : va_E} (h : b ≠ a) : ai_U M a g e b = M b := if_neg h
theorem ai_ne {M : ai_M} {a b g g' : Nat} {e e' : va_E} (h1 : M a = some (g, e)) (h2 : M b = some (g', e')) (hg : g ≠ g') : a ≠ b := fun z => by
  subst z; rw [h1] at h2; exact hg (by injection h2 with h2; injection h2)
theorem ai_set {G : ai_G} {M : ai_M} {ws : va_W} {H1 : Heap} {a g k : Nat} {e0 e : va_E} (hM : ∀ (a g : Nat) (e : va_E), M a = some (g, e) → ∃ k : Nat, ws[k]? = some (a, e)) (hk : ws[k]? = some (a, e0)) (hP1 : va_P G.1 vwCl (ws.set k (a, e)) H1) (hD1 : va_D (ai_A G) (ws.set k (a, e))) : ai_P G (ai_U M a g e) H1 := by
  refine ⟨_, hP1, hD1, fun b g' e' h => ?_⟩
  have hl := (List.getElem?_eq_some_iff.mp hk).1
  unfold ai_U at h
  by_cases hb : b = a
  · rw [if_pos hb] at h
    cases h
    exact ⟨k, by rw [List.getElem?_set_self hl, hb]⟩
  · rw [if_neg hb] at h
    obtain ⟨j, hj⟩ := hM b g' e' h
    refine ⟨j, ?_⟩
    have hn : k ≠ j := fun z => by subst z; rw [hk] at hj; cases hj; exact hb rfl
    rw [List.getElem?_set_ne hn]
    exact hj
theorem ai_push {G : ai_G} {M : ai_M} {ws : va_W} {H1 : Heap} {q : Nat} (g : Nat) {e : va_E} (hM : ∀ (a g : Nat) (e : va_E), M a = some (g, e) → ∃ k : Nat, ws[k]? = some (a, e)) (hP1 : va_P G.1 vwCl (ws ++ [(q, e)]) H1) (hD1 : va_D (ai_A G) (ws ++ [(q, e)])) : ai_P G (ai_U M q g e) H1 ∧ M q = none := by
  have hlast : (ws ++ [(q, e)])[ws.length]? = some (q, e) := by rw [List.getElem?_append_right (Nat.le_refl _), Nat.sub_self]; rfl
  have hin : ∀ {k : Nat} {x : Nat × va_E}, ws[k]? = some x → (ws ++ [(q, e)])[k]? = some x := fun {k x} h => by rw [List.getElem?_append_left (List.getElem?_eq_some_iff.mp h).1]; exact h
  refine ⟨⟨_, hP1, hD1, fun b g' e' h => ?_⟩, ?_⟩
  · unfold ai_U at h
    by_cases hb : b = q
    · rw [if_pos hb] at h
      cases h
      exact ⟨ws.length, by rw [hlast, hb]⟩
    · rw [if_neg hb] at h
      obtain ⟨j, hj⟩ := hM b g' e' h
      exact ⟨j, hin hj⟩
  · cases hq : M q with
    | none => rfl
    | some x =>
      obtain ⟨g', e'⟩ := x
      obtain ⟨j, hj⟩ := hM q g' e' hq
      have hl := (List.getElem?_eq_some_iff.mp hj).1
      have := hD1.1 j ws.length _ _ (hin hj) hlast rfl
      omega
/-- the locals by their slots: none where nothing is said -/
def ai_L (ls : Array Slot) (L : List (Option Value)) : Prop := ls.size = L.length ∧ lv_wf ls ∧ ∀ (i : Nat) (v : Value), L[i]? = some (some v) → ls[i]? = some (.val v) ∧ v.category = 1
def ai_ps (L : List (Option Value)) : List (Nat × Value) := L.zipIdx.filterMap fun q => q.1.map fun v => (q.2, v)
theorem ai_ps_mem {L : List (Option Value)} {i : Nat} {v : Value} : (i, v) ∈ ai_ps L ↔ L[i]? = some (some v) := by
  unfold ai_ps
  rw [List.mem_filterMap]
  constructor
  · rintro ⟨⟨o, j⟩, h1, h2⟩
    rw [List.mem_zipIdx_iff_getElem?] at h1
    cases o with
    | none => cases h2
    | some w => cases h2; exact h1
  · intro h
    exact ⟨(some v, i), by rw [List.mem_zipIdx_iff_getElem?]; exact h, rfl⟩
theorem ai_has {ls : Array Slot} {L : List (Option Value)} (h : ai_L ls L) : lv_has ls L.length (ai_ps L) := ⟨h.1, h.2.1, fun q hq => (h.2.2 q.1 q.2 (ai_ps_mem.mp hq)).1⟩
theorem ai_put {ls ls' : Array Slot} {L : List (Option Value)} {i : Nat} {v : Value} (hi : i < L.length) (hc : v.category = 1) (h0 : ai_L ls L) (h : lv_has ls' L.length ((i, v) :: (ai_ps L).filter (fun q => !(q.1 == i) && !(q.1 + 1 == i && q.2.category == 2)))) : ai_L ls' (L.set i (some v)) := by
  refine ⟨by rw [List.length_set]; exact h.1, h.2.1, fun j w hj => ?_⟩
  by_cases hij : j = i
  · subst hij
    rw [List.getElem?_set_self hi] at hj
    cases hj
    exact ⟨h.2.2 _ List.mem_cons_self, hc⟩
  · rw [List.getElem?_set_ne (Ne.symm hij)] at hj
    have hw := h0.2.2 j w hj
    refine ⟨h.2.2 (j, w) (List.mem_cons_of_mem _ (List.mem_filter.mpr ⟨ai_ps_mem.mpr hj, ?_⟩)), hw.2⟩
    simp [hij, hw.2]
theorem ai_args : ∀ (av : List Value) (k i : Nat) (v : Value), (∀ x ∈ av, x.category = 1) → av[i]? = some v → (k + i, v) ∈ lv_args k av
  | [], k, i, v, _, h => by simp at h
  | x :: av, k, 0, v, hc, h => by
    simp only [List.getElem?_cons_zero, Option.some.injEq] at h
    subst h
    exact List.mem_cons_self
  | x :: av, k, i + 1, v, hc, h => by
    rw [List.getElem?_cons_succ] at h
    have h1 := ai_args av (k + 1) i v (fun y hy => hc y (List.mem_cons_of_mem _ hy)) h
    show (k + (i + 1), v) ∈ (k, x) :: lv_args (if x.category = 2 then k + 2 else k + 1) av
    rw [if_neg (by rw [hc x List.mem_cons_self]; decide), show k + (i + 1) = k + 1 + i by omega]
    exact List.mem_cons_of_mem _ h1
def ai_L0 (av : List Value) (n : Nat) : List (Option Value) := av.map some ++ List.replicate (n - av.length) none
theorem ai_L0_at {av : List Value} {n i : Nat} {v : Value} (h : (ai_L0 av n)[i]? = some (some v)) : av[i]? = some v := by
  unfold ai_L0 at h
  by_cases hi : i < av.length
  · rw [List.getElem?_append_left (by rw [List.length_map]; exact hi), List.getElem?_map] at h
    cases hx : av[i]? with
    | none => rw [hx] at h; cases h
    | some x => rw [hx] at h; cases h; rfl
  · rw [List.getElem?_append_right (by rw [List.length_map]; omega), List.getElem?_replicate] at h
    split at h <;> cases h
theorem ai_entry {ls : Array Slot} {av : List Value} {n : Nat} (hn : av.length ≤ n) (hc : ∀ x ∈ av, x.category = 1) (h : lv_has ls n (lv_args 0 av)) : ai_L ls (ai_L0 av n) := by
  refine ⟨by rw [h.1]; unfold ai_L0; rw [List.length_append, List.length_map, List.length_replicate]; omega, h.2.1, fun i v hi => ?_⟩
  have h1 := ai_L0_at hi
  have h2 := ai_args av 0 i v hc h1
  rw [Nat.zero_add] at h2
  exact ⟨h.2.2 _ h2, hc v (List.mem_of_getElem? h1)⟩
/-! the surroundings: what lies outside the region and in the tables -/
def ai_Xn : List String := ["java/lang/RuntimeException", "java/lang/Exception"]
def ai_Xw : List Cond := [.castable RX4 "java/lang/Object", .castable RX3 "java/lang/Object", .castable RX5 "java/lang/Object", .castable "java/lang/IndexOutOfBoundsException" "java/lang/IndexOutOfBoundsException", .castable "java/lang/IllegalStateException" "java/lang/IllegalStateException", .castable "java/lang/IllegalArgumentException" "java/lang/IllegalArgumentException"] ++ (vx_atS RX6 44 "java/lang/IllegalStateException" ai_Xn).filter (fun w => !goodWord w) ++ (vx_atS RX6 161 "java/lang/IndexOutOfBoundsException" ai_Xn).filter (fun w => !goodWord w) ++ (vx_atS RX6 108 "java/lang/IllegalArgumentException" ai_Xn).filter (fun w => !goodWord w)
def ai_mv : Cond → Bool
  | .castable _ _ => true
  | .declares _ => true
  | _ => false
theorem ai_mv_tab {w : Cond} (h : ai_mv w = true) : w.onTables = true := by
  cases w <;> first | rfl | (exact absurd h (by simp [ai_mv]))
theorem ai_mv_warm {w : Cond} {s U : State} (h : ai_mv w = true) (hW : s.WarmedH U.vm) (hZ : va_Nw w s) : va_Nw w U := by
  cases w <;> first | exact va_Nw.warmC hW hZ | exact va_Nw.warmD hW hZ | (exact absurd h (by simp [ai_mv]))
theorem ai_Xw_mv : ∀ w ∈ ai_Xw, ai_mv w = true := by decide +kernel
def ai_En : List (String × String) := [("java/lang/IllegalStateException", "java/lang/IndexOutOfBoundsException"), ("java/lang/IllegalArgumentException", "java/lang/IndexOutOfBoundsException"), ("java/lang/IllegalStateException", "java/lang/IllegalArgumentException")]
def ai_Es : List (Nat × String × Nat) := [(42, "there were 20 questions", 10), (61, "the question has 3 products", 11), (78, "the question has no product", 12), (83, "the last product has 4 tests", 13), (106, "a quiet time is 0 to 1000 minutes", 14), (116, "a value is 0 to 63, or NONE", 15), (133, "1 to 1000 minutes pass", 16), (136, "the minute would be above 1000000", 17), (159, "pieces are counted from 0", 18), (168, "there is no such question", 19), (170, "the question was dropped", 20), (172, "a name is 0 to 5", 21), (174, "a range is from 0 to 63, its low not above its high", 22)]
def ai_Ew (G : ai_G) (U : State) : Prop := va_AO "java/lang/Object" U ∧ va_AO "AlertIndex$Posting" U ∧ va_Mi "[Ljava/lang/Object;" (G.2.2.1 1) U ∧ va_Dc U ∧ va_Nw (.methodLinkNest RX1 17 yX6_levelOfPiece "AlertIndex") U ∧ va_Nw (.methodLinkNest RX1 34 yX6_isValue "AlertIndex") U ∧
  va_Fw RJx4a65c ⟨"java/util/List", "size", "()I"⟩ yJx4a65c_size_8abf5 U ∧ va_Fw RJx4a65c ⟨"java/util/List", "isEmpty", "()Z"⟩ yJx4a65c_isEmpty_aae02 U ∧ va_Fw RJx4a65c ⟨"java/util/List", "get", "(I)Ljava/lang/Object;"⟩ yJx4a65c_get_915e3 U ∧ va_Fw RJx4a65c ⟨"java/util/List", "add", "(Ljava/lang/Object;)Z"⟩ yJx4a65c_add_9ea2d U ∧
  (∀ w ∈ ai_Xw, va_Nw w U) ∧ (∀ q ∈ ai_En, va_Nc q.1 q.2 U) ∧ ∀ q ∈ ai_Es, vk_R "AlertIndex" q.1 q.2.1 (G.2.2.1 q.2.2) U
def ai_Eh (G : ai_G) (U : State) (H : Heap) : Prop := va_Z "java/util/ArrayList" "DEFAULTCAPACITY_EMPTY_ELEMENTDATA" "[Ljava/lang/Object;" (.ref (G.2.2.1 0)) (ai_A G) U H ∧ va_T (.object "java/lang/Object") (G.2.2.1 0) 0 (fun _ => .null) (ai_A G) U H ∧ vx_Zq Bundle.tN "UNASSIGNED_STACK" Bundle.steD (ai_A G) U H ∧ vx_Zq Bundle.tN "SUPPRESSED_SENTINEL" Bundle.listD (ai_A G) U H
def ai_E (G : ai_G) (U : State) : Prop := ai_Ew G U ∧ ai_Eh G U U.heap
theorem ai_Ew.moved {G : ai_G} {s U : State} (hW : s.WarmedH U.vm) (h : ai_Ew G s) : ai_Ew G U := by
  obtain ⟨h1, h2, h3, h4, h5, h6, h7, h8, h9, h10, h11, h12, h13⟩ := h
  have hn : ("java/util/List" : String) ≠ "java/lang/invoke/MethodHandle" ∧ ("java/util/List" : String) ≠ "java/lang/invoke/VarHandle" := by decide +kernel
  exact ⟨va_AO.moved hW.alike h1, va_AO.moved hW.alike h2, va_Mi.moved hW.alike h3, va_Dc.moved hW.alike h4, va_Nw.warmM hW h5, va_Nw.warmM hW h6, va_Fw.moved hn hW.alike h7, va_Fw.moved hn hW.alike h8, va_Fw.moved hn hW.alike h9, va_Fw.moved hn hW.alike h10, fun w hw => ai_mv_warm (ai_Xw_mv w hw) hW (h11 w hw), fun q hq => va_Nc.moved hW.alike (h12 q hq), fun q hq => vk_R.warm hW (h13 q hq)⟩
theorem ai_Eh.moved {G : ai_G} {s U : State} {H H1 : Heap} (hvm : s.vm.Alike U.vm) (hq : ∀ q : Nat, q < H.size → ¬ ai_A G q → H1[q]? = H[q]?) (h : ai_Eh G s H) : ai_Eh G U H1 := by
  obtain ⟨h1, h2, h3, h4⟩ := h
  exact ⟨va_Z.moved hvm (h1.kept hq), va_T.moved hvm (h2.kept hq), vx_Zq.moved hvm (h3.kept hq), vx_Zq.moved hvm (h4.kept hq)⟩
theorem ai_E.moved {G : ai_G} {s U : State} (hW : s.WarmedH U.vm) (hq : ∀ q : Nat, q < s.heap.size → ¬ ai_A G q → U.heap[q]? = s.heap[q]?) (h : ai_E G s) : ai_E G U := ⟨h.1.moved hW, h.2.moved hW.alike hq⟩
/-! contracts -/
def ai_Pre (G : ai_G) (M : ai_M) (U : State) : Prop := va_K G.1 vwCl (ai_T G) U ∧ ai_P G M U.heap ∧ ai_E G U ∧ G.2.2.2 ≤ U.heap.size
def ai_Q (G : ai_G) (post : Option Value → ai_M → Prop) : Array Value → State → Outcome → State → Prop := fun _ st oc t => (∃ (r : Option Value) (M' : ai_M), oc = .returned r ∧ post r M' ∧ ai_P G M' t.heap) ∧ va_F (ai_A G) st t
def ai_X (G : ai_G) (px : String → ai_M → Prop) : String → State → State → Prop := fun E st t => (∃ M' : ai_M, px E M' ∧ ai_P G M' t.heap) ∧ va_F (ai_A G) st t
def ai_C (l : Launch) (y : MethodName) (ws : List Cond) (rm : Room) (mc ms : Nat) (G : ai_G) (M : ai_M) (av : List Value) (post : Option Value → ai_M → Prop) : Prop := Met l y ws rm (va_Pc av (ai_Pre G M)) (ai_Q G post) mc ms (ai_A G)
def ai_D (l : Launch) (y : MethodName) (ws : List Cond) (rm : Room) (mc ms : Nat) (G : ai_G) (M : ai_M) (av : List Value) (post : Option Value → ai_M → Prop) (px : String → ai_M → Prop) : Prop := vx_Met l y ws rm (va_Pc av (ai_Pre G M)) (ai_Q G post) (ai_X G px) mc ms (ai_A G)
theorem ai_Pre.calling {G : ai_G} {M : ai_M} {U : State} {g : JFrame} {mk : MethodId} {a : Array Value} (h : ai_Pre G M U) : ai_Pre G M (U.calling g mk a) := by
  obtain ⟨h1, h2, h3, h4⟩ := h
  exact ⟨va_K.moved (u := U) (U := U.calling g mk a) (Vm.Alike.refl U.vm) h1, h2, ai_E.moved (s := U) (U := U.calling g mk a) (State.WarmedH.refl U) (fun _ _ _ => rfl) h3, h4⟩
theorem ai_blind {G : ai_G} {M : ai_M} {av : List Value} : FrameBlind (va_Pc av (ai_Pre G M)) := fun a U g mk h => ⟨h.1, h.2.calling⟩
/-! the walk -/
section AIY
variable {p : Program} {l : Launch} {e : Env} {R : Room} {s : State} {m : MethodId} {args : Array Value} {below : List Frame} {meth : Method} {c : Code} {G : ai_G} {Q : State → Prop} {M : ai_M} {cells slots : Nat} {L : List (Option Value)} {pc : Nat} {st : List Value} {cc : ByteArray} {nL : Nat} {ws : List Cond} {own : String} {ret : Option FieldType}
def ai_B (p : Program) (l : Launch) (e : Env) (R : Room) (s : State) (m : MethodId) (args : Array Value) (below : List Frame) (meth : Method) (c : Code) (G : ai_G) (cc : ByteArray) (nL : Nat) (ws : List Cond) (own : String) (ret : Option FieldType) : Prop :=
  p.tables.exec = Jvm.exec ∧ c.code = cc ∧ meth.sig.returnType = ret ∧ c.maxLocals = nL ∧ s.vm.findClass own = some m.cls ∧ (∀ w ∈ ws, w.before args s = true) ∧ meth.locks = false ∧ va_K G.1 vwCl (ai_T G) s ∧ ai_E G s ∧ G.2.2.2 ≤ s.heap.size
def ai_Y (p : Program) (l : Launch) (e : Env) (R : Room) (s : State) (m : MethodId) (args : Array Value) (below : List Frame) (meth : Method) (c : Code) (G : ai_G) (Q : State → Prop) (M : ai_M) (cells slots : Nat) (L : List (Option Value)) (pc : Nat) (st : List Value) : Prop :=
  ∀ (H : Heap) (locs : List Loc) (ls : Array Slot), L.length = c.maxLocals → ai_P G M H → va_S (ai_A G) s.heap H locs → ai_L ls L → W p l e R s m args below meth c H locs cells slots Q (F0 m pc ls st)
theorem ai_top (B : ai_B p l e R s m args below meth c G cc nL ws own ret) : ∀ q : Nat, s.heap.size ≤ q → ai_A G q := fun q h => Nat.le_trans B.2.2.2.2.2.2.2.2.2 h
theorem ai_room {st : List Value} {ls : Array Slot} {rest : List Value} (h : (st.map fun v => v.category).sum ≤ 8) : 2 * (F0 m pc ls rest).monitorRoom + (st.map fun v => v.category).sum ≤ 8 := lv_room h

theorem y_iconst (B : ai_B p l e R s m args below meth c G cc nL ws own ret) {n : Int} (v : Int32) (hd : decode cc pc = .ok (.iconst n, 1)) (hv : Int32.ofInt n = v) (k : ai_Y p l e R s m args below meth c G Q M cells slots L (pc + 1) (.int v :: st)) : ai_Y p l e R s m args below meth c G Q M cells slots L pc st :=
  fun H locs ls hl hP hS hL => lv_iconst B.1 B.2.1 hd hv (k H locs ls hl hP hS hL)
theorem y_bipush (B : ai_B p l e R s m args below meth c G cc nL ws own ret) {n : Int} (v : Int32) (hd : decode cc pc = .ok (.bipush n, 2)) (hv : (Int8.ofInt n).toInt32 = v) (k : ai_Y p l e R s m args below meth c G Q M cells slots L (pc + 2) (.int v :: st)) : ai_Y p l e R s m args below meth c G Q M cells slots L pc st :=
  fun H locs ls hl hP hS hL => lv_bipush B.1 B.2.1 hd hv (k H locs ls hl hP hS hL)
theorem y_sipush (B : ai_B p l e R s m args below meth c G cc nL ws own ret) {n : Int} (v : Int32) (hd : decode cc pc = .ok (.sipush n, 3)) (hv : (Int16.ofInt n).toInt32 = v) (k : ai_Y p l e R s m args below meth c G Q M cells slots L (pc + 3) (.int v :: st)) : ai_Y p l e R s m args below meth c G Q M cells slots L pc st :=
  fun H locs ls hl hP hS hL => lv_sipush B.1 B.2.1 hd hv (k H locs ls hl hP hS hL)
theorem y_ldc (B : ai_B p l e R s m args below meth c G cc nL ws own ret) {ix : Nat} (v : Int32) (hc : (Cond.constant own ix v).before args s = true) (hd : decode cc pc = .ok (.ldc ix, 2)) (k : ai_Y p l e R s m args below meth c G Q M cells slots L (pc + 2) (.int v :: st)) : ai_Y p l e R s m args below meth c G Q M cells slots L pc st :=
  fun H locs ls hl hP hS hL => lv_ldc B.1 B.2.1 B.2.2.2.2.1 hc hd (k H locs ls hl hP hS hL)
theorem y_null (B : ai_B p l e R s m args below meth c G cc nL ws own ret) (hd : decode cc pc = .ok (.aconst_null, 1)) (k : ai_Y p l e R s m args below meth c G Q M cells slots L (pc + 1) (.null :: st)) : ai_Y p l e R s m args below meth c G Q M cells slots L pc st :=
  fun H locs ls hl hP hS hL => lv_null B.1 B.2.1 hd (k H locs ls hl hP hS hL)
theorem y_iload_n (B : ai_B p l e R s m args below meth c G cc nL ws own ret) {k0 : Fin 4} {x : Int32} (hd : decode cc pc = .ok (.iload_n k0, 1)) (hx : L[(k0 : Nat)]? = some (some (.int x))) (k : ai_Y p l e R s m args below meth c G Q M cells slots L (pc + 1) (.int x :: st)) : ai_Y p l e R s m args below meth c G Q M cells slots L pc st :=
  fun H locs ls hl hP hS hL => lv_iload_n B.1 B.2.1 hd rfl (hL.2.2 _ _ hx).1 (k H locs ls hl hP hS hL)
theorem y_iload (B : ai_B p l e R s m args below meth c G cc nL ws own ret) {i : Nat} {x : Int32} (hd : decode cc pc = .ok (.iload i, 2)) (hx : L[i]? = some (some (.int x))) (k : ai_Y p l e R s m args below meth c G Q M cells slots L (pc + 2) (.int x :: st)) : ai_Y p l e R s m args below meth c G Q M cells slots L pc st :=
  fun H locs ls hl hP hS hL => lv_iload B.1 B.2.1 hd (hL.2.2 _ _ hx).1 (k H locs ls hl hP hS hL)
theorem y_aload_n (B : ai_B p l e R s m args below meth c G cc nL ws own ret) {k0 : Fin 4} {x : Nat} (hd : decode cc pc = .ok (.aload_n k0, 1)) (hx : L[(k0 : Nat)]? = some (some (.ref x))) (k : ai_Y p l e R s m args below meth c G Q M cells slots L (pc + 1) (.ref x :: st)) : ai_Y p l e R s m args below meth c G Q M cells slots L pc st :=
  fun H locs ls hl hP hS hL => lv_aload_n B.1 B.2.1 hd rfl (hL.2.2 _ _ hx).1 (k H locs ls hl hP hS hL)
theorem y_aload (B : ai_B p l e R s m args below meth c G cc nL ws own ret) {i : Nat} {x : Nat} (hd : decode cc pc = .ok (.aload i, 2)) (hx : L[i]? = some (some (.ref x))) (k : ai_Y p l e R s m args below meth c G Q M cells slots L (pc + 2) (.ref x :: st)) : ai_Y p l e R s m args below meth c G Q M cells slots L pc st :=
  fun H locs ls hl hP hS hL => lv_aload B.1 B.2.1 hd (hL.2.2 _ _ hx).1 (k H locs ls hl hP hS hL)
theorem y_aloadN_n (B : ai_B p l e R s m args below meth c G cc nL ws own ret) {k0 : Fin 4} (hd : decode cc pc = .ok (.aload_n k0, 1)) (hx : L[(k0 : Nat)]? = some (some .null)) (k : ai_Y p l e R s m args below meth c G Q M cells slots L (pc + 1) (.null :: st)) : ai_Y p l e R s m args below meth c G Q M cells slots L pc st :=
  fun H locs ls hl hP hS hL => lv_aload_nN B.1 B.2.1 hd rfl (hL.2.2 _ _ hx).1 (k H locs ls hl hP hS hL)
theorem y_aloadN (B : ai_B p l e R s m args below meth c G cc nL ws own ret) {i : Nat} (hd : decode cc pc = .ok (.aload i, 2)) (hx : L[i]? = some (some .null)) (k : ai_Y p l e R s m args below meth c G Q M cells slots L (pc + 2) (.null :: st)) : ai_Y p l e R s m args below meth c G Q M cells slots L pc st :=
  fun H locs ls hl hP hS hL => lv_aloadN B.1 B.2.1 hd (hL.2.2 _ _ hx).1 (k H locs ls hl hP hS hL)
theorem y_istore_n (B : ai_B p l e R s m args below meth c G cc nL ws own ret) {k0 : Fin 4} {x : Int32} (hd : decode cc pc = .ok (.istore_n k0, 1)) (hi : (k0 : Nat) < L.length) (k : ai_Y p l e R s m args below meth c G Q M cells slots (L.set (k0 : Nat) (some (.int x))) (pc + 1) st) : ai_Y p l e R s m args below meth c G Q M cells slots L pc (.int x :: st) :=
  fun H locs ls hl hP hS hL => lv_istore_n (nL := L.length) B.1 B.2.1 hd rfl (ai_has hL) hi rfl (fun ls1 hl1 => k H locs ls1 (by rw [List.length_set]; exact hl) hP hS (ai_put hi rfl hL hl1))
theorem y_istore (B : ai_B p l e R s m args below meth c G cc nL ws own ret) {i : Nat} {x : Int32} (hd : decode cc pc = .ok (.istore i, 2)) (hi : i < L.length) (k : ai_Y p l e R s m args below meth c G Q M cells slots (L.set i (some (.int x))) (pc + 2) st) : ai_Y p l e R s m args below meth c G Q M cells slots L pc (.int x :: st) :=
  fun H locs ls hl hP hS hL => lv_istore (nL := L.length) B.1 B.2.1 hd (ai_has hL) hi rfl (fun ls1 hl1 => k H locs ls1 (by rw [List.length_set]; exact hl) hP hS (ai_put hi rfl hL hl1))
theorem y_astore_n (B : ai_B p l e R s m args below meth c G cc nL ws own ret) {k0 : Fin 4} {x : Nat} (hd : decode cc pc = .ok (.astore_n k0, 1)) (hi : (k0 : Nat) < L.length) (k : ai_Y p l e R s m args below meth c G Q M cells slots (L.set (k0 : Nat) (some (.ref x))) (pc + 1) st) : ai_Y p l e R s m args below meth c G Q M cells slots L pc (.ref x :: st) :=
  fun H locs ls hl hP hS hL => lv_astore_n (nL := L.length) B.1 B.2.1 hd rfl (ai_has hL) hi rfl (fun ls1 hl1 => k H locs ls1 (by rw [List.length_set]; exact hl) hP hS (ai_put hi rfl hL hl1))
theorem y_astore (B : ai_B p l e R s m args below meth c G cc nL ws own ret) {i : Nat} {x : Nat} (hd : decode cc pc = .ok (.astore i, 2)) (hi : i < L.length) (k : ai_Y p l e R s m args below meth c G Q M cells slots (L.set i (some (.ref x))) (pc + 2) st) : ai_Y p l e R s m args below meth c G Q M cells slots L pc (.ref x :: st) :=
  fun H locs ls hl hP hS hL => lv_astore (nL := L.length) B.1 B.2.1 hd (ai_has hL) hi rfl (fun ls1 hl1 => k H locs ls1 (by rw [List.length_set]; exact hl) hP hS (ai_put hi rfl hL hl1))
theorem y_astoreN_n (B : ai_B p l e R s m args below meth c G cc nL ws own ret) {k0 : Fin 4}  (hd : decode cc pc = .ok (.astore_n k0, 1)) (hi : (k0 : Nat) < L.length) (k : ai_Y p l e R s m args below meth c G Q M cells slots (L.set (k0 : Nat) (some .null)) (pc + 1) st) : ai_Y p l e R s m args below meth c G Q M cells slots L pc (.null :: st) :=
  fun H locs ls hl hP hS hL => lv_astore_nN (nL := L.length) B.1 B.2.1 hd rfl (ai_has hL) hi rfl (fun ls1 hl1 => k H locs ls1 (by rw [List.length_set]; exact hl) hP hS (ai_put hi rfl hL hl1))
theorem y_astoreN (B : ai_B p l e R s m args below meth c G cc nL ws own ret) {i : Nat}  (hd : decode cc pc = .ok (.astore i, 2)) (hi : i < L.length) (k : ai_Y p l e R s m args below meth c G Q M cells slots (L.set i (some .null)) (pc + 2) st) : ai_Y p l e R s m args below meth c G Q M cells slots L pc (.null :: st) :=
  fun H locs ls hl hP hS hL => lv_astoreN (nL := L.length) B.1 B.2.1 hd (ai_has hL) hi rfl (fun ls1 hl1 => k H locs ls1 (by rw [List.length_set]; exact hl) hP hS (ai_put hi rfl hL hl1))
theorem ai_idx {L : List (Option Value)} {i : Nat} {v : Value} (h : L[i]? = some (some v)) : ∃ k : Nat, (ai_ps L)[k]? = some (i, v) := List.getElem?_of_mem (ai_ps_mem.mpr h)
theorem y_iinc (B : ai_B p l e R s m args below meth c G cc nL ws own ret) {i : Nat} {n : Int} {x : Int32} (v : Int32) (hd : decode cc pc = .ok (.iinc i n, 3)) (hx : L[i]? = some (some (.int x))) (hv : x + Int32.ofInt n = v) (k : ai_Y p l e R s m args below meth c G Q M cells slots (L.set i (some (.int v))) (pc + 3) st) : ai_Y p l e R s m args below meth c G Q M cells slots L pc st := by
  intro H locs ls hl hP hS hL
  obtain ⟨j, hj⟩ := ai_idx hx
  have hi : i < L.length := (List.getElem?_eq_some_iff.mp hx).1
  exact lv_iinc (nL := L.length) B.1 B.2.1 hd (ai_has hL) hj hv hi rfl (fun ls1 hl1 => k H locs ls1 (by rw [List.length_set]; exact hl) hP hS (ai_put hi rfl hL hl1))
theorem y_iadd (B : ai_B p l e R s m args below meth c G cc nL ws own ret) {x y : Int32} (v : Int32) (hd : decode cc pc = .ok (.iadd, 1)) (hv : x + y = v) (k : ai_Y p l e R s m args below meth c G Q M cells slots L (pc + 1) (.int v :: st)) : ai_Y p l e R s m args below meth c G Q M cells slots L pc (.int y :: .int x :: st) :=
  fun H locs ls hl hP hS hL => lv_iadd B.1 B.2.1 hd (by rw [hv]; exact k H locs ls hl hP hS hL)
theorem y_isub (B : ai_B p l e R s m args below meth c G cc nL ws own ret) {x y : Int32} (v : Int32) (hd : decode cc pc = .ok (.isub, 1)) (hv : x - y = v) (k : ai_Y p l e R s m args below meth c G Q M cells slots L (pc + 1) (.int v :: st)) : ai_Y p l e R s m args below meth c G Q M cells slots L pc (.int y :: .int x :: st) :=
  fun H locs ls hl hP hS hL => lv_isub B.1 B.2.1 hd (by rw [hv]; exact k H locs ls hl hP hS hL)
theorem y_imul (B : ai_B p l e R s m args below meth c G cc nL ws own ret) {x y : Int32} (v : Int32) (hd : decode cc pc = .ok (.imul, 1)) (hv : x * y = v) (k : ai_Y p l e R s m args below meth c G Q M cells slots L (pc + 1) (.int v :: st)) : ai_Y p l e R s m args below meth c G Q M cells slots L pc (.int y :: .int x :: st) :=
  fun H locs ls hl hP hS hL => lv_imul B.1 B.2.1 hd (by rw [hv]; exact k H locs ls hl hP hS hL)
theorem y_iand (B : ai_B p l e R s m args below meth c G cc nL ws own ret) {x y : Int32} (v : Int32) (hd : decode cc pc = .ok (.iand, 1)) (hv : x &&& y = v) (k : ai_Y p l e R s m args below meth c G Q M cells slots L (pc + 1) (.int v :: st)) : ai_Y p l e R s m args below meth c G Q M cells slots L pc (.int y :: .int x :: st) :=
  fun H locs ls hl hP hS hL => lv_iand B.1 B.2.1 hd (by rw [hv]; exact k H locs ls hl hP hS hL)
theorem y_ior (B : ai_B p l e R s m args below meth c G cc nL ws own ret) {x y : Int32} (v : Int32) (hd : decode cc pc = .ok (.ior, 1)) (hv : x ||| y = v) (k : ai_Y p l e R s m args below meth c G Q M cells slots L (pc + 1) (.int v :: st)) : ai_Y p l e R s m args below meth c G Q M cells slots L pc (.int y :: .int x :: st) :=
  fun H locs ls hl hP hS hL => lv_ior B.1 B.2.1 hd (by rw [hv]; exact k H locs ls hl hP hS hL)
theorem y_ixor (B : ai_B p l e R s m args below meth c G cc nL ws own ret) {x y : Int32} (v : Int32) (hd : decode cc pc = .ok (.ixor, 1)) (hv : x ^^^ y = v) (k : ai_Y p l e R s m args below meth c G Q M cells slots L (pc + 1) (.int v :: st)) : ai_Y p l e R s m args below meth c G Q M cells slots L pc (.int y :: .int x :: st) :=
  fun H locs ls hl hP hS hL => lv_ixor B.1 B.2.1 hd (by rw [hv]; exact k H locs ls hl hP hS hL)
theorem y_ishl (B : ai_B p l e R s m args below meth c G cc nL ws own ret) {x y : Int32} (v : Int32) (hd : decode cc pc = .ok (.ishl, 1)) (hv : x <<< (y &&& 31) = v) (k : ai_Y p l e R s m args below meth c G Q M cells slots L (pc + 1) (.int v :: st)) : ai_Y p l e R s m args below meth c G Q M cells slots L pc (.int y :: .int x :: st) :=
  fun H locs ls hl hP hS hL => lv_ishl B.1 B.2.1 hd (by rw [hv]; exact k H locs ls hl hP hS hL)
theorem y_ishr (B : ai_B p l e R s m args below meth c G cc nL ws own ret) {x y : Int32} (v : Int32) (hd : decode cc pc = .ok (.ishr, 1)) (hv : x >>> (y &&& 31) = v) (k : ai_Y p l e R s m args below meth c G Q M cells slots L (pc + 1) (.int v :: st)) : ai_Y p l e R s m args below meth c G Q M cells slots L pc (.int y :: .int x :: st) :=
  fun H locs ls hl hP hS hL => lv_ishr B.1 B.2.1 hd (by rw [hv]; exact k H locs ls hl hP hS hL)
theorem y_irem (B : ai_B p l e R s m args below meth c G cc nL ws own ret) {x y : Int32} (v : Int32) (hd : decode cc pc = .ok (.irem, 1)) (hne : ¬ y = 0) (hv : x - x / y * y = v) (k : ai_Y p l e R s m args below meth c G Q M cells slots L (pc + 1) (.int v :: st)) : ai_Y p l e R s m args below meth c G Q M cells slots L pc (.int y :: .int x :: st) :=
  fun H locs ls hl hP hS hL => lv_irem B.1 B.2.1 hd hne (by rw [hv]; exact k H locs ls hl hP hS hL)
theorem y_i2l (B : ai_B p l e R s m args below meth c G cc nL ws own ret) {x : Int32} (hd : decode cc pc = .ok (.i2l, 1)) (k : ai_Y p l e R s m args below meth c G Q M cells slots L (pc + 1) (.long x.toInt64 :: st)) : ai_Y p l e R s m args below meth c G Q M cells slots L pc (.int x :: st) :=
  fun H locs ls hl hP hS hL => lv_i2l B.1 B.2.1 hd rfl (k H locs ls hl hP hS hL)
theorem y_lcmp (B : ai_B p l e R s m args below meth c G cc nL ws own ret) {x y : Int64} (hd : decode cc pc = .ok (.lcmp, 1)) (k : ai_Y p l e R s m args below meth c G Q M cells slots L (pc + 1) (.int (lg_cmp x y) :: st)) : ai_Y p l e R s m args below meth c G Q M cells slots L pc (.long y :: .long x :: st) :=
  fun H locs ls hl hP hS hL => W.lcmp B.1 B.2.1 hd (k H locs ls hl hP hS hL)
theorem y_lconst (B : ai_B p l e R s m args below meth c G cc nL ws own ret) {n : Fin 2} (v : Int64) (hd : decode cc pc = .ok (.lconst n, 1)) (hv : Int64.ofNat n.val = v) (k : ai_Y p l e R s m args below meth c G Q M cells slots L (pc + 1) (.long v :: st)) : ai_Y p l e R s m args below meth c G Q M cells slots L pc st :=
  fun H locs ls hl hP hS hL => lv_lconst B.1 B.2.1 hd hv (k H locs ls hl hP hS hL)
theorem y_dup (B : ai_B p l e R s m args below meth c G cc nL ws own ret) {v : Value} (hd : decode cc pc = .ok (.dup, 1)) (hc : v.category = 1) (k : ai_Y p l e R s m args below meth c G Q M cells slots L (pc + 1) (v :: v :: st)) : ai_Y p l e R s m args below meth c G Q M cells slots L pc (v :: st) :=
  fun H locs ls hl hP hS hL => lv_dup B.1 B.2.1 hd hc (k H locs ls hl hP hS hL)
theorem y_dup_x1 (B : ai_B p l e R s m args below meth c G cc nL ws own ret) {v u : Value} (hd : decode cc pc = .ok (.dup_x1, 1)) (hc : v.category = 1) (hu : u.category = 1) (k : ai_Y p l e R s m args below meth c G Q M cells slots L (pc + 1) (v :: u :: v :: st)) : ai_Y p l e R s m args below meth c G Q M cells slots L pc (v :: u :: st) :=
  fun H locs ls hl hP hS hL => lv_dup_x1 B.1 B.2.1 hd hc hu (k H locs ls hl hP hS hL)
theorem y_dup2 (B : ai_B p l e R s m args below meth c G cc nL ws own ret) {v u : Value} (hd : decode cc pc = .ok (.dup2, 1)) (hc : v.category = 1) (hu : u.category = 1) (k : ai_Y p l e R s m args below meth c G Q M cells slots L (pc + 1) (v :: u :: v :: u :: st)) : ai_Y p l e R s m args below meth c G Q M cells slots L pc (v :: u :: st) :=
  fun H locs ls hl hP hS hL => lv_dup2_11 B.1 B.2.1 hd hc hu (k H locs ls hl hP hS hL)
theorem y_pop (B : ai_B p l e R s m args below meth c G cc nL ws own ret) {v : Value} (hd : decode cc pc = .ok (.pop, 1)) (hc : v.category = 1) (k : ai_Y p l e R s m args below meth c G Q M cells slots L (pc + 1) st) : ai_Y p l e R s m args below meth c G Q M cells slots L pc (v :: st) :=
  fun H locs ls hl hP hS hL => lv_pop B.1 B.2.1 hd hc (k H locs ls hl hP hS hL)
theorem y_icmp_eq (B : ai_B p l e R s m args below meth c G cc nL ws own ret) {x y : Int32} {off : Int} (tgt : Nat) (hd : decode cc pc = .ok (.if_icmp .eq off, 3)) (ht : (pc : Int) + off = (tgt : Int)) (kt : x = y → ai_Y p l e R s m args below meth c G Q M cells slots L tgt st) (kf : ¬ x = y → ai_Y p l e R s m args below meth c G Q M cells slots L (pc + 3) st) : ai_Y p l e R s m args below meth c G Q M cells slots L pc (.int y :: .int x :: st) :=
  fun H locs ls hl hP hS hL => lv_icmp_eq B.1 B.2.1 hd ht (fun h => kt h H locs ls hl hP hS hL) (fun h => kf h H locs ls hl hP hS hL)
theorem y_if_eq (B : ai_B p l e R s m args below meth c G cc nL ws own ret) {x : Int32} {off : Int} (tgt : Nat) (hd : decode cc pc = .ok (.ifCond .eq off, 3)) (ht : (pc : Int) + off = (tgt : Int)) (kt : x = 0 → ai_Y p l e R s m args below meth c G Q M cells slots L tgt st) (kf : ¬ x = 0 → ai_Y p l e R s m args below meth c G Q M cells slots L (pc + 3) st) : ai_Y p l e R s m args below meth c G Q M cells slots L pc (.int x :: st) :=
  fun H locs ls hl hP hS hL => lv_if_eq B.1 B.2.1 hd ht (fun h => kt h H locs ls hl hP hS hL) (fun h => kf h H locs ls hl hP hS hL)
theorem y_icmp_ne (B : ai_B p l e R s m args below meth c G cc nL ws own ret) {x y : Int32} {off : Int} (tgt : Nat) (hd : decode cc pc = .ok (.if_icmp .ne off, 3)) (ht : (pc : Int) + off = (tgt : Int)) (kt : ¬ x = y → ai_Y p l e R s m args below meth c G Q M cells slots L tgt st) (kf : x = y → ai_Y p l e R s m args below meth c G Q M cells slots L (pc + 3) st) : ai_Y p l e R s m args below meth c G Q M cells slots L pc (.int y :: .int x :: st) :=
  fun H locs ls hl hP hS hL => lv_icmp_ne B.1 B.2.1 hd ht (fun h => kt h H locs ls hl hP hS hL) (fun h => kf h H locs ls hl hP hS hL)
theorem y_if_ne (B : ai_B p l e R s m args below meth c G cc nL ws own ret) {x : Int32} {off : Int} (tgt : Nat) (hd : decode cc pc = .ok (.ifCond .ne off, 3)) (ht : (pc : Int) + off = (tgt : Int)) (kt : ¬ x = 0 → ai_Y p l e R s m args below meth c G Q M cells slots L tgt st) (kf : x = 0 → ai_Y p l e R s m args below meth c G Q M cells slots L (pc + 3) st) : ai_Y p l e R s m args below meth c G Q M cells slots L pc (.int x :: st) :=
  fun H locs ls hl hP hS hL => lv_if_ne B.1 B.2.1 hd ht (fun h => kt h H locs ls hl hP hS hL) (fun h => kf h H locs ls hl hP hS hL)
theorem y_icmp_lt (B : ai_B p l e R s m args below meth c G cc nL ws own ret) {x y : Int32} {off : Int} (tgt : Nat) (hd : decode cc pc = .ok (.if_icmp .lt off, 3)) (ht : (pc : Int) + off = (tgt : Int)) (kt : x < y → ai_Y p l e R s m args below meth c G Q M cells slots L tgt st) (kf : ¬ x < y → ai_Y p l e R s m args below meth c G Q M cells slots L (pc + 3) st) : ai_Y p l e R s m args below meth c G Q M cells slots L pc (.int y :: .int x :: st) :=
  fun H locs ls hl hP hS hL => lv_icmp_lt B.1 B.2.1 hd ht (fun h => kt h H locs ls hl hP hS hL) (fun h => kf h H locs ls hl hP hS hL)
theorem y_if_lt (B : ai_B p l e R s m args below meth c G cc nL ws own ret) {x : Int32} {off : Int} (tgt : Nat) (hd : decode cc pc = .ok (.ifCond .lt off, 3)) (ht : (pc : Int) + off = (tgt : Int)) (kt : x < 0 → ai_Y p l e R s m args below meth c G Q M cells slots L tgt st) (kf : ¬ x < 0 → ai_Y p l e R s m args below meth c G Q M cells slots L (pc + 3) st) : ai_Y p l e R s m args below meth c G Q M cells slots L pc (.int x :: st) :=
  fun H locs ls hl hP hS hL => lv_if_lt B.1 B.2.1 hd ht (fun h => kt h H locs ls hl hP hS hL) (fun h => kf h H locs ls hl hP hS hL)
theorem y_icmp_ge (B : ai_B p l e R s m args below meth c G cc nL ws own ret) {x y : Int32} {off : Int} (tgt : Nat) (hd : decode cc pc = .ok (.if_icmp .ge off, 3)) (ht : (pc : Int) + off = (tgt : Int)) (kt : y ≤ x → ai_Y p l e R s m args below meth c G Q M cells slots L tgt st) (kf : ¬ y ≤ x → ai_Y p l e R s m args below meth c G Q M cells slots L (pc + 3) st) : ai_Y p l e R s m args below meth c G Q M cells slots L pc (.int y :: .int x :: st) :=
  fun H locs ls hl hP hS hL => lv_icmp_ge B.1 B.2.1 hd ht (fun h => kt h H locs ls hl hP hS hL) (fun h => kf h H locs ls hl hP hS hL)
theorem y_if_ge (B : ai_B p l e R s m args below meth c G cc nL ws own ret) {x : Int32} {off : Int} (tgt : Nat) (hd : decode cc pc = .ok (.ifCond .ge off, 3)) (ht : (pc : Int) + off = (tgt : Int)) (kt : 0 ≤ x → ai_Y p l e R s m args below meth c G Q M cells slots L tgt st) (kf : ¬ 0 ≤ x → ai_Y p l e R s m args below meth c G Q M cells slots L (pc + 3) st) : ai_Y p l e R s m args below meth c G Q M cells slots L pc (.int x :: st) :=
  fun H locs ls hl hP hS hL => lv_if_ge B.1 B.2.1 hd ht (fun h => kt h H locs ls hl hP hS hL) (fun h => kf h H locs ls hl hP hS hL)
theorem y_icmp_gt (B : ai_B p l e R s m args below meth c G cc nL ws own ret) {x y : Int32} {off : Int} (tgt : Nat) (hd : decode cc pc = .ok (.if_icmp .gt off, 3)) (ht : (pc : Int) + off = (tgt : Int)) (kt : y < x → ai_Y p l e R s m args below meth c G Q M cells slots L tgt st) (kf : ¬ y < x → ai_Y p l e R s m args below meth c G Q M cells slots L (pc + 3) st) : ai_Y p l e R s m args below meth c G Q M cells slots L pc (.int y :: .int x :: st) :=
  fun H locs ls hl hP hS hL => lv_icmp_gt B.1 B.2.1 hd ht (fun h => kt h H locs ls hl hP hS hL) (fun h => kf h H locs ls hl hP hS hL)
theorem y_if_gt (B : ai_B p l e R s m args below meth c G cc nL ws own ret) {x : Int32} {off : Int} (tgt : Nat) (hd : decode cc pc = .ok (.ifCond .gt off, 3)) (ht : (pc : Int) + off = (tgt : Int)) (kt : 0 < x → ai_Y p l e R s m args below meth c G Q M cells slots L tgt st) (kf : ¬ 0 < x → ai_Y p l e R s m args below meth c G Q M cells slots L (pc + 3) st) : ai_Y p l e R s m args below meth c G Q M cells slots L pc (.int x :: st) :=
  fun H locs ls hl hP hS hL => lv_if_gt B.1 B.2.1 hd ht (fun h => kt h H locs ls hl hP hS hL) (fun h => kf h H locs ls hl hP hS hL)
theorem y_icmp_le (B : ai_B p l e R s m args below meth c G cc nL ws own ret) {x y : Int32} {off : Int} (tgt : Nat) (hd : decode cc pc = .ok (.if_icmp .le off, 3)) (ht : (pc : Int) + off = (tgt : Int)) (kt : x ≤ y → ai_Y p l e R s m args below meth c G Q M cells slots L tgt st) (kf : ¬ x ≤ y → ai_Y p l e R s m args below meth c G Q M cells slots L (pc + 3) st) : ai_Y p l e R s m args below meth c G Q M cells slots L pc (.int y :: .int x :: st) :=
  fun H locs ls hl hP hS hL => lv_icmp_le B.1 B.2.1 hd ht (fun h => kt h H locs ls hl hP hS hL) (fun h => kf h H locs ls hl hP hS hL)
theorem y_if_le (B : ai_B p l e R s m args below meth c G cc nL ws own ret) {x : Int32} {off : Int} (tgt : Nat) (hd : decode cc pc = .ok (.ifCond .le off, 3)) (ht : (pc : Int) + off = (tgt : Int)) (kt : x ≤ 0 → ai_Y p l e R s m args below meth c G Q M cells slots L tgt st) (kf : ¬ x ≤ 0 → ai_Y p l e R s m args below meth c G Q M cells slots L (pc + 3) st) : ai_Y p l e R s m args below meth c G Q M cells slots L pc (.int x :: st) :=
  fun H locs ls hl hP hS hL => lv_if_le B.1 B.2.1 hd ht (fun h => kt h H locs ls hl hP hS hL) (fun h => kf h H locs ls hl hP hS hL)
theorem y_acmp_eq (B : ai_B p l e R s m args below meth c G cc nL ws own ret) {rx ry : Option Nat} {off : Int} (tgt : Nat) (hd : decode cc pc = .ok (.if_acmp .eq off, 3)) (ht : (pc : Int) + off = (tgt : Int)) (kt : rx = ry → ai_Y p l e R s m args below meth c G Q M cells slots L tgt st) (kf : ¬ rx = ry → ai_Y p l e R s m args below meth c G Q M cells slots L (pc + 3) st) : ai_Y p l e R s m args below meth c G Q M cells slots L pc (va_rf ry :: va_rf rx :: st) :=
  fun H locs ls hl hP hS hL => lv_acmp_eq B.1 B.2.1 hd ht (fun h => kt h H locs ls hl hP hS hL) (fun h => kf h H locs ls hl hP hS hL)
theorem y_acmp_ne (B : ai_B p l e R s m args below meth c G cc nL ws own ret) {rx ry : Option Nat} {off : Int} (tgt : Nat) (hd : decode cc pc = .ok (.if_acmp .ne off, 3)) (ht : (pc : Int) + off = (tgt : Int)) (kt : ¬ rx = ry → ai_Y p l e R s m args below meth c G Q M cells slots L tgt st) (kf : rx = ry → ai_Y p l e R s m args below meth c G Q M cells slots L (pc + 3) st) : ai_Y p l e R s m args below meth c G Q M cells slots L pc (va_rf ry :: va_rf rx :: st) :=
  fun H locs ls hl hP hS hL => lv_acmp_ne B.1 B.2.1 hd ht (fun h => kt h H locs ls hl hP hS hL) (fun h => kf h H locs ls hl hP hS hL)
theorem y_goto (B : ai_B p l e R s m args below meth c G cc nL ws own ret) {off : Int} (tgt : Nat) (hd : decode cc pc = .ok (.goto off, 3)) (ht : (pc : Int) + off = (tgt : Int)) (k : ai_Y p l e R s m args below meth c G Q M cells slots L tgt st) : ai_Y p l e R s m args below meth c G Q M cells slots L pc st :=
  fun H locs ls hl hP hS hL => lv_goto B.1 B.2.1 hd ht (k H locs ls hl hP hS hL)
theorem y_ifnull (B : ai_B p l e R s m args below meth c G cc nL ws own ret) {x : Nat} {off : Int} (hd : decode cc pc = .ok (.ifnull off, 3)) (k : ai_Y p l e R s m args below meth c G Q M cells slots L (pc + 3) st) : ai_Y p l e R s m args below meth c G Q M cells slots L pc (.ref x :: st) :=
  fun H locs ls hl hP hS hL => lv_ifnull B.1 B.2.1 hd (k H locs ls hl hP hS hL)
theorem y_ifnullN (B : ai_B p l e R s m args below meth c G cc nL ws own ret) {off : Int} (tgt : Nat) (hd : decode cc pc = .ok (.ifnull off, 3)) (ht : (pc : Int) + off = (tgt : Int)) (k : ai_Y p l e R s m args below meth c G Q M cells slots L tgt st) : ai_Y p l e R s m args below meth c G Q M cells slots L pc (.null :: st) :=
  fun H locs ls hl hP hS hL => lv_ifnullN B.1 B.2.1 hd ht (k H locs ls hl hP hS hL)
theorem y_ifnonnull (B : ai_B p l e R s m args below meth c G cc nL ws own ret) {x : Nat} {off : Int} (tgt : Nat) (hd : decode cc pc = .ok (.ifnonnull off, 3)) (ht : (pc : Int) + off = (tgt : Int)) (k : ai_Y p l e R s m args below meth c G Q M cells slots L tgt st) : ai_Y p l e R s m args below meth c G Q M cells slots L pc (.ref x :: st) :=
  fun H locs ls hl hP hS hL => lv_ifnonnull B.1 B.2.1 hd ht (k H locs ls hl hP hS hL)
theorem y_ifnonnullN (B : ai_B p l e R s m args below meth c G cc nL ws own ret) {off : Int} (hd : decode cc pc = .ok (.ifnonnull off, 3)) (k : ai_Y p l e R s m args below meth c G Q M cells slots L (pc + 3) st) : ai_Y p l e R s m args below meth c G Q M cells slots L pc (.null :: st) :=
  fun H locs ls hl hP hS hL => lv_ifnonnullN B.1 B.2.1 hd (k H locs ls hl hP hS hL)
theorem y_tableIn (B : ai_B p l e R s m args below meth c G cc nL ws own ret) {dflt lo hi : Int} {offs : Array Int} {len : Nat} {x : Int32} {off : Int} (tgt : Nat) (hd : decode cc pc = .ok (.tableswitch dflt lo hi offs, len)) (h1 : ¬ x.toInt < lo) (h2 : ¬ hi < x.toInt) (ho : offs[(x.toInt - lo).toNat]? = some off) (ht : (pc : Int) + off = (tgt : Int)) (k : ai_Y p l e R s m args below meth c G Q M cells slots L tgt st) : ai_Y p l e R s m args below meth c G Q M cells slots L pc (.int x :: st) :=
  fun H locs ls hl hP hS hL => lv_tableIn B.1 B.2.1 hd h1 h2 ho ht (k H locs ls hl hP hS hL)
theorem y_tableOut (B : ai_B p l e R s m args below meth c G cc nL ws own ret) {dflt lo hi : Int} {offs : Array Int} {len : Nat} {x : Int32} (tgt : Nat) (hd : decode cc pc = .ok (.tableswitch dflt lo hi offs, len)) (h : x.toInt < lo ∨ hi < x.toInt) (ht : (pc : Int) + dflt = (tgt : Int)) (k : ai_Y p l e R s m args below meth c G Q M cells slots L tgt st) : ai_Y p l e R s m args below meth c G Q M cells slots L pc (.int x :: st) :=
  fun H locs ls hl hP hS hL => lv_tableOut B.1 B.2.1 hd h ht (k H locs ls hl hP hS hL)
theorem y_eq {pc' : Nat} {st' : List Value} (h1 : pc = pc') (h2 : st = st') (k : ai_Y p l e R s m args below meth c G Q M cells slots L pc' st') : ai_Y p l e R s m args below meth c G Q M cells slots L pc st := by subst h1; subst h2; exact k
theorem y_mem {M' : ai_M} (h : ∀ (a g : Nat) (e : va_E), M' a = some (g, e) → M a = some (g, e)) (k : ai_Y p l e R s m args below meth c G Q M' cells slots L pc st) : ai_Y p l e R s m args below meth c G Q M cells slots L pc st := by
  intro H locs ls hl hP hS hL
  obtain ⟨ws1, h1, h2, h3⟩ := hP
  exact k H locs ls hl ⟨ws1, h1, h2, fun a g e q => h3 a g e (h a g e q)⟩ hS hL
theorem y_loc {L' : List (Option Value)} (h0 : L'.length = L.length) (h : ∀ (i : Nat) (v : Value), L'[i]? = some (some v) → L[i]? = some (some v)) (k : ai_Y p l e R s m args below meth c G Q M cells slots L' pc st) : ai_Y p l e R s m args below meth c G Q M cells slots L pc st := by
  intro H locs ls hl hP hS hL
  exact k H locs ls (by rw [h0]; exact hl) hP hS ⟨by rw [h0]; exact hL.1, hL.2.1, fun i v q => hL.2.2 i v (h i v q)⟩
theorem y_wide {k n : Nat} (h1 : cells ≤ k) (h2 : slots ≤ n) (kk : ai_Y p l e R s m args below meth c G Q M k n L pc st) : ai_Y p l e R s m args below meth c G Q M cells slots L pc st := fun H locs ls hl hP hS hL => W.widen h1 h2 (kk H locs ls hl hP hS hL)
theorem y_get (B : ai_B p l e R s m args below meth c G cc nL ws own ret) {ref C : String} {T : u_T} {N ci index a g : Nat} {fs : List Value} {v : Value} (hM : M a = some (g, .inr (ci, fs))) (hc : vwCl[ci]? = some (C, T, N)) (hin : ∀ w ∈ u_ws C T N, w ∈ ws) (k0 : Nat) (hk : k0 < N) (hlink : Cond.fieldLink own index ref (T k0).2.1 (T k0).2.2.1 ∈ ws) (hsame : ∀ x, s.fieldFound? (T k0).1 (T k0).2.1 (T k0).2.2.1 = some x → s.fieldFound? ref (T k0).2.1 (T k0).2.2.1 = some x) (hv : fs[k0]? = some v) (hd : decode cc pc = .ok (.getfield index, 3)) (k : ai_Y p l e R s m args below meth c G Q M cells slots L (pc + 3) (v :: st)) : ai_Y p l e R s m args below meth c G Q M cells slots L pc (.ref a :: st) := by
  intro H locs ls hl hP hS hL
  obtain ⟨ws1, h1, h2, h3⟩ := id hP
  obtain ⟨j, hj⟩ := h3 a g _ hM
  exact va_get B.1 B.2.1 B.2.2.2.2.2.1 hin B.2.2.2.2.1 B.2.2.2.2.2.2.2.1 h1 j hj hc k0 hk (B.2.2.2.2.2.1 _ hlink) hsame hv hd (k H locs ls hl hP hS hL)
theorem y_put (B : ai_B p l e R s m args below meth c G cc nL ws own ret) {ref C : String} {T : u_T} {N ci index a g : Nat} {fs : List Value} {v : Value} {ty : FieldType} (hM : M a = some (g, .inr (ci, fs))) (hc : vwCl[ci]? = some (C, T, N)) (hin : ∀ w ∈ u_ws C T N, w ∈ ws) (ty0 : Nat → FieldType) (hty : ∀ k, k < N → parseFieldDescriptor (T k).2.2.1 = some (ty0 k)) (hnm : ∀ a, a < N → ∀ b, b < N → a ≠ b → (T a).2.1 ≠ (T b).2.1) (k0 : Nat) (hk : k0 < N) (hlink : Cond.fieldLink own index ref (T k0).2.1 (T k0).2.2.1 ∈ ws) (hsame : ∀ x, s.fieldFound? (T k0).1 (T k0).2.1 (T k0).2.2.1 = some x → s.fieldFound? ref (T k0).2.1 (T k0).2.2.1 = some x) (hfin : (T k0).2.2.2 = false) (hdt : parseFieldDescriptor (T k0).2.2.1 = some ty) (hn : narrow ty v = v) (hfit : fits ty v = true) (hlen : k0 < fs.length) (hd : decode cc pc = .ok (.putfield index, 3)) (k : ai_Y p l e R s m args below meth c G Q (ai_U M a g (.inr (ci, fs.set k0 v))) cells slots L (pc + 3) st) : ai_Y p l e R s m args below meth c G Q M cells slots L pc (v :: .ref a :: st) := by
  intro H locs ls hl hP hS hL
  obtain ⟨ws1, h1, h2, h3⟩ := id hP
  obtain ⟨j, hj⟩ := h3 a g _ hM
  exact va_put B.1 B.2.1 B.2.2.2.2.2.1 hin ty0 hty hnm B.2.2.2.2.1 B.2.2.2.2.2.2.2.1 h1 h2 hS j hj hc k0 hk (B.2.2.2.2.2.1 _ hlink) hsame hfin hdt hn hfit hlen hd (fun H1 locs1 q1 q2 q3 => k H1 locs1 ls hl (ai_set h3 hj q1 q2) q3 hL)
theorem y_putF (B : ai_B p l e R s m args below meth c G cc nL ws own ret) {ref C : String} {T : u_T} {N ci index a g : Nat} {fs : List Value} {v : Value} {ty : FieldType} (hinit : meth.name = "<init>") (hM : M a = some (g, .inr (ci, fs))) (hc : vwCl[ci]? = some (C, T, N)) (hin : ∀ w ∈ u_ws C T N, w ∈ ws) (ty0 : Nat → FieldType) (hty : ∀ k, k < N → parseFieldDescriptor (T k).2.2.1 = some (ty0 k)) (hnm : ∀ a, a < N → ∀ b, b < N → a ≠ b → (T a).2.1 ≠ (T b).2.1) (k0 : Nat) (hk : k0 < N) (hlink : Cond.fieldLink own index ref (T k0).2.1 (T k0).2.2.1 ∈ ws) (hsame : ∀ x, s.fieldFound? (T k0).1 (T k0).2.1 (T k0).2.2.1 = some x → s.fieldFound? ref (T k0).2.1 (T k0).2.2.1 = some x) (hfin : (T k0).2.2.2 = true) (hdecl : (T k0).1 = own) (hdt : parseFieldDescriptor (T k0).2.2.1 = some ty) (hn : narrow ty v = v) (hfit : fits ty v = true) (hlen : k0 < fs.length) (hd : decode cc pc = .ok (.putfield index, 3)) (k : ai_Y p l e R s m args below meth c G Q (ai_U M a g (.inr (ci, fs.set k0 v))) cells slots L (pc + 3) st) : ai_Y p l e R s m args below meth c G Q M cells slots L pc (v :: .ref a :: st) := by
  intro H locs ls hl hP hS hL
  obtain ⟨ws1, h1, h2, h3⟩ := id hP
  obtain ⟨j, hj⟩ := h3 a g _ hM
  exact va_putF B.1 B.2.1 B.2.2.2.2.2.1 hin ty0 hty hnm B.2.2.2.2.1 B.2.2.2.2.2.2.2.1 h1 h2 hS j hj hc k0 hk (B.2.2.2.2.2.1 _ hlink) hsame hfin hinit hdecl hdt hn hfit hlen hd (fun H1 locs1 q1 q2 q3 => k H1 locs1 ls hl (ai_set h3 hj q1 q2) q3 hL)
theorem y_new (B : ai_B p l e R s m args below meth c G cc nL ws own ret) {C : String} {T : u_T} {N ci index : Nat} (gt : Nat) (fs : List Value) (hin : ∀ w ∈ u_ws C T N, w ∈ ws) (ty0 : Nat → FieldType) (hty : ∀ k, k < N → parseFieldDescriptor (T k).2.2.1 = some (ty0 k)) (hcl : Cond.classLink own index C ∈ ws) (hinst : Cond.instantiable C N ∈ ws) (hini : Cond.initialized C ∈ ws) (hc : vwCl[ci]? = some (C, T, N)) (hfs : ∀ j, j < N → defaultValue (ty0 j) = vp_V fs j) (hcells : cells + 1 ≤ R.cells) (hslots : slots + N ≤ R.slots) (hd : decode cc pc = .ok (.new index, 3)) (k : ∀ q : Nat, M q = none → ai_Y p l e R s m args below meth c G Q (ai_U M q gt (.inr (ci, fs))) (cells + 1) (slots + N) L (pc + 3) (.ref q :: st)) : ai_Y p l e R s m args below meth c G Q M cells slots L pc st := by
  intro H locs ls hl hP hS hL
  obtain ⟨ws1, h1, h2, h3⟩ := id hP
  exact va_new B.1 B.2.1 B.2.2.2.2.2.1 hin ty0 hty B.2.2.2.2.1 (B.2.2.2.2.2.1 _ hcl) (B.2.2.2.2.2.1 _ hinst) (B.2.2.2.2.2.1 _ hini) B.2.2.2.2.2.2.2.1 h1 h2 hS (ai_top B) hc hfs hcells hslots hd (fun q H1 q1 q2 q3 => k q (ai_push gt h3 q1 q2).2 H1 locs ls hl (ai_push gt h3 q1 q2).1 q3 hL)
theorem y_oinit (B : ai_B p l e R s m args below meth c G cc nL ws own ret) {index a : Nat} (hlink : Cond.methodLink own index objectInit ∈ ws) (hinst : Cond.instanceMethod objectInit ∈ ws) (hcode : Cond.code objectInit ⟨#[0xb1]⟩ 1 none ∈ ws) (hf : 1 ≤ R.frames) (hlo : (st.map fun v => v.category).sum + 12 ≤ R.locals) (hd : decode cc pc = .ok (.invokespecial index, 3)) (k : ai_Y p l e R s m args below meth c G Q M cells slots L (pc + 3) st) : ai_Y p l e R s m args below meth c G Q M cells slots L pc (.ref a :: st) := by
  intro H locs ls hl hP hS hL
  refine W.objInit B.1 B.2.1 B.2.2.2.2.1 (B.2.2.2.2.2.1 _ hlink) (B.2.2.2.2.2.1 _ hinst) (B.2.2.2.2.2.1 _ hcode) rfl (hL.1.trans hl) rfl hd hf ?_ (k H locs ls hl hP hS hL)
  show 2 * 0 + _ + 12 ≤ _
  omega
theorem y_gets (B : ai_B p l e R s m args below meth c G cc nL ws own ret) {C n d ref : String} {v : Value} {index : Nat} (hZ : va_Z C n d v (ai_A G) s s.heap) (hlink : Cond.fieldLink own index ref n d ∈ ws) (hsame : ∀ x, s.fieldFound? C n d = some x → s.fieldFound? ref n d = some x) (hd : decode cc pc = .ok (.getstatic index, 3)) (k : ai_Y p l e R s m args below meth c G Q M cells slots L (pc + 3) (v :: st)) : ai_Y p l e R s m args below meth c G Q M cells slots L pc st := by
  intro H locs ls hl hP hS hL
  exact va_gets B.1 B.2.1 hZ hS B.2.2.2.2.1 (B.2.2.2.2.2.1 _ hlink) hsame hd (k H locs ls hl hP hS hL)

theorem y_ialoadI (B : ai_B p l e R s m args below meth c G cc nL ws own ret) {a g n : Nat} {f : Nat → Int32} {i : Int32} (v : Int32) (hM : M a = some (g, ai_eI G n f)) (hi : vp_in i n) (hv : f i.toNatClampNeg = v) (hd : decode cc pc = .ok (.iaload, 1)) (k : ai_Y p l e R s m args below meth c G Q M cells slots L (pc + 1) (.int v :: st)) : ai_Y p l e R s m args below meth c G Q M cells slots L pc (.int i :: .ref a :: st) := by
  intro H locs ls hl hP hS hL
  subst hv
  obtain ⟨ws1, h1, h2, h3⟩ := id hP
  obtain ⟨j, hj⟩ := h3 a g _ hM
  exact va_iald B.1 B.2.1 B.2.2.2.2.2.2.2.1 h1 j 0 hj rfl hi hd (k H locs ls hl hP hS hL)
theorem y_iastoreI (B : ai_B p l e R s m args below meth c G cc nL ws own ret) {a g n : Nat} {f : Nat → Int32} {i x : Int32} (hM : M a = some (g, ai_eI G n f)) (hi : vp_in i n) (hd : decode cc pc = .ok (.iastore, 1)) (k : ai_Y p l e R s m args below meth c G Q (ai_U M a g (ai_eI G n (upd f i.toNatClampNeg x))) cells slots L (pc + 1) st) : ai_Y p l e R s m args below meth c G Q M cells slots L pc (.int x :: .int i :: .ref a :: st) := by
  intro H locs ls hl hP hS hL
  obtain ⟨ws1, h1, h2, h3⟩ := id hP
  obtain ⟨j, hj⟩ := h3 a g _ hM
  exact va_iast B.1 B.2.1 B.2.2.2.2.2.2.2.1 h1 h2 hS j 0 hj rfl hi hd (fun H1 locs1 q1 q2 q3 => k H1 locs1 ls hl (ai_set h3 hj q1 q2) q3 hL)
theorem y_baloadZ (B : ai_B p l e R s m args below meth c G cc nL ws own ret) {a g n : Nat} {f : Nat → Int32} {i : Int32} (v : Int32) (hM : M a = some (g, ai_eZ G n f)) (hi : vp_in i n) (hv : f i.toNatClampNeg = v) (hd : decode cc pc = .ok (.baload, 1)) (k : ai_Y p l e R s m args below meth c G Q M cells slots L (pc + 1) (.int v :: st)) : ai_Y p l e R s m args below meth c G Q M cells slots L pc (.int i :: .ref a :: st) := by
  intro H locs ls hl hP hS hL
  subst hv
  obtain ⟨ws1, h1, h2, h3⟩ := id hP
  obtain ⟨j, hj⟩ := h3 a g _ hM
  exact va_zald B.1 B.2.1 B.2.2.2.2.2.2.2.1 h1 j 1 hj rfl hi hd (k H locs ls hl hP hS hL)
theorem y_bastoreZ (B : ai_B p l e R s m args below meth c G cc nL ws own ret) {a g n : Nat} {f : Nat → Int32} {i x : Int32} (hM : M a = some (g, ai_eZ G n f)) (hi : vp_in i n) (hd : decode cc pc = .ok (.bastore, 1)) (k : ai_Y p l e R s m args below meth c G Q (ai_U M a g (ai_eZ G n (upd f i.toNatClampNeg (vp_nar .boolean x)))) cells slots L (pc + 1) st) : ai_Y p l e R s m args below meth c G Q M cells slots L pc (.int x :: .int i :: .ref a :: st) := by
  intro H locs ls hl hP hS hL
  obtain ⟨ws1, h1, h2, h3⟩ := id hP
  obtain ⟨j, hj⟩ := h3 a g _ hM
  exact va_zast B.1 B.2.1 B.2.2.2.2.2.2.2.1 h1 h2 hS j 1 hj rfl hi hd (fun H1 locs1 q1 q2 q3 => k H1 locs1 ls hl (ai_set h3 hj q1 q2) q3 hL)
theorem y_laload (B : ai_B p l e R s m args below meth c G cc nL ws own ret) {a g n : Nat} {f : Nat → Int64} {i : Int32} (hM : M a = some (g, ai_eJ G n f)) (hi : vp_in i n) (hd : decode cc pc = .ok (.laload, 1)) (k : ai_Y p l e R s m args below meth c G Q M cells slots L (pc + 1) (.long (f i.toNatClampNeg) :: st)) : ai_Y p l e R s m args below meth c G Q M cells slots L pc (.int i :: .ref a :: st) := by
  intro H locs ls hl hP hS hL
  obtain ⟨ws1, h1, h2, h3⟩ := id hP
  obtain ⟨j, hj⟩ := h3 a g _ hM
  exact va_lald B.1 B.2.1 B.2.2.2.2.2.2.2.1 h1 j 4 hj rfl hi hd (k H locs ls hl hP hS hL)
theorem y_lastore (B : ai_B p l e R s m args below meth c G cc nL ws own ret) {a g n : Nat} {f : Nat → Int64} {i : Int32} {x : Int64} (hM : M a = some (g, ai_eJ G n f)) (hi : vp_in i n) (hd : decode cc pc = .ok (.lastore, 1)) (k : ai_Y p l e R s m args below meth c G Q (ai_U M a g (ai_eJ G n (vp_updL f i.toNatClampNeg x))) cells slots L (pc + 1) st) : ai_Y p l e R s m args below meth c G Q M cells slots L pc (.long x :: .int i :: .ref a :: st) := by
  intro H locs ls hl hP hS hL
  obtain ⟨ws1, h1, h2, h3⟩ := id hP
  obtain ⟨j, hj⟩ := h3 a g _ hM
  exact va_last B.1 B.2.1 B.2.2.2.2.2.2.2.1 h1 h2 hS j 4 hj rfl hi hd (fun H1 locs1 q1 q2 q3 => k H1 locs1 ls hl (ai_set h3 hj q1 q2) q3 hL)
theorem y_aaloadO (B : ai_B p l e R s m args below meth c G cc nL ws own ret) {a g n : Nat} {f : Nat → Option Nat} {i : Int32} (r : Option Nat) (hM : M a = some (g, ai_eO G n f)) (hi : vp_in i n) (hr : f i.toNatClampNeg = r) (hd : decode cc pc = .ok (.aaload, 1)) (k : ai_Y p l e R s m args below meth c G Q M cells slots L (pc + 1) (va_rf r :: st)) : ai_Y p l e R s m args below meth c G Q M cells slots L pc (.int i :: .ref a :: st) := by
  intro H locs ls hl hP hS hL
  subst hr
  obtain ⟨ws1, h1, h2, h3⟩ := id hP
  obtain ⟨j, hj⟩ := h3 a g _ hM
  exact va_aldq B.1 B.2.1 B.2.2.2.2.2.2.2.1 h1 j 3 hj rfl hi hd (k H locs ls hl hP hS hL)
theorem y_aaloadP (B : ai_B p l e R s m args below meth c G cc nL ws own ret) {a g n : Nat} {f : Nat → Option Nat} {i : Int32} (r : Option Nat) (hM : M a = some (g, ai_eP G n f)) (hi : vp_in i n) (hr : f i.toNatClampNeg = r) (hd : decode cc pc = .ok (.aaload, 1)) (k : ai_Y p l e R s m args below meth c G Q M cells slots L (pc + 1) (va_rf r :: st)) : ai_Y p l e R s m args below meth c G Q M cells slots L pc (.int i :: .ref a :: st) := by
  intro H locs ls hl hP hS hL
  subst hr
  obtain ⟨ws1, h1, h2, h3⟩ := id hP
  obtain ⟨j, hj⟩ := h3 a g _ hM
  exact va_aldq B.1 B.2.1 B.2.2.2.2.2.2.2.1 h1 j 2 hj rfl hi hd (k H locs ls hl hP hS hL)
theorem y_aastoreO (B : ai_B p l e R s m args below meth c G cc nL ws own ret) {a g n v gv ci : Nat} {f : Nat → Option Nat} {i : Int32} {vs : List Value} {r : vw_C} (hM : M a = some (g, ai_eO G n f)) (hV : M v = some (gv, .inr (ci, vs))) (hc : vwCl[ci]? = some r) (hca : va_Nw (.castable r.1 "java/lang/Object") s) (hi : vp_in i n) (hd : decode cc pc = .ok (.aastore, 1)) (k : ai_Y p l e R s m args below meth c G Q (ai_U M a g (ai_eO G n (va_up f i.toNatClampNeg (some v)))) cells slots L (pc + 1) st) : ai_Y p l e R s m args below meth c G Q M cells slots L pc (.ref v :: .int i :: .ref a :: st) := by
  intro H locs ls hl hP hS hL
  obtain ⟨ws1, h1, h2, h3⟩ := id hP
  obtain ⟨j, hj⟩ := h3 a g _ hM
  obtain ⟨j2, hj2⟩ := h3 v gv _ hV
  exact va_astqO B.1 B.2.1 B.2.2.2.2.2.2.2.1 h1 h2 hS j 3 j2 ci hj rfl hca hj2 hc hi hd (fun H1 locs1 q1 q2 q3 => k H1 locs1 ls hl (ai_set h3 hj q1 q2) q3 hL)
theorem y_aastoreP (B : ai_B p l e R s m args below meth c G cc nL ws own ret) {a g n v gv : Nat} {f : Nat → Option Nat} {i : Int32} {vs : List Value} (hM : M a = some (g, ai_eP G n f)) (hV : M v = some (gv, .inr (3, vs))) (hi : vp_in i n) (hd : decode cc pc = .ok (.aastore, 1)) (k : ai_Y p l e R s m args below meth c G Q (ai_U M a g (ai_eP G n (va_up f i.toNatClampNeg (some v)))) cells slots L (pc + 1) st) : ai_Y p l e R s m args below meth c G Q M cells slots L pc (.ref v :: .int i :: .ref a :: st) := by
  intro H locs ls hl hP hS hL
  obtain ⟨ws1, h1, h2, h3⟩ := id hP
  obtain ⟨j, hj⟩ := h3 a g _ hM
  obtain ⟨j2, hj2⟩ := h3 v gv _ hV
  exact va_astq (r := (RX2, TX2, 2)) B.1 B.2.1 B.2.2.2.2.2.2.2.1 h1 h2 hS j 2 j2 3 hj rfl hj2 rfl hi hd (fun H1 locs1 q1 q2 q3 => k H1 locs1 ls hl (ai_set h3 hj q1 q2) q3 hL)
theorem y_alen (B : ai_B p l e R s m args below meth c G cc nL ws own ret) {a g : Nat} {x : vp_A} {cA : ClassId} (v : Int32) (t0 : Nat) {ty : FieldType} (hM : M a = some (g, .inl (cA, x))) (ht : (ai_T G)[t0]? = some (cA, ty)) (hv : Int32.ofNat x.1 = v) (hd : decode cc pc = .ok (.arraylength, 1)) (k : ai_Y p l e R s m args below meth c G Q M cells slots L (pc + 1) (.int v :: st)) : ai_Y p l e R s m args below meth c G Q M cells slots L pc (.ref a :: st) := by
  intro H locs ls hl hP hS hL
  obtain ⟨ws1, h1, h2, h3⟩ := id hP
  obtain ⟨j, hj⟩ := h3 a g _ hM
  exact va_alen B.1 B.2.1 B.2.2.2.2.2.2.2.1 h1 j t0 hj ht hv hd (k H locs ls hl hP hS hL)
theorem y_tlen (B : ai_B p l e R s m args below meth c G cc nL ws own ret) {ty : FieldType} {t N : Nat} {f : Nat → Value} (v : Int32) (hT : va_T ty t N f (ai_A G) s s.heap) (hv : Int32.ofNat N = v) (hd : decode cc pc = .ok (.arraylength, 1)) (k : ai_Y p l e R s m args below meth c G Q M cells slots L (pc + 1) (.int v :: st)) : ai_Y p l e R s m args below meth c G Q M cells slots L pc (.ref t :: st) := by
  intro H locs ls hl hP hS hL
  exact va_tlen B.1 B.2.1 hT hS hv hd (k H locs ls hl hP hS hL)
theorem ai_RAeq {U : State} {cA cB : ClassId} {ty : FieldType} (h1 : va_RA U cA ty) (h2 : va_RA U cB ty) : cA = cB := by
  cases ty with
  | object C =>
    obtain ⟨_, _, _, _, _, h1⟩ := h1
    obtain ⟨_, _, _, _, _, h2⟩ := h2
    exact Option.some.inj (h1.symm.trans h2)
  | _ => exact Option.some.inj (Eq.trans (Eq.symm h1) h2)
theorem ai_Kc {U : State} {t0 : Nat} {cA cB : ClassId} {ty : FieldType} (h : va_K G.1 vwCl (ai_T G ++ [(cA, ty)]) U) (ht : (ai_T G)[t0]? = some (cB, ty)) : cA = cB := by
  have h1 := h.2 (ai_T G).length (cA, ty) (by rw [List.getElem?_append_right (Nat.le_refl _), Nat.sub_self]; rfl)
  have h2 := h.2 t0 (cB, ty) (by rw [List.getElem?_append_left (List.getElem?_eq_some_iff.mp ht).1]; exact ht)
  exact ai_RAeq h1.2 h2.2
theorem y_newa (B : ai_B p l e R s m args below meth c G cc nL ws own ret) {atype : ArrayType} (gt t0 : Nat) {ty : FieldType} {cB : ClassId} {n : Int32} {N' : Nat} {a0 : vp_A} (harr : Cond.arrayClass (newarray.typeOf atype) ∈ ws) (hty : newarray.typeOf atype = ty) (ht : (ai_T G)[t0]? = some (cB, ty)) (ha : ∀ cA : ClassId, vp_cell cA a0 = arrV cA N' (fun _ => defaultValue ty)) (hn : ¬ n < 0) (hN : n.toNatClampNeg = N') (hbytes : N' * componentBytes ty ≤ 536870912) (hcells : cells + 1 ≤ R.cells) (hslots : slots + N' ≤ R.slots) (hd : decode cc pc = .ok (.newarray atype, 2)) (k : ∀ q : Nat, M q = none → ai_Y p l e R s m args below meth c G Q (ai_U M q gt (.inl (cB, a0))) (cells + 1) (slots + N') L (pc + 2) (.ref q :: st)) : ai_Y p l e R s m args below meth c G Q M cells slots L pc (.int n :: st) := by
  intro H locs ls hl hP hS hL
  obtain ⟨ws1, h1, h2, h3⟩ := id hP
  refine va_newa B.1 B.2.1 (B.2.2.2.2.2.1 _ harr) hty B.2.2.2.2.2.2.2.1 h1 h2 hS (ai_top B) ha hn hN hbytes hcells hslots hd (fun q cA H1 q0 q1 q2 q3 => ?_)
  obtain rfl := ai_Kc q0 ht
  exact k q (ai_push gt h3 q1 q2).2 H1 locs ls hl (ai_push gt h3 q1 q2).1 q3 hL
theorem y_newq (B : ai_B p l e R s m args below meth c G cc nL ws own ret) (gt t0 : Nat) {C : String} {cB : ClassId} {n : Int32} {N' index : Nat} (hcl : Cond.classLink own index C ∈ ws) (hover : va_AO C s) (ht : (ai_T G)[t0]? = some (cB, .object C)) (hn : ¬ n < 0) (hN : n.toNatClampNeg = N') (hbytes : N' * 4 ≤ 536870912) (hcells : cells + 1 ≤ R.cells) (hslots : slots + N' ≤ R.slots) (hd : decode cc pc = .ok (.anewarray index, 3)) (k : ∀ q : Nat, M q = none → ai_Y p l e R s m args below meth c G Q (ai_U M q gt (.inl (cB, (N', .inr (.inr (.inr (.inr (fun _ => none)))))))) (cells + 1) (slots + N') L (pc + 3) (.ref q :: st)) : ai_Y p l e R s m args below meth c G Q M cells slots L pc (.int n :: st) := by
  intro H locs ls hl hP hS hL
  obtain ⟨ws1, h1, h2, h3⟩ := id hP
  refine va_newq B.1 B.2.1 B.2.2.2.2.1 (B.2.2.2.2.2.1 _ hcl) hover B.2.2.2.2.2.2.2.1 h1 h2 hS (ai_top B) hn hN hbytes hcells hslots hd (fun q cA H1 q0 q1 q2 q3 => ?_)
  obtain rfl := ai_Kc q0 ht
  exact k q (ai_push gt h3 q1 q2).2 H1 locs ls hl (ai_push gt h3 q1 q2).1 q3 hL
theorem ai_recv {H : Heap} {a g ci : Nat} {fs : List Value} {q : vw_C} (hK : va_K G.1 vwCl (ai_T G) s) (hP : ai_P G M H) (hM : M a = some (g, .inr (ci, fs))) (hc : vwCl[ci]? = some q) : ∃ cell : Cell, H[a]? = some cell ∧ cell.vm.isStatics = false ∧ s.vm.findClass q.1 = some cell.cls := by
  obtain ⟨ws1, h1, h2, h3⟩ := hP
  obtain ⟨j, hj⟩ := h3 a g _ hM
  exact va_recv hK h1 hc hj
theorem y_cast (B : ai_B p l e R s m args below meth c G cc nL ws own ret) {a g ci index : Nat} {fs : List Value} {q : vw_C} (hM : M a = some (g, .inr (ci, fs))) (hc : vwCl[ci]? = some q) (hlink : Cond.classLink own index q.1 ∈ ws) (hd : decode cc pc = .ok (.checkcast index, 3)) (k : ai_Y p l e R s m args below meth c G Q M cells slots L (pc + 3) (.ref a :: st)) : ai_Y p l e R s m args below meth c G Q M cells slots L pc (.ref a :: st) := by
  intro H locs ls hl hP hS hL
  exact va_castS B.1 B.2.1 B.2.2.2.2.1 (B.2.2.2.2.2.1 _ hlink) (B.2.2.2.2.2.2.2.1.1 ci q hc).2 (ai_recv B.2.2.2.2.2.2.2.1 hP hM hc) hd (k H locs ls hl hP hS hL)

end AIY
