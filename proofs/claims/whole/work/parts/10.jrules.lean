/-! ===== rules for the JDK's own: Math, getClass, class constants, arraycopy ===== -/
section AIJ
variable {p : Program} {l : Launch} {e : Env} {R : Room} {s : State} {m : MethodId} {args : Array Value} {below : List Frame} {meth : Method} {c : Code} {G : ai_G} {Q : State → Prop} {M : ai_M} {cells slots : Nat} {L : List (Option Value)} {pc : Nat} {st : List Value} {cc : ByteArray} {nL : Nat} {ws : List Cond} {own : String} {ret : Option FieldType}
theorem y_mmax (B : ai_B p l e R s m args below meth c G cc nL ws own ret) {index : Nat} {x y : Int32} (v : Int32) (hlink : Cond.methodLink own index Lib.Math.max.name ∈ ws) (hstat : Cond.static Lib.Math.max.name ∈ ws) (hini : Cond.initialized "java/lang/Math" ∈ ws) (hcode : Cond.code Lib.Math.max.name Lib.Math.max.code 2 (some .int) ∈ ws) (hf : 1 ≤ R.frames) (hlo : (st.map fun v => v.category).sum + 13 ≤ R.locals) (hc : cells ≤ R.cells) (hs : slots ≤ R.slots) (hv : (if x < y then y else x) = v) (hd : decode cc pc = .ok (.invokestatic index, 3)) (k : ai_Y p l e R s m args below meth c G Q M cells slots L (pc + 3) (.int v :: st)) : ai_Y p l e R s m args below meth c G Q M cells slots L pc (.int y :: .int x :: st) := by
  intro H locs ls hl hP hS hL
  subst hv
  exact va_mmax B.1 B.2.1 (hl.symm.trans hL.1.symm) B.2.2.2.2.1 (B.2.2.2.2.2.1 _ hlink) (B.2.2.2.2.2.1 _ hstat) (B.2.2.2.2.2.1 _ hini) (B.2.2.2.2.2.1 _ hcode) hf hlo hc hs hd (k H locs ls hl hP hS hL)
theorem y_mmin (B : ai_B p l e R s m args below meth c G cc nL ws own ret) {index : Nat} {x y : Int32} (v : Int32) (hlink : Cond.methodLink own index Lib.Math.min.name ∈ ws) (hstat : Cond.static Lib.Math.min.name ∈ ws) (hini : Cond.initialized "java/lang/Math" ∈ ws) (hcode : Cond.code Lib.Math.min.name Lib.Math.min.code 2 (some .int) ∈ ws) (hf : 1 ≤ R.frames) (hlo : (st.map fun v => v.category).sum + 13 ≤ R.locals) (hc : cells ≤ R.cells) (hs : slots ≤ R.slots) (hv : (if y < x then y else x) = v) (hd : decode cc pc = .ok (.invokestatic index, 3)) (k : ai_Y p l e R s m args below meth c G Q M cells slots L (pc + 3) (.int v :: st)) : ai_Y p l e R s m args below meth c G Q M cells slots L pc (.int y :: .int x :: st) := by
  intro H locs ls hl hP hS hL
  subst hv
  exact va_mmin B.1 B.2.1 (hl.symm.trans hL.1.symm) B.2.2.2.2.1 (B.2.2.2.2.2.1 _ hlink) (B.2.2.2.2.2.1 _ hstat) (B.2.2.2.2.2.1 _ hini) (B.2.2.2.2.2.1 _ hcode) hf hlo hc hs hd (k H locs ls hl hP hS hL)
theorem ai_recvO {H : Heap} {a g n : Nat} {f : Nat → Option Nat} (hK : va_K G.1 vwCl (ai_T G) s) (hP : ai_P G M H) (hM : M a = some (g, ai_eO G n f)) : ∃ cell : Cell, H[a]? = some cell ∧ cell.vm.isStatics = false ∧ s.vm.findClass "[Ljava/lang/Object;" = some cell.cls := by
  obtain ⟨ws1, h1, h2, h3⟩ := hP
  obtain ⟨j, hj⟩ := h3 a g _ hM
  obtain ⟨_, _, _, _, _, h6⟩ := (hK.2 3 _ rfl).2
  exact ⟨_, h1 j _ hj, rfl, h6⟩
theorem y_getC (B : ai_B p l e R s m args below meth c G cc nL ws own ret) {index a g n : Nat} {f : Nat → Option Nat} (hM : M a = some (g, ai_eO G n f)) (hlink : Cond.methodLink own index ⟨"java/lang/Object", "getClass", "()Ljava/lang/Class;"⟩ ∈ ws) (hsel : Cond.selects "[Ljava/lang/Object;" ⟨"java/lang/Object", "getClass", "()Ljava/lang/Class;"⟩ ⟨"java/lang/Object", "getClass", "()Ljava/lang/Class;"⟩ ∈ ws) (hinst : Cond.instanceMethod ⟨"java/lang/Object", "getClass", "()Ljava/lang/Class;"⟩ ∈ ws) (hnat : Cond.native ⟨"java/lang/Object", "getClass", "()Ljava/lang/Class;"⟩ ∈ ws) (hf : 1 ≤ R.frames) (hlo : (st.map fun v => v.category).sum + 14 ≤ R.locals) (hd : decode cc pc = .ok (.invokevirtual index, 3)) (k : ai_Y p l e R s m args below meth c G Q M cells slots L (pc + 3) (.ref (G.2.2.1 1) :: st)) : ai_Y p l e R s m args below meth c G Q M cells slots L pc (.ref a :: st) := by
  intro H locs ls hl hP hS hL
  exact va_getC B.1 B.2.1 (hl.symm.trans hL.1.symm) B.2.2.2.2.1 (B.2.2.2.2.2.1 _ hlink) B.2.2.2.2.2.2.2.2.1.1.2.2.2.1.use (B.2.2.2.2.2.1 _ hsel) (B.2.2.2.2.2.1 _ hinst) (B.2.2.2.2.2.1 _ hnat) B.2.2.2.2.2.2.2.2.1.1.2.2.1 (ai_recvO B.2.2.2.2.2.2.2.1 hP hM) hf hlo hd (k H locs ls hl hP hS hL)
theorem y_ldcM (B : ai_B p l e R s m args below meth c G cc nL ws own ret) {index : Nat} (hlink : Cond.classLink own index "[Ljava/lang/Object;" ∈ ws) (hd : decode cc pc = .ok (.ldc index, 2)) (k : ai_Y p l e R s m args below meth c G Q M cells slots L (pc + 2) (.ref (G.2.2.1 1) :: st)) : ai_Y p l e R s m args below meth c G Q M cells slots L pc st := by
  intro H locs ls hl hP hS hL
  exact va_ldcM B.1 B.2.1 B.2.2.2.2.1 (B.2.2.2.2.2.1 _ hlink) B.2.2.2.2.2.2.2.2.1.1.2.2.1 hd (k H locs ls hl hP hS hL)
theorem y_copyq (B : ai_B p l e R s m args below meth c G cc nL ws own ret) {index a0 a1 g0 g1 n0 n1 ci : Nat} {f h : Nat → Option Nat} {q : vw_C} (n : Nat) (hM0 : M a0 = some (g0, ai_eO G n0 f)) (hM1 : M a1 = some (g1, ai_eO G n1 h)) (hc : vwCl[ci]? = some q) (hca : Cond.castable q.1 "java/lang/Object" ∈ ai_Xw) (hel : ∀ i : Nat, i < n → ∀ y : Nat, f i = some y → ∃ (g : Nat) (fs : List Value), M y = some (g, .inr (ci, fs))) (hn : n < 2 ^ 31) (hn0 : n ≤ n0) (hn1 : n ≤ n1) (hlink : Cond.methodLink own index arraycopyName ∈ ws) (hnat : Cond.native arraycopyName ∈ ws) (hstat : Cond.static arraycopyName ∈ ws) (hini : Cond.initialized "java/lang/System" ∈ ws) (hf : 1 ≤ R.frames) (hlo : (st.map fun v => v.category).sum + (nativeFrameWords "java/lang/System" "arraycopy" 5 + 11) ≤ R.locals) (hd : decode cc pc = .ok (.invokestatic index, 3)) (k : ai_Y p l e R s m args below meth c G Q (ai_U M a1 g1 (ai_eO G n1 (va_cpy f h 0 0 n))) cells slots L (pc + 3) st) : ai_Y p l e R s m args below meth c G Q M cells slots L pc (.int (nI n) :: .int (nI 0) :: .ref a1 :: .int (nI 0) :: .ref a0 :: st) := by
  intro H locs ls hl hP hS hL
  obtain ⟨ws1, h1, h2, h3⟩ := id hP
  obtain ⟨j0, hj0⟩ := h3 a0 g0 _ hM0
  obtain ⟨j1, hj1⟩ := h3 a1 g1 _ hM1
  have e0 : (nI 0).toNatClampNeg = 0 := nI_clamp (by omega)
  have en : (nI n).toNatClampNeg = n := nI_clamp hn
  refine va_copyq (E0 := "java/lang/Object") (E1 := "java/lang/Object") (C := q.1) B.1 B.2.1 (hl.symm.trans hL.1.symm) B.2.2.2.2.1 (B.2.2.2.2.2.1 _ hlink) (B.2.2.2.2.2.1 _ hnat) (B.2.2.2.2.2.1 _ hstat) (B.2.2.2.2.2.1 _ hini) B.2.2.2.2.2.2.2.1 h1 h2 hS j0 j1 3 3 hj0 hj1 rfl rfl (nI_pos (by omega)) (nI_pos (by omega)) (nI_pos hn) (by rw [e0, en, Nat.zero_add]; exact hn0) (by rw [e0, en, Nat.zero_add]; exact hn1) ?_ ?_ hf hlo hd (fun H1 locs1 q1 q2 q3 => ?_)
  · intro i hi y hy
    rw [en] at hi
    rw [e0, Nat.zero_add] at hy
    obtain ⟨g, fs, hy2⟩ := hel i hi y hy
    exact ai_recv B.2.2.2.2.2.2.2.1 hP hy2 hc
  · intro comp c0 hcomp hc0
    obtain ⟨c3, c4, hc3, hc4, hasg⟩ := Cond.castable_spec (va_Nw.use (A := args) rfl (B.2.2.2.2.2.2.2.2.1.1.2.2.2.2.2.2.2.2.2.2.1 _ hca))
    cases Option.some.inj (hc3.symm.trans hc0)
    cases Option.some.inj (hc4.symm.trans hcomp)
    exact hasg
  · rw [e0, en] at q1 q2
    exact k H1 locs1 ls hl (ai_set h3 hj1 q1 q2) q3 hL
end AIJ
