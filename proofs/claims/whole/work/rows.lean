section
-- ===== PART A: goes FIRST, ahead of the names: the tables' words, and 'selects' of the private methods out of them =====
/-- a private method of a class that the tables say can be made, by its rows of tables_1 -/
def lw_okq (q : MethodName × Nat) : Prop := (q.1.cls ≠ "java/lang/invoke/MethodHandle" ∧ q.1.cls ≠ "java/lang/invoke/VarHandle") ∧ Cond.instantiable q.1.cls q.2 ∈ tables_1 ∧ Cond.privateMethod q.1 ∈ tables_1 ∧ Cond.instanceMethod q.1 ∈ tables_1
theorem lw_p0 : lw_okq (⟨"AlertIndex$Question", "raiseAlert", "(I)V"⟩, 6) := ⟨⟨by decide +kernel, by decide +kernel⟩, List.mem_of_getElem? (i := 168) (by decide +kernel), List.mem_of_getElem? (i := 166) (by decide +kernel), List.mem_of_getElem? (i := 167) (by decide +kernel)⟩
theorem lw_p1 : lw_okq (⟨"AlertIndex$PieceIndex", "hitAbove", "(II)V"⟩, 1) := ⟨⟨by decide +kernel, by decide +kernel⟩, List.mem_of_getElem? (i := 73) (by decide +kernel), List.mem_of_getElem? (i := 191) (by decide +kernel), List.mem_of_getElem? (i := 192) (by decide +kernel)⟩
theorem lw_p2 : lw_okq (⟨"AlertIndex$PieceIndex", "firstAt", "(I)LAlertIndex$Posting;"⟩, 1) := ⟨⟨by decide +kernel, by decide +kernel⟩, List.mem_of_getElem? (i := 73) (by decide +kernel), List.mem_of_getElem? (i := 195) (by decide +kernel), List.mem_of_getElem? (i := 196) (by decide +kernel)⟩
theorem lw_p3 : lw_okq (⟨"java/lang/Throwable", "fillInStackTrace", "(I)Ljava/lang/Throwable;"⟩, 6) := ⟨⟨by decide +kernel, by decide +kernel⟩, List.mem_of_getElem? (i := 277) (by decide +kernel), List.mem_of_getElem? (i := 275) (by decide +kernel), List.mem_of_getElem? (i := 276) (by decide +kernel)⟩
theorem lw_p4 : lw_okq (⟨"java/util/ArrayList", "add", "(Ljava/lang/Object;[Ljava/lang/Object;I)V"⟩, 3) := ⟨⟨by decide +kernel, by decide +kernel⟩, List.mem_of_getElem? (i := 33) (by decide +kernel), List.mem_of_getElem? (i := 346) (by decide +kernel), List.mem_of_getElem? (i := 347) (by decide +kernel)⟩
theorem lw_p5 : lw_okq (⟨"java/util/ArrayList", "grow", "()[Ljava/lang/Object;"⟩, 3) := ⟨⟨by decide +kernel, by decide +kernel⟩, List.mem_of_getElem? (i := 33) (by decide +kernel), List.mem_of_getElem? (i := 350) (by decide +kernel), List.mem_of_getElem? (i := 351) (by decide +kernel)⟩
theorem lw_p6 : lw_okq (⟨"java/util/ArrayList", "grow", "(I)[Ljava/lang/Object;"⟩, 3) := ⟨⟨by decide +kernel, by decide +kernel⟩, List.mem_of_getElem? (i := 33) (by decide +kernel), List.mem_of_getElem? (i := 354) (by decide +kernel), List.mem_of_getElem? (i := 355) (by decide +kernel)⟩
theorem lw_p7 : lw_okq (⟨"AlertIndex", "questionOf", "(I)LAlertIndex$Question;"⟩, 4) := ⟨⟨by decide +kernel, by decide +kernel⟩, List.mem_of_getElem? (i := 25) (by decide +kernel), List.mem_of_getElem? (i := 407) (by decide +kernel), List.mem_of_getElem? (i := 408) (by decide +kernel)⟩
theorem lw_p8 : lw_okq (⟨"AlertIndex$PieceIndex", "post", "(LAlertIndex$Product;I)V"⟩, 1) := ⟨⟨by decide +kernel, by decide +kernel⟩, List.mem_of_getElem? (i := 73) (by decide +kernel), List.mem_of_getElem? (i := 517) (by decide +kernel), List.mem_of_getElem? (i := 518) (by decide +kernel)⟩
theorem lw_p9 : lw_okq (⟨"AlertIndexModel", "holds", "(I)Z"⟩, 15) := ⟨⟨by decide +kernel, by decide +kernel⟩, List.mem_of_getElem? (i := 629) (by decide +kernel), List.mem_of_getElem? (i := 690) (by decide +kernel), List.mem_of_getElem? (i := 691) (by decide +kernel)⟩
theorem lw_p10 : lw_okq (⟨"AlertIndexModel", "isQuestion", "(I)Z"⟩, 15) := ⟨⟨by decide +kernel, by decide +kernel⟩, List.mem_of_getElem? (i := 629) (by decide +kernel), List.mem_of_getElem? (i := 698) (by decide +kernel), List.mem_of_getElem? (i := 699) (by decide +kernel)⟩
theorem lw_p11 : lw_okq (⟨"AlertIndexModel", "does", "(I)Z"⟩, 15) := ⟨⟨by decide +kernel, by decide +kernel⟩, List.mem_of_getElem? (i := 629) (by decide +kernel), List.mem_of_getElem? (i := 731) (by decide +kernel), List.mem_of_getElem? (i := 732) (by decide +kernel)⟩
theorem lw_p12 : lw_okq (⟨"AlertIndexModel", "isTrue", "(I)Z"⟩, 15) := ⟨⟨by decide +kernel, by decide +kernel⟩, List.mem_of_getElem? (i := 629) (by decide +kernel), List.mem_of_getElem? (i := 735) (by decide +kernel), List.mem_of_getElem? (i := 736) (by decide +kernel)⟩
theorem lw_p13 : lw_okq (⟨"AlertIndexModel", "quietNow", "(I)Z"⟩, 15) := ⟨⟨by decide +kernel, by decide +kernel⟩, List.mem_of_getElem? (i := 629) (by decide +kernel), List.mem_of_getElem? (i := 739) (by decide +kernel), List.mem_of_getElem? (i := 740) (by decide +kernel)⟩
theorem lw_p14 : lw_okq (⟨"AlertIndexModel", "raises", "(I)V"⟩, 15) := ⟨⟨by decide +kernel, by decide +kernel⟩, List.mem_of_getElem? (i := 629) (by decide +kernel), List.mem_of_getElem? (i := 743) (by decide +kernel), List.mem_of_getElem? (i := 744) (by decide +kernel)⟩
theorem lw_p15 : lw_okq (⟨"AlertIndexModel", "found", "()I"⟩, 15) := ⟨⟨by decide +kernel, by decide +kernel⟩, List.mem_of_getElem? (i := 629) (by decide +kernel), List.mem_of_getElem? (i := 760) (by decide +kernel), List.mem_of_getElem? (i := 761) (by decide +kernel)⟩
def lw_privs_1 : List (MethodName × Nat) := [(⟨"AlertIndex$Question", "raiseAlert", "(I)V"⟩, 6), (⟨"AlertIndex$PieceIndex", "hitAbove", "(II)V"⟩, 1), (⟨"AlertIndex$PieceIndex", "firstAt", "(I)LAlertIndex$Posting;"⟩, 1), (⟨"java/lang/Throwable", "fillInStackTrace", "(I)Ljava/lang/Throwable;"⟩, 6), (⟨"java/util/ArrayList", "add", "(Ljava/lang/Object;[Ljava/lang/Object;I)V"⟩, 3), (⟨"java/util/ArrayList", "grow", "()[Ljava/lang/Object;"⟩, 3), (⟨"java/util/ArrayList", "grow", "(I)[Ljava/lang/Object;"⟩, 3), (⟨"AlertIndex", "questionOf", "(I)LAlertIndex$Question;"⟩, 4), (⟨"AlertIndex$PieceIndex", "post", "(LAlertIndex$Product;I)V"⟩, 1), (⟨"AlertIndexModel", "holds", "(I)Z"⟩, 15), (⟨"AlertIndexModel", "isQuestion", "(I)Z"⟩, 15), (⟨"AlertIndexModel", "does", "(I)Z"⟩, 15), (⟨"AlertIndexModel", "isTrue", "(I)Z"⟩, 15), (⟨"AlertIndexModel", "quietNow", "(I)Z"⟩, 15), (⟨"AlertIndexModel", "raises", "(I)V"⟩, 15), (⟨"AlertIndexModel", "found", "()I"⟩, 15)]
theorem lw_r1 : ∀ q ∈ lw_privs_1, lw_okq q := List.forall_mem_cons.mpr ⟨lw_p0, List.forall_mem_cons.mpr ⟨lw_p1, List.forall_mem_cons.mpr ⟨lw_p2, List.forall_mem_cons.mpr ⟨lw_p3, List.forall_mem_cons.mpr ⟨lw_p4, List.forall_mem_cons.mpr ⟨lw_p5, List.forall_mem_cons.mpr ⟨lw_p6, List.forall_mem_cons.mpr ⟨lw_p7, List.forall_mem_cons.mpr ⟨lw_p8, List.forall_mem_cons.mpr ⟨lw_p9, List.forall_mem_cons.mpr ⟨lw_p10, List.forall_mem_cons.mpr ⟨lw_p11, List.forall_mem_cons.mpr ⟨lw_p12, List.forall_mem_cons.mpr ⟨lw_p13, List.forall_mem_cons.mpr ⟨lw_p14, List.forall_mem_cons.mpr ⟨lw_p15, fun _ h => absurd h List.not_mem_nil⟩⟩⟩⟩⟩⟩⟩⟩⟩⟩⟩⟩⟩⟩⟩⟩
theorem lw_p16 : lw_okq (⟨"AlertIndexModel", "size", "(I)I"⟩, 15) := ⟨⟨by decide +kernel, by decide +kernel⟩, List.mem_of_getElem? (i := 629) (by decide +kernel), List.mem_of_getElem? (i := 772) (by decide +kernel), List.mem_of_getElem? (i := 773) (by decide +kernel)⟩
def lw_privs_2 : List (MethodName × Nat) := [(⟨"AlertIndexModel", "size", "(I)I"⟩, 15)]
theorem lw_r2 : ∀ q ∈ lw_privs_2, lw_okq q := List.forall_mem_cons.mpr ⟨lw_p16, fun _ h => absurd h List.not_mem_nil⟩
def lw_privs : List (MethodName × Nat) := lw_privs_1 ++ (lw_privs_2)
def lw_tbl : List Cond := k2_sels lw_privs ++ tables_1
theorem lw_privs_ok : ∀ q ∈ lw_privs, lw_okq q := by
  show ∀ q ∈ lw_privs_1 ++ (lw_privs_2), lw_okq q
  exact List.forall_mem_append.mpr ⟨lw_r1, lw_r2⟩
end
section
/-! ===== BEGIN words of one list among another's, by their places ===== -/
theorem goodIn_r {big : List Cond} (ws : List Cond) (ps : List Nat) (hp : ws = ps.filterMap (fun i => big[i]?)) (h : ws.all goodWord = true) : GoodIn big ws := by
  intro w hw
  have h1 := List.all_eq_true.mp h w hw
  rw [hp] at hw
  obtain ⟨i, -, hi⟩ := List.mem_filterMap.mp hw
  have hm : w ∈ big := by first | exact List.mem_of_getElem? hi | exact List.getElem?_mem hi
  exact ⟨hm, good_of_word h1⟩
theorem goodIn_app {big a b : List Cond} (ha : GoodIn big a) (hb : GoodIn big b) : GoodIn big (a ++ b) := fun w h => (List.mem_append.mp h).elim (ha w) (hb w)
theorem goodIn_ca {big a b : List Cond} {c : Cond} (ha : GoodIn big (c :: a)) (hb : GoodIn big b) : GoodIn big (c :: (a ++ b)) := fun w h => (List.mem_cons.mp h).elim (fun e => ha w (List.mem_cons.mpr (Or.inl e))) (fun h => (List.mem_append.mp h).elim (fun h => ha w (List.mem_cons.mpr (Or.inr h))) (hb w))
theorem goodIn_sub {big ws : List Cond} (hm : ∀ w ∈ ws, w ∈ big) (h : ws.all goodWord = true) : GoodIn big ws := fun w hw => ⟨hm w hw, good_of_word (List.all_eq_true.mp h w hw)⟩
/-! ===== END ===== -/

/-! ===== BEGIN exceptions that leave a method, and their catching by the caller (launches without stack traces) ===== -/
section VXA
/-! The laws vx_back, vx_callV, vx_callS, vx_callSW, vx_throw0, vx_throwS follow proofs of the library, with one case more: JvmDerived/Free/Laws.lean (Back.of_free), Shelf42/LK1.lean (callV, callS), Shelf/KitTraced.lean (throwNew0V, throwNewS). -/
/-- where a method has thrown q: the class by its name, the cell, what was written, the world -/
def vx_T (XC : String → State → State → Prop) (st : State) (q : Addr) (t : State) (mc ms : Nat) (free : Addr → Prop) : Prop :=
  ∃ (E : String) (ce : Cell) (L : List Loc), XC E st t ∧ t.heap[q]? = some ce ∧ ce.vm = .none ∧ st.vm.findClass E = some ce.cls ∧ st.WarmedH t.vm ∧ st.sameButNew ({ t with vm := st.vm } : State) L mc ms ∧ ∀ z ∈ L, free z.base
def vx_Q (Qc : Array Value → State → Outcome → State → Prop) (XC : String → State → State → Prop) (mc ms : Nat) (free : Addr → Prop) : Array Value → State → Outcome → State → Prop := fun a st o t =>
  (Qc a st o t ∧ ∃ L, FrameEnd st o t L mc ms ∧ ∀ q ∈ L, free q.base) ∨ ∃ q, o = .threw q ∧ vx_T XC st q t mc ms free
/-- a callee that returns or throws -/
def vx_Met (l : Launch) (y : MethodName) (ws : List Cond) (rm : Room) (Pc : Array Value → State → Prop) (Qc : Array Value → State → Outcome → State → Prop) (XC : String → State → State → Prop) (mc ms : Nat) (free : Addr → Prop) : Prop :=
  MetFree l y (headSpec ws rm) Pc (fun _ _ _ _ _ => True) (vx_Q Qc XC mc ms free)
def vx_Post (XC : String → State → State → Prop) (mc ms : Nat) (free : Addr → Prop) : Pt → Array Value → Addr → Pt → Prop := fun A a q B =>
  ∃ (g : JFrame) (mk : MethodId) (t : State) (L : List Loc) (E : String) (ce : Cell), B.U.heap = t.heap ∧ B.U.vm = t.vm ∧ XC E (A.U.calling g mk a) t ∧ t.heap[q]? = some ce ∧ ce.vm = .none ∧ A.U.vm.findClass E = some ce.cls ∧ B.locs = A.locs ++ L ∧ (∀ z ∈ L, free z.base) ∧ B.cells = A.cells + mc ∧ B.slots = A.slots + ms
def vx_Back (l : Launch) (R : Room) (p : Program) (e : Env) (below : List Frame) (s : State) (sargs : Array Value) (y : MethodName) (len W9 : Nat)
    (Pre : Pt → Array Value → Prop) (Post : Pt → Array Value → Option Value → Pt → Prop) (PostX : Pt → Array Value → Addr → Pt → Prop) : Prop :=
  ∀ (m : MethodId) (meth : Method) (c : Code) (A : Pt) (g : JFrame) (ig : Instr) (mk : MethodId) (a : Array Value),
    Stand p l e R s m sargs below meth c A.U A.locs A.cells A.slots → g.method = m → g.locals.size = c.maxLocals → decode c.code g.pc = .ok (ig, len) →
    2 * g.monitorRoom + (g.stack.map fun v => v.category).sum ≤ W9 → A.U.methodNamed? y = some mk → Pre A a →
    (∃ (v : Option Value) (B : Pt), Stand p l e R s m sargs below meth c B.U B.locs B.cells B.slots ∧ Post A a v B ∧
      Steps p.tables e below (doInvoke e (A.U.setTop g) [] mk a).1 (B.U.setTop { g with pc := g.pc + len, stack := v.toList ++ g.stack })) ∨
    (∃ (q : Addr) (B : Pt), Stand p l e R s m sargs below meth c B.U B.locs B.cells B.slots ∧ PostX A a q B ∧
      Steps p.tables e below (doInvoke e (A.U.setTop g) [] mk a).1 ((B.U.setTop g).pushFrame (.throwing q)))
section Payer
variable {l : Launch} {R : Room} {p : Program} {e : Env} {below : List Frame} {s : State} {sargs : Array Value} {y : MethodName} {len W9 : Nat}
theorem vx_back {ws : List Cond} {rm : Room} {Pc : Array Value → State → Prop} {Qc : Array Value → State → Outcome → State → Prop} {XC : String → State → State → Prop} {mc ms : Nat} {free : Addr → Prop} {bytes : ByteArray} {maxL : Nat} {ret : Option FieldType}
    (hM : vx_Met l y ws rm Pc Qc XC mc ms free) (hblind : FrameBlind Pc) (hrc : rm.cells = mc) (hrs : rm.slots = ms)
    (hframes : rm.frames + 1 ≤ R.frames) (hlocals : W9 + (maxL + 11) + rm.locals ≤ R.locals)
    (hws : ∀ w ∈ ws, ∀ a' U, s.WarmedH U.vm → w.before a' U = true) (hcode : Cond.code y bytes maxL ret ∈ ws) (hinit : ∀ a' U, s.WarmedH U.vm → (Cond.initialized y.cls).before a' U = true) :
    vx_Back l R p e below s sargs y len W9 (PreOf R mc ms Pc) (PostOf Qc mc ms free) (vx_Post XC mc ms free) := by
  intro m meth c A g ig mk a X hg hsize hdg hW hn hp
  have h1 : (headSpec ws rm).pre.before a A.U = true := atoms_intro fun w hw => hws w hw _ _ X.warmed
  have h2 : (Cond.code y bytes maxL ret).before a A.U = true := hws _ hcode _ _ X.warmed
  have h3 : (Cond.initialized y.cls).before a A.U = true := hinit _ _ X.warmed
  have h4 : A.cells + (headSpec ws rm).room.cells ≤ R.cells := by rw [show (headSpec ws rm).room.cells = mc from hrc]; exact hp.1
  have h5 : A.slots + (headSpec ws rm).room.slots ≤ R.slots := by rw [show (headSpec ws rm).room.slots = ms from hrs]; exact hp.2.1
  have hPc : Pc a (A.U.calling g mk a) := hblind _ _ _ _ hp.2.2
  obtain ⟨U, Ls, c0, s0⟩ := A
  dsimp only [Pt.U, Pt.locs, Pt.cells, Pt.slots] at h1 h2 h3 h4 h5 X hn hPc ⊢
  obtain ⟨methY, cY, hmY, hcY, -, hlY, -, -, -, -⟩ := Cond.code_spec hn h2
  obtain ⟨kY, hkY, -⟩ := className_of_methodNamed hn
  have hinitY : kY.init = .initialized := Cond.initialized_spec (findClass_of_methodNamed hn) hkY h3
  have h : At U g.method c below := by rw [hg]; exact X.here
  have hlocals9 : W9 + (maxL + 11) + (headSpec ws rm).room.locals ≤ R.locals := hlocals
  have happ : (headSpec ws rm).appliesLoose y e.platform (U.calling g mk a) = true :=
    Spec.appliesLoose_calling (g := g) h hdg hn hkY hinitY
      (X.room_calling (g := g) (R' := (headSpec ws rm).room) hsize hmY hcY hframes (by rw [hlY]; omega) h4 h5) h1
  obtain ⟨mid, hmid⟩ := h.above
  have hfr : (U.setTop g).frames = (.java g :: mid) ++ below := by rw [State.frames_setTop' g h.top, hmid]; rfl
  obtain ⟨o, s₂, hsteps, -, hend, hq⟩ := Steps.callFree hM p X.admits X.cas X.clock (acts := []) hfr happ hPc trivial
  have hq' : vx_Q Qc XC mc ms free a (U.calling g mk a) o s₂ := hq
  rw [State.frames_setTop' g h.top] at hend
  obtain ⟨g₀, hg0⟩ := Option.isSome_iff_exists.mp h.top
  obtain ⟨r, hr⟩ := State.topJava?_eq_some.mp hg0
  have hr' : (({ U with heap := s₂.heap, slotsUsed := s₂.slotsUsed } : State).setVm s₂.vm).frames = .java g₀ :: r := hr
  rcases hq' with ⟨hqc, L, hfe, hL⟩ | ⟨q, rfl, E, ce, L, hx, hce, hcv, hcl, hW₂, hsm, hL⟩
  · obtain ⟨⟨v, rfl⟩, hW₂, e2, q2, q3, q4, q5, q6⟩ := id hfe
    have e3 : s₂ = ({ (U.calling g mk a).setFrames s₂.frames with heap := s₂.heap, slotsUsed := s₂.slotsUsed } : State).setVm s₂.vm := by
      have : s₂ = ({ s₂ with vm := (U.calling g mk a).vm } : State).setVm s₂.vm := rfl
      rw [e2] at this
      exact this
    obtain ⟨c₂, i₂, len₂, hc₂, hd₂, hf₂⟩ := hend
    have hW' : U.WarmedH s₂.vm := hW₂
    have hcc : c₂ = c := by
      have h1 : s₂.code? g.method = U.code? g.method := by
        rw [State.code?_eq, State.code?_eq, hW'.alike.method?]
      exact Option.some.inj (hc₂.symm.trans (h1.trans h.code))
    subst hcc
    have hlen : len₂ = len := by rw [hdg] at hd₂; cases hd₂; rfl
    subst hlen
    have hs₂ : s₂ = (({ U with heap := s₂.heap, slotsUsed := s₂.slotsUsed } : State).setVm s₂.vm).setTop { g with pc := g.pc + len₂, stack := v.toList ++ g.stack } := by
      refine e3.trans ?_
      rw [hf₂, State.calling_eq h.top, State.setFrames_setFrames, State.setTop_of_frames _ hr', hr]
      rfl
    have hsame : U.sameButNew ({ U with heap := s₂.heap, slotsUsed := s₂.slotsUsed } : State) L mc ms := by
      refine ⟨?_, q2, q3, q4, q5, q6⟩
      obtain ⟨t, ht, -⟩ := State.frames_cons hr
      show ({ U with heap := s₂.heap, slotsUsed := s₂.slotsUsed } : State) = { U.setFrames U.frames with heap := s₂.heap, slotsUsed := s₂.slotsUsed }
      rw [State.setFrames_self ht]
    subst hg
    refine Or.inl ⟨v, ⟨(({ U with heap := s₂.heap, slotsUsed := s₂.slotsUsed } : State).setVm s₂.vm), Ls ++ L, c0 + mc, s0 + ms⟩,
      ⟨X.admits, X.cas, X.clock, X.frames, X.room, X.hears, X.method, X.code, (X.here.setHeapUsed s₂.heap s₂.slotsUsed).setVm hW'.alike, X.tail, State.WarmedH.trans X.warmed hW', X.limits, X.bytes, X.same.trans (hsame.setVm s.vm)⟩,
      ⟨g, mk, s₂, L, rfl, rfl, hqc, rfl, hL, rfl, rfl⟩, ?_⟩
    show Steps p.tables e below _ ((({ U with heap := s₂.heap, slotsUsed := s₂.slotsUsed } : State).setVm s₂.vm).setTop { g with pc := g.pc + len₂, stack := v.toList ++ g.stack })
    rw [← hs₂]
    exact hsteps
  · obtain ⟨e2, q2, q3, q4, q5, q6⟩ := id hsm
    have e3 : s₂ = ({ (U.calling g mk a).setFrames s₂.frames with heap := s₂.heap, slotsUsed := s₂.slotsUsed } : State).setVm s₂.vm := by
      have : s₂ = ({ s₂ with vm := (U.calling g mk a).vm } : State).setVm s₂.vm := rfl
      rw [e2] at this
      exact this
    have hf₂ : s₂.frames = .throwing q :: .java g :: U.frames.tail := hend
    have hW' : U.WarmedH s₂.vm := hW₂
    have hs₂ : s₂ = ((({ U with heap := s₂.heap, slotsUsed := s₂.slotsUsed } : State).setVm s₂.vm).setTop g).pushFrame (.throwing q) := by
      refine e3.trans ?_
      rw [hf₂, State.calling_eq h.top, State.setFrames_setFrames, State.pushFrame, State.frames_setTop _ hr', State.setTop_of_frames _ hr', State.setFrames_setFrames, hr]
      rfl
    have hsame : U.sameButNew ({ U with heap := s₂.heap, slotsUsed := s₂.slotsUsed } : State) L mc ms := by
      refine ⟨?_, q2, q3, q4, q5, q6⟩
      obtain ⟨t, ht, -⟩ := State.frames_cons hr
      show ({ U with heap := s₂.heap, slotsUsed := s₂.slotsUsed } : State) = { U.setFrames U.frames with heap := s₂.heap, slotsUsed := s₂.slotsUsed }
      rw [State.setFrames_self ht]
    subst hg
    refine Or.inr ⟨q, ⟨(({ U with heap := s₂.heap, slotsUsed := s₂.slotsUsed } : State).setVm s₂.vm), Ls ++ L, c0 + mc, s0 + ms⟩,
      ⟨X.admits, X.cas, X.clock, X.frames, X.room, X.hears, X.method, X.code, (X.here.setHeapUsed s₂.heap s₂.slotsUsed).setVm hW'.alike, X.tail, State.WarmedH.trans X.warmed hW', X.limits, X.bytes, X.same.trans (hsame.setVm s.vm)⟩,
      ⟨g, mk, s₂, L, E, ce, rfl, rfl, hx, hce, hcv, hcl, rfl, hL, rfl, rfl⟩, ?_⟩
    show Steps p.tables e below _ (((({ U with heap := s₂.heap, slotsUsed := s₂.slotsUsed } : State).setVm s₂.vm).setTop g).pushFrame (.throwing q))
    rw [← hs₂]
    exact hsteps
end Payer
section Calls
variable {p : Program} {l : Launch} {e : Env} {R : Room} {s : State} {m : MethodId} {args : Array Value} {below : List Frame} {meth : Method} {c : Code} {T : State} {locs : List Loc} {cells slots : Nat}
theorem vx_callV (X : Stand p l e R s m args below meth c T locs cells slots) (hexec : p.tables.exec = Jvm.exec) {own C : String} {index : Nat} {y : MethodName} {bytes : ByteArray} {maxL : Nat} {ret : Option FieldType}
    (hown : s.vm.findClass own = some m.cls) (hlink : (Cond.methodLink own index y).before args s = true) (hinst : (Cond.instanceMethod y).before args s = true) (hsel : (Cond.selects C y y).before args s = true)
    (hcode : (Cond.code y bytes maxL ret).before args s = true) (hy : y.cls ≠ "java/lang/invoke/MethodHandle" ∧ y.cls ≠ "java/lang/invoke/VarHandle")
    {W9 : Nat} {Pre : Pt → Array Value → Prop} {Post : Pt → Array Value → Option Value → Pt → Prop} {PostX : Pt → Array Value → Addr → Pt → Prop} (hK : vx_Back l R p e below s args y 3 W9 Pre Post PostX)
    {b : Addr} {cellB : Cell} (hcell : T.heap[b]? = some cellB) (hobj : cellB.vm.isStatics = false) (hcls : s.vm.findClass C = some cellB.cls)
    {g : JFrame} (hg : g.method = m) (hsize : g.locals.size = c.maxLocals) {argsL rest : List Value} (hlen : ∀ sig, parseMethodDescriptor y.desc = some sig → argsL.length = sig.parameters.length)
    (hstack : g.stack = argsL.reverse ++ .ref b :: rest) (hW : 2 * g.monitorRoom + (rest.map fun v => v.category).sum ≤ W9) (hdg : decode c.code g.pc = .ok (.invokevirtual index, 3))
    (hpre : ∀ vm₁, s.WarmedH vm₁ → Pre ⟨T.setVm vm₁, locs, cells, slots⟩ (Value.ref b :: argsL).toArray) :
    (∃ (v : Option Value) (vm₁ : Vm) (B : Pt), s.WarmedH vm₁ ∧ Stand p l e R s m args below meth c B.U B.locs B.cells B.slots ∧ Post ⟨T.setVm vm₁, locs, cells, slots⟩ (Value.ref b :: argsL).toArray v B ∧
      ∀ target, Steps p.tables e below (B.U.setTop { g with pc := g.pc + 3, stack := v.toList ++ rest }) target → Steps p.tables e below (T.setTop g) target) ∨
    (∃ (q : Addr) (vm₁ : Vm) (B : Pt), s.WarmedH vm₁ ∧ Stand p l e R s m args below meth c B.U B.locs B.cells B.slots ∧ PostX ⟨T.setVm vm₁, locs, cells, slots⟩ (Value.ref b :: argsL).toArray q B ∧
      Steps p.tables e below (T.setTop g) ((B.U.setTop { g with stack := rest }).pushFrame (.throwing q))) := by
  obtain ⟨mk, methM, hnamed, hmethM, hstM, habM⟩ := Cond.instanceMethod_spec hinst
  obtain ⟨methM', cM, hmethM', -, -, -, -, -, -, hsigM⟩ := Cond.code_spec hnamed hcode
  cases hmethM.symm.trans hmethM'
  obtain ⟨c2, r2, m2, q1, q2, q3, q4, kP, hkP, hkPi⟩ := Cond.selects_spec hsel
  cases hcls.symm.trans q1
  cases (State.methodFound?_of_named hnamed hy).symm.trans q2
  cases hnamed.symm.trans q3
  have hselP : selectMethod e.platform s.vm cellB.cls mk = .method mk := by rw [Launch.admits_selectMethod X.admits]; exact q4
  obtain ⟨vm₁, X₁, hstep₁⟩ := X.invokevirtual hexec hown hlink hnamed hmethM hstM hkP hkPi hy (a := b) (cell := cellB) hcell
    (fun z h => by rw [h] at hobj; cases hobj) hselP hmethM habM hkP hkPi (g := g) hg (argsL := argsL) (rest := rest) (hlen _ hsigM) hstack hdg
  rcases hK m meth c ⟨T.setVm vm₁, locs, cells, slots⟩ { g with stack := rest } (.invokevirtual index) mk (Value.ref b :: argsL).toArray X₁ hg hsize hdg hW (X₁.named hnamed) (hpre vm₁ X₁.warmed) with ⟨v, B, X', hpost, hsteps⟩ | ⟨q, B, X', hpost, hsteps⟩
  · exact Or.inl ⟨v, vm₁, B, X₁.warmed, X', hpost, fun target h => hstep₁ _ fun acts => by rw [doInvoke_state]; exact hsteps.trans h⟩
  · exact Or.inr ⟨q, vm₁, B, X₁.warmed, X', hpost, hstep₁ _ fun acts => by rw [doInvoke_state]; exact hsteps⟩
theorem vx_callS (X : Stand p l e R s m args below meth c T locs cells slots) (hexec : p.tables.exec = Jvm.exec) {own : String} {index : Nat} {y : MethodName} {bytes : ByteArray} {maxL : Nat} {ret : Option FieldType}
    (hown : s.vm.findClass own = some m.cls) (hlink : (Cond.methodLink own index y).before args s = true) (hstat : (Cond.static y).before args s = true) (hinit : (Cond.initialized y.cls).before args s = true)
    (hcode : (Cond.code y bytes maxL ret).before args s = true) (hy : y.cls ≠ "java/lang/invoke/MethodHandle" ∧ y.cls ≠ "java/lang/invoke/VarHandle")
    {W9 : Nat} {Pre : Pt → Array Value → Prop} {Post : Pt → Array Value → Option Value → Pt → Prop} {PostX : Pt → Array Value → Addr → Pt → Prop} (hK : vx_Back l R p e below s args y 3 W9 Pre Post PostX)
    {g : JFrame} (hg : g.method = m) (hsize : g.locals.size = c.maxLocals) {argsL rest : List Value} (hlen : ∀ sig, parseMethodDescriptor y.desc = some sig → argsL.length = sig.parameters.length)
    (hstack : g.stack = argsL.reverse ++ rest) (hW : 2 * g.monitorRoom + (rest.map fun v => v.category).sum ≤ W9) (hdg : decode c.code g.pc = .ok (.invokestatic index, 3))
    (hpre : ∀ vm₁, s.WarmedH vm₁ → Pre ⟨T.setVm vm₁, locs, cells, slots⟩ argsL.toArray) :
    (∃ (v : Option Value) (vm₁ : Vm) (B : Pt), s.WarmedH vm₁ ∧ Stand p l e R s m args below meth c B.U B.locs B.cells B.slots ∧ Post ⟨T.setVm vm₁, locs, cells, slots⟩ argsL.toArray v B ∧
      ∀ target, Steps p.tables e below (B.U.setTop { g with pc := g.pc + 3, stack := v.toList ++ rest }) target → Steps p.tables e below (T.setTop g) target) ∨
    (∃ (q : Addr) (vm₁ : Vm) (B : Pt), s.WarmedH vm₁ ∧ Stand p l e R s m args below meth c B.U B.locs B.cells B.slots ∧ PostX ⟨T.setVm vm₁, locs, cells, slots⟩ argsL.toArray q B ∧
      Steps p.tables e below (T.setTop g) ((B.U.setTop { g with stack := rest }).pushFrame (.throwing q))) := by
  obtain ⟨mk, hnamed⟩ := Cond.code_named hcode
  obtain ⟨methM, cM, hmethM, -, -, -, -, -, -, hsigM⟩ := Cond.code_spec hnamed hcode
  have hstatic : methM.isStatic = true := Cond.static_spec hnamed hmethM hstat
  obtain ⟨kP, hkP, -⟩ := className_of_methodNamed hnamed
  have hinitP : kP.init = .initialized := Cond.initialized_spec (findClass_of_methodNamed hnamed) hkP hinit
  obtain ⟨vm₁, X₁, hstep₁⟩ := X.invokestatic hexec hown hlink hnamed hmethM hstatic hkP hinitP hy (g := g) hg (argsL := argsL) (rest := rest) (hlen _ hsigM) hstack hdg
  rcases hK m meth c ⟨T.setVm vm₁, locs, cells, slots⟩ { g with stack := rest } (.invokestatic index) mk argsL.toArray X₁ hg hsize hdg hW (X₁.named hnamed) (hpre vm₁ X₁.warmed) with ⟨v, B, X', hpost, hsteps⟩ | ⟨q, B, X', hpost, hsteps⟩
  · exact Or.inl ⟨v, vm₁, B, X₁.warmed, X', hpost, fun target h => hstep₁ _ fun acts => by rw [doInvoke_state]; exact hsteps.trans h⟩
  · exact Or.inr ⟨q, vm₁, B, X₁.warmed, X', hpost, hstep₁ _ fun acts => by rw [doInvoke_state]; exact hsteps⟩
end Calls
theorem vx_cls {s : State} {T : State} {vm₁ : Vm} {E : String} {k : ClassId} (hW : s.WarmedH vm₁) (h : (T.setVm vm₁).vm.findClass E = some k) : s.vm.findClass E = some k := by
  have h1 : vm₁.findClass E = some k := h
  rw [hW.alike.findClass] at h1
  exact h1
/-- the method's frame g, with q thrown over it -/
def vx_W (p : Program) (l : Launch) (e : Env) (R : Room) (s : State) (m : MethodId) (args : Array Value) (below : List Frame) (meth : Method) (c : Code) (H : Heap) (locs : List Loc) (cells slots : Nat) (Q : State → Prop) (g : JFrame) (q : Addr) : Prop :=
  ∀ T : State, T.heap = H → Stand p l e R s m args below meth c T locs cells slots → ∃ t, Steps p.tables e below ((T.setTop g).pushFrame (.throwing q)) t ∧ Q t
def vx_Run (p : Program) (l : Launch) (e : Env) (R : Room) (s : State) (m : MethodId) (args : Array Value) (below : List Frame) (meth : Method) (c : Code) (H : Heap) (locs : List Loc) (cells slots mc ms : Nat) (g : JFrame) (rest : List Value) (Qa : State → Outcome → State → Prop) (XC : String → State → State → Prop) (free : Addr → Prop) : Prop :=
  ∀ T : State, T.heap = H → Stand p l e R s m args below meth c T locs cells slots →
    (∃ (v : Option Value) (st₀ t T' : State) (L : List Loc), st₀.heap = H ∧ Stand p l e R s m args below meth c T' (locs ++ L) (cells + mc) (slots + ms) ∧ (∀ q ∈ L, free q.base) ∧ T'.heap = t.heap ∧ T'.vm = t.vm ∧ Qa st₀ (.returned v) t ∧
      Goes p e below T g T' { g with pc := g.pc + 3, stack := v.toList ++ rest }) ∨
    (∃ (q : Addr) (st₀ t T' : State) (L : List Loc) (E : String) (ce : Cell), st₀.heap = H ∧ Stand p l e R s m args below meth c T' (locs ++ L) (cells + mc) (slots + ms) ∧ (∀ z ∈ L, free z.base) ∧ T'.heap = t.heap ∧ T'.vm = t.vm ∧ XC E st₀ t ∧ t.heap[q]? = some ce ∧ ce.vm = .none ∧ s.vm.findClass E = some ce.cls ∧
      Steps p.tables e below (T.setTop g) ((T'.setTop { g with stack := rest }).pushFrame (.throwing q)))
def vx_X {S : Type} (px : S → Prop) (B : String → S → State → Prop) (A : Nat → Prop) : String → State → State → Prop := fun E st t => ∃ u : S, px u ∧ B E u t ∧ va_F A st t
section Runs
variable {p : Program} {l : Launch} {e : Env} {R : Room} {s : State} {m : MethodId} {args : Array Value} {below : List Frame} {meth : Method} {c : Code} {H : Heap} {locs : List Loc} {cells slots : Nat}
variable {y : MethodName} {bytes cc : ByteArray} {maxL nL mc ms n index : Nat} {ret : Option FieldType} {ws : List Cond} {rm : Room} {Pc : Array Value → State → Prop} {Qc : Array Value → State → Outcome → State → Prop} {XC : String → State → State → Prop} {free : Addr → Prop} {Ts : List Cond} {own C : String} {b : Addr} {As rest : List Value} {g : JFrame}
theorem vx_callBack (cb : CallB R s args own index y bytes maxL ret ws rm mc ms n) (hM : vx_Met l y ws rm Pc Qc XC mc ms free) (hbl : FrameBlind Pc) : vx_Back l R p e below s args y 3 8 (PreOf R mc ms Pc) (PostOf Qc mc ms free) (vx_Post XC mc ms free) := by
  obtain ⟨hrc, hrs, hfr, hlo, hws, hcw, -, hini, -⟩ := cb
  exact vx_back (bytes := bytes) (maxL := maxL) (ret := ret) hM hbl hrc hrs hfr hlo hws hcw (fun a' U hW => word_at hW (Or.inl (by first | rfl | simp [Cond.onTables, Cond.keeps, Cond.steady])) hini)
theorem vx_runV (S : CallFix p m c cc nL s args Ts own) (hM : vx_Met l y ws rm Pc Qc XC mc ms free) (cw : CallW R s args own C index y bytes maxL ret ws rm mc ms n) (hp : PreV s H C b Pc As)
    (hg : g.method = m) (hn : As.length = n) (hsize : g.locals.size = nL) (hstack : g.stack = As.reverse ++ .ref b :: rest) (hW : 2 * g.monitorRoom + (rest.map fun v => v.category).sum ≤ 8) (hdg : decode cc g.pc = .ok (.invokevirtual index, 3)) (hf : cells + mc ≤ R.cells ∧ slots + ms ≤ R.slots) :
    vx_Run p l e R s m args below meth c H locs cells slots mc ms g rest (Qc (Value.ref b :: As).toArray) XC free := by
  have hK : vx_Back l R p e below s args y 3 8 (PreOf R mc ms Pc) (PostOf Qc mc ms free) (vx_Post XC mc ms free) := vx_callBack cw.1 hM hp.1
  obtain ⟨⟨-, -, -, -, -, -, hcode, -, hy, hlen, hl⟩, hin, hse⟩ := cw
  obtain ⟨hx, hb, hml, ho, -⟩ := S
  obtain ⟨-, ⟨cellB, hcB, hoB, hclB⟩, hPc⟩ := hp
  intro T hT X
  rcases vx_callV X hx (C := C) (bytes := bytes) (maxL := maxL) (ret := ret) ho hl hin hse hcode hy hK (by rw [hT]; exact hcB) hoB hclB hg (hsize.trans hml.symm) (argsL := As) (rest := rest) (fun sig h => hn.trans (hlen sig h)) hstack hW (by rw [hb]; exact hdg)
    (fun vm₁ hW₁ => ⟨hf.1, hf.2, hPc (T.setVm vm₁) hT hW₁⟩) with ⟨v, vm₁, ⟨U', l2, c2, s2⟩, hW₁, X', ⟨g', mk, t, L, e1, e2, hq, h1, hL, h2, h3⟩, st⟩ | ⟨q, vm₁, ⟨U', l2, c2, s2⟩, hW₁, X', ⟨g', mk, t, L, E, ce, e1, e2, hq, hce, hcv, hcl, h1, hL, h2, h3⟩, st⟩
  · dsimp only [Pt.U, Pt.locs, Pt.cells, Pt.slots] at X' e1 e2 h1 h2 h3 st
    subst h1; subst h2; subst h3
    exact Or.inl ⟨v, (T.setVm vm₁).calling g' mk (Value.ref b :: As).toArray, t, U', L, hT, X', hL, e1, e2, hq, st⟩
  · dsimp only [Pt.U, Pt.locs, Pt.cells, Pt.slots] at X' e1 e2 h1 h2 h3 st hcl
    subst h1; subst h2; subst h3
    exact Or.inr ⟨q, (T.setVm vm₁).calling g' mk (Value.ref b :: As).toArray, t, U', L, E, ce, hT, X', hL, e1, e2, hq, hce, hcv, vx_cls hW₁ hcl, st⟩
theorem vx_runS (S : CallFix p m c cc nL s args Ts own) (hM : vx_Met l y ws rm Pc Qc XC mc ms free) (cw : CallB R s args own index y bytes maxL ret ws rm mc ms n ∧ (Cond.static y).before args s = true) (hp : PreS s H Pc As)
    (hg : g.method = m) (hn : As.length = n) (hsize : g.locals.size = nL) (hstack : g.stack = As.reverse ++ rest) (hW : 2 * g.monitorRoom + (rest.map fun v => v.category).sum ≤ 8) (hdg : decode cc g.pc = .ok (.invokestatic index, 3)) (hf : cells + mc ≤ R.cells ∧ slots + ms ≤ R.slots) :
    vx_Run p l e R s m args below meth c H locs cells slots mc ms g rest (Qc As.toArray) XC free := by
  have hK : vx_Back l R p e below s args y 3 8 (PreOf R mc ms Pc) (PostOf Qc mc ms free) (vx_Post XC mc ms free) := vx_callBack cw.1 hM hp.1
  obtain ⟨⟨-, -, -, -, -, -, hcode, hini, hy, hlen, hl⟩, hstt⟩ := cw
  obtain ⟨hx, hb, hml, ho, -⟩ := S
  intro T hT X
  rcases vx_callS X hx (bytes := bytes) (maxL := maxL) (ret := ret) ho hl hstt hini hcode hy hK hg (hsize.trans hml.symm) (argsL := As) (rest := rest) (fun sig h => hn.trans (hlen sig h)) hstack hW (by rw [hb]; exact hdg)
    (fun vm₁ hW₁ => ⟨hf.1, hf.2, hp.2 (T.setVm vm₁) hT hW₁⟩) with ⟨v, vm₁, ⟨U', l2, c2, s2⟩, hW₁, X', ⟨g', mk, t, L, e1, e2, hq, h1, hL, h2, h3⟩, st⟩ | ⟨q, vm₁, ⟨U', l2, c2, s2⟩, hW₁, X', ⟨g', mk, t, L, E, ce, e1, e2, hq, hce, hcv, hcl, h1, hL, h2, h3⟩, st⟩
  · dsimp only [Pt.U, Pt.locs, Pt.cells, Pt.slots] at X' e1 e2 h1 h2 h3 st
    subst h1; subst h2; subst h3
    exact Or.inl ⟨v, (T.setVm vm₁).calling g' mk As.toArray, t, U', L, hT, X', hL, e1, e2, hq, st⟩
  · dsimp only [Pt.U, Pt.locs, Pt.cells, Pt.slots] at X' e1 e2 h1 h2 h3 st hcl
    subst h1; subst h2; subst h3
    exact Or.inr ⟨q, (T.setVm vm₁).calling g' mk As.toArray, t, U', L, E, ce, hT, X', hL, e1, e2, hq, hce, hcv, vx_cls hW₁ hcl, st⟩
end Runs
section Rows
variable {p : Program} {l : Launch} {e : Env} {R : Room} {s : State} {m : MethodId} {args : Array Value} {below : List Frame} {meth : Method} {c : Code} {H : Heap} {locs : List Loc} {cells slots : Nat} {Q : State → Prop}
variable {mc ms : Nat} {free : Addr → Prop} {A0 A1 : Nat → Prop} {H0 : Heap} {a : Array Value} {pc : Nat} {ls : Array Slot} {st0 rest : List Value}
theorem vx_keep {st₀ t T' : State} {L : List Loc} (h0 : st₀.heap = H) (e1 : T'.heap = t.heap) (hS : va_S A0 H0 H locs) (hA : ∀ q, q < H.size → A1 q → A0 q) (hf : ∀ q, free q → A0 q) (hL : ∀ q ∈ L, free q.base) (hF : va_F A1 st₀ t) :
    H.size ≤ T'.heap.size ∧ (∀ q : Nat, q < H.size → ¬ A1 q → T'.heap[q]? = H[q]?) ∧ va_S A0 H0 T'.heap (locs ++ L) := by
  obtain ⟨hz, hk⟩ := hF
  rw [h0] at hz hk
  exact ⟨by rw [e1]; exact hz, fun q h1 h2 => by rw [e1]; exact hk q h1 h2,
    ⟨Nat.le_trans hS.1 (by rw [e1]; exact hz), fun q h1 h2 => by rw [e1, hk q (Nat.lt_of_lt_of_le h1 hS.1) (fun z => h2 (hA q (Nat.lt_of_lt_of_le h1 hS.1) z))]; exact hS.2.1 q h1 h2, fun q hq => by
      rcases List.mem_append.mp hq with h | h
      · exact hS.2.2 q h
      · exact hf _ (hL q h)⟩⟩
theorem vx_calli {S SX : Type} {post : Int32 → S → Prop} {px : SX → Prop} {B : S → State → Prop} {BX : String → SX → State → Prop} {AX : Nat → Prop} (hr : vx_Run p l e R s m args below meth c H locs cells slots mc ms (F0 m pc ls st0) rest (va_Qi post B A1 a) (vx_X px BX AX) free) (hS : va_S A0 H0 H locs) (hA : ∀ q, q < H.size → A1 q → A0 q) (hf : ∀ q, free q → A0 q) (hAX : ∀ q, q < H.size → AX q → A0 q)
    (kx : ∀ (E : String) (ce : Cell) (q9 : Addr) (u : SX) (t : State) (H1 : Heap) (locs1 : List Loc), t.heap = H1 → s.vm.Alike t.vm → px u → BX E u t → H.size ≤ H1.size → (∀ q : Nat, q < H.size → ¬ AX q → H1[q]? = H[q]?) → va_S A0 H0 H1 locs1 → H1[q9]? = some ce → ce.vm = .none → s.vm.findClass E = some ce.cls → vx_W p l e R s m args below meth c H1 locs1 (cells + mc) (slots + ms) Q (F0 m pc ls rest) q9)
    (kk : ∀ (r : Int32) (u : S) (t : State) (H1 : Heap) (locs1 : List Loc), t.heap = H1 → s.vm.Alike t.vm → post r u → B u t → H.size ≤ H1.size → (∀ q : Nat, q < H.size → ¬ A1 q → H1[q]? = H[q]?) → va_S A0 H0 H1 locs1 → W p l e R s m args below meth c H1 locs1 (cells + mc) (slots + ms) Q (F0 m (pc + 3) ls (.int r :: rest))) : W p l e R s m args below meth c H locs cells slots Q (F0 m pc ls st0) := by
  intro T hT X
  rcases hr T hT X with ⟨v, st₀, t, T', L, h0, X', hL, e1, e2, ⟨⟨r, u, hv, hp, hb⟩, hF⟩, st⟩ | ⟨q, st₀, t, T', L, E, ce, h0, X', hL, e1, e2, ⟨u, hp, hb, hF⟩, hce, hcv, hcl, st⟩
  · cases hv
    obtain ⟨k1, k2, k3⟩ := vx_keep h0 e1 hS hA hf hL hF
    obtain ⟨t2, a1, b1⟩ := kk r u t T'.heap (locs ++ L) e1.symm (by rw [← e2]; exact X'.warmed.alike) hp hb k1 k2 k3 T' rfl X'
    exact ⟨t2, st t2 a1, b1⟩
  · obtain ⟨k1, k2, k3⟩ := vx_keep h0 e1 hS hAX hf hL hF
    obtain ⟨t2, a1, b1⟩ := kx E ce q u t T'.heap (locs ++ L) e1.symm (by rw [← e2]; exact X'.warmed.alike) hp hb k1 k2 k3 (by rw [e1]; exact hce) hcv hcl T' rfl X'
    exact ⟨t2, st.trans a1, b1⟩
theorem vx_calll {S SX : Type} {post : Int64 → S → Prop} {px : SX → Prop} {B : S → State → Prop} {BX : String → SX → State → Prop} {AX : Nat → Prop} (hr : vx_Run p l e R s m args below meth c H locs cells slots mc ms (F0 m pc ls st0) rest (va_Ql post B A1 a) (vx_X px BX AX) free) (hS : va_S A0 H0 H locs) (hA : ∀ q, q < H.size → A1 q → A0 q) (hf : ∀ q, free q → A0 q) (hAX : ∀ q, q < H.size → AX q → A0 q)
    (kx : ∀ (E : String) (ce : Cell) (q9 : Addr) (u : SX) (t : State) (H1 : Heap) (locs1 : List Loc), t.heap = H1 → s.vm.Alike t.vm → px u → BX E u t → H.size ≤ H1.size → (∀ q : Nat, q < H.size → ¬ AX q → H1[q]? = H[q]?) → va_S A0 H0 H1 locs1 → H1[q9]? = some ce → ce.vm = .none → s.vm.findClass E = some ce.cls → vx_W p l e R s m args below meth c H1 locs1 (cells + mc) (slots + ms) Q (F0 m pc ls rest) q9)
    (kk : ∀ (r : Int64) (u : S) (t : State) (H1 : Heap) (locs1 : List Loc), t.heap = H1 → s.vm.Alike t.vm → post r u → B u t → H.size ≤ H1.size → (∀ q : Nat, q < H.size → ¬ A1 q → H1[q]? = H[q]?) → va_S A0 H0 H1 locs1 → W p l e R s m args below meth c H1 locs1 (cells + mc) (slots + ms) Q (F0 m (pc + 3) ls (.long r :: rest))) : W p l e R s m args below meth c H locs cells slots Q (F0 m pc ls st0) := by
  intro T hT X
  rcases hr T hT X with ⟨v, st₀, t, T', L, h0, X', hL, e1, e2, ⟨⟨r, u, hv, hp, hb⟩, hF⟩, st⟩ | ⟨q, st₀, t, T', L, E, ce, h0, X', hL, e1, e2, ⟨u, hp, hb, hF⟩, hce, hcv, hcl, st⟩
  · cases hv
    obtain ⟨k1, k2, k3⟩ := vx_keep h0 e1 hS hA hf hL hF
    obtain ⟨t2, a1, b1⟩ := kk r u t T'.heap (locs ++ L) e1.symm (by rw [← e2]; exact X'.warmed.alike) hp hb k1 k2 k3 T' rfl X'
    exact ⟨t2, st t2 a1, b1⟩
  · obtain ⟨k1, k2, k3⟩ := vx_keep h0 e1 hS hAX hf hL hF
    obtain ⟨t2, a1, b1⟩ := kx E ce q u t T'.heap (locs ++ L) e1.symm (by rw [← e2]; exact X'.warmed.alike) hp hb k1 k2 k3 (by rw [e1]; exact hce) hcv hcl T' rfl X'
    exact ⟨t2, st.trans a1, b1⟩
theorem vx_callf {S SX : Type} {post : UInt32 → S → Prop} {px : SX → Prop} {B : S → State → Prop} {BX : String → SX → State → Prop} {AX : Nat → Prop} (hr : vx_Run p l e R s m args below meth c H locs cells slots mc ms (F0 m pc ls st0) rest (va_Qf post B A1 a) (vx_X px BX AX) free) (hS : va_S A0 H0 H locs) (hA : ∀ q, q < H.size → A1 q → A0 q) (hf : ∀ q, free q → A0 q) (hAX : ∀ q, q < H.size → AX q → A0 q)
    (kx : ∀ (E : String) (ce : Cell) (q9 : Addr) (u : SX) (t : State) (H1 : Heap) (locs1 : List Loc), t.heap = H1 → s.vm.Alike t.vm → px u → BX E u t → H.size ≤ H1.size → (∀ q : Nat, q < H.size → ¬ AX q → H1[q]? = H[q]?) → va_S A0 H0 H1 locs1 → H1[q9]? = some ce → ce.vm = .none → s.vm.findClass E = some ce.cls → vx_W p l e R s m args below meth c H1 locs1 (cells + mc) (slots + ms) Q (F0 m pc ls rest) q9)
    (kk : ∀ (r : UInt32) (u : S) (t : State) (H1 : Heap) (locs1 : List Loc), t.heap = H1 → s.vm.Alike t.vm → post r u → B u t → H.size ≤ H1.size → (∀ q : Nat, q < H.size → ¬ A1 q → H1[q]? = H[q]?) → va_S A0 H0 H1 locs1 → W p l e R s m args below meth c H1 locs1 (cells + mc) (slots + ms) Q (F0 m (pc + 3) ls (.float r :: rest))) : W p l e R s m args below meth c H locs cells slots Q (F0 m pc ls st0) := by
  intro T hT X
  rcases hr T hT X with ⟨v, st₀, t, T', L, h0, X', hL, e1, e2, ⟨⟨r, u, hv, hp, hb⟩, hF⟩, st⟩ | ⟨q, st₀, t, T', L, E, ce, h0, X', hL, e1, e2, ⟨u, hp, hb, hF⟩, hce, hcv, hcl, st⟩
  · cases hv
    obtain ⟨k1, k2, k3⟩ := vx_keep h0 e1 hS hA hf hL hF
    obtain ⟨t2, a1, b1⟩ := kk r u t T'.heap (locs ++ L) e1.symm (by rw [← e2]; exact X'.warmed.alike) hp hb k1 k2 k3 T' rfl X'
    exact ⟨t2, st t2 a1, b1⟩
  · obtain ⟨k1, k2, k3⟩ := vx_keep h0 e1 hS hAX hf hL hF
    obtain ⟨t2, a1, b1⟩ := kx E ce q u t T'.heap (locs ++ L) e1.symm (by rw [← e2]; exact X'.warmed.alike) hp hb k1 k2 k3 (by rw [e1]; exact hce) hcv hcl T' rfl X'
    exact ⟨t2, st.trans a1, b1⟩
theorem vx_calld {S SX : Type} {post : UInt64 → S → Prop} {px : SX → Prop} {B : S → State → Prop} {BX : String → SX → State → Prop} {AX : Nat → Prop} (hr : vx_Run p l e R s m args below meth c H locs cells slots mc ms (F0 m pc ls st0) rest (va_Qd post B A1 a) (vx_X px BX AX) free) (hS : va_S A0 H0 H locs) (hA : ∀ q, q < H.size → A1 q → A0 q) (hf : ∀ q, free q → A0 q) (hAX : ∀ q, q < H.size → AX q → A0 q)
    (kx : ∀ (E : String) (ce : Cell) (q9 : Addr) (u : SX) (t : State) (H1 : Heap) (locs1 : List Loc), t.heap = H1 → s.vm.Alike t.vm → px u → BX E u t → H.size ≤ H1.size → (∀ q : Nat, q < H.size → ¬ AX q → H1[q]? = H[q]?) → va_S A0 H0 H1 locs1 → H1[q9]? = some ce → ce.vm = .none → s.vm.findClass E = some ce.cls → vx_W p l e R s m args below meth c H1 locs1 (cells + mc) (slots + ms) Q (F0 m pc ls rest) q9)
    (kk : ∀ (r : UInt64) (u : S) (t : State) (H1 : Heap) (locs1 : List Loc), t.heap = H1 → s.vm.Alike t.vm → post r u → B u t → H.size ≤ H1.size → (∀ q : Nat, q < H.size → ¬ A1 q → H1[q]? = H[q]?) → va_S A0 H0 H1 locs1 → W p l e R s m args below meth c H1 locs1 (cells + mc) (slots + ms) Q (F0 m (pc + 3) ls (.double r :: rest))) : W p l e R s m args below meth c H locs cells slots Q (F0 m pc ls st0) := by
  intro T hT X
  rcases hr T hT X with ⟨v, st₀, t, T', L, h0, X', hL, e1, e2, ⟨⟨r, u, hv, hp, hb⟩, hF⟩, st⟩ | ⟨q, st₀, t, T', L, E, ce, h0, X', hL, e1, e2, ⟨u, hp, hb, hF⟩, hce, hcv, hcl, st⟩
  · cases hv
    obtain ⟨k1, k2, k3⟩ := vx_keep h0 e1 hS hA hf hL hF
    obtain ⟨t2, a1, b1⟩ := kk r u t T'.heap (locs ++ L) e1.symm (by rw [← e2]; exact X'.warmed.alike) hp hb k1 k2 k3 T' rfl X'
    exact ⟨t2, st t2 a1, b1⟩
  · obtain ⟨k1, k2, k3⟩ := vx_keep h0 e1 hS hAX hf hL hF
    obtain ⟨t2, a1, b1⟩ := kx E ce q u t T'.heap (locs ++ L) e1.symm (by rw [← e2]; exact X'.warmed.alike) hp hb k1 k2 k3 (by rw [e1]; exact hce) hcv hcl T' rfl X'
    exact ⟨t2, st.trans a1, b1⟩
theorem vx_callv {S SX : Type} {post : S → Prop} {px : SX → Prop} {B : S → State → Prop} {BX : String → SX → State → Prop} {AX : Nat → Prop} (hr : vx_Run p l e R s m args below meth c H locs cells slots mc ms (F0 m pc ls st0) rest (va_Qv post B A1 a) (vx_X px BX AX) free) (hS : va_S A0 H0 H locs) (hA : ∀ q, q < H.size → A1 q → A0 q) (hf : ∀ q, free q → A0 q) (hAX : ∀ q, q < H.size → AX q → A0 q)
    (kx : ∀ (E : String) (ce : Cell) (q9 : Addr) (u : SX) (t : State) (H1 : Heap) (locs1 : List Loc), t.heap = H1 → s.vm.Alike t.vm → px u → BX E u t → H.size ≤ H1.size → (∀ q : Nat, q < H.size → ¬ AX q → H1[q]? = H[q]?) → va_S A0 H0 H1 locs1 → H1[q9]? = some ce → ce.vm = .none → s.vm.findClass E = some ce.cls → vx_W p l e R s m args below meth c H1 locs1 (cells + mc) (slots + ms) Q (F0 m pc ls rest) q9)
    (kk : ∀ (u : S) (t : State) (H1 : Heap) (locs1 : List Loc), t.heap = H1 → s.vm.Alike t.vm → post u → B u t → H.size ≤ H1.size → (∀ q : Nat, q < H.size → ¬ A1 q → H1[q]? = H[q]?) → va_S A0 H0 H1 locs1 → W p l e R s m args below meth c H1 locs1 (cells + mc) (slots + ms) Q (F0 m (pc + 3) ls (rest))) : W p l e R s m args below meth c H locs cells slots Q (F0 m pc ls st0) := by
  intro T hT X
  rcases hr T hT X with ⟨v, st₀, t, T', L, h0, X', hL, e1, e2, ⟨⟨u, hv, hp, hb⟩, hF⟩, st⟩ | ⟨q, st₀, t, T', L, E, ce, h0, X', hL, e1, e2, ⟨u, hp, hb, hF⟩, hce, hcv, hcl, st⟩
  · cases hv
    obtain ⟨k1, k2, k3⟩ := vx_keep h0 e1 hS hA hf hL hF
    obtain ⟨t2, a1, b1⟩ := kk u t T'.heap (locs ++ L) e1.symm (by rw [← e2]; exact X'.warmed.alike) hp hb k1 k2 k3 T' rfl X'
    exact ⟨t2, st t2 a1, b1⟩
  · obtain ⟨k1, k2, k3⟩ := vx_keep h0 e1 hS hAX hf hL hF
    obtain ⟨t2, a1, b1⟩ := kx E ce q u t T'.heap (locs ++ L) e1.symm (by rw [← e2]; exact X'.warmed.alike) hp hb k1 k2 k3 (by rw [e1]; exact hce) hcv hcl T' rfl X'
    exact ⟨t2, st.trans a1, b1⟩
/-- caught by the row x of this method's table; the rows ahead don't take it -/
theorem vx_catch {own name : String} {E : String} {ce : Cell} {q : Addr} (hown : s.vm.findClass own = some m.cls) (pre : List ExceptionTableEntry) (x : ExceptionTableEntry) (suf : List ExceptionTableEntry) (hsplit : c.exceptionTable.toList = pre ++ x :: suf)
    (hpass : ∀ z ∈ pre, covers z pc = false ∨ (z.catchType ≠ 0 ∧ ∃ nm : String, (Cond.classLink own z.catchType nm).before args s = true ∧ va_Nc E nm s)) (hx : covers x pc = true) (h0 : x.catchType ≠ 0)
    (hlink : (Cond.classLink own x.catchType name).before args s = true) (hcast : (Cond.castable E name).before args s = true) (hcell : H[q]? = some ce) (hv : ce.vm = .none) (hcl : s.vm.findClass E = some ce.cls)
    (kk : W p l e R s m args below meth c H locs cells slots Q (F0 m x.handlerPc ls [.ref q])) : vx_W p l e R s m args below meth c H locs cells slots Q (F0 m pc ls rest) q := by
  intro T hT X
  have hpl : e.platform.magicAccessors = ({} : Platform).magicAccessors := by rw [X.admits.platform]
  obtain ⟨c3, c4, hc3, hc4, hasg⟩ := Cond.castable_spec hcast
  cases Option.some.inj (hc3.symm.trans hcl)
  obtain ⟨c5, hc5, hcl5⟩ := Cond.classLink_spec hown hlink e.platform hpl
  cases Option.some.inj (hc4.symm.trans hc5)
  obtain ⟨vm', X', st⟩ := X.thenCaughtThrough q (g := F0 m pc ls rest) rfl (Steps.refl _) (by rw [hT]; exact hcell) (by rw [hv]; rfl) (by obtain ⟨k9, h9, -⟩ := Vm.findClass_spec hcl; exact ⟨k9, h9⟩) pre x suf hsplit
    (fun z hz => by
      rcases hpass z hz with h | ⟨hz0, nm, hl1, hn1⟩
      · exact Or.inl h
      · obtain ⟨c6, hc6, hcl6⟩ := Cond.classLink_spec hown hl1 e.platform hpl
        obtain ⟨a8, b8, h1, h2, h3⟩ := hn1
        cases Option.some.inj (h1.symm.trans hcl)
        cases Option.some.inj (h2.symm.trans hc6)
        exact Or.inr ⟨hz0, _, hcl6, h3⟩) hx (Or.inr ⟨h0, c4, hcl5, hasg⟩)
  obtain ⟨t, a1, b1⟩ := kk (T.setVm vm') hT X'
  exact ⟨t, st.trans a1, b1⟩
end Rows
section Ends
variable {p : Program} {l : Launch} {e : Env} {R : Room} {s : State} {m : MethodId} {args : Array Value} {below : List Frame} {meth : Method} {c : Code} {H : Heap} {locs : List Loc} {cells slots : Nat} {Q : State → Prop}
variable {mc ms : Nat} {free : Addr → Prop} {A0 A1 : Nat → Prop} {H0 : Heap} {a : Array Value} {ls : Array Slot} {st0 rest : List Value}
variable {Qc : Array Value → State → Outcome → State → Prop} {XC : String → State → State → Prop}
/-- what a body that may throw owes at its end -/
def vx_MQ (below : List Frame) (Qc : Array Value → State → Outcome → State → Prop) (XC : String → State → State → Prop) (a : Array Value) (s : State) (mc ms : Nat) (free : Addr → Prop) : State → Prop := fun t =>
  ∃ o, t.status = .running ∧ Ended t below o ∧ vx_Q Qc XC mc ms free a s o t
theorem vx_ret {g : JFrame} {mc ms : Nat} (k : W p l e R s m args below meth c H locs cells slots (MQ below Qc args s mc ms free) g) : W p l e R s m args below meth c H locs cells slots (vx_MQ below Qc XC args s mc ms free) g := by
  intro T hT X
  obtain ⟨t, a1, o, b1, b2, b3, b4⟩ := k T hT X
  exact ⟨t, a1, o, b1, b2, Or.inl ⟨b3, b4⟩⟩
/-- not caught here: it goes on to the caller -/
theorem vx_widen {g : JFrame} {q : Addr} {k n : Nat} (h1 : cells ≤ k) (h2 : slots ≤ n) (kk : vx_W p l e R s m args below meth c H locs k n Q g q) : vx_W p l e R s m args below meth c H locs cells slots Q g q := fun T hT X => kk T hT (stand_widen X h1 h2)
theorem vx_out {pc : Nat} {E : String} {ce : Cell} {q : Addr} {mc ms : Nat} (hout : ∀ x ∈ c.exceptionTable.toList, covers x pc = false) (hlocks : meth.locks = false) (hcell : H[q]? = some ce) (hv : ce.vm = .none) (hcl : s.vm.findClass E = some ce.cls)
    (hx : ∀ t : State, t.heap = H → s.vm.Alike t.vm → XC E s t) (hf : ∀ z ∈ locs, free z.base) (hc : cells ≤ mc) (hs : slots ≤ ms) :
    vx_W p l e R s m args below meth c H locs cells slots (vx_MQ below Qc XC args s mc ms free) (F0 m pc ls rest) q := by
  intro T hT X
  obtain ⟨st1, hrun, hend, hW, hsm⟩ := X.leaveThrown q (g := F0 m pc ls rest) rfl rfl rfl hout hlocks
  have hcell9 : (T.setFrames (.throwing q :: below)).heap[q]? = some ce := by
    show T.heap[q]? = some ce
    rw [hT]; exact hcell
  exact ⟨_, st1, .threw q, hrun, hend, Or.inr ⟨q, rfl, E, ce, locs, hx _ hT hW.alike, hcell9, hv, hcl, hW, hsm.mono hc hs, hf⟩⟩
theorem vx_frame {U : State} {k n : Nat} (h : s.sameButNew ({ U with vm := s.vm } : State) locs k n) : s.heap.size ≤ U.heap.size ∧ ∀ q : Nat, q < s.heap.size → (∀ z ∈ locs, z.base ≠ q) → U.heap[q]? = s.heap[q]? := by
  obtain ⟨-, h2, -, -, -, h6⟩ := h
  refine ⟨h2, fun q hq hz => ?_⟩
  obtain ⟨c9, e1, e2, e3, e4⟩ := h6 q _ (Array.getElem?_eq_getElem hq)
  have hs : c9.slots = (s.heap[q]).slots := Array.ext_getElem? fun i => e4 i fun hm => hz _ hm rfl
  have h9 : c9 = s.heap[q] := by
    rw [hs] at e2
    exact e2
  have e5 : U.heap[q]? = some c9 := e1
  rw [e5, h9, Array.getElem?_eq_getElem hq]
/-- the words of a throw but the four that speak of the heap -/
def vx_no (w : Cond) : Bool := decide (w ≠ .isRef (.static Bundle.tN "UNASSIGNED_STACK" Bundle.steD)) && decide (w ≠ .isRef (.static Bundle.tN "SUPPRESSED_SENTINEL" Bundle.listD)) && decide (w ≠ .laysStatic Bundle.tN "UNASSIGNED_STACK" Bundle.steD) && decide (w ≠ .laysStatic Bundle.tN "SUPPRESSED_SENTINEL" Bundle.listD)
def vx_at0 (own : String) (ic : Nat) (X : String) (names : List String) : List Cond := (Bundle.ownAtoms0 own ic X names).filter vx_no
def vx_atS (own : String) (ic : Nat) (X : String) (names : List String) : List Cond := (Bundle.ownAtoms own ic X names).filter vx_no
/-- a word that the tables alone decide, or a good one -/
def vx_ot (w : Cond) : Bool := w.onTables || goodWord w
theorem vx_ot_at {args a' : Array Value} {s U : State} {w : Cond} (hW : s.WarmedH U.vm) (hvm : s.vm = U.vm) (hg : vx_ot w = true) (h : w.before args s = true) : w.before a' U = true := by
  simp only [vx_ot, Bool.or_eq_true] at hg
  rcases hg with hg | hg
  · exact va_tabs hg hvm h
  · exact word_at hW (good_of_word hg) h
/-- a list's words: the good ones out of the method's own list, the others by premises of their own -/
theorem vx_hat {args : Array Value} {s : State} {L B : List Cond} (h1 : ∀ w ∈ L.filter goodWord, w.before args s = true) (h2 : ∀ w ∈ L.filter (fun w => !goodWord w), w ∈ B) (h3 : ∀ w ∈ B, w.before args s = true) : ∀ w ∈ L, w.before args s = true := by
  intro w hw
  by_cases g : goodWord w = true
  · exact h1 w (List.mem_filter.mpr ⟨hw, g⟩)
  · refine h3 w (h2 w (List.mem_filter.mpr ⟨hw, ?_⟩))
    show (!goodWord w) = true
    cases hgw : goodWord w
    · rfl
    · exact absurd hgw g
theorem vx_c {args : Array Value} {s : State} {w : Cond} {B : List Cond} (h : w.before args s = true) (t : ∀ w ∈ B, w.before args s = true) : ∀ w' ∈ w :: B, w'.before args s = true := fun w' h' => (List.mem_cons.mp h').elim (fun e => by rw [e]; exact h) (t w')
theorem vx_n {args : Array Value} {s : State} : ∀ w ∈ ([] : List Cond), w.before args s = true := fun _ h => nomatch h
theorem vx_own {args : Array Value} {s : State} {L : List Cond} (h1 : ∀ w ∈ L.filter vx_no, w.before args s = true)
    (hU : (Cond.isRef (.static Bundle.tN "UNASSIGNED_STACK" Bundle.steD)).before args s = true) (hN : (Cond.isRef (.static Bundle.tN "SUPPRESSED_SENTINEL" Bundle.listD)).before args s = true)
    (lU : (Cond.laysStatic Bundle.tN "UNASSIGNED_STACK" Bundle.steD).before args s = true) (lN : (Cond.laysStatic Bundle.tN "SUPPRESSED_SENTINEL" Bundle.listD).before args s = true) : ∀ w ∈ L, w.before args s = true := by
  intro w hw
  by_cases e1 : w = .isRef (.static Bundle.tN "UNASSIGNED_STACK" Bundle.steD)
  · rw [e1]; exact hU
  · by_cases e2 : w = .isRef (.static Bundle.tN "SUPPRESSED_SENTINEL" Bundle.listD)
    · rw [e2]; exact hN
    · by_cases e3 : w = .laysStatic Bundle.tN "UNASSIGNED_STACK" Bundle.steD
      · rw [e3]; exact lU
      · by_cases e4 : w = .laysStatic Bundle.tN "SUPPRESSED_SENTINEL" Bundle.listD
        · rw [e4]; exact lN
        · exact h1 w (List.mem_filter.mpr ⟨hw, by unfold vx_no; rw [decide_eq_true e1, decide_eq_true e2, decide_eq_true e3, decide_eq_true e4]; rfl⟩)
/-- where a static field lies, its class's statics cell in H -/
def vx_L (C n d : String) (A : Nat → Prop) (U : State) (H : Heap) : Prop := ∃ (c : ClassId) (k : Class) (i : Nat) (f : Field) (a : Nat) (cell : Cell), U.vm.findClass C = some c ∧ U.fieldFound? C n d = some (c, k, i, f) ∧ f.isStatic = true ∧ k.statics = some a ∧ H[a]? = some cell ∧ cell.vm.isStatics = true ∧ cell.cls = c ∧ f.slot < cell.slots.size ∧ k.staticTypes[f.slot]? = some f.type ∧ ¬ A a
theorem vx_L.moved {C n d : String} {A : Nat → Prop} {u U : State} {H : Heap} (hvm : u.vm.Alike U.vm) (h : vx_L C n d A u H) : vx_L C n d A U H := by
  obtain ⟨c, k, i, f, a, cell, h1, h2, h3, h4, h5, h6, h7, h8, h9, h10⟩ := h
  obtain ⟨k', hi', he⟩ := State.fieldFound?_setVm hvm h2
  exact ⟨c, k', i, f, a, cell, by rw [hvm.findClass]; exact h1, hi', h3, by rw [he]; exact h4, h5, h6, h7, h8, by rw [he]; exact h9, h10⟩
theorem vx_L.kept {C n d : String} {A : Nat → Prop} {U : State} {H H1 : Heap} (h : vx_L C n d A U H) (hq : ∀ a : Nat, a < H.size → ¬ A a → H1[a]? = H[a]?) : vx_L C n d A U H1 := by
  obtain ⟨c, k, i, f, a, cell, h1, h2, h3, h4, h5, h6, h7, h8, h9, h10⟩ := h
  exact ⟨c, k, i, f, a, cell, h1, h2, h3, h4, by rw [hq a (Array.getElem?_eq_some_iff.mp h5).1 h10]; exact h5, h6, h7, h8, h9, h10⟩
theorem vx_L.narrow {C n d : String} {A B : Nat → Prop} {U : State} {H : Heap} (h : vx_L C n d A U H) (hAB : ∀ q, B q → A q) : vx_L C n d B U H := by
  obtain ⟨c, k, i, f, a, cell, h1, h2, h3, h4, h5, h6, h7, h8, h9, h10⟩ := h
  exact ⟨c, k, i, f, a, cell, h1, h2, h3, h4, h5, h6, h7, h8, h9, fun z => h10 (hAB _ z)⟩
theorem vx_L.word {C n d : String} {A : Nat → Prop} {s : State} {args : Array Value} (h : vx_L C n d A s s.heap) : (Cond.laysStatic C n d).before args s = true := by
  obtain ⟨c, k, i, f, a, cell, h1, h2, h3, h4, h5, h6, h7, h8, h9, -⟩ := h
  show (Cond.laysStatic C n d).holds args s none s [] = true
  exact Cond.laysStatic_of h1 h2 h3 h4 h5 h6 h7 h8 h9
/-- .. and what it holds: null or some reference -/
def vx_Zq (C n d : String) (A : Nat → Prop) (U : State) (H : Heap) : Prop := va_Zq C n d A U H ∧ vx_L C n d A U H
theorem vx_Zq.moved {C n d : String} {A : Nat → Prop} {u U : State} {H : Heap} (hvm : u.vm.Alike U.vm) (h : vx_Zq C n d A u H) : vx_Zq C n d A U H := ⟨va_Zq.moved hvm h.1, vx_L.moved hvm h.2⟩
theorem vx_Zq.kept {C n d : String} {A : Nat → Prop} {U : State} {H H1 : Heap} (h : vx_Zq C n d A U H) (hq : ∀ a : Nat, a < H.size → ¬ A a → H1[a]? = H[a]?) : vx_Zq C n d A U H1 := ⟨va_Zq.kept h.1 hq, vx_L.kept h.2 hq⟩
theorem vx_Zq.narrow {C n d : String} {A B : Nat → Prop} {U : State} {H : Heap} (h : vx_Zq C n d A U H) (hAB : ∀ q, B q → A q) : vx_Zq C n d B U H := ⟨va_Zq.narrow h.1 hAB, vx_L.narrow h.2 hAB⟩
theorem vx_Zqof {args : Array Value} {s : State} {C n d : String} {A : Nat → Prop} (hl : (Cond.laysStatic C n d).before args s = true) (hini : (Cond.initialized C).before args s = true) (h : (Cond.isRef (.static C n d)).before args s = true) (hA : ∀ a : Nat, a < s.heap.size → ¬ A a) : vx_Zq C n d A s s.heap := by
  refine ⟨va_Zqof hl hini h hA, ?_⟩
  obtain ⟨c, k, i, f, a, cell, h1, h2, h3, h4, h5, h6, h7, h8, h9⟩ := Cond.laysStatic_spec hl
  exact ⟨c, k, i, f, a, cell, h1, h2, h3, h4, h5, h6, h7, h8, h9, hA a (Array.getElem?_eq_some_iff.mp h5).1⟩
theorem vx_isRef {C n d : String} {v : Value} {A : Nat → Prop} {s : State} {args : Array Value} (h : va_Z C n d v A s s.heap) (hv : v.isRef = true) : (Cond.isRef (.static C n d)).before args s = true := by
  obtain ⟨cf, kf, fi, f, a, cell, h1, h2, h3, h4, h5, h6, h7, -⟩ := h
  have he : (Term.static C n d).eval args s none [] s = some v := by
    simp [Term.eval, State.fieldNamed?, h1, h2, h4, h5, h6, h7]
  simp only [Cond.before, Cond.holds, Cond.value, he]
  cases v <;> simp_all [Value.isRef]
theorem vx_isRefq {C n d : String} {A : Nat → Prop} {s : State} {args : Array Value} (h : va_Zq C n d A s s.heap) : (Cond.isRef (.static C n d)).before args s = true := by
  rcases h with h | ⟨t, h⟩
  · exact vx_isRef h rfl
  · exact vx_isRef h rfl
/-- the same frame, seen from here: as if the method were called anew in this heap -/
theorem vx_rebase {T : State} (X : Stand p l e R s m args below meth c T locs cells slots) {R' : Room} (hf : R'.frames ≤ R.frames) (hl : R'.locals ≤ R.locals) (hc : cells + R'.cells ≤ R.cells) (hs : slots + R'.slots ≤ R.slots) :
    Stand p l e R' ((T.setVm s.vm).setFrames (.invoking m args :: below)) m args below meth c T [] 0 0 := by
  have htop : (T.setVm s.vm).topJava?.isSome := X.here.top
  have hF : ((T.setVm s.vm).setFrames (.invoking m args :: below)).frames = .invoking m args :: below := State.frames_setFrames _ (State.cur_lt_of_top htop)
  obtain ⟨g₀, hg0⟩ := Option.isSome_iff_exists.mp htop
  obtain ⟨r, hr⟩ := State.topJava?_eq_some.mp hg0
  have hl9 : e.platform.stackLimits (T.setVm s.vm).me = e.platform.stackLimits s.me := X.limits
  have hb9 : (T.setVm s.vm).me.stackBytes = s.me.stackBytes := X.bytes
  refine ⟨X.admits, X.cas, X.clock, hF, ?_, X.hears, X.method, X.code, X.here, X.tail, X.warmed, ?_, ?_, ?_⟩
  · have h := X.room
    have hU : ((T.setVm s.vm).setFrames (.invoking m args :: below)).localsInUse = s.localsInUse := by
      rw [State.localsInUse_invoking hF (meth := meth) (c := c) X.method X.code, State.localsInUse_invoking X.frames X.method X.code]
    simp only [State.hasRoom, Bool.and_eq_true, decide_eq_true_eq] at h ⊢
    obtain ⟨⟨⟨⟨h1, h2, h3, h4, h5, h6⟩, h7⟩, h8⟩, h9⟩ := h
    rw [X.frames, List.length_cons] at h2 h3
    have q1 := X.heapSize
    have q2 := X.used
    simp only [hF, hU, List.length_cons, State.stackLimits_setFrames, State.stackBytes_setFrames, hl9, hb9]
    refine ⟨⟨⟨⟨by omega, by omega, by omega, by omega, by omega, h6⟩, ?_⟩, ?_⟩, X.book⟩
    · show T.heap.size + R'.cells ≤ e.platform.maxCells
      omega
    · show T.slotsUsed + R'.slots ≤ e.platform.maxSlots
      omega
  · rw [State.stackLimits_setFrames]; rfl
  · rw [State.stackBytes_setFrames]; rfl
  · refine ⟨?_, Nat.le_refl _, Nat.le_refl _, ?_, ?_, fun a c9 h9 => ⟨c9, h9, rfl, rfl, fun _ _ => rfl⟩⟩
    · obtain ⟨t, ht, -⟩ := State.frames_cons hr
      show T.setVm s.vm = { ((T.setVm s.vm).setFrames (.invoking m args :: below)).setFrames (T.setVm s.vm).frames with heap := T.heap, slotsUsed := T.slotsUsed }
      rw [State.setFrames_setFrames, State.setFrames_self ht]
      rfl
    · show T.slotsUsed = T.slotsUsed + ((T.heap.toList.drop T.heap.size).map (·.slots.size)).sum
      rw [List.drop_eq_nil_of_le (Nat.le_of_eq Array.length_toList)]
      rfl
    · show ((T.heap.toList.drop T.heap.size).map (·.slots.size)).sum ≤ 0
      rw [List.drop_eq_nil_of_le (Nat.le_of_eq Array.length_toList)]
      exact Nat.le_refl _
/-- 'throw new E()': new; dup; invokespecial; athrow -/
theorem vx_throw0 {cc : ByteArray} {pc : Nat} (hexec : p.tables.exec = Jvm.exec) (hb : c.code = cc) (hl : l.stackTraces = false) {own cls : String} {names : List String} {ik ic mc ms : Nat} {A : Nat → Prop}
    (hown : s.vm.findClass own = some m.cls) (hcls : Bundle.fit cls = true) (hnames : ∀ n ∈ names, Bundle.fit n = true)
    (hk : (Cond.classLink own ik cls).before args s = true) (hini : (Cond.initialized cls).before args s = true) (hat : ∀ w ∈ vx_at0 own ic cls names, w.before args s = true)
    (hgood : ∀ w ∈ Cond.classLink own ik cls :: Cond.initialized cls :: vx_at0 own ic cls names, vx_ot w = true)
    (hU : vx_Zq Bundle.tN "UNASSIGNED_STACK" Bundle.steD A s s.heap) (hN : vx_Zq Bundle.tN "SUPPRESSED_SENTINEL" Bundle.listD A s s.heap) (hS : va_S A s.heap H locs) (hsize : ls.size = c.maxLocals)
    (d0 : decode cc pc = .ok (.new ik, 3)) (d3 : decode cc (pc + 3) = .ok (.dup, 1)) (d4 : decode cc (pc + 4) = .ok (.invokespecial ic, 3)) (d7 : decode cc (pc + 7) = .ok (.athrow, 1))
    (hout : ∀ x ∈ c.exceptionTable.toList, covers x (pc + 7) = false)
    (hRframes : names.length + 3 < R.frames) (hRlocals : (rest.map fun v => v.category).sum + (13 * (names.length + 1) + 42) ≤ R.locals) (hRcells : cells + 1 ≤ R.cells) (hRslots : slots + 6 ≤ R.slots) (hlocks : meth.locks = false)
    (hx : ∀ t : State, s.vm.Alike t.vm → H.size ≤ t.heap.size → (∀ q : Nat, q < H.size → t.heap[q]? = H[q]?) → XC cls s t)
    (hf : ∀ z ∈ locs, free z.base) (hc : cells + 1 ≤ mc) (hs : slots + 6 ≤ ms) :
    W p l e R s m args below meth c H locs cells slots (vx_MQ below Qc XC args s mc ms free) (F0 m pc ls rest) := by
  intro T hT X
  have htr : e.platform.stackTraces = false := (show e.platform.stackTraces = l.stackTraces by rw [X.admits.platform]).trans hl
  have Y := vx_rebase X (R' := { frames := R.frames, locals := R.locals, cells := 1, slots := 6 }) (Nat.le_refl _) (Nat.le_refl _) hRcells hRslots
  obtain ⟨s', hA⟩ : ∃ z, z = (T.setVm s.vm).setFrames (.invoking m args :: below) := ⟨_, rfl⟩
  rw [← hA] at Y
  have hvm : s'.vm = s.vm := by rw [hA]; rfl
  have hhp : s'.heap = H := by rw [hA]; exact hT
  have hW0 : s.WarmedH s'.vm := by rw [hvm]; exact State.WarmedH.refl s
  have hat' : ∀ w ∈ vx_at0 own ic cls names, w.before args s' = true := fun w hw => vx_ot_at hW0 hvm.symm (hgood w (List.mem_cons_of_mem _ (List.mem_cons_of_mem _ hw))) (hat w hw)
  have hk' : (Cond.classLink own ik cls).before args s' = true := vx_ot_at hW0 hvm.symm (hgood _ List.mem_cons_self) hk
  have hini' : (Cond.initialized cls).before args s' = true := vx_ot_at hW0 hvm.symm (hgood _ (List.mem_cons_of_mem _ List.mem_cons_self)) hini
  have hU' : vx_Zq Bundle.tN "UNASSIGNED_STACK" Bundle.steD A s' s'.heap := by rw [hhp]; exact vx_Zq.moved hW0.alike (hU.kept hS.2.1)
  have hN' : vx_Zq Bundle.tN "SUPPRESSED_SENTINEL" Bundle.listD A s' s'.heap := by rw [hhp]; exact vx_Zq.moved hW0.alike (hN.kept hS.2.1)
  have h : ∀ w ∈ Bundle.ownAtoms0 own ic cls names, w.before args s' = true := vx_own hat' (vx_isRefq hU'.1) (vx_isRefq hN'.1) hU'.2.word hN'.2.word
  have hown' : s'.vm.findClass own = some m.cls := by rw [hvm]; exact hown
  have hins : (Cond.instantiable cls 6).before args s' = true := h _ (by simp [Bundle.ownAtoms0])
  obtain ⟨vm₁, cX, kX, hfX, hkX, -, -, X₁, st1⟩ := Y.newCold hexec (own := own) (C := cls) (index := ik) (n := 6) hown' hk' hins hini'
    (g := F0 m pc ls rest) rfl (by rw [hb]; exact d0) (Nat.le_refl _) (Nat.le_refl _)
  generalize hT1 : (T.setVm vm₁).pushCell { cls := cX, slots := kX.instanceTypes.map defaultValue, vm := .none } = T1 at X₁ st1
  have hcat : (Value.ref T.heap.size).category = 1 := rfl
  have hcellA : T1.heap[T.heap.size]? = some (freshCell cX kX) := by rw [← hT1]; exact State.heap_pushCell_size _ _
  have d3' : decode c.code (pc + 3) = .ok (.dup, 1) := by rw [hb]; exact d3
  obtain ⟨U, hsteps, hrun, hend, hW, hsame, ce, hce, hO⟩ := X₁.ctorThrow0 hexec htr (own := own) (cls := cls) (names := names) (ic := ic) hown' hcls hnames h (fun x hx => nomatch hx) hfX hkX hcellA (by rw [hhp, hT]; exact Nat.le_refl _)
    (g := { method := m, pc := pc + 4, locals := ls, stack := .ref T.heap.size :: .ref T.heap.size :: rest, locked := none }) rfl hsize rfl rfl (rest := rest) rfl
    (by rw [hb]; exact d4) (by rw [hb]; exact d7) hout hRframes (by simp only [List.map_cons, List.sum_cons, hcat]; omega) hlocks
  obtain ⟨f1, f2⟩ := vx_frame hsame
  rw [hhp] at f1 f2
  have hWs : s.WarmedH U.vm := State.WarmedH.trans hW0 hW
  have hcl : s.vm.findClass cls = some ce.cls := by
    have h9 := hO.cls
    rw [hvm] at h9
    exact h9
  have hall : s.sameButNew ({ U with vm := s.vm } : State) locs mc ms := by
    subst hA
    obtain ⟨e1, e2⟩ := hsame
    rw [State.setFrames_setFrames] at e1
    have h2 : (T.setVm s.vm).sameButNew ({ U with vm := s.vm } : State) [] (0 + 1) (0 + 6) := ⟨e1, e2⟩
    have h3 := X.same.trans h2
    rw [List.append_nil] at h3
    exact h3.mono hc hs
  refine ⟨U, ?_, .threw T.heap.size, hrun, hend, Or.inr ⟨T.heap.size, rfl, cls, ce, locs, hx U hWs.alike f1 (fun q hq => f2 q hq (fun z hz => nomatch hz)), hce, hO.vm, hcl, hWs, hall, hf⟩⟩
  refine st1 _ ?_
  show Steps p.tables e below (T1.setTop { method := m, pc := pc + 3, locals := ls, stack := .ref T.heap.size :: rest, locked := none }) _
  jvm_step X₁.here [X₁.here.top, hexec, d3', Value.category]
  exact hsteps
/-- 'throw new E("text")': new; dup; ldc; invokespecial; athrow -/
theorem vx_throwS {cc : ByteArray} {pc : Nat} (hexec : p.tables.exec = Jvm.exec) (hb : c.code = cc) (hl : l.stackTraces = false) {own cls text : String} {names : List String} {ik is ic mc ms sa : Nat} {A : Nat → Prop}
    (hown : s.vm.findClass own = some m.cls) (hcls : Bundle.fit cls = true) (hnames : ∀ n ∈ names, Bundle.fit n = true)
    (hk : (Cond.classLink own ik cls).before args s = true) (hini : (Cond.initialized cls).before args s = true) (hstr : vk_R own is text sa s) (hat : ∀ w ∈ vx_atS own ic cls names, w.before args s = true)
    (hgood : ∀ w ∈ Cond.classLink own ik cls :: Cond.initialized cls :: vx_atS own ic cls names, vx_ot w = true)
    (hU : vx_Zq Bundle.tN "UNASSIGNED_STACK" Bundle.steD A s s.heap) (hN : vx_Zq Bundle.tN "SUPPRESSED_SENTINEL" Bundle.listD A s s.heap) (hS : va_S A s.heap H locs) (hsize : ls.size = c.maxLocals)
    (d0 : decode cc pc = .ok (.new ik, 3)) (d3 : decode cc (pc + 3) = .ok (.dup, 1)) (d4 : decode cc (pc + 4) = .ok (.ldc is, 2)) (d6 : decode cc (pc + 6) = .ok (.invokespecial ic, 3)) (d9 : decode cc (pc + 9) = .ok (.athrow, 1))
    (hout : ∀ x ∈ c.exceptionTable.toList, covers x (pc + 9) = false)
    (hRframes : names.length + 3 < R.frames) (hRlocals : (rest.map fun v => v.category).sum + (13 * (names.length + 1) + 43) ≤ R.locals) (hRcells : cells + 1 ≤ R.cells) (hRslots : slots + 6 ≤ R.slots) (hlocks : meth.locks = false)
    (hx : ∀ t : State, s.vm.Alike t.vm → H.size ≤ t.heap.size → (∀ q : Nat, q < H.size → t.heap[q]? = H[q]?) → XC cls s t)
    (hf : ∀ z ∈ locs, free z.base) (hc : cells + 1 ≤ mc) (hs : slots + 6 ≤ ms) :
    W p l e R s m args below meth c H locs cells slots (vx_MQ below Qc XC args s mc ms free) (F0 m pc ls rest) := by
  intro T hT X
  have htr : e.platform.stackTraces = false := (show e.platform.stackTraces = l.stackTraces by rw [X.admits.platform]).trans hl
  have Y := vx_rebase X (R' := { frames := R.frames, locals := R.locals, cells := 1, slots := 6 }) (Nat.le_refl _) (Nat.le_refl _) hRcells hRslots
  obtain ⟨s', hA⟩ : ∃ z, z = (T.setVm s.vm).setFrames (.invoking m args :: below) := ⟨_, rfl⟩
  rw [← hA] at Y
  have hvm : s'.vm = s.vm := by rw [hA]; rfl
  have hhp : s'.heap = H := by rw [hA]; exact hT
  have hW0 : s.WarmedH s'.vm := by rw [hvm]; exact State.WarmedH.refl s
  have hat' : ∀ w ∈ vx_atS own ic cls names, w.before args s' = true := fun w hw => vx_ot_at hW0 hvm.symm (hgood w (List.mem_cons_of_mem _ (List.mem_cons_of_mem _ hw))) (hat w hw)
  have hk' : (Cond.classLink own ik cls).before args s' = true := vx_ot_at hW0 hvm.symm (hgood _ List.mem_cons_self) hk
  have hini' : (Cond.initialized cls).before args s' = true := vx_ot_at hW0 hvm.symm (hgood _ (List.mem_cons_of_mem _ List.mem_cons_self)) hini
  have hU' : vx_Zq Bundle.tN "UNASSIGNED_STACK" Bundle.steD A s' s'.heap := by rw [hhp]; exact vx_Zq.moved hW0.alike (hU.kept hS.2.1)
  have hN' : vx_Zq Bundle.tN "SUPPRESSED_SENTINEL" Bundle.listD A s' s'.heap := by rw [hhp]; exact vx_Zq.moved hW0.alike (hN.kept hS.2.1)
  have h : ∀ w ∈ Bundle.ownAtoms own ic cls names, w.before args s' = true := vx_own hat' (vx_isRefq hU'.1) (vx_isRefq hN'.1) hU'.2.word hN'.2.word
  have hown' : s'.vm.findClass own = some m.cls := by rw [hvm]; exact hown
  have hins : (Cond.instantiable cls 6).before args s' = true := h _ (by simp [Bundle.ownAtoms])
  obtain ⟨vm₁, cX, kX, hfX, hkX, -, -, X₁, st1⟩ := Y.newCold hexec (own := own) (C := cls) (index := ik) (n := 6) hown' hk' hins hini'
    (g := F0 m pc ls rest) rfl (by rw [hb]; exact d0) (Nat.le_refl _) (Nat.le_refl _)
  generalize hT1 : (T.setVm vm₁).pushCell { cls := cX, slots := kX.instanceTypes.map defaultValue, vm := .none } = T1 at X₁ st1
  have hcat : (Value.ref T.heap.size).category = 1 := rfl
  have hcellA : T1.heap[T.heap.size]? = some (freshCell cX kX) := by rw [← hT1]; exact State.heap_pushCell_size _ _
  have d3' : decode c.code (pc + 3) = .ok (.dup, 1) := by rw [hb]; exact d3
  have d4' : decode c.code (pc + 4) = .ok (.ldc is, 2) := by rw [hb]; exact d4
  have hstr' : vk_R own is text sa s' := vk_R.warm hW0 hstr
  obtain ⟨U, hsteps, hrun, hend, hW, hsame, ce, hce, hO⟩ := X₁.ctorThrowS hexec htr (own := own) (cls := cls) (names := names) (ic := ic) hown' hcls hnames h (fun x hx => nomatch hx) hfX hkX hcellA (by rw [hhp, hT]; exact Nat.le_refl _) (msg := .ref sa) rfl
    (g := { method := m, pc := pc + 6, locals := ls, stack := .ref sa :: .ref T.heap.size :: .ref T.heap.size :: rest, locked := none }) rfl hsize rfl rfl (rest := rest) rfl
    (by rw [hb]; exact d6) (by rw [hb]; exact d9) hout hRframes (by simp only [List.map_cons, List.sum_cons, hcat]; omega) hlocks
  obtain ⟨f1, f2⟩ := vx_frame hsame
  rw [hhp] at f1 f2
  have hWs : s.WarmedH U.vm := State.WarmedH.trans hW0 hW
  have hcl : s.vm.findClass cls = some ce.cls := by
    have h9 := hO.cls
    rw [hvm] at h9
    exact h9
  have hall : s.sameButNew ({ U with vm := s.vm } : State) locs mc ms := by
    subst hA
    obtain ⟨e1, e2⟩ := hsame
    rw [State.setFrames_setFrames] at e1
    have h2 : (T.setVm s.vm).sameButNew ({ U with vm := s.vm } : State) [] (0 + 1) (0 + 6) := ⟨e1, e2⟩
    have h3 := X.same.trans h2
    rw [List.append_nil] at h3
    exact h3.mono hc hs
  refine ⟨U, ?_, .threw T.heap.size, hrun, hend, Or.inr ⟨T.heap.size, rfl, cls, ce, locs, hx U hWs.alike f1 (fun q hq => f2 q hq (fun z hz => nomatch hz)), hce, hO.vm, hcl, hWs, hall, hf⟩⟩
  refine st1 _ ?_
  show Steps p.tables e below (T1.setTop { method := m, pc := pc + 3, locals := ls, stack := .ref T.heap.size :: rest, locked := none }) _
  jvm_step X₁.here [X₁.here.top, hexec, d3', Value.category]
  exact X₁.ldcString hexec (own := own) (text := text) (index := is) (a := sa) hown' hstr'.1 hstr'.2
    (g := { method := m, pc := pc + 4, locals := ls, stack := .ref T.heap.size :: .ref T.heap.size :: rest, locked := none }) rfl d4' _ hsteps
/-- 'throw new E("text")', the text by a wide index -/
theorem vx_throwSW {cc : ByteArray} {pc : Nat} (hexec : p.tables.exec = Jvm.exec) (hb : c.code = cc) (hl : l.stackTraces = false) {own cls text : String} {names : List String} {ik is ic mc ms sa : Nat} {A : Nat → Prop}
    (hown : s.vm.findClass own = some m.cls) (hcls : Bundle.fit cls = true) (hnames : ∀ n ∈ names, Bundle.fit n = true)
    (hk : (Cond.classLink own ik cls).before args s = true) (hini : (Cond.initialized cls).before args s = true) (hstr : vk_R own is text sa s) (hat : ∀ w ∈ vx_atS own ic cls names, w.before args s = true)
    (hgood : ∀ w ∈ Cond.classLink own ik cls :: Cond.initialized cls :: vx_atS own ic cls names, vx_ot w = true)
    (hU : vx_Zq Bundle.tN "UNASSIGNED_STACK" Bundle.steD A s s.heap) (hN : vx_Zq Bundle.tN "SUPPRESSED_SENTINEL" Bundle.listD A s s.heap) (hS : va_S A s.heap H locs) (hsize : ls.size = c.maxLocals)
    (d0 : decode cc pc = .ok (.new ik, 3)) (d3 : decode cc (pc + 3) = .ok (.dup, 1)) (d4 : decode cc (pc + 4) = .ok (.ldc_w is, 3)) (d7 : decode cc (pc + 7) = .ok (.invokespecial ic, 3)) (d10 : decode cc (pc + 10) = .ok (.athrow, 1))
    (hout : ∀ x ∈ c.exceptionTable.toList, covers x (pc + 10) = false)
    (hRframes : names.length + 3 < R.frames) (hRlocals : (rest.map fun v => v.category).sum + (13 * (names.length + 1) + 43) ≤ R.locals) (hRcells : cells + 1 ≤ R.cells) (hRslots : slots + 6 ≤ R.slots) (hlocks : meth.locks = false)
    (hx : ∀ t : State, s.vm.Alike t.vm → H.size ≤ t.heap.size → (∀ q : Nat, q < H.size → t.heap[q]? = H[q]?) → XC cls s t)
    (hf : ∀ z ∈ locs, free z.base) (hc : cells + 1 ≤ mc) (hs : slots + 6 ≤ ms) :
    W p l e R s m args below meth c H locs cells slots (vx_MQ below Qc XC args s mc ms free) (F0 m pc ls rest) := by
  intro T hT X
  have htr : e.platform.stackTraces = false := (show e.platform.stackTraces = l.stackTraces by rw [X.admits.platform]).trans hl
  have Y := vx_rebase X (R' := { frames := R.frames, locals := R.locals, cells := 1, slots := 6 }) (Nat.le_refl _) (Nat.le_refl _) hRcells hRslots
  obtain ⟨s', hA⟩ : ∃ z, z = (T.setVm s.vm).setFrames (.invoking m args :: below) := ⟨_, rfl⟩
  rw [← hA] at Y
  have hvm : s'.vm = s.vm := by rw [hA]; rfl
  have hhp : s'.heap = H := by rw [hA]; exact hT
  have hW0 : s.WarmedH s'.vm := by rw [hvm]; exact State.WarmedH.refl s
  have hat' : ∀ w ∈ vx_atS own ic cls names, w.before args s' = true := fun w hw => vx_ot_at hW0 hvm.symm (hgood w (List.mem_cons_of_mem _ (List.mem_cons_of_mem _ hw))) (hat w hw)
  have hk' : (Cond.classLink own ik cls).before args s' = true := vx_ot_at hW0 hvm.symm (hgood _ List.mem_cons_self) hk
  have hini' : (Cond.initialized cls).before args s' = true := vx_ot_at hW0 hvm.symm (hgood _ (List.mem_cons_of_mem _ List.mem_cons_self)) hini
  have hU' : vx_Zq Bundle.tN "UNASSIGNED_STACK" Bundle.steD A s' s'.heap := by rw [hhp]; exact vx_Zq.moved hW0.alike (hU.kept hS.2.1)
  have hN' : vx_Zq Bundle.tN "SUPPRESSED_SENTINEL" Bundle.listD A s' s'.heap := by rw [hhp]; exact vx_Zq.moved hW0.alike (hN.kept hS.2.1)
  have h : ∀ w ∈ Bundle.ownAtoms own ic cls names, w.before args s' = true := vx_own hat' (vx_isRefq hU'.1) (vx_isRefq hN'.1) hU'.2.word hN'.2.word
  have hown' : s'.vm.findClass own = some m.cls := by rw [hvm]; exact hown
  have hins : (Cond.instantiable cls 6).before args s' = true := h _ (by simp [Bundle.ownAtoms])
  obtain ⟨vm₁, cX, kX, hfX, hkX, -, -, X₁, st1⟩ := Y.newCold hexec (own := own) (C := cls) (index := ik) (n := 6) hown' hk' hins hini'
    (g := F0 m pc ls rest) rfl (by rw [hb]; exact d0) (Nat.le_refl _) (Nat.le_refl _)
  generalize hT1 : (T.setVm vm₁).pushCell { cls := cX, slots := kX.instanceTypes.map defaultValue, vm := .none } = T1 at X₁ st1
  have hcat : (Value.ref T.heap.size).category = 1 := rfl
  have hcellA : T1.heap[T.heap.size]? = some (freshCell cX kX) := by rw [← hT1]; exact State.heap_pushCell_size _ _
  have d3' : decode c.code (pc + 3) = .ok (.dup, 1) := by rw [hb]; exact d3
  have d4' : decode c.code (pc + 4) = .ok (.ldc_w is, 3) := by rw [hb]; exact d4
  have hstr' : vk_R own is text sa s' := vk_R.warm hW0 hstr
  obtain ⟨U, hsteps, hrun, hend, hW, hsame, ce, hce, hO⟩ := X₁.ctorThrowS hexec htr (own := own) (cls := cls) (names := names) (ic := ic) hown' hcls hnames h (fun x hx => nomatch hx) hfX hkX hcellA (by rw [hhp, hT]; exact Nat.le_refl _) (msg := .ref sa) rfl
    (g := { method := m, pc := pc + 7, locals := ls, stack := .ref sa :: .ref T.heap.size :: .ref T.heap.size :: rest, locked := none }) rfl hsize rfl rfl (rest := rest) rfl
    (by rw [hb]; exact d7) (by rw [hb]; exact d10) hout hRframes (by simp only [List.map_cons, List.sum_cons, hcat]; omega) hlocks
  obtain ⟨f1, f2⟩ := vx_frame hsame
  rw [hhp] at f1 f2
  have hWs : s.WarmedH U.vm := State.WarmedH.trans hW0 hW
  have hcl : s.vm.findClass cls = some ce.cls := by
    have h9 := hO.cls
    rw [hvm] at h9
    exact h9
  have hall : s.sameButNew ({ U with vm := s.vm } : State) locs mc ms := by
    subst hA
    obtain ⟨e1, e2⟩ := hsame
    rw [State.setFrames_setFrames] at e1
    have h2 : (T.setVm s.vm).sameButNew ({ U with vm := s.vm } : State) [] (0 + 1) (0 + 6) := ⟨e1, e2⟩
    have h3 := X.same.trans h2
    rw [List.append_nil] at h3
    exact h3.mono hc hs
  refine ⟨U, ?_, .threw T.heap.size, hrun, hend, Or.inr ⟨T.heap.size, rfl, cls, ce, locs, hx U hWs.alike f1 (fun q hq => f2 q hq (fun z hz => nomatch hz)), hce, hO.vm, hcl, hWs, hall, hf⟩⟩
  refine st1 _ ?_
  show Steps p.tables e below (T1.setTop { method := m, pc := pc + 3, locals := ls, stack := .ref T.heap.size :: rest, locked := none }) _
  jvm_step X₁.here [X₁.here.top, hexec, d3', Value.category]
  exact X₁.ldcStringW hexec (own := own) (text := text) (index := is) (a := sa) hown' hstr'.1 hstr'.2
    (g := { method := m, pc := pc + 4, locals := ls, stack := .ref T.heap.size :: .ref T.heap.size :: rest, locked := none }) rfl d4' _ hsteps
end Ends
section Bodies
variable {l : Launch}
theorem vx_ofW {y : MethodName} {ws ws' : List Cond} {rm : Room} {Pc : Array Value → State → Prop} {Qc : Array Value → State → Outcome → State → Prop} {XC : String → State → State → Prop} {mc ms : Nat} {free : Addr → Prop} {cc : ByteArray} {maxL : Nat} {ret : Option FieldType}
    (hy : plainName y.cls = true) (hw : ws = Cond.code y cc maxL ret :: ws')
    (body : ∀ p e s m args below meth c s₁, BodyLoose p l y (headSpec ws rm) cc maxL ret e s m args below meth c s₁ → c.maxLocals = maxL → (∀ x ∈ c.exceptionTable.toList, False) → Pc args s →
      W p l e (headSpec ws rm).room s m args below meth c s.heap [] 0 0 (vx_MQ below Qc XC args s mc ms free) (entryFrame m args maxL)) : vx_Met l y ws rm Pc Qc XC mc ms free := by
  refine MetFree.of_bodyS (code := cc) (maxLocals := maxL) (ret := ret) hy ?_ ?_
  · intro args s m h hn
    obtain ⟨meth, c, h1, h2, h3, h4, h5, h6, -, -⟩ := Cond.code_spec hn (atoms_spec (ws := ws) h _ (by rw [hw]; exact List.mem_cons_self))
    exact ⟨meth, c, h1, h2, h3, h4, h5, h6⟩
  · intro p e s m args below meth c s₁ B hml hP _
    have hh0 : s₁.heap = s.heap := by rw [B.state]; rfl
    have ht : ∀ x ∈ c.exceptionTable.toList, False := by
      obtain ⟨meth9, c9, h1, h2, -, -, -, -, h7, -⟩ := Cond.code_spec B.named (atoms_spec (ws := ws) B.pre _ (by rw [hw]; exact List.mem_cons_self))
      cases Option.some.inj (h1.symm.trans B.method)
      cases Option.some.inj (h2.symm.trans (Stand.of_body B).code)
      intro x hx
      rw [Array.isEmpty_iff.mp h7] at hx
      cases hx
    obtain ⟨t, a1, o, b1, b2, b3⟩ := body p e s m args below meth c s₁ B hml ht hP s₁ hh0 (Stand.of_body B)
    exact ⟨t, o, a1, b1, b2, b3⟩
/-- the table of a body with handlers -/
theorem vx_table {p : Program} {x y : MethodName} {S : Spec} {cc bytes : ByteArray} {maxL maxL' : Nat} {ret ret' : Option FieldType} {e : Env} {s s₁ : State} {m : MethodId} {args : Array Value} {below : List Frame} {meth : Method} {c : Code} {hh : List (Nat × Nat × Nat × Nat)}
    (B : BodyLoose p l y S cc maxL ret e s m args below meth c s₁) (h : (Cond.codeWith y bytes maxL' ret' hh).before args s = true) : c.exceptionTable.toList = tableOf hh := by
  obtain ⟨m9, meth9, c9, hn9, h1, h2, -, -, h6, -⟩ := Cond.codeWith_spec h
  cases Option.some.inj (hn9.symm.trans B.named)
  cases Option.some.inj (h1.symm.trans B.method)
  cases Option.some.inj (h2.symm.trans (Stand.of_body B).code)
  rw [← h6, table_eq]
end Bodies
end VXA
/-! ===== END ===== -/
/-! ===== BEGIN a static call of a method with an exception table ===== -/
section VXS
variable {p : Program} {l : Launch} {e : Env} {R : Room} {s : State} {m : MethodId} {args : Array Value} {below : List Frame} {meth : Method} {c : Code} {T : State} {H : Heap} {locs : List Loc} {cells slots : Nat}
abbrev vx_CSW (R : Room) (s : State) (args : Array Value) (own : String) (index : Nat) (y : MethodName) (bytes : ByteArray) (maxL : Nat) (ret : Option FieldType) (hh : List (Nat × Nat × Nat × Nat)) (ws : List Cond) (rm : Room) (mc ms n : Nat) : Prop :=
  (rm.cells = mc ∧ rm.slots = ms ∧ rm.frames + 1 ≤ R.frames ∧ 8 + (maxL + 11) + rm.locals ≤ R.locals ∧ (∀ w ∈ ws, ∀ (a' : Array Value) (U : State), s.WarmedH U.vm → w.before a' U = true) ∧ Cond.codeWith y bytes maxL ret hh ∈ ws) ∧
  (Cond.codeWith y bytes maxL ret hh).before args s = true ∧ (Cond.initialized y.cls).before args s = true ∧ (y.cls ≠ "java/lang/invoke/MethodHandle" ∧ y.cls ≠ "java/lang/invoke/VarHandle") ∧
  (∀ sig, parseMethodDescriptor y.desc = some sig → n = sig.parameters.length) ∧ (Cond.methodLink own index y).before args s = true ∧ (Cond.static y).before args s = true
theorem vx_cwSW {own : String} {index maxL mc ms : Nat} {y : MethodName} {bytes : ByteArray} {ret : Option FieldType} {hh : List (Nat × Nat × Nat × Nat)} {Ts ws ws' : List Cond} {rm : Room} (n : Nat) (ht : ∀ w ∈ Ts, w.before args s = true) (hT : GoodIn Ts (va_wsS own index y ws)) (hw : ws = Cond.codeWith y bytes maxL ret hh :: ws') (hrc : rm.cells = mc) (hrs : rm.slots = ms)
    (hd : y.cls ≠ "java/lang/invoke/MethodHandle" ∧ y.cls ≠ "java/lang/invoke/VarHandle" ∧ (parseMethodDescriptor y.desc).map (fun d => d.parameters.length) = some n) (hR : rm.frames + 1 ≤ R.frames ∧ 8 + (maxL + 11) + rm.locals ≤ R.locals) :
    vx_CSW R s args own index y bytes maxL ret hh ws rm mc ms n := by
  have ok : ∀ w ∈ va_wsS own index y ws, w.before args s = true := fun w h => ht w (hT w h).1
  have hG : GoodIn Ts ws := fun w h => hT w (by unfold va_wsS; exact List.mem_append_right _ h)
  have hc : Cond.codeWith y bytes maxL ret hh ∈ ws := by rw [hw]; exact List.mem_cons_self
  refine ⟨⟨hrc, hrs, hR.1, hR.2, pay_in ht hG, hc⟩, ht _ (hG _ hc).1, ok _ (by simp [va_wsS]), ⟨hd.1, hd.2.1⟩, fun sig h => ?_, ok _ (by simp [va_wsS]), ok _ (by simp [va_wsS])⟩
  have h2 := hd.2.2
  rw [h] at h2
  exact (Option.some.inj h2).symm
theorem vx_callSW (X : Stand p l e R s m args below meth c T locs cells slots) (hexec : p.tables.exec = Jvm.exec) {own : String} {index : Nat} {y : MethodName} {bytes : ByteArray} {maxL : Nat} {ret : Option FieldType} {hh : List (Nat × Nat × Nat × Nat)}
    (hown : s.vm.findClass own = some m.cls) (hlink : (Cond.methodLink own index y).before args s = true) (hstat : (Cond.static y).before args s = true) (hinit : (Cond.initialized y.cls).before args s = true)
    (hcode : (Cond.codeWith y bytes maxL ret hh).before args s = true) (hy : y.cls ≠ "java/lang/invoke/MethodHandle" ∧ y.cls ≠ "java/lang/invoke/VarHandle")
    {W9 : Nat} {Pre : Pt → Array Value → Prop} {Post : Pt → Array Value → Option Value → Pt → Prop} (hK : Back l R p e below s args y 3 W9 Pre Post)
    {g : JFrame} (hg : g.method = m) (hsize : g.locals.size = c.maxLocals) {argsL rest : List Value} (hlen : ∀ sig, parseMethodDescriptor y.desc = some sig → argsL.length = sig.parameters.length)
    (hstack : g.stack = argsL.reverse ++ rest) (hW : 2 * g.monitorRoom + (rest.map fun v => v.category).sum ≤ W9) (hdg : decode c.code g.pc = .ok (.invokestatic index, 3))
    (hpre : ∀ vm₁, s.WarmedH vm₁ → Pre ⟨T.setVm vm₁, locs, cells, slots⟩ argsL.toArray) :
    ∃ (v : Option Value) (vm₁ : Vm) (B : Pt), s.WarmedH vm₁ ∧ Stand p l e R s m args below meth c B.U B.locs B.cells B.slots ∧ Post ⟨T.setVm vm₁, locs, cells, slots⟩ argsL.toArray v B ∧
      ∀ target, Steps p.tables e below (B.U.setTop { g with pc := g.pc + 3, stack := v.toList ++ rest }) target → Steps p.tables e below (T.setTop g) target := by
  obtain ⟨mk, methM, cM, hnamed, hmethM, -, -, -, -, -, -, hsigM⟩ := Cond.codeWith_spec hcode
  have hstatic : methM.isStatic = true := Cond.static_spec hnamed hmethM hstat
  obtain ⟨kP, hkP, -⟩ := className_of_methodNamed hnamed
  have hinitP : kP.init = .initialized := Cond.initialized_spec (findClass_of_methodNamed hnamed) hkP hinit
  obtain ⟨vm₁, X₁, hstep₁⟩ := X.invokestatic hexec hown hlink hnamed hmethM hstatic hkP hinitP hy (g := g) hg (argsL := argsL) (rest := rest) (hlen _ hsigM) hstack hdg
  obtain ⟨v, B, X', hpost, hsteps⟩ := hK m meth c ⟨T.setVm vm₁, locs, cells, slots⟩ { g with stack := rest } (.invokestatic index) mk argsL.toArray X₁ hg hsize hdg hW (X₁.named hnamed) (hpre vm₁ X₁.warmed)
  exact ⟨v, vm₁, B, X₁.warmed, X', hpost, fun target h => hstep₁ _ fun acts => by rw [doInvoke_state]; exact hsteps.trans h⟩
theorem vx_runSW {y : MethodName} {bytes cc : ByteArray} {maxL nL mc ms n index : Nat} {ret : Option FieldType} {hh : List (Nat × Nat × Nat × Nat)} {ws : List Cond} {rm : Room} {Pc : Array Value → State → Prop} {Qc : Array Value → State → Outcome → State → Prop} {free : Addr → Prop} {Ts : List Cond} {own : String} {As rest : List Value} {g : JFrame}
    (S : CallFix p m c cc nL s args Ts own) (hM : Met l y ws rm Pc Qc mc ms free) (cw : vx_CSW R s args own index y bytes maxL ret hh ws rm mc ms n) (hp : PreS s H Pc As)
    (hg : g.method = m) (hn : As.length = n) (hsize : g.locals.size = nL) (hstack : g.stack = As.reverse ++ rest) (hW : 2 * g.monitorRoom + (rest.map fun v => v.category).sum ≤ 8) (hdg : decode cc g.pc = .ok (.invokestatic index, 3)) (hf : cells + mc ≤ R.cells ∧ slots + ms ≤ R.slots) :
    va_Run p l e R s m args below meth c H locs cells slots mc ms g rest (Qc As.toArray) (free) := by
  obtain ⟨⟨hrc, hrs, hfr, hlo, hws, hcw⟩, hcode, hini, hy, hlen, hl, hstt⟩ := cw
  have hK : Back l R p e below s args y 3 8 (PreOf R mc ms Pc) (PostOf Qc mc ms free) := va_backW (hh := hh) (bytes := bytes) (maxL := maxL) (ret := ret) hM hp.1 hrc hrs hfr hlo hws hcw (fun a' U hW => word_at hW (Or.inl (by first | rfl | simp [Cond.onTables, Cond.keeps, Cond.steady])) hini)
  obtain ⟨hx, hb, hml, ho, -⟩ := S
  intro T hT X
  obtain ⟨v, vm₁, ⟨U', l2, c2, s2⟩, hW₁, X', ⟨g', mk, t, L, e1, e2, hq, h1, hL, h2, h3⟩, st⟩ := vx_callSW X hx (hh := hh) (bytes := bytes) (maxL := maxL) (ret := ret) ho hl hstt hini hcode hy hK hg (hsize.trans hml.symm) (argsL := As) (rest := rest) (fun sig h => hn.trans (hlen sig h)) hstack hW (by rw [hb]; exact hdg)
    (fun vm₁ hW₁ => ⟨hf.1, hf.2, hp.2 (T.setVm vm₁) hT hW₁⟩)
  dsimp only [Pt.U, Pt.locs, Pt.cells, Pt.slots] at X' e1 e2 h1 h2 h3 st
  subst h1; subst h2; subst h3
  exact ⟨v, (T.setVm vm₁).calling g' mk As.toArray, t, U', L, hT, X', hL, e1, e2, hq, st⟩
/-- not caught here, past rows that name other classes: it goes on to the caller -/
theorem vx_outP {p : Program} {l : Launch} {e : Env} {R : Room} {s : State} {m : MethodId} {args : Array Value} {below : List Frame} {meth : Method} {c : Code} {H : Heap} {locs : List Loc} {cells slots : Nat} {free : Addr → Prop} {ls : Array Slot} {rest : List Value} {Qc : Array Value → State → Outcome → State → Prop} {XC : String → State → State → Prop}
    {pc : Nat} {own E : String} {ce : Cell} {q : Addr} {mc ms : Nat} (hown : s.vm.findClass own = some m.cls) (hlocks : meth.locks = false)
    (hpass : ∀ z ∈ c.exceptionTable.toList, covers z pc = false ∨ (z.catchType ≠ 0 ∧ ∃ nm : String, (Cond.classLink own z.catchType nm).before args s = true ∧ va_Nc E nm s)) (hcell : H[q]? = some ce) (hv : ce.vm = .none) (hcl : s.vm.findClass E = some ce.cls)
    (hx : ∀ t : State, t.heap = H → s.vm.Alike t.vm → XC E s t) (hf : ∀ z ∈ locs, free z.base) (hc : cells ≤ mc) (hs : slots ≤ ms) :
    vx_W p l e R s m args below meth c H locs cells slots (vx_MQ below Qc XC args s mc ms free) (F0 m pc ls rest) q := by
  intro T hT X
  have hpl : e.platform.magicAccessors = ({} : Platform).magicAccessors := by rw [X.admits.platform]
  obtain ⟨vm', hW', X', st⟩ := X.outThrough hlocks q (g := F0 m pc ls rest) rfl rfl rfl (cell := ce) (by rw [hT]; exact hcell) (by rw [hv]; rfl)
    (by obtain ⟨k9, h9, -⟩ := Vm.findClass_spec hcl; exact ⟨k9, h9⟩) (fun z hz => by
      rcases hpass z hz with h | ⟨hz0, nm, hl1, hn1⟩
      · exact Or.inl h
      · obtain ⟨c6, hc6, hcl6⟩ := Cond.classLink_spec hown hl1 e.platform hpl
        obtain ⟨a8, b8, h1, h2, h3⟩ := hn1
        cases Option.some.inj (h1.symm.trans hcl)
        cases Option.some.inj (h2.symm.trans hc6)
        exact Or.inr ⟨hz0, _, hcl6, h3⟩)
  obtain ⟨g₀, hfr⟩ := X'.frames_eq
  have hcell9 : ((T.setVm vm').setFrames (.throwing q :: below)).heap[q]? = some ce := by
    show T.heap[q]? = some ce
    rw [hT]; exact hcell
  have hend : Ended ((T.setVm vm').setFrames (.throwing q :: below)) below (.threw q) := State.frames_setFrames _ (State.cur_lt_of_frames hfr)
  refine ⟨(T.setVm vm').setFrames (.throwing q :: below), ?_, .threw q, X'.here.running, hend, Or.inr ⟨q, rfl, E, ce, locs, hx _ hT (X'.ends _).1.alike, hcell9, hv, hcl, (X'.ends _).1, (X'.ends _).2.mono hc hs, hf⟩⟩
  rw [X.pushThrowing_eq]
  exact st
/-- a thing of a world lies in the heap -/
theorem vx_lt {D : va_G} {cl : List vw_C} {ws : va_W} {H1 : Heap} (h : va_P D cl ws H1) {k : Nat} {q : Nat × va_E} (hk : ws[k]? = some q) : q.1 < H1.size := (h k q hk).lt
end VXS
/-! ===== END ===== -/
/-! ===== BEGIN methods with a table of their own: called by a name, returning or throwing ===== -/
section VXH
/-! vx_backW, vx_callVX, vx_callSX, vx_callVW, vx_runVW, vx_runVX, vx_runSX, vx_ofWH follow the same proofs as their sisters above (Free/Laws.lean, Shelf42/LK1.lean); vx_outP calls Shelf42/NT130.lean (outThrough). -/
section
variable {l : Launch} {R : Room} {p : Program} {e : Env} {below : List Frame} {s : State} {sargs : Array Value} {y : MethodName} {len W9 : Nat}
theorem vx_backW {ws : List Cond} {rm : Room} {Pc : Array Value → State → Prop} {Qc : Array Value → State → Outcome → State → Prop} {XC : String → State → State → Prop} {mc ms : Nat} {free : Addr → Prop} {bytes : ByteArray} {maxL : Nat} {ret : Option FieldType} {hh : List (Nat × Nat × Nat × Nat)}
    (hM : vx_Met l y ws rm Pc Qc XC mc ms free) (hblind : FrameBlind Pc) (hrc : rm.cells = mc) (hrs : rm.slots = ms)
    (hframes : rm.frames + 1 ≤ R.frames) (hlocals : W9 + (maxL + 11) + rm.locals ≤ R.locals)
    (hws : ∀ w ∈ ws, ∀ a' U, s.WarmedH U.vm → w.before a' U = true) (hcode : Cond.codeWith y bytes maxL ret hh ∈ ws) (hinit : ∀ a' U, s.WarmedH U.vm → (Cond.initialized y.cls).before a' U = true) :
    vx_Back l R p e below s sargs y len W9 (PreOf R mc ms Pc) (PostOf Qc mc ms free) (vx_Post XC mc ms free) := by
  intro m meth c A g ig mk a X hg hsize hdg hW hn hp
  have h1 : (headSpec ws rm).pre.before a A.U = true := atoms_intro fun w hw => hws w hw _ _ X.warmed
  have h2 : (Cond.codeWith y bytes maxL ret hh).before a A.U = true := hws _ hcode _ _ X.warmed
  have h3 : (Cond.initialized y.cls).before a A.U = true := hinit _ _ X.warmed
  have h4 : A.cells + (headSpec ws rm).room.cells ≤ R.cells := by rw [show (headSpec ws rm).room.cells = mc from hrc]; exact hp.1
  have h5 : A.slots + (headSpec ws rm).room.slots ≤ R.slots := by rw [show (headSpec ws rm).room.slots = ms from hrs]; exact hp.2.1
  have hPc : Pc a (A.U.calling g mk a) := hblind _ _ _ _ hp.2.2
  obtain ⟨U, Ls, c0, s0⟩ := A
  dsimp only [Pt.U, Pt.locs, Pt.cells, Pt.slots] at h1 h2 h3 h4 h5 X hn hPc ⊢
  obtain ⟨m9, methY, cY, hn9, hmY, hcY, -, hlY, -⟩ := Cond.codeWith_spec h2
  cases Option.some.inj (hn9.symm.trans hn)
  obtain ⟨kY, hkY, -⟩ := className_of_methodNamed hn
  have hinitY : kY.init = .initialized := Cond.initialized_spec (findClass_of_methodNamed hn) hkY h3
  have h : At U g.method c below := by rw [hg]; exact X.here
  have hlocals9 : W9 + (maxL + 11) + (headSpec ws rm).room.locals ≤ R.locals := hlocals
  have happ : (headSpec ws rm).appliesLoose y e.platform (U.calling g mk a) = true :=
    Spec.appliesLoose_calling (g := g) h hdg hn hkY hinitY
      (X.room_calling (g := g) (R' := (headSpec ws rm).room) hsize hmY hcY hframes (by rw [hlY]; omega) h4 h5) h1
  obtain ⟨mid, hmid⟩ := h.above
  have hfr : (U.setTop g).frames = (.java g :: mid) ++ below := by rw [State.frames_setTop' g h.top, hmid]; rfl
  obtain ⟨o, s₂, hsteps, -, hend, hq⟩ := Steps.callFree hM p X.admits X.cas X.clock (acts := []) hfr happ hPc trivial
  have hq' : vx_Q Qc XC mc ms free a (U.calling g mk a) o s₂ := hq
  rw [State.frames_setTop' g h.top] at hend
  obtain ⟨g₀, hg0⟩ := Option.isSome_iff_exists.mp h.top
  obtain ⟨r, hr⟩ := State.topJava?_eq_some.mp hg0
  have hr' : (({ U with heap := s₂.heap, slotsUsed := s₂.slotsUsed } : State).setVm s₂.vm).frames = .java g₀ :: r := hr
  rcases hq' with ⟨hqc, L, hfe, hL⟩ | ⟨q, rfl, E, ce, L, hx, hce, hcv, hcl, hW₂, hsm, hL⟩
  · obtain ⟨⟨v, rfl⟩, hW₂, e2, q2, q3, q4, q5, q6⟩ := id hfe
    have e3 : s₂ = ({ (U.calling g mk a).setFrames s₂.frames with heap := s₂.heap, slotsUsed := s₂.slotsUsed } : State).setVm s₂.vm := by
      have : s₂ = ({ s₂ with vm := (U.calling g mk a).vm } : State).setVm s₂.vm := rfl
      rw [e2] at this
      exact this
    obtain ⟨c₂, i₂, len₂, hc₂, hd₂, hf₂⟩ := hend
    have hW' : U.WarmedH s₂.vm := hW₂
    have hcc : c₂ = c := by
      have h1 : s₂.code? g.method = U.code? g.method := by
        rw [State.code?_eq, State.code?_eq, hW'.alike.method?]
      exact Option.some.inj (hc₂.symm.trans (h1.trans h.code))
    subst hcc
    have hlen : len₂ = len := by rw [hdg] at hd₂; cases hd₂; rfl
    subst hlen
    have hs₂ : s₂ = (({ U with heap := s₂.heap, slotsUsed := s₂.slotsUsed } : State).setVm s₂.vm).setTop { g with pc := g.pc + len₂, stack := v.toList ++ g.stack } := by
      refine e3.trans ?_
      rw [hf₂, State.calling_eq h.top, State.setFrames_setFrames, State.setTop_of_frames _ hr', hr]
      rfl
    have hsame : U.sameButNew ({ U with heap := s₂.heap, slotsUsed := s₂.slotsUsed } : State) L mc ms := by
      refine ⟨?_, q2, q3, q4, q5, q6⟩
      obtain ⟨t, ht, -⟩ := State.frames_cons hr
      show ({ U with heap := s₂.heap, slotsUsed := s₂.slotsUsed } : State) = { U.setFrames U.frames with heap := s₂.heap, slotsUsed := s₂.slotsUsed }
      rw [State.setFrames_self ht]
    subst hg
    refine Or.inl ⟨v, ⟨(({ U with heap := s₂.heap, slotsUsed := s₂.slotsUsed } : State).setVm s₂.vm), Ls ++ L, c0 + mc, s0 + ms⟩,
      ⟨X.admits, X.cas, X.clock, X.frames, X.room, X.hears, X.method, X.code, (X.here.setHeapUsed s₂.heap s₂.slotsUsed).setVm hW'.alike, X.tail, State.WarmedH.trans X.warmed hW', X.limits, X.bytes, X.same.trans (hsame.setVm s.vm)⟩,
      ⟨g, mk, s₂, L, rfl, rfl, hqc, rfl, hL, rfl, rfl⟩, ?_⟩
    show Steps p.tables e below _ ((({ U with heap := s₂.heap, slotsUsed := s₂.slotsUsed } : State).setVm s₂.vm).setTop { g with pc := g.pc + len₂, stack := v.toList ++ g.stack })
    rw [← hs₂]
    exact hsteps
  · obtain ⟨e2, q2, q3, q4, q5, q6⟩ := id hsm
    have e3 : s₂ = ({ (U.calling g mk a).setFrames s₂.frames with heap := s₂.heap, slotsUsed := s₂.slotsUsed } : State).setVm s₂.vm := by
      have : s₂ = ({ s₂ with vm := (U.calling g mk a).vm } : State).setVm s₂.vm := rfl
      rw [e2] at this
      exact this
    have hf₂ : s₂.frames = .throwing q :: .java g :: U.frames.tail := hend
    have hW' : U.WarmedH s₂.vm := hW₂
    have hs₂ : s₂ = ((({ U with heap := s₂.heap, slotsUsed := s₂.slotsUsed } : State).setVm s₂.vm).setTop g).pushFrame (.throwing q) := by
      refine e3.trans ?_
      rw [hf₂, State.calling_eq h.top, State.setFrames_setFrames, State.pushFrame, State.frames_setTop _ hr', State.setTop_of_frames _ hr', State.setFrames_setFrames, hr]
      rfl
    have hsame : U.sameButNew ({ U with heap := s₂.heap, slotsUsed := s₂.slotsUsed } : State) L mc ms := by
      refine ⟨?_, q2, q3, q4, q5, q6⟩
      obtain ⟨t, ht, -⟩ := State.frames_cons hr
      show ({ U with heap := s₂.heap, slotsUsed := s₂.slotsUsed } : State) = { U.setFrames U.frames with heap := s₂.heap, slotsUsed := s₂.slotsUsed }
      rw [State.setFrames_self ht]
    subst hg
    refine Or.inr ⟨q, ⟨(({ U with heap := s₂.heap, slotsUsed := s₂.slotsUsed } : State).setVm s₂.vm), Ls ++ L, c0 + mc, s0 + ms⟩,
      ⟨X.admits, X.cas, X.clock, X.frames, X.room, X.hears, X.method, X.code, (X.here.setHeapUsed s₂.heap s₂.slotsUsed).setVm hW'.alike, X.tail, State.WarmedH.trans X.warmed hW', X.limits, X.bytes, X.same.trans (hsame.setVm s.vm)⟩,
      ⟨g, mk, s₂, L, E, ce, rfl, rfl, hx, hce, hcv, hcl, rfl, hL, rfl, rfl⟩, ?_⟩
    show Steps p.tables e below _ (((({ U with heap := s₂.heap, slotsUsed := s₂.slotsUsed } : State).setVm s₂.vm).setTop g).pushFrame (.throwing q))
    rw [← hs₂]
    exact hsteps
end
variable {p : Program} {l : Launch} {e : Env} {R : Room} {s : State} {m : MethodId} {args : Array Value} {below : List Frame} {meth : Method} {c : Code} {T : State} {H : Heap} {locs : List Loc} {cells slots : Nat}
theorem vx_callVX (X : Stand p l e R s m args below meth c T locs cells slots) (hexec : p.tables.exec = Jvm.exec) {own C : String} {index : Nat} {y : MethodName} {bytes : ByteArray} {maxL : Nat} {ret : Option FieldType} {hh : List (Nat × Nat × Nat × Nat)}
    (hown : s.vm.findClass own = some m.cls) (hlink : (Cond.methodLink own index y).before args s = true) (hinst : (Cond.instanceMethod y).before args s = true) (hsel : (Cond.selects C y y).before args s = true)
    (hcode : (Cond.codeWith y bytes maxL ret hh).before args s = true) (hy : y.cls ≠ "java/lang/invoke/MethodHandle" ∧ y.cls ≠ "java/lang/invoke/VarHandle")
    {W9 : Nat} {Pre : Pt → Array Value → Prop} {Post : Pt → Array Value → Option Value → Pt → Prop} {PostX : Pt → Array Value → Addr → Pt → Prop} (hK : vx_Back l R p e below s args y 3 W9 Pre Post PostX)
    {b : Addr} {cellB : Cell} (hcell : T.heap[b]? = some cellB) (hobj : cellB.vm.isStatics = false) (hcls : s.vm.findClass C = some cellB.cls)
    {g : JFrame} (hg : g.method = m) (hsize : g.locals.size = c.maxLocals) {argsL rest : List Value} (hlen : ∀ sig, parseMethodDescriptor y.desc = some sig → argsL.length = sig.parameters.length)
    (hstack : g.stack = argsL.reverse ++ .ref b :: rest) (hW : 2 * g.monitorRoom + (rest.map fun v => v.category).sum ≤ W9) (hdg : decode c.code g.pc = .ok (.invokevirtual index, 3))
    (hpre : ∀ vm₁, s.WarmedH vm₁ → Pre ⟨T.setVm vm₁, locs, cells, slots⟩ (Value.ref b :: argsL).toArray) :
    (∃ (v : Option Value) (vm₁ : Vm) (B : Pt), s.WarmedH vm₁ ∧ Stand p l e R s m args below meth c B.U B.locs B.cells B.slots ∧ Post ⟨T.setVm vm₁, locs, cells, slots⟩ (Value.ref b :: argsL).toArray v B ∧
      ∀ target, Steps p.tables e below (B.U.setTop { g with pc := g.pc + 3, stack := v.toList ++ rest }) target → Steps p.tables e below (T.setTop g) target) ∨
    (∃ (q : Addr) (vm₁ : Vm) (B : Pt), s.WarmedH vm₁ ∧ Stand p l e R s m args below meth c B.U B.locs B.cells B.slots ∧ PostX ⟨T.setVm vm₁, locs, cells, slots⟩ (Value.ref b :: argsL).toArray q B ∧
      Steps p.tables e below (T.setTop g) ((B.U.setTop { g with stack := rest }).pushFrame (.throwing q))) := by
  obtain ⟨mk, methM, hnamed, hmethM, hstM, habM⟩ := Cond.instanceMethod_spec hinst
  obtain ⟨m8, methM', cM, hn8, hmethM', -, -, -, -, -, -, hsigM⟩ := Cond.codeWith_spec hcode
  cases Option.some.inj (hn8.symm.trans hnamed)
  cases hmethM.symm.trans hmethM'
  obtain ⟨c2, r2, m2, q1, q2, q3, q4, kP, hkP, hkPi⟩ := Cond.selects_spec hsel
  cases hcls.symm.trans q1
  cases (State.methodFound?_of_named hnamed hy).symm.trans q2
  cases hnamed.symm.trans q3
  have hselP : selectMethod e.platform s.vm cellB.cls mk = .method mk := by rw [Launch.admits_selectMethod X.admits]; exact q4
  obtain ⟨vm₁, X₁, hstep₁⟩ := X.invokevirtual hexec hown hlink hnamed hmethM hstM hkP hkPi hy (a := b) (cell := cellB) hcell
    (fun z h => by rw [h] at hobj; cases hobj) hselP hmethM habM hkP hkPi (g := g) hg (argsL := argsL) (rest := rest) (hlen _ hsigM) hstack hdg
  rcases hK m meth c ⟨T.setVm vm₁, locs, cells, slots⟩ { g with stack := rest } (.invokevirtual index) mk (Value.ref b :: argsL).toArray X₁ hg hsize hdg hW (X₁.named hnamed) (hpre vm₁ X₁.warmed) with ⟨v, B, X', hpost, hsteps⟩ | ⟨q, B, X', hpost, hsteps⟩
  · exact Or.inl ⟨v, vm₁, B, X₁.warmed, X', hpost, fun target h => hstep₁ _ fun acts => by rw [doInvoke_state]; exact hsteps.trans h⟩
  · exact Or.inr ⟨q, vm₁, B, X₁.warmed, X', hpost, hstep₁ _ fun acts => by rw [doInvoke_state]; exact hsteps⟩
theorem vx_callSX (X : Stand p l e R s m args below meth c T locs cells slots) (hexec : p.tables.exec = Jvm.exec) {own : String} {index : Nat} {y : MethodName} {bytes : ByteArray} {maxL : Nat} {ret : Option FieldType} {hh : List (Nat × Nat × Nat × Nat)}
    (hown : s.vm.findClass own = some m.cls) (hlink : (Cond.methodLink own index y).before args s = true) (hstat : (Cond.static y).before args s = true) (hinit : (Cond.initialized y.cls).before args s = true)
    (hcode : (Cond.codeWith y bytes maxL ret hh).before args s = true) (hy : y.cls ≠ "java/lang/invoke/MethodHandle" ∧ y.cls ≠ "java/lang/invoke/VarHandle")
    {W9 : Nat} {Pre : Pt → Array Value → Prop} {Post : Pt → Array Value → Option Value → Pt → Prop} {PostX : Pt → Array Value → Addr → Pt → Prop} (hK : vx_Back l R p e below s args y 3 W9 Pre Post PostX)
    {g : JFrame} (hg : g.method = m) (hsize : g.locals.size = c.maxLocals) {argsL rest : List Value} (hlen : ∀ sig, parseMethodDescriptor y.desc = some sig → argsL.length = sig.parameters.length)
    (hstack : g.stack = argsL.reverse ++ rest) (hW : 2 * g.monitorRoom + (rest.map fun v => v.category).sum ≤ W9) (hdg : decode c.code g.pc = .ok (.invokestatic index, 3))
    (hpre : ∀ vm₁, s.WarmedH vm₁ → Pre ⟨T.setVm vm₁, locs, cells, slots⟩ argsL.toArray) :
    (∃ (v : Option Value) (vm₁ : Vm) (B : Pt), s.WarmedH vm₁ ∧ Stand p l e R s m args below meth c B.U B.locs B.cells B.slots ∧ Post ⟨T.setVm vm₁, locs, cells, slots⟩ argsL.toArray v B ∧
      ∀ target, Steps p.tables e below (B.U.setTop { g with pc := g.pc + 3, stack := v.toList ++ rest }) target → Steps p.tables e below (T.setTop g) target) ∨
    (∃ (q : Addr) (vm₁ : Vm) (B : Pt), s.WarmedH vm₁ ∧ Stand p l e R s m args below meth c B.U B.locs B.cells B.slots ∧ PostX ⟨T.setVm vm₁, locs, cells, slots⟩ argsL.toArray q B ∧
      Steps p.tables e below (T.setTop g) ((B.U.setTop { g with stack := rest }).pushFrame (.throwing q))) := by
  obtain ⟨mk, methM, cM, hnamed, hmethM, -, -, -, -, -, -, hsigM⟩ := Cond.codeWith_spec hcode
  have hstatic : methM.isStatic = true := Cond.static_spec hnamed hmethM hstat
  obtain ⟨kP, hkP, -⟩ := className_of_methodNamed hnamed
  have hinitP : kP.init = .initialized := Cond.initialized_spec (findClass_of_methodNamed hnamed) hkP hinit
  obtain ⟨vm₁, X₁, hstep₁⟩ := X.invokestatic hexec hown hlink hnamed hmethM hstatic hkP hinitP hy (g := g) hg (argsL := argsL) (rest := rest) (hlen _ hsigM) hstack hdg
  rcases hK m meth c ⟨T.setVm vm₁, locs, cells, slots⟩ { g with stack := rest } (.invokestatic index) mk argsL.toArray X₁ hg hsize hdg hW (X₁.named hnamed) (hpre vm₁ X₁.warmed) with ⟨v, B, X', hpost, hsteps⟩ | ⟨q, B, X', hpost, hsteps⟩
  · exact Or.inl ⟨v, vm₁, B, X₁.warmed, X', hpost, fun target h => hstep₁ _ fun acts => by rw [doInvoke_state]; exact hsteps.trans h⟩
  · exact Or.inr ⟨q, vm₁, B, X₁.warmed, X', hpost, hstep₁ _ fun acts => by rw [doInvoke_state]; exact hsteps⟩
theorem vx_callVW (X : Stand p l e R s m args below meth c T locs cells slots) (hexec : p.tables.exec = Jvm.exec) {own C : String} {index : Nat} {y : MethodName} {bytes : ByteArray} {maxL : Nat} {ret : Option FieldType} {hh : List (Nat × Nat × Nat × Nat)}
    (hown : s.vm.findClass own = some m.cls) (hlink : (Cond.methodLink own index y).before args s = true) (hinst : (Cond.instanceMethod y).before args s = true) (hsel : (Cond.selects C y y).before args s = true)
    (hcode : (Cond.codeWith y bytes maxL ret hh).before args s = true) (hy : y.cls ≠ "java/lang/invoke/MethodHandle" ∧ y.cls ≠ "java/lang/invoke/VarHandle")
    {W9 : Nat} {Pre : Pt → Array Value → Prop} {Post : Pt → Array Value → Option Value → Pt → Prop} (hK : Back l R p e below s args y 3 W9 Pre Post)
    {b : Addr} {cellB : Cell} (hcell : T.heap[b]? = some cellB) (hobj : cellB.vm.isStatics = false) (hcls : s.vm.findClass C = some cellB.cls)
    {g : JFrame} (hg : g.method = m) (hsize : g.locals.size = c.maxLocals) {argsL rest : List Value} (hlen : ∀ sig, parseMethodDescriptor y.desc = some sig → argsL.length = sig.parameters.length)
    (hstack : g.stack = argsL.reverse ++ .ref b :: rest) (hW : 2 * g.monitorRoom + (rest.map fun v => v.category).sum ≤ W9) (hdg : decode c.code g.pc = .ok (.invokevirtual index, 3))
    (hpre : ∀ vm₁, s.WarmedH vm₁ → Pre ⟨T.setVm vm₁, locs, cells, slots⟩ (Value.ref b :: argsL).toArray) :
    ∃ (v : Option Value) (vm₁ : Vm) (B : Pt), s.WarmedH vm₁ ∧ Stand p l e R s m args below meth c B.U B.locs B.cells B.slots ∧ Post ⟨T.setVm vm₁, locs, cells, slots⟩ (Value.ref b :: argsL).toArray v B ∧
      ∀ target, Steps p.tables e below (B.U.setTop { g with pc := g.pc + 3, stack := v.toList ++ rest }) target → Steps p.tables e below (T.setTop g) target := by
  obtain ⟨mk, methM, hnamed, hmethM, hstM, habM⟩ := Cond.instanceMethod_spec hinst
  obtain ⟨m8, methM', cM, hn8, hmethM', -, -, -, -, -, -, hsigM⟩ := Cond.codeWith_spec hcode
  cases Option.some.inj (hn8.symm.trans hnamed)
  cases hmethM.symm.trans hmethM'
  obtain ⟨c2, r2, m2, q1, q2, q3, q4, kP, hkP, hkPi⟩ := Cond.selects_spec hsel
  cases hcls.symm.trans q1
  cases (State.methodFound?_of_named hnamed hy).symm.trans q2
  cases hnamed.symm.trans q3
  have hselP : selectMethod e.platform s.vm cellB.cls mk = .method mk := by rw [Launch.admits_selectMethod X.admits]; exact q4
  obtain ⟨vm₁, X₁, hstep₁⟩ := X.invokevirtual hexec hown hlink hnamed hmethM hstM hkP hkPi hy (a := b) (cell := cellB) hcell
    (fun z h => by rw [h] at hobj; cases hobj) hselP hmethM habM hkP hkPi (g := g) hg (argsL := argsL) (rest := rest) (hlen _ hsigM) hstack hdg
  obtain ⟨v, B, X', hpost, hsteps⟩ := hK m meth c ⟨T.setVm vm₁, locs, cells, slots⟩ { g with stack := rest } (.invokevirtual index) mk (Value.ref b :: argsL).toArray X₁ hg hsize hdg hW (X₁.named hnamed) (hpre vm₁ X₁.warmed)
  exact ⟨v, vm₁, B, X₁.warmed, X', hpost, fun target h => hstep₁ _ fun acts => by rw [doInvoke_state]; exact hsteps.trans h⟩
abbrev vx_CVW (R : Room) (s : State) (args : Array Value) (own C : String) (index : Nat) (y : MethodName) (bytes : ByteArray) (maxL : Nat) (ret : Option FieldType) (hh : List (Nat × Nat × Nat × Nat)) (ws : List Cond) (rm : Room) (mc ms n : Nat) : Prop :=
  (rm.cells = mc ∧ rm.slots = ms ∧ rm.frames + 1 ≤ R.frames ∧ 8 + (maxL + 11) + rm.locals ≤ R.locals ∧ (∀ w ∈ ws, ∀ (a' : Array Value) (U : State), s.WarmedH U.vm → w.before a' U = true) ∧ Cond.codeWith y bytes maxL ret hh ∈ ws) ∧
  (Cond.codeWith y bytes maxL ret hh).before args s = true ∧ (Cond.initialized y.cls).before args s = true ∧ (y.cls ≠ "java/lang/invoke/MethodHandle" ∧ y.cls ≠ "java/lang/invoke/VarHandle") ∧
  (∀ sig, parseMethodDescriptor y.desc = some sig → n = sig.parameters.length) ∧ (Cond.methodLink own index y).before args s = true ∧ (Cond.instanceMethod y).before args s = true ∧ (Cond.selects C y y).before args s = true
theorem vx_cwVW {own C : String} {index maxL mc ms : Nat} {y : MethodName} {bytes : ByteArray} {ret : Option FieldType} {hh : List (Nat × Nat × Nat × Nat)} {Ts ws ws' : List Cond} {rm : Room} (n : Nat) (ht : ∀ w ∈ Ts, w.before args s = true) (hT : GoodIn Ts (wsV own index C y ws)) (hw : ws = Cond.codeWith y bytes maxL ret hh :: ws') (hrc : rm.cells = mc) (hrs : rm.slots = ms)
    (hd : y.cls = C ∧ y.cls ≠ "java/lang/invoke/MethodHandle" ∧ y.cls ≠ "java/lang/invoke/VarHandle" ∧ (parseMethodDescriptor y.desc).map (fun d => d.parameters.length) = some n) (hR : rm.frames + 1 ≤ R.frames ∧ 8 + (maxL + 11) + rm.locals ≤ R.locals) :
    vx_CVW R s args own C index y bytes maxL ret hh ws rm mc ms n := by
  obtain ⟨hC, hd⟩ := hd
  subst hC
  have ok : ∀ w ∈ wsV own index y.cls y ws, w.before args s = true := fun w h => ht w (hT w h).1
  have hG : GoodIn Ts ws := fun w h => hT w (by unfold wsV; exact List.mem_append_right _ h)
  have hc : Cond.codeWith y bytes maxL ret hh ∈ ws := by rw [hw]; exact List.mem_cons_self
  refine ⟨⟨hrc, hrs, hR.1, hR.2, pay_in ht hG, hc⟩, ht _ (hG _ hc).1, ok _ (by simp [wsV]), ⟨hd.1, hd.2.1⟩, fun sig h => ?_, ok _ (by simp [wsV]), ok _ (by simp [wsV]), ok _ (by simp [wsV])⟩
  have h2 := hd.2.2
  rw [h] at h2
  exact (Option.some.inj h2).symm
theorem vx_runVW {y : MethodName} {bytes cc : ByteArray} {maxL nL mc ms n index : Nat} {ret : Option FieldType} {hh : List (Nat × Nat × Nat × Nat)} {ws : List Cond} {rm : Room} {Pc : Array Value → State → Prop} {Qc : Array Value → State → Outcome → State → Prop} {free : Addr → Prop} {Ts : List Cond} {own C : String} {b : Addr} {As rest : List Value} {g : JFrame}
    (S : CallFix p m c cc nL s args Ts own) (hM : Met l y ws rm Pc Qc mc ms free) (cw : vx_CVW R s args own C index y bytes maxL ret hh ws rm mc ms n) (hp : PreV s H C b Pc As)
    (hg : g.method = m) (hn : As.length = n) (hsize : g.locals.size = nL) (hstack : g.stack = As.reverse ++ .ref b :: rest) (hW : 2 * g.monitorRoom + (rest.map fun v => v.category).sum ≤ 8) (hdg : decode cc g.pc = .ok (.invokevirtual index, 3)) (hf : cells + mc ≤ R.cells ∧ slots + ms ≤ R.slots) :
    va_Run p l e R s m args below meth c H locs cells slots mc ms g rest (Qc (Value.ref b :: As).toArray) free := by
  obtain ⟨⟨hrc, hrs, hfr, hlo, hws, hcw⟩, hcode, hini, hy, hlen, hl, hin, hse⟩ := cw
  have hK : Back l R p e below s args y 3 8 (PreOf R mc ms Pc) (PostOf Qc mc ms free) := va_backW (hh := hh) (bytes := bytes) (maxL := maxL) (ret := ret) hM hp.1 hrc hrs hfr hlo hws hcw (fun a' U hW => word_at hW (Or.inl (by first | rfl | simp [Cond.onTables, Cond.keeps, Cond.steady])) hini)
  obtain ⟨hx, hb, hml, ho, -⟩ := S
  obtain ⟨-, ⟨cellB, hcB, hoB, hclB⟩, hPc⟩ := hp
  intro T hT X
  obtain ⟨v, vm₁, ⟨U', l2, c2, s2⟩, hW₁, X', ⟨g', mk, t, L, e1, e2, hq, h1, hL, h2, h3⟩, st⟩ := vx_callVW X hx (C := C) (hh := hh) (bytes := bytes) (maxL := maxL) (ret := ret) ho hl hin hse hcode hy hK (by rw [hT]; exact hcB) hoB hclB hg (hsize.trans hml.symm) (argsL := As) (rest := rest) (fun sig h => hn.trans (hlen sig h)) hstack hW (by rw [hb]; exact hdg)
    (fun vm₁ hW₁ => ⟨hf.1, hf.2, hPc (T.setVm vm₁) hT hW₁⟩)
  dsimp only [Pt.U, Pt.locs, Pt.cells, Pt.slots] at X' e1 e2 h1 h2 h3 st
  subst h1; subst h2; subst h3
  exact ⟨v, (T.setVm vm₁).calling g' mk (Value.ref b :: As).toArray, t, U', L, hT, X', hL, e1, e2, hq, st⟩
section
variable {y : MethodName} {bytes cc : ByteArray} {maxL nL mc ms n index : Nat} {ret : Option FieldType} {ws : List Cond} {rm : Room} {Pc : Array Value → State → Prop} {Qc : Array Value → State → Outcome → State → Prop} {XC : String → State → State → Prop} {free : Addr → Prop} {Ts : List Cond} {own C : String} {b : Addr} {As rest : List Value} {g : JFrame}
theorem vx_runVX {hh : List (Nat × Nat × Nat × Nat)} (S : CallFix p m c cc nL s args Ts own) (hM : vx_Met l y ws rm Pc Qc XC mc ms free) (cw : vx_CVW R s args own C index y bytes maxL ret hh ws rm mc ms n) (hp : PreV s H C b Pc As)
    (hg : g.method = m) (hn : As.length = n) (hsize : g.locals.size = nL) (hstack : g.stack = As.reverse ++ .ref b :: rest) (hW : 2 * g.monitorRoom + (rest.map fun v => v.category).sum ≤ 8) (hdg : decode cc g.pc = .ok (.invokevirtual index, 3)) (hf : cells + mc ≤ R.cells ∧ slots + ms ≤ R.slots) :
    vx_Run p l e R s m args below meth c H locs cells slots mc ms g rest (Qc (Value.ref b :: As).toArray) XC free := by
  obtain ⟨⟨hrc, hrs, hfr, hlo, hws, hcw⟩, hcode, hini, hy, hlen, hl, hin, hse⟩ := cw
  have hK : vx_Back l R p e below s args y 3 8 (PreOf R mc ms Pc) (PostOf Qc mc ms free) (vx_Post XC mc ms free) := vx_backW (hh := hh) (bytes := bytes) (maxL := maxL) (ret := ret) hM hp.1 hrc hrs hfr hlo hws hcw (fun a' U hW => word_at hW (Or.inl (by first | rfl | simp [Cond.onTables, Cond.keeps, Cond.steady])) hini)
  obtain ⟨hx, hb, hml, ho, -⟩ := S
  obtain ⟨-, ⟨cellB, hcB, hoB, hclB⟩, hPc⟩ := hp
  intro T hT X
  rcases vx_callVX X hx (C := C) (hh := hh) (bytes := bytes) (maxL := maxL) (ret := ret) ho hl hin hse hcode hy hK (by rw [hT]; exact hcB) hoB hclB hg (hsize.trans hml.symm) (argsL := As) (rest := rest) (fun sig h => hn.trans (hlen sig h)) hstack hW (by rw [hb]; exact hdg)
    (fun vm₁ hW₁ => ⟨hf.1, hf.2, hPc (T.setVm vm₁) hT hW₁⟩) with ⟨v, vm₁, ⟨U', l2, c2, s2⟩, hW₁, X', ⟨g', mk, t, L, e1, e2, hq, h1, hL, h2, h3⟩, st⟩ | ⟨q, vm₁, ⟨U', l2, c2, s2⟩, hW₁, X', ⟨g', mk, t, L, E, ce, e1, e2, hq, hce, hcv, hcl, h1, hL, h2, h3⟩, st⟩
  · dsimp only [Pt.U, Pt.locs, Pt.cells, Pt.slots] at X' e1 e2 h1 h2 h3 st
    subst h1; subst h2; subst h3
    exact Or.inl ⟨v, (T.setVm vm₁).calling g' mk (Value.ref b :: As).toArray, t, U', L, hT, X', hL, e1, e2, hq, st⟩
  · dsimp only [Pt.U, Pt.locs, Pt.cells, Pt.slots] at X' e1 e2 h1 h2 h3 st hcl
    subst h1; subst h2; subst h3
    exact Or.inr ⟨q, (T.setVm vm₁).calling g' mk (Value.ref b :: As).toArray, t, U', L, E, ce, hT, X', hL, e1, e2, hq, hce, hcv, vx_cls hW₁ hcl, st⟩
theorem vx_runSX {hh : List (Nat × Nat × Nat × Nat)} (S : CallFix p m c cc nL s args Ts own) (hM : vx_Met l y ws rm Pc Qc XC mc ms free) (cw : vx_CSW R s args own index y bytes maxL ret hh ws rm mc ms n) (hp : PreS s H Pc As)
    (hg : g.method = m) (hn : As.length = n) (hsize : g.locals.size = nL) (hstack : g.stack = As.reverse ++ rest) (hW : 2 * g.monitorRoom + (rest.map fun v => v.category).sum ≤ 8) (hdg : decode cc g.pc = .ok (.invokestatic index, 3)) (hf : cells + mc ≤ R.cells ∧ slots + ms ≤ R.slots) :
    vx_Run p l e R s m args below meth c H locs cells slots mc ms g rest (Qc As.toArray) XC free := by
  obtain ⟨⟨hrc, hrs, hfr, hlo, hws, hcw⟩, hcode, hini, hy, hlen, hl, hstt⟩ := cw
  have hK : vx_Back l R p e below s args y 3 8 (PreOf R mc ms Pc) (PostOf Qc mc ms free) (vx_Post XC mc ms free) := vx_backW (hh := hh) (bytes := bytes) (maxL := maxL) (ret := ret) hM hp.1 hrc hrs hfr hlo hws hcw (fun a' U hW => word_at hW (Or.inl (by first | rfl | simp [Cond.onTables, Cond.keeps, Cond.steady])) hini)
  obtain ⟨hx, hb, hml, ho, -⟩ := S
  intro T hT X
  rcases vx_callSX X hx (hh := hh) (bytes := bytes) (maxL := maxL) (ret := ret) ho hl hstt hini hcode hy hK hg (hsize.trans hml.symm) (argsL := As) (rest := rest) (fun sig h => hn.trans (hlen sig h)) hstack hW (by rw [hb]; exact hdg)
    (fun vm₁ hW₁ => ⟨hf.1, hf.2, hp.2 (T.setVm vm₁) hT hW₁⟩) with ⟨v, vm₁, ⟨U', l2, c2, s2⟩, hW₁, X', ⟨g', mk, t, L, e1, e2, hq, h1, hL, h2, h3⟩, st⟩ | ⟨q, vm₁, ⟨U', l2, c2, s2⟩, hW₁, X', ⟨g', mk, t, L, E, ce, e1, e2, hq, hce, hcv, hcl, h1, hL, h2, h3⟩, st⟩
  · dsimp only [Pt.U, Pt.locs, Pt.cells, Pt.slots] at X' e1 e2 h1 h2 h3 st
    subst h1; subst h2; subst h3
    exact Or.inl ⟨v, (T.setVm vm₁).calling g' mk As.toArray, t, U', L, hT, X', hL, e1, e2, hq, st⟩
  · dsimp only [Pt.U, Pt.locs, Pt.cells, Pt.slots] at X' e1 e2 h1 h2 h3 st hcl
    subst h1; subst h2; subst h3
    exact Or.inr ⟨q, (T.setVm vm₁).calling g' mk As.toArray, t, U', L, E, ce, hT, X', hL, e1, e2, hq, hce, hcv, vx_cls hW₁ hcl, st⟩
end
end VXH
theorem vx_ofWH {l : Launch} {y : MethodName} {ws ws' : List Cond} {rm : Room} {Pc : Array Value → State → Prop} {Qc : Array Value → State → Outcome → State → Prop} {XC : String → State → State → Prop} {mc ms : Nat} {free : Addr → Prop} {cc : ByteArray} {maxL : Nat} {ret : Option FieldType} {hh : List (Nat × Nat × Nat × Nat)}
    (hy : plainName y.cls = true) (hw : ws = Cond.codeWith y cc maxL ret hh :: ws')
    (body : ∀ p e s m args below meth c s₁, BodyLoose p l y (headSpec ws rm) cc maxL ret e s m args below meth c s₁ → c.maxLocals = maxL → Pc args s →
      W p l e (headSpec ws rm).room s m args below meth c s.heap [] 0 0 (vx_MQ below Qc XC args s mc ms free) (entryFrame m args maxL)) : vx_Met l y ws rm Pc Qc XC mc ms free := by
  refine MetFree.of_bodyS (code := cc) (maxLocals := maxL) (ret := ret) hy ?_ ?_
  · intro args s m h hn
    obtain ⟨m9, meth, c, hn9, h1, h2, h3, h4, -, h5, h6, -⟩ := Cond.codeWith_spec (atoms_spec (ws := ws) h _ (by rw [hw]; exact List.mem_cons_self))
    cases hn.symm.trans hn9
    exact ⟨meth, c, h1, h2, h3, h4, h5, h6⟩
  · intro p e s m args below meth c s₁ B hml hP _
    have hh0 : s₁.heap = s.heap := by rw [B.state]; rfl
    obtain ⟨t, a1, o, b1, b2, b3⟩ := body p e s m args below meth c s₁ B hml hP s₁ hh0 (Stand.of_body B)
    exact ⟨t, o, a1, b1, b2, b3⟩
/-! ===== END ===== -/
end
section
/-! ===== BEGIN printed: names, fields, word lists, decode rows ===== -/
def RX0 : String := "AlertIndex$Draft"
def TX0 : u_T := fun k => match k with
  | _ => ("AlertIndex$Draft", "values", "[I", true)
def tyX0 : Nat → FieldType := fun k => match k with
  | _ => .array .int
abbrev wsX00 : List Cond := u_ws RX0 TX0 1
theorem nmX0 : ∀ a, a < 1 → ∀ b, b < 1 → a ≠ b → (TX0 a).2.1 ≠ (TX0 b).2.1 := by decide +kernel
theorem tyX0_ok : ∀ k, k < 1 → parseFieldDescriptor (TX0 k).2.2.1 = some (tyX0 k) := by decide +kernel
abbrev cX0_init : ByteArray := prog_2_method_1_code
def yX0_init : MethodName := ⟨RX0, "<init>", "()V"⟩
abbrev cX0_valueOf : ByteArray := prog_2_method_2_code
def yX0_valueOf : MethodName := ⟨RX0, "valueOf", "(I)I"⟩
abbrev cX0_replace : ByteArray := prog_2_method_3_code
def yX0_replace : MethodName := ⟨RX0, "replace", "(II)I"⟩
def RX1 : String := "AlertIndex$PieceIndex"
def TX1 : u_T := fun k => match k with
  | _ => ("AlertIndex$PieceIndex", "firsts", "[LAlertIndex$Posting;", true)
def tyX1 : Nat → FieldType := fun k => match k with
  | _ => .array (.object "AlertIndex$Posting")
abbrev wsX10 : List Cond := u_ws RX1 TX1 1
theorem nmX1 : ∀ a, a < 1 → ∀ b, b < 1 → a ≠ b → (TX1 a).2.1 ≠ (TX1 b).2.1 := by decide +kernel
theorem tyX1_ok : ∀ k, k < 1 → parseFieldDescriptor (TX1 k).2.2.1 = some (tyX1 k) := by decide +kernel
abbrev cX1_init : ByteArray := prog_3_method_1_code
def yX1_init : MethodName := ⟨RX1, "<init>", "()V"⟩
abbrev cX1_enter : ByteArray := prog_3_method_2_code
def yX1_enter : MethodName := ⟨RX1, "enter", "(LAlertIndex$Product;III)V"⟩
abbrev cX1_post : ByteArray := prog_3_method_3_code
def yX1_post : MethodName := ⟨RX1, "post", "(LAlertIndex$Product;I)V"⟩
abbrev cX1_countHits : ByteArray := prog_3_method_4_code
def yX1_countHits : MethodName := ⟨RX1, "countHits", "(LAlertIndex$Draft;)V"⟩
abbrev cX1_hitAbove : ByteArray := prog_3_method_5_code
def yX1_hitAbove : MethodName := ⟨RX1, "hitAbove", "(II)V"⟩
abbrev cX1_firstAt : ByteArray := prog_3_method_6_code
def yX1_firstAt : MethodName := ⟨RX1, "firstAt", "(I)LAlertIndex$Posting;"⟩
def RX2 : String := "AlertIndex$Posting"
def TX2 : u_T := fun k => match k with
  | 0 => ("AlertIndex$Posting", "product", "LAlertIndex$Product;", true)
  | _ => ("AlertIndex$Posting", "next", "LAlertIndex$Posting;", true)
def tyX2 : Nat → FieldType := fun k => match k with
  | 0 => .object "AlertIndex$Product"
  | _ => .object "AlertIndex$Posting"
abbrev wsX20 : List Cond := u_ws RX2 TX2 2
theorem nmX2 : ∀ a, a < 2 → ∀ b, b < 2 → a ≠ b → (TX2 a).2.1 ≠ (TX2 b).2.1 := by decide +kernel
theorem tyX2_ok : ∀ k, k < 2 → parseFieldDescriptor (TX2 k).2.2.1 = some (tyX2 k) := by decide +kernel
abbrev cX2_init : ByteArray := prog_4_method_1_code
def yX2_init : MethodName := ⟨RX2, "<init>", "(LAlertIndex$Product;LAlertIndex$Posting;)V"⟩
def RX3 : String := "AlertIndex$Product"
def TX3 : u_T := fun k => match k with
  | 0 => ("AlertIndex$Product", "tests", "Ljava/util/List;", true)
  | 1 => ("AlertIndex$Product", "plainTests", "I", false)
  | _ => ("AlertIndex$Product", "hits", "I", false)
def tyX3 : Nat → FieldType := fun k => match k with
  | 0 => .object "java/util/List"
  | 1 => .int
  | _ => .int
abbrev wsX30 : List Cond := u_ws RX3 TX3 3
theorem nmX3 : ∀ a, a < 3 → ∀ b, b < 3 → a ≠ b → (TX3 a).2.1 ≠ (TX3 b).2.1 := by decide +kernel
theorem tyX3_ok : ∀ k, k < 3 → parseFieldDescriptor (TX3 k).2.2.1 = some (tyX3 k) := by decide +kernel
abbrev cX3_init : ByteArray := prog_5_method_1_code
def yX3_init : MethodName := ⟨RX3, "<init>", "()V"⟩
abbrev cX3_isTrue : ByteArray := prog_5_method_2_code
def yX3_isTrue : MethodName := ⟨RX3, "isTrue", "(LAlertIndex$Draft;)Z"⟩
abbrev cX3_isTrueByHits : ByteArray := prog_5_method_3_code
def yX3_isTrueByHits : MethodName := ⟨RX3, "isTrueByHits", "(LAlertIndex$Draft;)Z"⟩
def RX4 : String := "AlertIndex$Question"
def TX4 : u_T := fun k => match k with
  | 0 => ("AlertIndex$Question", "products", "Ljava/util/List;", true)
  | 1 => ("AlertIndex$Question", "isDropped", "Z", false)
  | 2 => ("AlertIndex$Question", "quietMinutes", "I", false)
  | 3 => ("AlertIndex$Question", "quietUntil", "I", false)
  | 4 => ("AlertIndex$Question", "alerts", "I", false)
  | _ => ("AlertIndex$Question", "batch", "I", false)
def tyX4 : Nat → FieldType := fun k => match k with
  | 0 => .object "java/util/List"
  | 1 => .boolean
  | 2 => .int
  | 3 => .int
  | 4 => .int
  | _ => .int
abbrev wsX40 : List Cond := u_ws RX4 TX4 6
theorem nmX4 : ∀ a, a < 6 → ∀ b, b < 6 → a ≠ b → (TX4 a).2.1 ≠ (TX4 b).2.1 := by decide +kernel
theorem tyX4_ok : ∀ k, k < 6 → parseFieldDescriptor (TX4 k).2.2.1 = some (tyX4 k) := by decide +kernel
abbrev cX4_init : ByteArray := prog_6_method_1_code
def yX4_init : MethodName := ⟨RX4, "<init>", "()V"⟩
abbrev cX4_lastProduct : ByteArray := prog_6_method_2_code
def yX4_lastProduct : MethodName := ⟨RX4, "lastProduct", "()LAlertIndex$Product;"⟩
abbrev cX4_leastSize : ByteArray := prog_6_method_3_code
def yX4_leastSize : MethodName := ⟨RX4, "leastSize", "()I"⟩
abbrev cX4_isSatisfied : ByteArray := prog_6_method_4_code
def yX4_isSatisfied : MethodName := ⟨RX4, "isSatisfied", "(LAlertIndex$Draft;)Z"⟩
abbrev cX4_isSatisfiedByHits : ByteArray := prog_6_method_5_code
def yX4_isSatisfiedByHits : MethodName := ⟨RX4, "isSatisfiedByHits", "(LAlertIndex$Draft;)Z"⟩
abbrev cX4_forgetHits : ByteArray := prog_6_method_6_code
def yX4_forgetHits : MethodName := ⟨RX4, "forgetHits", "()V"⟩
abbrev cX4_isQuietAt : ByteArray := prog_6_method_7_code
def yX4_isQuietAt : MethodName := ⟨RX4, "isQuietAt", "(I)Z"⟩
abbrev cX4_takeDocument : ByteArray := prog_6_method_8_code
def yX4_takeDocument : MethodName := ⟨RX4, "takeDocument", "(I)Z"⟩
abbrev cX4_sendBatch : ByteArray := prog_6_method_9_code
def yX4_sendBatch : MethodName := ⟨RX4, "sendBatch", "(I)Z"⟩
abbrev cX4_raiseAlert : ByteArray := prog_6_method_10_code
def yX4_raiseAlert : MethodName := ⟨RX4, "raiseAlert", "(I)V"⟩
def RX5 : String := "AlertIndex$Test"
def TX5 : u_T := fun k => match k with
  | 0 => ("AlertIndex$Test", "name", "I", true)
  | 1 => ("AlertIndex$Test", "low", "I", true)
  | 2 => ("AlertIndex$Test", "high", "I", true)
  | _ => ("AlertIndex$Test", "isBarred", "Z", true)
def tyX5 : Nat → FieldType := fun k => match k with
  | 0 => .int
  | 1 => .int
  | 2 => .int
  | _ => .boolean
abbrev wsX50 : List Cond := u_ws RX5 TX5 4
theorem nmX5 : ∀ a, a < 4 → ∀ b, b < 4 → a ≠ b → (TX5 a).2.1 ≠ (TX5 b).2.1 := by decide +kernel
theorem tyX5_ok : ∀ k, k < 4 → parseFieldDescriptor (TX5 k).2.2.1 = some (tyX5 k) := by decide +kernel
abbrev cX5_init : ByteArray := prog_7_method_1_code
def yX5_init : MethodName := ⟨RX5, "<init>", "(IIIZ)V"⟩
abbrev cX5_isTrue : ByteArray := prog_7_method_2_code
def yX5_isTrue : MethodName := ⟨RX5, "isTrue", "(LAlertIndex$Draft;)Z"⟩
def RX6 : String := "AlertIndex"
def TX6 : u_T := fun k => match k with
  | 0 => ("AlertIndex", "questions", "Ljava/util/List;", true)
  | 1 => ("AlertIndex", "draft", "LAlertIndex$Draft;", true)
  | 2 => ("AlertIndex", "index", "LAlertIndex$PieceIndex;", true)
  | _ => ("AlertIndex", "minute", "I", false)
def tyX6 : Nat → FieldType := fun k => match k with
  | 0 => .object "java/util/List"
  | 1 => .object "AlertIndex$Draft"
  | 2 => .object "AlertIndex$PieceIndex"
  | _ => .int
abbrev wsX60 : List Cond := u_ws RX6 TX6 4
theorem nmX6 : ∀ a, a < 4 → ∀ b, b < 4 → a ≠ b → (TX6 a).2.1 ≠ (TX6 b).2.1 := by decide +kernel
theorem tyX6_ok : ∀ k, k < 4 → parseFieldDescriptor (TX6 k).2.2.1 = some (tyX6 k) := by decide +kernel
abbrev cX6_init : ByteArray := prog_1_method_1_code
def yX6_init : MethodName := ⟨RX6, "<init>", "()V"⟩
abbrev cX6_question : ByteArray := prog_1_method_2_code
def yX6_question : MethodName := ⟨RX6, "question", "()I"⟩
abbrev cX6_product : ByteArray := prog_1_method_3_code
def yX6_product : MethodName := ⟨RX6, "product", "(I)I"⟩
abbrev cX6_test : ByteArray := prog_1_method_4_code
def yX6_test : MethodName := ⟨RX6, "test", "(IIIIZ)I"⟩
abbrev cX6_drop : ByteArray := prog_1_method_5_code
def yX6_drop : MethodName := ⟨RX6, "drop", "(I)I"⟩
abbrev cX6_setQuiet : ByteArray := prog_1_method_6_code
def yX6_setQuiet : MethodName := ⟨RX6, "setQuiet", "(II)I"⟩
abbrev cX6_set : ByteArray := prog_1_method_7_code
def yX6_set : MethodName := ⟨RX6, "set", "(II)I"⟩
abbrev cX6_come : ByteArray := prog_1_method_8_code
def yX6_come : MethodName := ⟨RX6, "come", "()I"⟩
abbrev cX6_advance : ByteArray := prog_1_method_9_code
def yX6_advance : MethodName := ⟨RX6, "advance", "(I)I"⟩
abbrev cX6_satisfies : ByteArray := prog_1_method_10_code
def yX6_satisfies : MethodName := ⟨RX6, "satisfies", "(I)Z"⟩
abbrev cX6_matching : ByteArray := prog_1_method_11_code
def yX6_matching : MethodName := ⟨RX6, "matching", "()I"⟩
abbrev cX6_matchingByIndex : ByteArray := prog_1_method_12_code
def yX6_matchingByIndex : MethodName := ⟨RX6, "matchingByIndex", "()I"⟩
abbrev cX6_sizeOf : ByteArray := prog_1_method_13_code
def yX6_sizeOf : MethodName := ⟨RX6, "sizeOf", "(I)I"⟩
abbrev cX6_withSize : ByteArray := prog_1_method_14_code
def yX6_withSize : MethodName := ⟨RX6, "withSize", "(I)I"⟩
abbrev cX6_pieces : ByteArray := prog_1_method_15_code
def yX6_pieces : MethodName := ⟨RX6, "pieces", "(II)I"⟩
abbrev cX6_pieceAt : ByteArray := prog_1_method_16_code
def yX6_pieceAt : MethodName := ⟨RX6, "pieceAt", "(III)I"⟩
abbrev cX6_minute : ByteArray := prog_1_method_17_code
def yX6_minute : MethodName := ⟨RX6, "minute", "()I"⟩
abbrev cX6_isQuiet : ByteArray := prog_1_method_18_code
def yX6_isQuiet : MethodName := ⟨RX6, "isQuiet", "(I)Z"⟩
abbrev cX6_alerts : ByteArray := prog_1_method_19_code
def yX6_alerts : MethodName := ⟨RX6, "alerts", "(I)I"⟩
abbrev cX6_batch : ByteArray := prog_1_method_20_code
def yX6_batch : MethodName := ⟨RX6, "batch", "(I)I"⟩
abbrev cX6_questionOf : ByteArray := prog_1_method_21_code
def yX6_questionOf : MethodName := ⟨RX6, "questionOf", "(I)LAlertIndex$Question;"⟩
abbrev cX6_refuseNoName : ByteArray := prog_1_method_22_code
def yX6_refuseNoName : MethodName := ⟨RX6, "refuseNoName", "(I)V"⟩
abbrev cX6_refuseNoRange : ByteArray := prog_1_method_23_code
def yX6_refuseNoRange : MethodName := ⟨RX6, "refuseNoRange", "(II)V"⟩
abbrev cX6_isValue : ByteArray := prog_1_method_24_code
def yX6_isValue : MethodName := ⟨RX6, "isValue", "(I)Z"⟩
abbrev cX6_levelOfPiece : ByteArray := prog_1_method_25_code
def yX6_levelOfPiece : MethodName := ⟨RX6, "levelOfPiece", "(II)I"⟩
def RX7 : String := "AlertIndexModel"
def TX7 : u_T := fun k => match k with
  | 0 => ("AlertIndexModel", "thrown", "I", false)
  | 1 => ("AlertIndexModel", "minute", "I", false)
  | 2 => ("AlertIndexModel", "questions", "I", false)
  | 3 => ("AlertIndexModel", "draft", "[I", true)
  | 4 => ("AlertIndexModel", "isDropped", "[Z", true)
  | 5 => ("AlertIndexModel", "products", "[I", true)
  | 6 => ("AlertIndexModel", "quiets", "[I", true)
  | 7 => ("AlertIndexModel", "untils", "[I", true)
  | 8 => ("AlertIndexModel", "alerts", "[I", true)
  | 9 => ("AlertIndexModel", "batches", "[I", true)
  | 10 => ("AlertIndexModel", "tests", "[I", true)
  | 11 => ("AlertIndexModel", "names", "[I", true)
  | 12 => ("AlertIndexModel", "lows", "[I", true)
  | 13 => ("AlertIndexModel", "highs", "[I", true)
  | _ => ("AlertIndexModel", "isBarred", "[Z", true)
def tyX7 : Nat → FieldType := fun k => match k with
  | 0 => .int
  | 1 => .int
  | 2 => .int
  | 3 => .array .int
  | 4 => .array .boolean
  | 5 => .array .int
  | 6 => .array .int
  | 7 => .array .int
  | 8 => .array .int
  | 9 => .array .int
  | 10 => .array .int
  | 11 => .array .int
  | 12 => .array .int
  | 13 => .array .int
  | _ => .array .boolean
abbrev wsX70 : List Cond := u_ws RX7 TX7 15
theorem nmX7 : ∀ a, a < 15 → ∀ b, b < 15 → a ≠ b → (TX7 a).2.1 ≠ (TX7 b).2.1 := by decide +kernel
theorem tyX7_ok : ∀ k, k < 15 → parseFieldDescriptor (TX7 k).2.2.1 = some (tyX7 k) := by decide +kernel
abbrev cX7_init : ByteArray := prog_9_method_1_code
def yX7_init : MethodName := ⟨RX7, "<init>", "()V"⟩
abbrev cX7_thrown : ByteArray := prog_9_method_2_code
def yX7_thrown : MethodName := ⟨RX7, "thrown", "()I"⟩
abbrev cX7_holds : ByteArray := prog_9_method_3_code
def yX7_holds : MethodName := ⟨RX7, "holds", "(I)Z"⟩
abbrev cX7_isIn : ByteArray := prog_9_method_4_code
def yX7_isIn : MethodName := ⟨RX7, "isIn", "(III)Z"⟩
abbrev cX7_isQuestion : ByteArray := prog_9_method_5_code
def yX7_isQuestion : MethodName := ⟨RX7, "isQuestion", "(I)Z"⟩
abbrev cX7_isName : ByteArray := prog_9_method_6_code
def yX7_isName : MethodName := ⟨RX7, "isName", "(I)Z"⟩
abbrev cX7_isRange : ByteArray := prog_9_method_7_code
def yX7_isRange : MethodName := ⟨RX7, "isRange", "(II)Z"⟩
abbrev cX7_question : ByteArray := prog_9_method_8_code
def yX7_question : MethodName := ⟨RX7, "question", "()I"⟩
abbrev cX7_product : ByteArray := prog_9_method_9_code
def yX7_product : MethodName := ⟨RX7, "product", "(I)I"⟩
abbrev cX7_test : ByteArray := prog_9_method_10_code
def yX7_test : MethodName := ⟨RX7, "test", "(IIIIZ)I"⟩
abbrev cX7_drop : ByteArray := prog_9_method_11_code
def yX7_drop : MethodName := ⟨RX7, "drop", "(I)I"⟩
abbrev cX7_setQuiet : ByteArray := prog_9_method_12_code
def yX7_setQuiet : MethodName := ⟨RX7, "setQuiet", "(II)I"⟩
abbrev cX7_set : ByteArray := prog_9_method_13_code
def yX7_set : MethodName := ⟨RX7, "set", "(II)I"⟩
abbrev cX7_isTrue : ByteArray := prog_9_method_14_code
def yX7_isTrue : MethodName := ⟨RX7, "isTrue", "(I)Z"⟩
abbrev cX7_does : ByteArray := prog_9_method_15_code
def yX7_does : MethodName := ⟨RX7, "does", "(I)Z"⟩
abbrev cX7_quietNow : ByteArray := prog_9_method_16_code
def yX7_quietNow : MethodName := ⟨RX7, "quietNow", "(I)Z"⟩
abbrev cX7_raises : ByteArray := prog_9_method_17_code
def yX7_raises : MethodName := ⟨RX7, "raises", "(I)V"⟩
abbrev cX7_come : ByteArray := prog_9_method_18_code
def yX7_come : MethodName := ⟨RX7, "come", "()I"⟩
abbrev cX7_advance : ByteArray := prog_9_method_19_code
def yX7_advance : MethodName := ⟨RX7, "advance", "(I)I"⟩
abbrev cX7_satisfies : ByteArray := prog_9_method_20_code
def yX7_satisfies : MethodName := ⟨RX7, "satisfies", "(I)Z"⟩
abbrev cX7_found : ByteArray := prog_9_method_21_code
def yX7_found : MethodName := ⟨RX7, "found", "()I"⟩
abbrev cX7_matching : ByteArray := prog_9_method_22_code
def yX7_matching : MethodName := ⟨RX7, "matching", "()I"⟩
abbrev cX7_matchingByIndex : ByteArray := prog_9_method_23_code
def yX7_matchingByIndex : MethodName := ⟨RX7, "matchingByIndex", "()I"⟩
abbrev cX7_size : ByteArray := prog_9_method_24_code
def yX7_size : MethodName := ⟨RX7, "size", "(I)I"⟩
abbrev cX7_sizeOf : ByteArray := prog_9_method_25_code
def yX7_sizeOf : MethodName := ⟨RX7, "sizeOf", "(I)I"⟩
abbrev cX7_withSize : ByteArray := prog_9_method_26_code
def yX7_withSize : MethodName := ⟨RX7, "withSize", "(I)I"⟩
abbrev cX7_piece : ByteArray := prog_9_method_27_code
def yX7_piece : MethodName := ⟨RX7, "piece", "(II)I"⟩
abbrev cX7_pieces : ByteArray := prog_9_method_28_code
def yX7_pieces : MethodName := ⟨RX7, "pieces", "(II)I"⟩
abbrev cX7_pieceAt : ByteArray := prog_9_method_29_code
def yX7_pieceAt : MethodName := ⟨RX7, "pieceAt", "(III)I"⟩
abbrev cX7_minute : ByteArray := prog_9_method_30_code
def yX7_minute : MethodName := ⟨RX7, "minute", "()I"⟩
abbrev cX7_isQuiet : ByteArray := prog_9_method_31_code
def yX7_isQuiet : MethodName := ⟨RX7, "isQuiet", "(I)Z"⟩
abbrev cX7_alerts : ByteArray := prog_9_method_32_code
def yX7_alerts : MethodName := ⟨RX7, "alerts", "(I)I"⟩
abbrev cX7_batch : ByteArray := prog_9_method_33_code
def yX7_batch : MethodName := ⟨RX7, "batch", "(I)I"⟩
def RJx145de : String := "java/io/Serializable"
def TJx145de : u_T := fun k => match k with
  | _ => ("", "", "", false)
def tyJx145de : Nat → FieldType := fun k => match k with
  | _ => .int
abbrev wsJx145de0 : List Cond := u_ws RJx145de TJx145de 0
theorem nmJx145de : ∀ a, a < 0 → ∀ b, b < 0 → a ≠ b → (TJx145de a).2.1 ≠ (TJx145de b).2.1 := by decide +kernel
theorem tyJx145de_ok : ∀ k, k < 0 → parseFieldDescriptor (TJx145de k).2.2.1 = some (tyJx145de k) := by decide +kernel
def RJx8e188 : String := "java/lang/Cloneable"
def TJx8e188 : u_T := fun k => match k with
  | _ => ("", "", "", false)
def tyJx8e188 : Nat → FieldType := fun k => match k with
  | _ => .int
abbrev wsJx8e1880 : List Cond := u_ws RJx8e188 TJx8e188 0
theorem nmJx8e188 : ∀ a, a < 0 → ∀ b, b < 0 → a ≠ b → (TJx8e188 a).2.1 ≠ (TJx8e188 b).2.1 := by decide +kernel
theorem tyJx8e188_ok : ∀ k, k < 0 → parseFieldDescriptor (TJx8e188 k).2.2.1 = some (tyJx8e188 k) := by decide +kernel
def RJxab1ab : String := "java/lang/Iterable"
def TJxab1ab : u_T := fun k => match k with
  | _ => ("", "", "", false)
def tyJxab1ab : Nat → FieldType := fun k => match k with
  | _ => .int
abbrev wsJxab1ab0 : List Cond := u_ws RJxab1ab TJxab1ab 0
theorem nmJxab1ab : ∀ a, a < 0 → ∀ b, b < 0 → a ≠ b → (TJxab1ab a).2.1 ≠ (TJxab1ab b).2.1 := by decide +kernel
theorem tyJxab1ab_ok : ∀ k, k < 0 → parseFieldDescriptor (TJxab1ab k).2.2.1 = some (tyJxab1ab k) := by decide +kernel
def RJ9 : String := "java/lang/Math"
def TJ9 : u_T := fun k => match k with
  | _ => ("", "", "", false)
def tyJ9 : Nat → FieldType := fun k => match k with
  | _ => .int
abbrev wsJ90 : List Cond := u_ws RJ9 TJ9 0
theorem nmJ9 : ∀ a, a < 0 → ∀ b, b < 0 → a ≠ b → (TJ9 a).2.1 ≠ (TJ9 b).2.1 := by decide +kernel
theorem tyJ9_ok : ∀ k, k < 0 → parseFieldDescriptor (TJ9 k).2.2.1 = some (tyJ9 k) := by decide +kernel
abbrev cJ9_max_7cf53 : ByteArray := prog_17_method_65_code
def yJ9_max_7cf53 : MethodName := ⟨RJ9, "max", "(II)I"⟩
abbrev cJ9_min_7cf53 : ByteArray := prog_17_method_69_code
def yJ9_min_7cf53 : MethodName := ⟨RJ9, "min", "(II)I"⟩
def RJ0 : String := "java/lang/String"
def TJ0 : u_T := fun k => match k with
  | _ => ("", "", "", false)
def tyJ0 : Nat → FieldType := fun k => match k with
  | _ => .int
abbrev wsJ00 : List Cond := u_ws RJ0 TJ0 0
theorem nmJ0 : ∀ a, a < 0 → ∀ b, b < 0 → a ≠ b → (TJ0 a).2.1 ≠ (TJ0 b).2.1 := by decide +kernel
theorem tyJ0_ok : ∀ k, k < 0 → parseFieldDescriptor (TJ0 k).2.2.1 = some (tyJ0 k) := by decide +kernel
def RJ10 : String := "java/lang/System"
def TJ10 : u_T := fun k => match k with
  | _ => ("", "", "", false)
def tyJ10 : Nat → FieldType := fun k => match k with
  | _ => .int
abbrev wsJ100 : List Cond := u_ws RJ10 TJ10 0
theorem nmJ10 : ∀ a, a < 0 → ∀ b, b < 0 → a ≠ b → (TJ10 a).2.1 ≠ (TJ10 b).2.1 := by decide +kernel
theorem tyJ10_ok : ∀ k, k < 0 → parseFieldDescriptor (TJ10 k).2.2.1 = some (tyJ10 k) := by decide +kernel
def RJxa1e45 : String := "java/util/AbstractCollection"
def TJxa1e45 : u_T := fun k => match k with
  | _ => ("", "", "", false)
def tyJxa1e45 : Nat → FieldType := fun k => match k with
  | _ => .int
abbrev wsJxa1e450 : List Cond := u_ws RJxa1e45 TJxa1e45 0
theorem nmJxa1e45 : ∀ a, a < 0 → ∀ b, b < 0 → a ≠ b → (TJxa1e45 a).2.1 ≠ (TJxa1e45 b).2.1 := by decide +kernel
theorem tyJxa1e45_ok : ∀ k, k < 0 → parseFieldDescriptor (TJxa1e45 k).2.2.1 = some (tyJxa1e45 k) := by decide +kernel
abbrev cJxa1e45_init_da8c8 : ByteArray := prog_22_method_1_code
def yJxa1e45_init_da8c8 : MethodName := ⟨RJxa1e45, "<init>", "()V"⟩
def RJxc12de : String := "java/util/AbstractList"
def TJxc12de : u_T := fun k => match k with
  | _ => ("", "", "", false)
def tyJxc12de : Nat → FieldType := fun k => match k with
  | _ => .int
abbrev wsJxc12de0 : List Cond := u_ws RJxc12de TJxc12de 0
theorem nmJxc12de : ∀ a, a < 0 → ∀ b, b < 0 → a ≠ b → (TJxc12de a).2.1 ≠ (TJxc12de b).2.1 := by decide +kernel
theorem tyJxc12de_ok : ∀ k, k < 0 → parseFieldDescriptor (TJxc12de k).2.2.1 = some (tyJxc12de k) := by decide +kernel
abbrev cJxc12de_init_da8c8 : ByteArray := prog_23_method_1_code
def yJxc12de_init_da8c8 : MethodName := ⟨RJxc12de, "<init>", "()V"⟩
def RJx4a65c : String := "java/util/ArrayList"
def TJx4a65c : u_T := fun k => match k with
  | 0 => ("java/util/AbstractList", "modCount", "I", false)
  | 1 => ("java/util/ArrayList", "elementData", "[Ljava/lang/Object;", false)
  | _ => ("java/util/ArrayList", "size", "I", false)
def tyJx4a65c : Nat → FieldType := fun k => match k with
  | 0 => .int
  | 1 => .array (.object "java/lang/Object")
  | _ => .int
abbrev wsJx4a65c0 : List Cond := u_ws RJx4a65c TJx4a65c 3
theorem nmJx4a65c : ∀ a, a < 3 → ∀ b, b < 3 → a ≠ b → (TJx4a65c a).2.1 ≠ (TJx4a65c b).2.1 := by decide +kernel
theorem tyJx4a65c_ok : ∀ k, k < 3 → parseFieldDescriptor (TJx4a65c k).2.2.1 = some (tyJx4a65c k) := by decide +kernel
abbrev cJx4a65c_init_da8c8 : ByteArray := prog_24_method_2_code
def yJx4a65c_init_da8c8 : MethodName := ⟨RJx4a65c, "<init>", "()V"⟩
abbrev cJx4a65c_grow_92f84 : ByteArray := prog_24_method_6_code
def yJx4a65c_grow_92f84 : MethodName := ⟨RJx4a65c, "grow", "(I)[Ljava/lang/Object;"⟩
abbrev cJx4a65c_grow_d5877 : ByteArray := prog_24_method_7_code
def yJx4a65c_grow_d5877 : MethodName := ⟨RJx4a65c, "grow", "()[Ljava/lang/Object;"⟩
abbrev cJx4a65c_size_8abf5 : ByteArray := prog_24_method_8_code
def yJx4a65c_size_8abf5 : MethodName := ⟨RJx4a65c, "size", "()I"⟩
abbrev cJx4a65c_isEmpty_aae02 : ByteArray := prog_24_method_9_code
def yJx4a65c_isEmpty_aae02 : MethodName := ⟨RJx4a65c, "isEmpty", "()Z"⟩
abbrev cJx4a65c_elementData_915e3 : ByteArray := prog_24_method_18_code
def yJx4a65c_elementData_915e3 : MethodName := ⟨RJx4a65c, "elementData", "(I)Ljava/lang/Object;"⟩
abbrev cJx4a65c_get_915e3 : ByteArray := prog_24_method_20_code
def yJx4a65c_get_915e3 : MethodName := ⟨RJx4a65c, "get", "(I)Ljava/lang/Object;"⟩
abbrev cJx4a65c_add_72be8 : ByteArray := prog_24_method_24_code
def yJx4a65c_add_72be8 : MethodName := ⟨RJx4a65c, "add", "(Ljava/lang/Object;[Ljava/lang/Object;I)V"⟩
abbrev cJx4a65c_add_9ea2d : ByteArray := prog_24_method_25_code
def yJx4a65c_add_9ea2d : MethodName := ⟨RJx4a65c, "add", "(Ljava/lang/Object;)Z"⟩
def RJ7 : String := "java/util/Arrays"
def TJ7 : u_T := fun k => match k with
  | _ => ("", "", "", false)
def tyJ7 : Nat → FieldType := fun k => match k with
  | _ => .int
abbrev wsJ70 : List Cond := u_ws RJ7 TJ7 0
theorem nmJ7 : ∀ a, a < 0 → ∀ b, b < 0 → a ≠ b → (TJ7 a).2.1 ≠ (TJ7 b).2.1 := by decide +kernel
theorem tyJ7_ok : ∀ k, k < 0 → parseFieldDescriptor (TJ7 k).2.2.1 = some (tyJ7 k) := by decide +kernel
abbrev cJ7_fill_53178 : ByteArray := prog_25_method_103_code
def yJ7_fill_53178 : MethodName := ⟨RJ7, "fill", "([II)V"⟩
abbrev cJ7_copyOf_1904c : ByteArray := prog_25_method_119_code
def yJ7_copyOf_1904c : MethodName := ⟨RJ7, "copyOf", "([Ljava/lang/Object;I)[Ljava/lang/Object;"⟩
abbrev cJ7_copyOf_6403c : ByteArray := prog_25_method_120_code
def yJ7_copyOf_6403c : MethodName := ⟨RJ7, "copyOf", "([Ljava/lang/Object;ILjava/lang/Class;)[Ljava/lang/Object;"⟩
def RJx5ef63 : String := "java/util/Collection"
def TJx5ef63 : u_T := fun k => match k with
  | _ => ("", "", "", false)
def tyJx5ef63 : Nat → FieldType := fun k => match k with
  | _ => .int
abbrev wsJx5ef630 : List Cond := u_ws RJx5ef63 TJx5ef63 0
theorem nmJx5ef63 : ∀ a, a < 0 → ∀ b, b < 0 → a ≠ b → (TJx5ef63 a).2.1 ≠ (TJx5ef63 b).2.1 := by decide +kernel
theorem tyJx5ef63_ok : ∀ k, k < 0 → parseFieldDescriptor (TJx5ef63 k).2.2.1 = some (tyJx5ef63 k) := by decide +kernel
def RJxbd725 : String := "java/util/List"
def TJxbd725 : u_T := fun k => match k with
  | _ => ("", "", "", false)
def tyJxbd725 : Nat → FieldType := fun k => match k with
  | _ => .int
abbrev wsJxbd7250 : List Cond := u_ws RJxbd725 TJxbd725 0
theorem nmJxbd725 : ∀ a, a < 0 → ∀ b, b < 0 → a ≠ b → (TJxbd725 a).2.1 ≠ (TJxbd725 b).2.1 := by decide +kernel
theorem tyJxbd725_ok : ∀ k, k < 0 → parseFieldDescriptor (TJxbd725 k).2.2.1 = some (tyJxbd725 k) := by decide +kernel
def RJ15 : String := "java/util/Objects"
def TJ15 : u_T := fun k => match k with
  | _ => ("", "", "", false)
def tyJ15 : Nat → FieldType := fun k => match k with
  | _ => .int
abbrev wsJ150 : List Cond := u_ws RJ15 TJ15 0
theorem nmJ15 : ∀ a, a < 0 → ∀ b, b < 0 → a ≠ b → (TJ15 a).2.1 ≠ (TJ15 b).2.1 := by decide +kernel
theorem tyJ15_ok : ∀ k, k < 0 → parseFieldDescriptor (TJ15 k).2.2.1 = some (tyJ15 k) := by decide +kernel
abbrev cJ15_checkIndex_7cf53 : ByteArray := prog_28_method_17_code
def yJ15_checkIndex_7cf53 : MethodName := ⟨RJ15, "checkIndex", "(II)I"⟩
def RJxf0a74 : String := "java/util/RandomAccess"
def TJxf0a74 : u_T := fun k => match k with
  | _ => ("", "", "", false)
def tyJxf0a74 : Nat → FieldType := fun k => match k with
  | _ => .int
abbrev wsJxf0a740 : List Cond := u_ws RJxf0a74 TJxf0a74 0
theorem nmJxf0a74 : ∀ a, a < 0 → ∀ b, b < 0 → a ≠ b → (TJxf0a74 a).2.1 ≠ (TJxf0a74 b).2.1 := by decide +kernel
theorem tyJxf0a74_ok : ∀ k, k < 0 → parseFieldDescriptor (TJxf0a74 k).2.2.1 = some (tyJxf0a74 k) := by decide +kernel
def RJxa66e6 : String := "java/util/SequencedCollection"
def TJxa66e6 : u_T := fun k => match k with
  | _ => ("", "", "", false)
def tyJxa66e6 : Nat → FieldType := fun k => match k with
  | _ => .int
abbrev wsJxa66e60 : List Cond := u_ws RJxa66e6 TJxa66e6 0
theorem nmJxa66e6 : ∀ a, a < 0 → ∀ b, b < 0 → a ≠ b → (TJxa66e6 a).2.1 ≠ (TJxa66e6 b).2.1 := by decide +kernel
theorem tyJxa66e6_ok : ∀ k, k < 0 → parseFieldDescriptor (TJxa66e6 k).2.2.1 = some (tyJxa66e6 k) := by decide +kernel
def RJ8 : String := "jdk/internal/util/ArraysSupport"
def TJ8 : u_T := fun k => match k with
  | _ => ("", "", "", false)
def tyJ8 : Nat → FieldType := fun k => match k with
  | _ => .int
abbrev wsJ80 : List Cond := u_ws RJ8 TJ8 0
theorem nmJ8 : ∀ a, a < 0 → ∀ b, b < 0 → a ≠ b → (TJ8 a).2.1 ≠ (TJ8 b).2.1 := by decide +kernel
theorem tyJ8_ok : ∀ k, k < 0 → parseFieldDescriptor (TJ8 k).2.2.1 = some (tyJ8 k) := by decide +kernel
abbrev cJ8_newLength_cabcc : ByteArray := prog_31_method_27_code
def yJ8_newLength_cabcc : MethodName := ⟨RJ8, "newLength", "(III)I"⟩
abbrev cJ8_hugeLength_7cf53 : ByteArray := prog_31_method_28_code
def yJ8_hugeLength_7cf53 : MethodName := ⟨RJ8, "hugeLength", "(II)I"⟩
def RJ3 : String := "jdk/internal/util/Preconditions"
def TJ3 : u_T := fun k => match k with
  | _ => ("", "", "", false)
def tyJ3 : Nat → FieldType := fun k => match k with
  | _ => .int
abbrev wsJ30 : List Cond := u_ws RJ3 TJ3 0
theorem nmJ3 : ∀ a, a < 0 → ∀ b, b < 0 → a ≠ b → (TJ3 a).2.1 ≠ (TJ3 b).2.1 := by decide +kernel
theorem tyJ3_ok : ∀ k, k < 0 → parseFieldDescriptor (TJ3 k).2.2.1 = some (tyJ3 k) := by decide +kernel
abbrev cJ3_checkIndex_8e157 : ByteArray := prog_32_method_11_code
def yJ3_checkIndex_8e157 : MethodName := ⟨RJ3, "checkIndex", "(IILjava/util/function/BiFunction;)I"⟩
def RL : String := "AlertIndexLaw"
abbrev cL_question : ByteArray := method_3_code
def yL_question : MethodName := ⟨RL, "question", "(LAlertIndex;[J)I"⟩
abbrev cL_product : ByteArray := method_4_code
def yL_product : MethodName := ⟨RL, "product", "(LAlertIndex;I[J)I"⟩
abbrev cL_test : ByteArray := method_5_code
def yL_test : MethodName := ⟨RL, "test", "(LAlertIndex;IIIIZ[J)I"⟩
abbrev cL_drop : ByteArray := method_6_code
def yL_drop : MethodName := ⟨RL, "drop", "(LAlertIndex;I[J)I"⟩
abbrev cL_setQuiet : ByteArray := method_7_code
def yL_setQuiet : MethodName := ⟨RL, "setQuiet", "(LAlertIndex;II[J)I"⟩
abbrev cL_set : ByteArray := method_8_code
def yL_set : MethodName := ⟨RL, "set", "(LAlertIndex;II[J)I"⟩
abbrev cL_advance : ByteArray := method_9_code
def yL_advance : MethodName := ⟨RL, "advance", "(LAlertIndex;I[J)I"⟩
abbrev cL_satisfies : ByteArray := method_10_code
def yL_satisfies : MethodName := ⟨RL, "satisfies", "(LAlertIndex;I[J)I"⟩
abbrev cL_sizeOf : ByteArray := method_11_code
def yL_sizeOf : MethodName := ⟨RL, "sizeOf", "(LAlertIndex;I[J)I"⟩
abbrev cL_pieces : ByteArray := method_12_code
def yL_pieces : MethodName := ⟨RL, "pieces", "(LAlertIndex;II[J)I"⟩
abbrev cL_pieceAt : ByteArray := method_13_code
def yL_pieceAt : MethodName := ⟨RL, "pieceAt", "(LAlertIndex;III[J)I"⟩
abbrev cL_isQuiet : ByteArray := method_14_code
def yL_isQuiet : MethodName := ⟨RL, "isQuiet", "(LAlertIndex;I[J)I"⟩
abbrev cL_alerts : ByteArray := method_15_code
def yL_alerts : MethodName := ⟨RL, "alerts", "(LAlertIndex;I[J)I"⟩
abbrev cL_batch : ByteArray := method_16_code
def yL_batch : MethodName := ⟨RL, "batch", "(LAlertIndex;I[J)I"⟩
abbrev cL_law : ByteArray := code
def yL_law : MethodName := ⟨RL, "law", "([I)Z"⟩
def wsJ7_fill_53178 : List Cond := .code yJ7_fill_53178 cJ7_fill_53178 4 none :: ([])
def wsX0_init : List Cond := .code yX0_init cX0_init 1 none :: ([.methodLink RX0 3 objectInit, .instanceMethod objectInit, .code objectInit ⟨#[0xb1]⟩ 1 none, .arrayClass .int, .fieldLink RX0 9 "AlertIndex$Draft" "values" "[I", .methodLink RX0 15 yJ7_fill_53178, .static yJ7_fill_53178, .initialized RJ7, .code yJ7_fill_53178 cJ7_fill_53178 4 none] ++ wsX00)
def wsX0_valueOf : List Cond := .code yX0_valueOf cX0_valueOf 2 (some .int) :: ([.fieldLink RX0 9 "AlertIndex$Draft" "values" "[I"] ++ wsX00)
def wsX0_replace : List Cond := .code yX0_replace cX0_replace 4 (some .int) :: ([.fieldLink RX0 9 "AlertIndex$Draft" "values" "[I", .methodLink RX0 21 yX0_valueOf, .instanceMethod yX0_valueOf, .selects RX0 yX0_valueOf yX0_valueOf, .initialized RX0, .code yX0_valueOf cX0_valueOf 2 (some .int)] ++ wsX00)
def wsX1_init : List Cond := .code yX1_init cX1_init 1 none :: ([.methodLink RX1 3 objectInit, .instanceMethod objectInit, .code objectInit ⟨#[0xb1]⟩ 1 none, .classLink RX1 11 RX2, .fieldLink RX1 13 "AlertIndex$PieceIndex" "firsts" "[LAlertIndex$Posting;"] ++ wsX10)
def wsX6_levelOfPiece : List Cond := .code yX6_levelOfPiece cX6_levelOfPiece 4 (some .int) :: ([])
def wsX2_init : List Cond := .code yX2_init cX2_init 3 none :: ([.methodLink RX2 1 objectInit, .instanceMethod objectInit, .code objectInit ⟨#[0xb1]⟩ 1 none, .fieldLink RX2 7 "AlertIndex$Posting" "product" "LAlertIndex$Product;", .fieldLink RX2 13 "AlertIndex$Posting" "next" "LAlertIndex$Posting;"] ++ wsX20)
def wsX1_post : List Cond := .code yX1_post cX1_post 3 none :: ([.fieldLink RX1 13 "AlertIndex$PieceIndex" "firsts" "[LAlertIndex$Posting;", .classLink RX1 11 RX2, .instantiable RX2 2, .initialized RX2, .methodLink RX1 25 yX2_init, .instanceMethod yX2_init, .code yX2_init cX2_init 3 none, .methodLink RX2 1 objectInit, .instanceMethod objectInit, .code objectInit ⟨#[0xb1]⟩ 1 none, .fieldLink RX2 7 "AlertIndex$Posting" "product" "LAlertIndex$Product;", .fieldLink RX2 13 "AlertIndex$Posting" "next" "LAlertIndex$Posting;"] ++ wsX10 ++ wsX20)
def wsX1_enter : List Cond := .code yX1_enter cX1_enter 8 none :: ([.static yX6_levelOfPiece, .initialized RX6, .code yX6_levelOfPiece cX6_levelOfPiece 4 (some .int), .methodLink RX1 21 yX1_post, .instanceMethod yX1_post, .selects RX1 yX1_post yX1_post, .initialized RX1, .code yX1_post cX1_post 3 none, .fieldLink RX1 13 "AlertIndex$PieceIndex" "firsts" "[LAlertIndex$Posting;", .classLink RX1 11 RX2, .instantiable RX2 2, .initialized RX2, .methodLink RX1 25 yX2_init, .instanceMethod yX2_init, .code yX2_init cX2_init 3 none, .methodLink RX2 1 objectInit, .instanceMethod objectInit, .code objectInit ⟨#[0xb1]⟩ 1 none, .fieldLink RX2 7 "AlertIndex$Posting" "product" "LAlertIndex$Product;", .fieldLink RX2 13 "AlertIndex$Posting" "next" "LAlertIndex$Posting;"] ++ wsX10 ++ wsX20)
def wsX6_isValue : List Cond := .code yX6_isValue cX6_isValue 1 (some .boolean) :: ([])
def wsX1_firstAt : List Cond := .code yX1_firstAt cX1_firstAt 2 (some (.object "AlertIndex$Posting")) :: ([.fieldLink RX1 13 "AlertIndex$PieceIndex" "firsts" "[LAlertIndex$Posting;"] ++ wsX10)
def wsX1_hitAbove : List Cond := .code yX1_hitAbove cX1_hitAbove 5 none :: ([.fieldLink RX1 46 "AlertIndex$Posting" "product" "LAlertIndex$Product;", .fieldLink RX1 50 "AlertIndex$Product" "hits" "I", .fieldLink RX1 56 "AlertIndex$Posting" "next" "LAlertIndex$Posting;", .methodLink RX1 42 yX1_firstAt, .instanceMethod yX1_firstAt, .selects RX1 yX1_firstAt yX1_firstAt, .initialized RX1, .code yX1_firstAt cX1_firstAt 2 (some (.object "AlertIndex$Posting")), .fieldLink RX1 13 "AlertIndex$PieceIndex" "firsts" "[LAlertIndex$Posting;"] ++ wsX20 ++ wsX30 ++ wsX10)
def wsX1_countHits : List Cond := .code yX1_countHits cX1_countHits 4 none :: ([.methodLink RX1 28 yX0_valueOf, .instanceMethod yX0_valueOf, .selects RX0 yX0_valueOf yX0_valueOf, .initialized RX0, .code yX0_valueOf cX0_valueOf 2 (some .int), .fieldLink RX0 9 "AlertIndex$Draft" "values" "[I", .static yX6_isValue, .initialized RX6, .code yX6_isValue cX6_isValue 1 (some .boolean), .methodLink RX1 38 yX1_hitAbove, .instanceMethod yX1_hitAbove, .selects RX1 yX1_hitAbove yX1_hitAbove, .initialized RX1, .code yX1_hitAbove cX1_hitAbove 5 none, .fieldLink RX1 46 "AlertIndex$Posting" "product" "LAlertIndex$Product;", .fieldLink RX1 50 "AlertIndex$Product" "hits" "I", .fieldLink RX1 56 "AlertIndex$Posting" "next" "LAlertIndex$Posting;", .methodLink RX1 42 yX1_firstAt, .instanceMethod yX1_firstAt, .selects RX1 yX1_firstAt yX1_firstAt, .code yX1_firstAt cX1_firstAt 2 (some (.object "AlertIndex$Posting")), .fieldLink RX1 13 "AlertIndex$PieceIndex" "firsts" "[LAlertIndex$Posting;"] ++ wsX00 ++ wsX20 ++ wsX30 ++ wsX10)
def wsJxa1e45_init_da8c8 : List Cond := .code yJxa1e45_init_da8c8 cJxa1e45_init_da8c8 1 none :: ([.methodLink RJxa1e45 1 objectInit, .instanceMethod objectInit, .code objectInit ⟨#[0xb1]⟩ 1 none])
def wsJxc12de_init_da8c8 : List Cond := .code yJxc12de_init_da8c8 cJxc12de_init_da8c8 1 none :: ([.fieldLink RJxc12de 7 "java/util/AbstractList" "modCount" "I", .methodLink RJxc12de 1 yJxa1e45_init_da8c8, .instanceMethod yJxa1e45_init_da8c8, .initialized RJxa1e45, .code yJxa1e45_init_da8c8 cJxa1e45_init_da8c8 1 none, .methodLink RJxa1e45 1 objectInit, .instanceMethod objectInit, .code objectInit ⟨#[0xb1]⟩ 1 none] ++ wsJx4a65c0)
def wsJx4a65c_init_da8c8 : List Cond := .code yJx4a65c_init_da8c8 cJx4a65c_init_da8c8 1 none :: ([.fieldLink RJx4a65c 39 "java/util/ArrayList" "DEFAULTCAPACITY_EMPTY_ELEMENTDATA" "[Ljava/lang/Object;", .fieldLink RJx4a65c 9 "java/util/ArrayList" "elementData" "[Ljava/lang/Object;", .methodLink RJx4a65c 1 yJxc12de_init_da8c8, .instanceMethod yJxc12de_init_da8c8, .initialized RJxc12de, .code yJxc12de_init_da8c8 cJxc12de_init_da8c8 1 none, .fieldLink RJxc12de 7 "java/util/AbstractList" "modCount" "I", .methodLink RJxc12de 1 yJxa1e45_init_da8c8, .instanceMethod yJxa1e45_init_da8c8, .initialized RJxa1e45, .code yJxa1e45_init_da8c8 cJxa1e45_init_da8c8 1 none, .methodLink RJxa1e45 1 objectInit, .instanceMethod objectInit, .code objectInit ⟨#[0xb1]⟩ 1 none] ++ wsJx4a65c0)
def wsX3_init : List Cond := .code yX3_init cX3_init 1 none :: ([.methodLink RX3 1 objectInit, .instanceMethod objectInit, .code objectInit ⟨#[0xb1]⟩ 1 none, .classLink RX3 7 RJx4a65c, .instantiable RJx4a65c 3, .initialized RJx4a65c, .fieldLink RX3 10 "AlertIndex$Product" "tests" "Ljava/util/List;", .fieldLink RX3 16 "AlertIndex$Product" "plainTests" "I", .fieldLink RX3 20 "AlertIndex$Product" "hits" "I", .methodLink RX3 9 yJx4a65c_init_da8c8, .instanceMethod yJx4a65c_init_da8c8, .code yJx4a65c_init_da8c8 cJx4a65c_init_da8c8 1 none, .fieldLink RJx4a65c 39 "java/util/ArrayList" "DEFAULTCAPACITY_EMPTY_ELEMENTDATA" "[Ljava/lang/Object;", .fieldLink RJx4a65c 9 "java/util/ArrayList" "elementData" "[Ljava/lang/Object;", .methodLink RJx4a65c 1 yJxc12de_init_da8c8, .instanceMethod yJxc12de_init_da8c8, .initialized RJxc12de, .code yJxc12de_init_da8c8 cJxc12de_init_da8c8 1 none, .fieldLink RJxc12de 7 "java/util/AbstractList" "modCount" "I", .methodLink RJxc12de 1 yJxa1e45_init_da8c8, .instanceMethod yJxa1e45_init_da8c8, .initialized RJxa1e45, .code yJxa1e45_init_da8c8 cJxa1e45_init_da8c8 1 none, .methodLink RJxa1e45 1 objectInit] ++ wsJx4a65c0 ++ wsX30)
def wsJx4a65c_size_8abf5 : List Cond := .code yJx4a65c_size_8abf5 cJx4a65c_size_8abf5 1 (some .int) :: ([.fieldLink RJx4a65c 48 "java/util/ArrayList" "size" "I"] ++ wsJx4a65c0)
def wsJ3_checkIndex_8e157 : List Cond := .code yJ3_checkIndex_8e157 cJ3_checkIndex_8e157 3 (some .int) :: ([])
def wsJ15_checkIndex_7cf53 : List Cond := .code yJ15_checkIndex_7cf53 cJ15_checkIndex_7cf53 2 (some .int) :: ([.methodLink RJ15 105 yJ3_checkIndex_8e157, .static yJ3_checkIndex_8e157, .initialized RJ3, .code yJ3_checkIndex_8e157 cJ3_checkIndex_8e157 3 (some .int)])
def wsJx4a65c_elementData_915e3 : List Cond := .code yJx4a65c_elementData_915e3 cJx4a65c_elementData_915e3 2 (some (.object "java/lang/Object")) :: ([.fieldLink RJx4a65c 9 "java/util/ArrayList" "elementData" "[Ljava/lang/Object;"] ++ wsJx4a65c0)
def wsJx4a65c_get_915e3 : List Cond := .code yJx4a65c_get_915e3 cJx4a65c_get_915e3 2 (some (.object "java/lang/Object")) :: ([.fieldLink RJx4a65c 48 "java/util/ArrayList" "size" "I", .methodLink RJx4a65c 118 yJ15_checkIndex_7cf53, .static yJ15_checkIndex_7cf53, .initialized RJ15, .code yJ15_checkIndex_7cf53 cJ15_checkIndex_7cf53 2 (some .int), .methodLink RJ15 105 yJ3_checkIndex_8e157, .static yJ3_checkIndex_8e157, .initialized RJ3, .code yJ3_checkIndex_8e157 cJ3_checkIndex_8e157 3 (some .int), .methodLink RJx4a65c 123 yJx4a65c_elementData_915e3, .instanceMethod yJx4a65c_elementData_915e3, .selects RJx4a65c yJx4a65c_elementData_915e3 yJx4a65c_elementData_915e3, .initialized RJx4a65c, .code yJx4a65c_elementData_915e3 cJx4a65c_elementData_915e3 2 (some (.object "java/lang/Object")), .fieldLink RJx4a65c 9 "java/util/ArrayList" "elementData" "[Ljava/lang/Object;"] ++ wsJx4a65c0)
def wsX5_isTrue : List Cond := .code yX5_isTrue cX5_isTrue 4 (some .boolean) :: ([.fieldLink RX5 9 "AlertIndex$Test" "name" "I", .fieldLink RX5 15 "AlertIndex$Test" "low" "I", .fieldLink RX5 18 "AlertIndex$Test" "high" "I", .fieldLink RX5 21 "AlertIndex$Test" "isBarred" "Z", .methodLink RX5 25 yX0_valueOf, .instanceMethod yX0_valueOf, .selects RX0 yX0_valueOf yX0_valueOf, .initialized RX0, .code yX0_valueOf cX0_valueOf 2 (some .int), .fieldLink RX0 9 "AlertIndex$Draft" "values" "[I"] ++ wsX50 ++ wsX00)
def wsX3_isTrue_r1 : List Cond := [Cond.fieldLink RX3 10 "AlertIndex$Product" "tests" "Ljava/util/List;", Cond.classLink RX3 33 "AlertIndex$Test", Cond.methodLink RX3 23 ⟨"java/util/List", "size", "()I"⟩, Cond.selects RJx4a65c ⟨"java/util/List", "size", "()I"⟩ yJx4a65c_size_8abf5, Cond.instanceMethod yJx4a65c_size_8abf5, Cond.initialized RJx4a65c, Cond.code yJx4a65c_size_8abf5 cJx4a65c_size_8abf5 1 (some .int), Cond.fieldLink RJx4a65c 48 "java/util/ArrayList" "size" "I", Cond.methodLink RX3 29 ⟨"java/util/List", "get", "(I)Ljava/lang/Object;"⟩, Cond.selects RJx4a65c ⟨"java/util/List", "get", "(I)Ljava/lang/Object;"⟩ yJx4a65c_get_915e3, Cond.instanceMethod yJx4a65c_get_915e3, Cond.code yJx4a65c_get_915e3 cJx4a65c_get_915e3 2 (some (.object "java/lang/Object")), Cond.methodLink RJx4a65c 118 yJ15_checkIndex_7cf53, Cond.static yJ15_checkIndex_7cf53, Cond.initialized RJ15, Cond.code yJ15_checkIndex_7cf53 cJ15_checkIndex_7cf53 2 (some .int), Cond.methodLink RJ15 105 yJ3_checkIndex_8e157, Cond.static yJ3_checkIndex_8e157, Cond.initialized RJ3, Cond.code yJ3_checkIndex_8e157 cJ3_checkIndex_8e157 3 (some .int), Cond.methodLink RJx4a65c 123 yJx4a65c_elementData_915e3, Cond.instanceMethod yJx4a65c_elementData_915e3, Cond.selects RJx4a65c yJx4a65c_elementData_915e3 yJx4a65c_elementData_915e3, Cond.code yJx4a65c_elementData_915e3 cJx4a65c_elementData_915e3 2 (some (.object "java/lang/Object"))]
def wsX3_isTrue_r2 : List Cond := [Cond.fieldLink RJx4a65c 9 "java/util/ArrayList" "elementData" "[Ljava/lang/Object;", Cond.methodLink RX3 35 yX5_isTrue, Cond.instanceMethod yX5_isTrue, Cond.selects RX5 yX5_isTrue yX5_isTrue, Cond.initialized RX5, Cond.code yX5_isTrue cX5_isTrue 4 (some .boolean), Cond.fieldLink RX5 9 "AlertIndex$Test" "name" "I", Cond.fieldLink RX5 15 "AlertIndex$Test" "low" "I", Cond.fieldLink RX5 18 "AlertIndex$Test" "high" "I", Cond.fieldLink RX5 21 "AlertIndex$Test" "isBarred" "Z", Cond.methodLink RX5 25 yX0_valueOf, Cond.instanceMethod yX0_valueOf, Cond.selects RX0 yX0_valueOf yX0_valueOf, Cond.initialized RX0, Cond.code yX0_valueOf cX0_valueOf 2 (some .int), Cond.fieldLink RX0 9 "AlertIndex$Draft" "values" "[I"]
def wsX3_isTrue : List Cond := .code yX3_isTrue cX3_isTrue 3 (some .boolean) :: ((wsX3_isTrue_r1 ++ wsX3_isTrue_r2) ++ wsX30 ++ wsJx4a65c0 ++ wsX50 ++ wsX00)
def wsX3_isTrueByHits_r1 : List Cond := [Cond.fieldLink RX3 20 "AlertIndex$Product" "hits" "I", Cond.fieldLink RX3 16 "AlertIndex$Product" "plainTests" "I", Cond.fieldLink RX3 10 "AlertIndex$Product" "tests" "Ljava/util/List;", Cond.classLink RX3 33 "AlertIndex$Test", Cond.fieldLink RX3 39 "AlertIndex$Test" "isBarred" "Z", Cond.methodLink RX3 23 ⟨"java/util/List", "size", "()I"⟩, Cond.selects RJx4a65c ⟨"java/util/List", "size", "()I"⟩ yJx4a65c_size_8abf5, Cond.instanceMethod yJx4a65c_size_8abf5, Cond.initialized RJx4a65c, Cond.code yJx4a65c_size_8abf5 cJx4a65c_size_8abf5 1 (some .int), Cond.fieldLink RJx4a65c 48 "java/util/ArrayList" "size" "I", Cond.methodLink RX3 29 ⟨"java/util/List", "get", "(I)Ljava/lang/Object;"⟩, Cond.selects RJx4a65c ⟨"java/util/List", "get", "(I)Ljava/lang/Object;"⟩ yJx4a65c_get_915e3, Cond.instanceMethod yJx4a65c_get_915e3, Cond.code yJx4a65c_get_915e3 cJx4a65c_get_915e3 2 (some (.object "java/lang/Object")), Cond.methodLink RJx4a65c 118 yJ15_checkIndex_7cf53, Cond.static yJ15_checkIndex_7cf53, Cond.initialized RJ15, Cond.code yJ15_checkIndex_7cf53 cJ15_checkIndex_7cf53 2 (some .int), Cond.methodLink RJ15 105 yJ3_checkIndex_8e157, Cond.static yJ3_checkIndex_8e157, Cond.initialized RJ3, Cond.code yJ3_checkIndex_8e157 cJ3_checkIndex_8e157 3 (some .int), Cond.methodLink RJx4a65c 123 yJx4a65c_elementData_915e3]
def wsX3_isTrueByHits_r2 : List Cond := [Cond.instanceMethod yJx4a65c_elementData_915e3, Cond.selects RJx4a65c yJx4a65c_elementData_915e3 yJx4a65c_elementData_915e3, Cond.code yJx4a65c_elementData_915e3 cJx4a65c_elementData_915e3 2 (some (.object "java/lang/Object")), Cond.fieldLink RJx4a65c 9 "java/util/ArrayList" "elementData" "[Ljava/lang/Object;", Cond.methodLink RX3 35 yX5_isTrue, Cond.instanceMethod yX5_isTrue, Cond.selects RX5 yX5_isTrue yX5_isTrue, Cond.initialized RX5, Cond.code yX5_isTrue cX5_isTrue 4 (some .boolean), Cond.fieldLink RX5 9 "AlertIndex$Test" "name" "I", Cond.fieldLink RX5 15 "AlertIndex$Test" "low" "I", Cond.fieldLink RX5 18 "AlertIndex$Test" "high" "I", Cond.fieldLink RX5 21 "AlertIndex$Test" "isBarred" "Z", Cond.methodLink RX5 25 yX0_valueOf, Cond.instanceMethod yX0_valueOf, Cond.selects RX0 yX0_valueOf yX0_valueOf, Cond.initialized RX0, Cond.code yX0_valueOf cX0_valueOf 2 (some .int), Cond.fieldLink RX0 9 "AlertIndex$Draft" "values" "[I"]
def wsX3_isTrueByHits : List Cond := .code yX3_isTrueByHits cX3_isTrueByHits 4 (some .boolean) :: ((wsX3_isTrueByHits_r1 ++ wsX3_isTrueByHits_r2) ++ wsX30 ++ wsX50 ++ wsJx4a65c0 ++ wsX00)
def wsX4_init_r1 : List Cond := [Cond.methodLink RX4 3 objectInit, Cond.instanceMethod objectInit, Cond.code objectInit ⟨#[0xb1]⟩ 1 none, Cond.classLink RX4 9 RJx4a65c, Cond.instantiable RJx4a65c 3, Cond.initialized RJx4a65c, Cond.fieldLink RX4 12 "AlertIndex$Question" "products" "Ljava/util/List;", Cond.fieldLink RX4 18 "AlertIndex$Question" "isDropped" "Z", Cond.fieldLink RX4 22 "AlertIndex$Question" "quietMinutes" "I", Cond.fieldLink RX4 26 "AlertIndex$Question" "quietUntil" "I", Cond.fieldLink RX4 29 "AlertIndex$Question" "alerts" "I", Cond.fieldLink RX4 32 "AlertIndex$Question" "batch" "I", Cond.methodLink RX4 11 yJx4a65c_init_da8c8, Cond.instanceMethod yJx4a65c_init_da8c8, Cond.code yJx4a65c_init_da8c8 cJx4a65c_init_da8c8 1 none, Cond.fieldLink RJx4a65c 39 "java/util/ArrayList" "DEFAULTCAPACITY_EMPTY_ELEMENTDATA" "[Ljava/lang/Object;", Cond.fieldLink RJx4a65c 9 "java/util/ArrayList" "elementData" "[Ljava/lang/Object;", Cond.methodLink RJx4a65c 1 yJxc12de_init_da8c8, Cond.instanceMethod yJxc12de_init_da8c8, Cond.initialized RJxc12de, Cond.code yJxc12de_init_da8c8 cJxc12de_init_da8c8 1 none, Cond.fieldLink RJxc12de 7 "java/util/AbstractList" "modCount" "I", Cond.methodLink RJxc12de 1 yJxa1e45_init_da8c8, Cond.instanceMethod yJxa1e45_init_da8c8]
def wsX4_init_r2 : List Cond := [Cond.initialized RJxa1e45, Cond.code yJxa1e45_init_da8c8 cJxa1e45_init_da8c8 1 none, Cond.methodLink RJxa1e45 1 objectInit]
def wsX4_init : List Cond := .code yX4_init cX4_init 1 none :: ((wsX4_init_r1 ++ wsX4_init_r2) ++ wsJx4a65c0 ++ wsX40)
def wsX4_lastProduct_r1 : List Cond := [Cond.fieldLink RX4 12 "AlertIndex$Question" "products" "Ljava/util/List;", Cond.classLink RX4 45 "AlertIndex$Product", Cond.methodLink RX4 35 ⟨"java/util/List", "size", "()I"⟩, Cond.selects RJx4a65c ⟨"java/util/List", "size", "()I"⟩ yJx4a65c_size_8abf5, Cond.instanceMethod yJx4a65c_size_8abf5, Cond.initialized RJx4a65c, Cond.code yJx4a65c_size_8abf5 cJx4a65c_size_8abf5 1 (some .int), Cond.fieldLink RJx4a65c 48 "java/util/ArrayList" "size" "I", Cond.methodLink RX4 41 ⟨"java/util/List", "get", "(I)Ljava/lang/Object;"⟩, Cond.selects RJx4a65c ⟨"java/util/List", "get", "(I)Ljava/lang/Object;"⟩ yJx4a65c_get_915e3, Cond.instanceMethod yJx4a65c_get_915e3, Cond.code yJx4a65c_get_915e3 cJx4a65c_get_915e3 2 (some (.object "java/lang/Object")), Cond.methodLink RJx4a65c 118 yJ15_checkIndex_7cf53, Cond.static yJ15_checkIndex_7cf53, Cond.initialized RJ15, Cond.code yJ15_checkIndex_7cf53 cJ15_checkIndex_7cf53 2 (some .int), Cond.methodLink RJ15 105 yJ3_checkIndex_8e157, Cond.static yJ3_checkIndex_8e157, Cond.initialized RJ3, Cond.code yJ3_checkIndex_8e157 cJ3_checkIndex_8e157 3 (some .int), Cond.methodLink RJx4a65c 123 yJx4a65c_elementData_915e3, Cond.instanceMethod yJx4a65c_elementData_915e3, Cond.selects RJx4a65c yJx4a65c_elementData_915e3 yJx4a65c_elementData_915e3, Cond.code yJx4a65c_elementData_915e3 cJx4a65c_elementData_915e3 2 (some (.object "java/lang/Object"))]
def wsX4_lastProduct_r2 : List Cond := [Cond.fieldLink RJx4a65c 9 "java/util/ArrayList" "elementData" "[Ljava/lang/Object;"]
def wsX4_lastProduct : List Cond := .code yX4_lastProduct cX4_lastProduct 2 (some (.object "AlertIndex$Product")) :: ((wsX4_lastProduct_r1 ++ wsX4_lastProduct_r2) ++ wsX40 ++ wsJx4a65c0)
def wsJx4a65c_isEmpty_aae02 : List Cond := .code yJx4a65c_isEmpty_aae02 cJx4a65c_isEmpty_aae02 1 (some .boolean) :: ([.fieldLink RJx4a65c 48 "java/util/ArrayList" "size" "I"] ++ wsJx4a65c0)
def wsX4_leastSize_r1 : List Cond := [Cond.fieldLink RX4 12 "AlertIndex$Question" "products" "Ljava/util/List;", Cond.classLink RX4 45 "AlertIndex$Product", Cond.fieldLink RX4 47 "AlertIndex$Product" "plainTests" "I", Cond.methodLink RX4 50 Lib.Math.min.name, Cond.static Lib.Math.min.name, Cond.initialized "java/lang/Math", Cond.code Lib.Math.min.name Lib.Math.min.code 2 (some .int), Cond.methodLink RX4 35 ⟨"java/util/List", "size", "()I"⟩, Cond.selects RJx4a65c ⟨"java/util/List", "size", "()I"⟩ yJx4a65c_size_8abf5, Cond.instanceMethod yJx4a65c_size_8abf5, Cond.initialized RJx4a65c, Cond.code yJx4a65c_size_8abf5 cJx4a65c_size_8abf5 1 (some .int), Cond.fieldLink RJx4a65c 48 "java/util/ArrayList" "size" "I", Cond.methodLink RX4 41 ⟨"java/util/List", "get", "(I)Ljava/lang/Object;"⟩, Cond.selects RJx4a65c ⟨"java/util/List", "get", "(I)Ljava/lang/Object;"⟩ yJx4a65c_get_915e3, Cond.instanceMethod yJx4a65c_get_915e3, Cond.code yJx4a65c_get_915e3 cJx4a65c_get_915e3 2 (some (.object "java/lang/Object")), Cond.methodLink RJx4a65c 118 yJ15_checkIndex_7cf53, Cond.static yJ15_checkIndex_7cf53, Cond.initialized RJ15, Cond.code yJ15_checkIndex_7cf53 cJ15_checkIndex_7cf53 2 (some .int), Cond.methodLink RJ15 105 yJ3_checkIndex_8e157, Cond.static yJ3_checkIndex_8e157, Cond.initialized RJ3]
def wsX4_leastSize_r2 : List Cond := [Cond.code yJ3_checkIndex_8e157 cJ3_checkIndex_8e157 3 (some .int), Cond.methodLink RJx4a65c 123 yJx4a65c_elementData_915e3, Cond.instanceMethod yJx4a65c_elementData_915e3, Cond.selects RJx4a65c yJx4a65c_elementData_915e3 yJx4a65c_elementData_915e3, Cond.code yJx4a65c_elementData_915e3 cJx4a65c_elementData_915e3 2 (some (.object "java/lang/Object")), Cond.fieldLink RJx4a65c 9 "java/util/ArrayList" "elementData" "[Ljava/lang/Object;", Cond.methodLink RX4 56 ⟨"java/util/List", "isEmpty", "()Z"⟩, Cond.selects RJx4a65c ⟨"java/util/List", "isEmpty", "()Z"⟩ yJx4a65c_isEmpty_aae02, Cond.instanceMethod yJx4a65c_isEmpty_aae02, Cond.code yJx4a65c_isEmpty_aae02 cJx4a65c_isEmpty_aae02 1 (some .boolean)]
def wsX4_leastSize : List Cond := .code yX4_leastSize cX4_leastSize 3 (some .int) :: ((wsX4_leastSize_r1 ++ wsX4_leastSize_r2) ++ wsX40 ++ wsX30 ++ wsJx4a65c0)
def wsX4_isSatisfied_r1 : List Cond := [Cond.fieldLink RX4 18 "AlertIndex$Question" "isDropped" "Z", Cond.fieldLink RX4 12 "AlertIndex$Question" "products" "Ljava/util/List;", Cond.classLink RX4 45 "AlertIndex$Product", Cond.methodLink RX4 35 ⟨"java/util/List", "size", "()I"⟩, Cond.selects RJx4a65c ⟨"java/util/List", "size", "()I"⟩ yJx4a65c_size_8abf5, Cond.instanceMethod yJx4a65c_size_8abf5, Cond.initialized RJx4a65c, Cond.code yJx4a65c_size_8abf5 cJx4a65c_size_8abf5 1 (some .int), Cond.fieldLink RJx4a65c 48 "java/util/ArrayList" "size" "I", Cond.methodLink RX4 41 ⟨"java/util/List", "get", "(I)Ljava/lang/Object;"⟩, Cond.selects RJx4a65c ⟨"java/util/List", "get", "(I)Ljava/lang/Object;"⟩ yJx4a65c_get_915e3, Cond.instanceMethod yJx4a65c_get_915e3, Cond.code yJx4a65c_get_915e3 cJx4a65c_get_915e3 2 (some (.object "java/lang/Object")), Cond.methodLink RJx4a65c 118 yJ15_checkIndex_7cf53, Cond.static yJ15_checkIndex_7cf53, Cond.initialized RJ15, Cond.code yJ15_checkIndex_7cf53 cJ15_checkIndex_7cf53 2 (some .int), Cond.methodLink RJ15 105 yJ3_checkIndex_8e157, Cond.static yJ3_checkIndex_8e157, Cond.initialized RJ3, Cond.code yJ3_checkIndex_8e157 cJ3_checkIndex_8e157 3 (some .int), Cond.methodLink RJx4a65c 123 yJx4a65c_elementData_915e3, Cond.instanceMethod yJx4a65c_elementData_915e3, Cond.selects RJx4a65c yJx4a65c_elementData_915e3 yJx4a65c_elementData_915e3]
def wsX4_isSatisfied_r2 : List Cond := [Cond.code yJx4a65c_elementData_915e3 cJx4a65c_elementData_915e3 2 (some (.object "java/lang/Object")), Cond.fieldLink RJx4a65c 9 "java/util/ArrayList" "elementData" "[Ljava/lang/Object;", Cond.methodLink RX4 60 yX3_isTrue, Cond.instanceMethod yX3_isTrue, Cond.selects RX3 yX3_isTrue yX3_isTrue, Cond.initialized RX3, Cond.code yX3_isTrue cX3_isTrue 3 (some .boolean), Cond.fieldLink RX3 10 "AlertIndex$Product" "tests" "Ljava/util/List;", Cond.classLink RX3 33 "AlertIndex$Test", Cond.methodLink RX3 23 ⟨"java/util/List", "size", "()I"⟩, Cond.methodLink RX3 29 ⟨"java/util/List", "get", "(I)Ljava/lang/Object;"⟩, Cond.methodLink RX3 35 yX5_isTrue, Cond.instanceMethod yX5_isTrue, Cond.selects RX5 yX5_isTrue yX5_isTrue, Cond.initialized RX5, Cond.code yX5_isTrue cX5_isTrue 4 (some .boolean), Cond.fieldLink RX5 9 "AlertIndex$Test" "name" "I", Cond.fieldLink RX5 15 "AlertIndex$Test" "low" "I", Cond.fieldLink RX5 18 "AlertIndex$Test" "high" "I", Cond.fieldLink RX5 21 "AlertIndex$Test" "isBarred" "Z", Cond.methodLink RX5 25 yX0_valueOf, Cond.instanceMethod yX0_valueOf, Cond.selects RX0 yX0_valueOf yX0_valueOf, Cond.initialized RX0]
def wsX4_isSatisfied_r3 : List Cond := [Cond.code yX0_valueOf cX0_valueOf 2 (some .int), Cond.fieldLink RX0 9 "AlertIndex$Draft" "values" "[I"]
def wsX4_isSatisfied : List Cond := .code yX4_isSatisfied cX4_isSatisfied 3 (some .boolean) :: ((wsX4_isSatisfied_r1 ++ (wsX4_isSatisfied_r2 ++ wsX4_isSatisfied_r3)) ++ wsX40 ++ wsJx4a65c0 ++ wsX30 ++ wsX50 ++ wsX00)
def wsX4_isSatisfiedByHits_r1 : List Cond := [Cond.fieldLink RX4 18 "AlertIndex$Question" "isDropped" "Z", Cond.fieldLink RX4 12 "AlertIndex$Question" "products" "Ljava/util/List;", Cond.classLink RX4 45 "AlertIndex$Product", Cond.methodLink RX4 35 ⟨"java/util/List", "size", "()I"⟩, Cond.selects RJx4a65c ⟨"java/util/List", "size", "()I"⟩ yJx4a65c_size_8abf5, Cond.instanceMethod yJx4a65c_size_8abf5, Cond.initialized RJx4a65c, Cond.code yJx4a65c_size_8abf5 cJx4a65c_size_8abf5 1 (some .int), Cond.fieldLink RJx4a65c 48 "java/util/ArrayList" "size" "I", Cond.methodLink RX4 41 ⟨"java/util/List", "get", "(I)Ljava/lang/Object;"⟩, Cond.selects RJx4a65c ⟨"java/util/List", "get", "(I)Ljava/lang/Object;"⟩ yJx4a65c_get_915e3, Cond.instanceMethod yJx4a65c_get_915e3, Cond.code yJx4a65c_get_915e3 cJx4a65c_get_915e3 2 (some (.object "java/lang/Object")), Cond.methodLink RJx4a65c 118 yJ15_checkIndex_7cf53, Cond.static yJ15_checkIndex_7cf53, Cond.initialized RJ15, Cond.code yJ15_checkIndex_7cf53 cJ15_checkIndex_7cf53 2 (some .int), Cond.methodLink RJ15 105 yJ3_checkIndex_8e157, Cond.static yJ3_checkIndex_8e157, Cond.initialized RJ3, Cond.code yJ3_checkIndex_8e157 cJ3_checkIndex_8e157 3 (some .int), Cond.methodLink RJx4a65c 123 yJx4a65c_elementData_915e3, Cond.instanceMethod yJx4a65c_elementData_915e3, Cond.selects RJx4a65c yJx4a65c_elementData_915e3 yJx4a65c_elementData_915e3]
def wsX4_isSatisfiedByHits_r2 : List Cond := [Cond.code yJx4a65c_elementData_915e3 cJx4a65c_elementData_915e3 2 (some (.object "java/lang/Object")), Cond.fieldLink RJx4a65c 9 "java/util/ArrayList" "elementData" "[Ljava/lang/Object;", Cond.methodLink RX4 64 yX3_isTrueByHits, Cond.instanceMethod yX3_isTrueByHits, Cond.selects RX3 yX3_isTrueByHits yX3_isTrueByHits, Cond.initialized RX3, Cond.code yX3_isTrueByHits cX3_isTrueByHits 4 (some .boolean), Cond.fieldLink RX3 20 "AlertIndex$Product" "hits" "I", Cond.fieldLink RX3 16 "AlertIndex$Product" "plainTests" "I", Cond.fieldLink RX3 10 "AlertIndex$Product" "tests" "Ljava/util/List;", Cond.classLink RX3 33 "AlertIndex$Test", Cond.fieldLink RX3 39 "AlertIndex$Test" "isBarred" "Z", Cond.methodLink RX3 23 ⟨"java/util/List", "size", "()I"⟩, Cond.methodLink RX3 29 ⟨"java/util/List", "get", "(I)Ljava/lang/Object;"⟩, Cond.methodLink RX3 35 yX5_isTrue, Cond.instanceMethod yX5_isTrue, Cond.selects RX5 yX5_isTrue yX5_isTrue, Cond.initialized RX5, Cond.code yX5_isTrue cX5_isTrue 4 (some .boolean), Cond.fieldLink RX5 9 "AlertIndex$Test" "name" "I", Cond.fieldLink RX5 15 "AlertIndex$Test" "low" "I", Cond.fieldLink RX5 18 "AlertIndex$Test" "high" "I", Cond.fieldLink RX5 21 "AlertIndex$Test" "isBarred" "Z", Cond.methodLink RX5 25 yX0_valueOf]
def wsX4_isSatisfiedByHits_r3 : List Cond := [Cond.instanceMethod yX0_valueOf, Cond.selects RX0 yX0_valueOf yX0_valueOf, Cond.initialized RX0, Cond.code yX0_valueOf cX0_valueOf 2 (some .int), Cond.fieldLink RX0 9 "AlertIndex$Draft" "values" "[I"]
def wsX4_isSatisfiedByHits : List Cond := .code yX4_isSatisfiedByHits cX4_isSatisfiedByHits 3 (some .boolean) :: ((wsX4_isSatisfiedByHits_r1 ++ (wsX4_isSatisfiedByHits_r2 ++ wsX4_isSatisfiedByHits_r3)) ++ wsX40 ++ wsJx4a65c0 ++ wsX30 ++ wsX50 ++ wsX00)
def wsX4_forgetHits_r1 : List Cond := [Cond.fieldLink RX4 12 "AlertIndex$Question" "products" "Ljava/util/List;", Cond.classLink RX4 45 "AlertIndex$Product", Cond.fieldLink RX4 67 "AlertIndex$Product" "hits" "I", Cond.methodLink RX4 35 ⟨"java/util/List", "size", "()I"⟩, Cond.selects RJx4a65c ⟨"java/util/List", "size", "()I"⟩ yJx4a65c_size_8abf5, Cond.instanceMethod yJx4a65c_size_8abf5, Cond.initialized RJx4a65c, Cond.code yJx4a65c_size_8abf5 cJx4a65c_size_8abf5 1 (some .int), Cond.fieldLink RJx4a65c 48 "java/util/ArrayList" "size" "I", Cond.methodLink RX4 41 ⟨"java/util/List", "get", "(I)Ljava/lang/Object;"⟩, Cond.selects RJx4a65c ⟨"java/util/List", "get", "(I)Ljava/lang/Object;"⟩ yJx4a65c_get_915e3, Cond.instanceMethod yJx4a65c_get_915e3, Cond.code yJx4a65c_get_915e3 cJx4a65c_get_915e3 2 (some (.object "java/lang/Object")), Cond.methodLink RJx4a65c 118 yJ15_checkIndex_7cf53, Cond.static yJ15_checkIndex_7cf53, Cond.initialized RJ15, Cond.code yJ15_checkIndex_7cf53 cJ15_checkIndex_7cf53 2 (some .int), Cond.methodLink RJ15 105 yJ3_checkIndex_8e157, Cond.static yJ3_checkIndex_8e157, Cond.initialized RJ3, Cond.code yJ3_checkIndex_8e157 cJ3_checkIndex_8e157 3 (some .int), Cond.methodLink RJx4a65c 123 yJx4a65c_elementData_915e3, Cond.instanceMethod yJx4a65c_elementData_915e3, Cond.selects RJx4a65c yJx4a65c_elementData_915e3 yJx4a65c_elementData_915e3]
def wsX4_forgetHits_r2 : List Cond := [Cond.code yJx4a65c_elementData_915e3 cJx4a65c_elementData_915e3 2 (some (.object "java/lang/Object")), Cond.fieldLink RJx4a65c 9 "java/util/ArrayList" "elementData" "[Ljava/lang/Object;"]
def wsX4_forgetHits : List Cond := .code yX4_forgetHits cX4_forgetHits 2 none :: ((wsX4_forgetHits_r1 ++ wsX4_forgetHits_r2) ++ wsX40 ++ wsX30 ++ wsJx4a65c0)
def wsX4_isQuietAt : List Cond := .code yX4_isQuietAt cX4_isQuietAt 2 (some .boolean) :: ([.fieldLink RX4 26 "AlertIndex$Question" "quietUntil" "I"] ++ wsX40)
def wsX4_raiseAlert : List Cond := .code yX4_raiseAlert cX4_raiseAlert 2 none :: ([.fieldLink RX4 29 "AlertIndex$Question" "alerts" "I", .fieldLink RX4 22 "AlertIndex$Question" "quietMinutes" "I", .fieldLink RX4 26 "AlertIndex$Question" "quietUntil" "I"] ++ wsX40)
def wsX4_takeDocument : List Cond := .code yX4_takeDocument cX4_takeDocument 2 (some .boolean) :: ([.fieldLink RX4 32 "AlertIndex$Question" "batch" "I", .methodLink RX4 70 yX4_isQuietAt, .instanceMethod yX4_isQuietAt, .selects RX4 yX4_isQuietAt yX4_isQuietAt, .initialized RX4, .code yX4_isQuietAt cX4_isQuietAt 2 (some .boolean), .fieldLink RX4 26 "AlertIndex$Question" "quietUntil" "I", .methodLink RX4 74 yX4_raiseAlert, .instanceMethod yX4_raiseAlert, .selects RX4 yX4_raiseAlert yX4_raiseAlert, .code yX4_raiseAlert cX4_raiseAlert 2 none, .fieldLink RX4 29 "AlertIndex$Question" "alerts" "I", .fieldLink RX4 22 "AlertIndex$Question" "quietMinutes" "I"] ++ wsX40)
def wsX4_sendBatch : List Cond := .code yX4_sendBatch cX4_sendBatch 2 (some .boolean) :: ([.fieldLink RX4 18 "AlertIndex$Question" "isDropped" "Z", .fieldLink RX4 32 "AlertIndex$Question" "batch" "I", .fieldLink RX4 26 "AlertIndex$Question" "quietUntil" "I", .methodLink RX4 70 yX4_isQuietAt, .instanceMethod yX4_isQuietAt, .selects RX4 yX4_isQuietAt yX4_isQuietAt, .initialized RX4, .code yX4_isQuietAt cX4_isQuietAt 2 (some .boolean), .methodLink RX4 74 yX4_raiseAlert, .instanceMethod yX4_raiseAlert, .selects RX4 yX4_raiseAlert yX4_raiseAlert, .code yX4_raiseAlert cX4_raiseAlert 2 none, .fieldLink RX4 29 "AlertIndex$Question" "alerts" "I", .fieldLink RX4 22 "AlertIndex$Question" "quietMinutes" "I"] ++ wsX40)
def wsX5_init : List Cond := .code yX5_init cX5_init 5 none :: ([.methodLink RX5 3 objectInit, .instanceMethod objectInit, .code objectInit ⟨#[0xb1]⟩ 1 none, .fieldLink RX5 9 "AlertIndex$Test" "name" "I", .fieldLink RX5 15 "AlertIndex$Test" "low" "I", .fieldLink RX5 18 "AlertIndex$Test" "high" "I", .fieldLink RX5 21 "AlertIndex$Test" "isBarred" "Z"] ++ wsX50)
def wsX6_init_r1 : List Cond := [Cond.methodLink RX6 1 objectInit, Cond.instanceMethod objectInit, Cond.code objectInit ⟨#[0xb1]⟩ 1 none, Cond.classLink RX6 7 RJx4a65c, Cond.instantiable RJx4a65c 3, Cond.initialized RJx4a65c, Cond.fieldLink RX6 10 "AlertIndex" "questions" "Ljava/util/List;", Cond.classLink RX6 16 RX0, Cond.instantiable RX0 1, Cond.initialized RX0, Cond.fieldLink RX6 19 "AlertIndex" "draft" "LAlertIndex$Draft;", Cond.classLink RX6 23 RX1, Cond.instantiable RX1 1, Cond.initialized RX1, Cond.fieldLink RX6 26 "AlertIndex" "index" "LAlertIndex$PieceIndex;", Cond.fieldLink RX6 30 "AlertIndex" "minute" "I", Cond.methodLink RX6 9 yJx4a65c_init_da8c8, Cond.instanceMethod yJx4a65c_init_da8c8, Cond.code yJx4a65c_init_da8c8 cJx4a65c_init_da8c8 1 none, Cond.fieldLink RJx4a65c 39 "java/util/ArrayList" "DEFAULTCAPACITY_EMPTY_ELEMENTDATA" "[Ljava/lang/Object;", Cond.fieldLink RJx4a65c 9 "java/util/ArrayList" "elementData" "[Ljava/lang/Object;", Cond.methodLink RJx4a65c 1 yJxc12de_init_da8c8, Cond.instanceMethod yJxc12de_init_da8c8, Cond.initialized RJxc12de]
def wsX6_init_r2 : List Cond := [Cond.code yJxc12de_init_da8c8 cJxc12de_init_da8c8 1 none, Cond.fieldLink RJxc12de 7 "java/util/AbstractList" "modCount" "I", Cond.methodLink RJxc12de 1 yJxa1e45_init_da8c8, Cond.instanceMethod yJxa1e45_init_da8c8, Cond.initialized RJxa1e45, Cond.code yJxa1e45_init_da8c8 cJxa1e45_init_da8c8 1 none, Cond.methodLink RJxa1e45 1 objectInit, Cond.methodLink RX6 18 yX0_init, Cond.instanceMethod yX0_init, Cond.code yX0_init cX0_init 1 none, Cond.methodLink RX0 3 objectInit, Cond.arrayClass .int, Cond.fieldLink RX0 9 "AlertIndex$Draft" "values" "[I", Cond.methodLink RX0 15 yJ7_fill_53178, Cond.static yJ7_fill_53178, Cond.initialized RJ7, Cond.code yJ7_fill_53178 cJ7_fill_53178 4 none, Cond.methodLink RX6 25 yX1_init, Cond.instanceMethod yX1_init, Cond.code yX1_init cX1_init 1 none, Cond.methodLink RX1 3 objectInit, Cond.classLink RX1 11 RX2, Cond.fieldLink RX1 13 "AlertIndex$PieceIndex" "firsts" "[LAlertIndex$Posting;"]
def wsX6_init : List Cond := .code yX6_init cX6_init 1 none :: ((wsX6_init_r1 ++ wsX6_init_r2) ++ wsJx4a65c0 ++ wsX60 ++ wsX00 ++ wsX10)
def wsJ8_hugeLength_7cf53 : List Cond := .code yJ8_hugeLength_7cf53 cJ8_hugeLength_7cf53 3 (some .int) :: ([.constant RJ8 200 (2147483639)])
def wsJ8_newLength_cabcc : List Cond := .code yJ8_newLength_cabcc cJ8_newLength_cabcc 4 (some .int) :: ([.methodLink RJ8 194 Lib.Math.max.name, .static Lib.Math.max.name, .initialized "java/lang/Math", .code Lib.Math.max.name Lib.Math.max.code 2 (some .int), .constant RJ8 200 (2147483639), .methodLink RJ8 201 yJ8_hugeLength_7cf53, .static yJ8_hugeLength_7cf53, .initialized RJ8, .code yJ8_hugeLength_7cf53 cJ8_hugeLength_7cf53 3 (some .int)])
def wsJ7_copyOf_6403c : List Cond := .code yJ7_copyOf_6403c cJ7_copyOf_6403c 4 (some (.array (.object "java/lang/Object"))) :: ([.classLink RJ7 110 "[Ljava/lang/Object;", .classLink RJ7 2 "java/lang/Object", .methodLink RJ7 304 Lib.Math.min.name, .static Lib.Math.min.name, .initialized "java/lang/Math", .code Lib.Math.min.name Lib.Math.min.code 2 (some .int), .methodLink RJ7 150 arraycopyName, .native arraycopyName, .static arraycopyName, .initialized "java/lang/System"])
def wsJ7_copyOf_1904c : List Cond := .code yJ7_copyOf_1904c cJ7_copyOf_1904c 2 (some (.array (.object "java/lang/Object"))) :: ([.methodLink RJ7 86 ⟨"java/lang/Object", "getClass", "()Ljava/lang/Class;"⟩, .selects "[Ljava/lang/Object;" ⟨"java/lang/Object", "getClass", "()Ljava/lang/Class;"⟩ ⟨"java/lang/Object", "getClass", "()Ljava/lang/Class;"⟩, .instanceMethod ⟨"java/lang/Object", "getClass", "()Ljava/lang/Class;"⟩, .native ⟨"java/lang/Object", "getClass", "()Ljava/lang/Class;"⟩, .methodLink RJ7 300 yJ7_copyOf_6403c, .static yJ7_copyOf_6403c, .initialized RJ7, .code yJ7_copyOf_6403c cJ7_copyOf_6403c 4 (some (.array (.object "java/lang/Object"))), .classLink RJ7 110 "[Ljava/lang/Object;", .classLink RJ7 2 "java/lang/Object", .methodLink RJ7 304 Lib.Math.min.name, .static Lib.Math.min.name, .initialized "java/lang/Math", .code Lib.Math.min.name Lib.Math.min.code 2 (some .int), .methodLink RJ7 150 arraycopyName, .native arraycopyName, .static arraycopyName, .initialized "java/lang/System"])
def wsJx4a65c_grow_92f84_r1 : List Cond := [Cond.fieldLink RJx4a65c 9 "java/util/ArrayList" "elementData" "[Ljava/lang/Object;", Cond.fieldLink RJx4a65c 39 "java/util/ArrayList" "DEFAULTCAPACITY_EMPTY_ELEMENTDATA" "[Ljava/lang/Object;", Cond.methodLink RJx4a65c 79 Lib.Math.max.name, Cond.static Lib.Math.max.name, Cond.initialized "java/lang/Math", Cond.code Lib.Math.max.name Lib.Math.max.code 2 (some .int), Cond.classLink RJx4a65c 7 "java/lang/Object", Cond.methodLink RJx4a65c 73 yJ8_newLength_cabcc, Cond.static yJ8_newLength_cabcc, Cond.initialized RJ8, Cond.code yJ8_newLength_cabcc cJ8_newLength_cabcc 4 (some .int), Cond.methodLink RJ8 194 Lib.Math.max.name, Cond.constant RJ8 200 (2147483639), Cond.methodLink RJ8 201 yJ8_hugeLength_7cf53, Cond.static yJ8_hugeLength_7cf53, Cond.code yJ8_hugeLength_7cf53 cJ8_hugeLength_7cf53 3 (some .int), Cond.methodLink RJx4a65c 66 yJ7_copyOf_1904c, Cond.static yJ7_copyOf_1904c, Cond.initialized RJ7, Cond.code yJ7_copyOf_1904c cJ7_copyOf_1904c 2 (some (.array (.object "java/lang/Object"))), Cond.methodLink RJ7 86 ⟨"java/lang/Object", "getClass", "()Ljava/lang/Class;"⟩, Cond.selects "[Ljava/lang/Object;" ⟨"java/lang/Object", "getClass", "()Ljava/lang/Class;"⟩ ⟨"java/lang/Object", "getClass", "()Ljava/lang/Class;"⟩, Cond.instanceMethod ⟨"java/lang/Object", "getClass", "()Ljava/lang/Class;"⟩, Cond.native ⟨"java/lang/Object", "getClass", "()Ljava/lang/Class;"⟩]
def wsJx4a65c_grow_92f84_r2 : List Cond := [Cond.methodLink RJ7 300 yJ7_copyOf_6403c, Cond.static yJ7_copyOf_6403c, Cond.code yJ7_copyOf_6403c cJ7_copyOf_6403c 4 (some (.array (.object "java/lang/Object"))), Cond.classLink RJ7 110 "[Ljava/lang/Object;", Cond.classLink RJ7 2 "java/lang/Object", Cond.methodLink RJ7 304 Lib.Math.min.name, Cond.static Lib.Math.min.name, Cond.code Lib.Math.min.name Lib.Math.min.code 2 (some .int), Cond.methodLink RJ7 150 arraycopyName, Cond.native arraycopyName, Cond.static arraycopyName, Cond.initialized "java/lang/System"]
def wsJx4a65c_grow_92f84 : List Cond := .code yJx4a65c_grow_92f84 cJx4a65c_grow_92f84 4 (some (.array (.object "java/lang/Object"))) :: ((wsJx4a65c_grow_92f84_r1 ++ wsJx4a65c_grow_92f84_r2) ++ wsJx4a65c0)
def wsJx4a65c_grow_d5877_r1 : List Cond := [Cond.fieldLink RJx4a65c 48 "java/util/ArrayList" "size" "I", Cond.methodLink RJx4a65c 69 yJx4a65c_grow_92f84, Cond.instanceMethod yJx4a65c_grow_92f84, Cond.selects RJx4a65c yJx4a65c_grow_92f84 yJx4a65c_grow_92f84, Cond.initialized RJx4a65c, Cond.code yJx4a65c_grow_92f84 cJx4a65c_grow_92f84 4 (some (.array (.object "java/lang/Object"))), Cond.fieldLink RJx4a65c 9 "java/util/ArrayList" "elementData" "[Ljava/lang/Object;", Cond.fieldLink RJx4a65c 39 "java/util/ArrayList" "DEFAULTCAPACITY_EMPTY_ELEMENTDATA" "[Ljava/lang/Object;", Cond.methodLink RJx4a65c 79 Lib.Math.max.name, Cond.static Lib.Math.max.name, Cond.initialized "java/lang/Math", Cond.code Lib.Math.max.name Lib.Math.max.code 2 (some .int), Cond.classLink RJx4a65c 7 "java/lang/Object", Cond.methodLink RJx4a65c 73 yJ8_newLength_cabcc, Cond.static yJ8_newLength_cabcc, Cond.initialized RJ8, Cond.code yJ8_newLength_cabcc cJ8_newLength_cabcc 4 (some .int), Cond.methodLink RJ8 194 Lib.Math.max.name, Cond.constant RJ8 200 (2147483639), Cond.methodLink RJ8 201 yJ8_hugeLength_7cf53, Cond.static yJ8_hugeLength_7cf53, Cond.code yJ8_hugeLength_7cf53 cJ8_hugeLength_7cf53 3 (some .int), Cond.methodLink RJx4a65c 66 yJ7_copyOf_1904c, Cond.static yJ7_copyOf_1904c]
def wsJx4a65c_grow_d5877_r2 : List Cond := [Cond.initialized RJ7, Cond.code yJ7_copyOf_1904c cJ7_copyOf_1904c 2 (some (.array (.object "java/lang/Object"))), Cond.methodLink RJ7 86 ⟨"java/lang/Object", "getClass", "()Ljava/lang/Class;"⟩, Cond.selects "[Ljava/lang/Object;" ⟨"java/lang/Object", "getClass", "()Ljava/lang/Class;"⟩ ⟨"java/lang/Object", "getClass", "()Ljava/lang/Class;"⟩, Cond.instanceMethod ⟨"java/lang/Object", "getClass", "()Ljava/lang/Class;"⟩, Cond.native ⟨"java/lang/Object", "getClass", "()Ljava/lang/Class;"⟩, Cond.methodLink RJ7 300 yJ7_copyOf_6403c, Cond.static yJ7_copyOf_6403c, Cond.code yJ7_copyOf_6403c cJ7_copyOf_6403c 4 (some (.array (.object "java/lang/Object"))), Cond.classLink RJ7 110 "[Ljava/lang/Object;", Cond.classLink RJ7 2 "java/lang/Object", Cond.methodLink RJ7 304 Lib.Math.min.name, Cond.static Lib.Math.min.name, Cond.code Lib.Math.min.name Lib.Math.min.code 2 (some .int), Cond.methodLink RJ7 150 arraycopyName, Cond.native arraycopyName, Cond.static arraycopyName, Cond.initialized "java/lang/System"]
def wsJx4a65c_grow_d5877 : List Cond := .code yJx4a65c_grow_d5877 cJx4a65c_grow_d5877 1 (some (.array (.object "java/lang/Object"))) :: ((wsJx4a65c_grow_d5877_r1 ++ wsJx4a65c_grow_d5877_r2) ++ wsJx4a65c0)
def wsJx4a65c_add_72be8_r1 : List Cond := [Cond.fieldLink RJx4a65c 48 "java/util/ArrayList" "size" "I", Cond.methodLink RJx4a65c 129 yJx4a65c_grow_d5877, Cond.instanceMethod yJx4a65c_grow_d5877, Cond.selects RJx4a65c yJx4a65c_grow_d5877 yJx4a65c_grow_d5877, Cond.initialized RJx4a65c, Cond.code yJx4a65c_grow_d5877 cJx4a65c_grow_d5877 1 (some (.array (.object "java/lang/Object"))), Cond.methodLink RJx4a65c 69 yJx4a65c_grow_92f84, Cond.instanceMethod yJx4a65c_grow_92f84, Cond.selects RJx4a65c yJx4a65c_grow_92f84 yJx4a65c_grow_92f84, Cond.code yJx4a65c_grow_92f84 cJx4a65c_grow_92f84 4 (some (.array (.object "java/lang/Object"))), Cond.fieldLink RJx4a65c 9 "java/util/ArrayList" "elementData" "[Ljava/lang/Object;", Cond.fieldLink RJx4a65c 39 "java/util/ArrayList" "DEFAULTCAPACITY_EMPTY_ELEMENTDATA" "[Ljava/lang/Object;", Cond.methodLink RJx4a65c 79 Lib.Math.max.name, Cond.static Lib.Math.max.name, Cond.initialized "java/lang/Math", Cond.code Lib.Math.max.name Lib.Math.max.code 2 (some .int), Cond.classLink RJx4a65c 7 "java/lang/Object", Cond.methodLink RJx4a65c 73 yJ8_newLength_cabcc, Cond.static yJ8_newLength_cabcc, Cond.initialized RJ8, Cond.code yJ8_newLength_cabcc cJ8_newLength_cabcc 4 (some .int), Cond.methodLink RJ8 194 Lib.Math.max.name, Cond.constant RJ8 200 (2147483639), Cond.methodLink RJ8 201 yJ8_hugeLength_7cf53]
def wsJx4a65c_add_72be8_r2 : List Cond := [Cond.static yJ8_hugeLength_7cf53, Cond.code yJ8_hugeLength_7cf53 cJ8_hugeLength_7cf53 3 (some .int), Cond.methodLink RJx4a65c 66 yJ7_copyOf_1904c, Cond.static yJ7_copyOf_1904c, Cond.initialized RJ7, Cond.code yJ7_copyOf_1904c cJ7_copyOf_1904c 2 (some (.array (.object "java/lang/Object"))), Cond.methodLink RJ7 86 ⟨"java/lang/Object", "getClass", "()Ljava/lang/Class;"⟩, Cond.selects "[Ljava/lang/Object;" ⟨"java/lang/Object", "getClass", "()Ljava/lang/Class;"⟩ ⟨"java/lang/Object", "getClass", "()Ljava/lang/Class;"⟩, Cond.instanceMethod ⟨"java/lang/Object", "getClass", "()Ljava/lang/Class;"⟩, Cond.native ⟨"java/lang/Object", "getClass", "()Ljava/lang/Class;"⟩, Cond.methodLink RJ7 300 yJ7_copyOf_6403c, Cond.static yJ7_copyOf_6403c, Cond.code yJ7_copyOf_6403c cJ7_copyOf_6403c 4 (some (.array (.object "java/lang/Object"))), Cond.classLink RJ7 110 "[Ljava/lang/Object;", Cond.classLink RJ7 2 "java/lang/Object", Cond.methodLink RJ7 304 Lib.Math.min.name, Cond.static Lib.Math.min.name, Cond.code Lib.Math.min.name Lib.Math.min.code 2 (some .int), Cond.methodLink RJ7 150 arraycopyName, Cond.native arraycopyName, Cond.static arraycopyName, Cond.initialized "java/lang/System"]
def wsJx4a65c_add_72be8 : List Cond := .code yJx4a65c_add_72be8 cJx4a65c_add_72be8 4 none :: ((wsJx4a65c_add_72be8_r1 ++ wsJx4a65c_add_72be8_r2) ++ wsJx4a65c0)
def wsJx4a65c_add_9ea2d_r1 : List Cond := [Cond.fieldLink RJx4a65c 63 "java/util/ArrayList" "modCount" "I", Cond.sameField "java/util/ArrayList" "java/util/AbstractList" "modCount" "I", Cond.fieldLink RJx4a65c 9 "java/util/ArrayList" "elementData" "[Ljava/lang/Object;", Cond.fieldLink RJx4a65c 48 "java/util/ArrayList" "size" "I", Cond.methodLink RJx4a65c 131 yJx4a65c_add_72be8, Cond.instanceMethod yJx4a65c_add_72be8, Cond.selects RJx4a65c yJx4a65c_add_72be8 yJx4a65c_add_72be8, Cond.initialized RJx4a65c, Cond.code yJx4a65c_add_72be8 cJx4a65c_add_72be8 4 none, Cond.methodLink RJx4a65c 129 yJx4a65c_grow_d5877, Cond.instanceMethod yJx4a65c_grow_d5877, Cond.selects RJx4a65c yJx4a65c_grow_d5877 yJx4a65c_grow_d5877, Cond.code yJx4a65c_grow_d5877 cJx4a65c_grow_d5877 1 (some (.array (.object "java/lang/Object"))), Cond.methodLink RJx4a65c 69 yJx4a65c_grow_92f84, Cond.instanceMethod yJx4a65c_grow_92f84, Cond.selects RJx4a65c yJx4a65c_grow_92f84 yJx4a65c_grow_92f84, Cond.code yJx4a65c_grow_92f84 cJx4a65c_grow_92f84 4 (some (.array (.object "java/lang/Object"))), Cond.fieldLink RJx4a65c 39 "java/util/ArrayList" "DEFAULTCAPACITY_EMPTY_ELEMENTDATA" "[Ljava/lang/Object;", Cond.methodLink RJx4a65c 79 Lib.Math.max.name, Cond.static Lib.Math.max.name, Cond.initialized "java/lang/Math", Cond.code Lib.Math.max.name Lib.Math.max.code 2 (some .int), Cond.classLink RJx4a65c 7 "java/lang/Object", Cond.methodLink RJx4a65c 73 yJ8_newLength_cabcc]
def wsJx4a65c_add_9ea2d_r2 : List Cond := [Cond.static yJ8_newLength_cabcc, Cond.initialized RJ8, Cond.code yJ8_newLength_cabcc cJ8_newLength_cabcc 4 (some .int), Cond.methodLink RJ8 194 Lib.Math.max.name, Cond.constant RJ8 200 (2147483639), Cond.methodLink RJ8 201 yJ8_hugeLength_7cf53, Cond.static yJ8_hugeLength_7cf53, Cond.code yJ8_hugeLength_7cf53 cJ8_hugeLength_7cf53 3 (some .int), Cond.methodLink RJx4a65c 66 yJ7_copyOf_1904c, Cond.static yJ7_copyOf_1904c, Cond.initialized RJ7, Cond.code yJ7_copyOf_1904c cJ7_copyOf_1904c 2 (some (.array (.object "java/lang/Object"))), Cond.methodLink RJ7 86 ⟨"java/lang/Object", "getClass", "()Ljava/lang/Class;"⟩, Cond.selects "[Ljava/lang/Object;" ⟨"java/lang/Object", "getClass", "()Ljava/lang/Class;"⟩ ⟨"java/lang/Object", "getClass", "()Ljava/lang/Class;"⟩, Cond.instanceMethod ⟨"java/lang/Object", "getClass", "()Ljava/lang/Class;"⟩, Cond.native ⟨"java/lang/Object", "getClass", "()Ljava/lang/Class;"⟩, Cond.methodLink RJ7 300 yJ7_copyOf_6403c, Cond.static yJ7_copyOf_6403c, Cond.code yJ7_copyOf_6403c cJ7_copyOf_6403c 4 (some (.array (.object "java/lang/Object"))), Cond.classLink RJ7 110 "[Ljava/lang/Object;", Cond.classLink RJ7 2 "java/lang/Object", Cond.methodLink RJ7 304 Lib.Math.min.name, Cond.static Lib.Math.min.name, Cond.code Lib.Math.min.name Lib.Math.min.code 2 (some .int)]
def wsJx4a65c_add_9ea2d_r3 : List Cond := [Cond.methodLink RJ7 150 arraycopyName, Cond.native arraycopyName, Cond.static arraycopyName, Cond.initialized "java/lang/System"]
def wsJx4a65c_add_9ea2d : List Cond := .code yJx4a65c_add_9ea2d cJx4a65c_add_9ea2d 2 (some .boolean) :: ((wsJx4a65c_add_9ea2d_r1 ++ (wsJx4a65c_add_9ea2d_r2 ++ wsJx4a65c_add_9ea2d_r3)) ++ wsJx4a65c0)
def wsX6_question_r1 : List Cond := [Cond.classLink RX6 40 "java/lang/IllegalStateException", Cond.initialized "java/lang/IllegalStateException", Cond.fieldLink RX6 10 "AlertIndex" "questions" "Ljava/util/List;", Cond.classLink RX6 47 RX4, Cond.instantiable RX4 6, Cond.initialized RX4, Cond.methodLink RX6 34 ⟨"java/util/List", "size", "()I"⟩, Cond.selects RJx4a65c ⟨"java/util/List", "size", "()I"⟩ yJx4a65c_size_8abf5, Cond.instanceMethod yJx4a65c_size_8abf5, Cond.initialized RJx4a65c, Cond.code yJx4a65c_size_8abf5 cJx4a65c_size_8abf5 1 (some .int), Cond.fieldLink RJx4a65c 48 "java/util/ArrayList" "size" "I", Cond.methodLink RX6 49 yX4_init, Cond.instanceMethod yX4_init, Cond.code yX4_init cX4_init 1 none, Cond.methodLink RX4 3 objectInit, Cond.instanceMethod objectInit, Cond.code objectInit ⟨#[0xb1]⟩ 1 none, Cond.classLink RX4 9 RJx4a65c, Cond.instantiable RJx4a65c 3, Cond.fieldLink RX4 12 "AlertIndex$Question" "products" "Ljava/util/List;", Cond.fieldLink RX4 18 "AlertIndex$Question" "isDropped" "Z", Cond.fieldLink RX4 22 "AlertIndex$Question" "quietMinutes" "I", Cond.fieldLink RX4 26 "AlertIndex$Question" "quietUntil" "I"]
def wsX6_question_r2 : List Cond := [Cond.fieldLink RX4 29 "AlertIndex$Question" "alerts" "I", Cond.fieldLink RX4 32 "AlertIndex$Question" "batch" "I", Cond.methodLink RX4 11 yJx4a65c_init_da8c8, Cond.instanceMethod yJx4a65c_init_da8c8, Cond.code yJx4a65c_init_da8c8 cJx4a65c_init_da8c8 1 none, Cond.fieldLink RJx4a65c 39 "java/util/ArrayList" "DEFAULTCAPACITY_EMPTY_ELEMENTDATA" "[Ljava/lang/Object;", Cond.fieldLink RJx4a65c 9 "java/util/ArrayList" "elementData" "[Ljava/lang/Object;", Cond.methodLink RJx4a65c 1 yJxc12de_init_da8c8, Cond.instanceMethod yJxc12de_init_da8c8, Cond.initialized RJxc12de, Cond.code yJxc12de_init_da8c8 cJxc12de_init_da8c8 1 none, Cond.fieldLink RJxc12de 7 "java/util/AbstractList" "modCount" "I", Cond.methodLink RJxc12de 1 yJxa1e45_init_da8c8, Cond.instanceMethod yJxa1e45_init_da8c8, Cond.initialized RJxa1e45, Cond.code yJxa1e45_init_da8c8 cJxa1e45_init_da8c8 1 none, Cond.methodLink RJxa1e45 1 objectInit, Cond.methodLink RX6 50 ⟨"java/util/List", "add", "(Ljava/lang/Object;)Z"⟩, Cond.selects RJx4a65c ⟨"java/util/List", "add", "(Ljava/lang/Object;)Z"⟩ yJx4a65c_add_9ea2d, Cond.instanceMethod yJx4a65c_add_9ea2d, Cond.code yJx4a65c_add_9ea2d cJx4a65c_add_9ea2d 2 (some .boolean), Cond.fieldLink RJx4a65c 63 "java/util/ArrayList" "modCount" "I", Cond.sameField "java/util/ArrayList" "java/util/AbstractList" "modCount" "I", Cond.methodLink RJx4a65c 131 yJx4a65c_add_72be8]
def wsX6_question_r3 : List Cond := [Cond.instanceMethod yJx4a65c_add_72be8, Cond.selects RJx4a65c yJx4a65c_add_72be8 yJx4a65c_add_72be8, Cond.code yJx4a65c_add_72be8 cJx4a65c_add_72be8 4 none, Cond.methodLink RJx4a65c 129 yJx4a65c_grow_d5877, Cond.instanceMethod yJx4a65c_grow_d5877, Cond.selects RJx4a65c yJx4a65c_grow_d5877 yJx4a65c_grow_d5877, Cond.code yJx4a65c_grow_d5877 cJx4a65c_grow_d5877 1 (some (.array (.object "java/lang/Object"))), Cond.methodLink RJx4a65c 69 yJx4a65c_grow_92f84, Cond.instanceMethod yJx4a65c_grow_92f84, Cond.selects RJx4a65c yJx4a65c_grow_92f84 yJx4a65c_grow_92f84, Cond.code yJx4a65c_grow_92f84 cJx4a65c_grow_92f84 4 (some (.array (.object "java/lang/Object"))), Cond.methodLink RJx4a65c 79 Lib.Math.max.name, Cond.static Lib.Math.max.name, Cond.initialized "java/lang/Math", Cond.code Lib.Math.max.name Lib.Math.max.code 2 (some .int), Cond.classLink RJx4a65c 7 "java/lang/Object", Cond.methodLink RJx4a65c 73 yJ8_newLength_cabcc, Cond.static yJ8_newLength_cabcc, Cond.initialized RJ8, Cond.code yJ8_newLength_cabcc cJ8_newLength_cabcc 4 (some .int), Cond.methodLink RJ8 194 Lib.Math.max.name, Cond.constant RJ8 200 (2147483639), Cond.methodLink RJ8 201 yJ8_hugeLength_7cf53, Cond.static yJ8_hugeLength_7cf53]
def wsX6_question_r4 : List Cond := [Cond.code yJ8_hugeLength_7cf53 cJ8_hugeLength_7cf53 3 (some .int), Cond.methodLink RJx4a65c 66 yJ7_copyOf_1904c, Cond.static yJ7_copyOf_1904c, Cond.initialized RJ7, Cond.code yJ7_copyOf_1904c cJ7_copyOf_1904c 2 (some (.array (.object "java/lang/Object"))), Cond.methodLink RJ7 86 ⟨"java/lang/Object", "getClass", "()Ljava/lang/Class;"⟩, Cond.selects "[Ljava/lang/Object;" ⟨"java/lang/Object", "getClass", "()Ljava/lang/Class;"⟩ ⟨"java/lang/Object", "getClass", "()Ljava/lang/Class;"⟩, Cond.instanceMethod ⟨"java/lang/Object", "getClass", "()Ljava/lang/Class;"⟩, Cond.native ⟨"java/lang/Object", "getClass", "()Ljava/lang/Class;"⟩, Cond.methodLink RJ7 300 yJ7_copyOf_6403c, Cond.static yJ7_copyOf_6403c, Cond.code yJ7_copyOf_6403c cJ7_copyOf_6403c 4 (some (.array (.object "java/lang/Object"))), Cond.classLink RJ7 110 "[Ljava/lang/Object;", Cond.classLink RJ7 2 "java/lang/Object", Cond.methodLink RJ7 304 Lib.Math.min.name, Cond.static Lib.Math.min.name, Cond.code Lib.Math.min.name Lib.Math.min.code 2 (some .int), Cond.methodLink RJ7 150 arraycopyName, Cond.native arraycopyName, Cond.static arraycopyName, Cond.initialized "java/lang/System"]
def wsX6_question : List Cond := .code yX6_question cX6_question 1 (some .int) :: ((wsX6_question_r1 ++ (wsX6_question_r2 ++ (wsX6_question_r3 ++ wsX6_question_r4))) ++ wsX60 ++ wsX40 ++ wsJx4a65c0 ++ (vx_atS RX6 44 "java/lang/IllegalStateException" ["java/lang/RuntimeException", "java/lang/Exception"]).filter goodWord)
def wsX6_questionOf_r1 : List Cond := [Cond.classLink RX6 157 "java/lang/IndexOutOfBoundsException", Cond.initialized "java/lang/IndexOutOfBoundsException", Cond.fieldLink RX6 10 "AlertIndex" "questions" "Ljava/util/List;", Cond.classLink RX6 47 "AlertIndex$Question", Cond.fieldLink RX6 97 "AlertIndex$Question" "isDropped" "Z", Cond.methodLink RX6 34 ⟨"java/util/List", "size", "()I"⟩, Cond.selects RJx4a65c ⟨"java/util/List", "size", "()I"⟩ yJx4a65c_size_8abf5, Cond.instanceMethod yJx4a65c_size_8abf5, Cond.initialized RJx4a65c, Cond.code yJx4a65c_size_8abf5 cJx4a65c_size_8abf5 1 (some .int), Cond.fieldLink RJx4a65c 48 "java/util/ArrayList" "size" "I", Cond.methodLink RX6 122 ⟨"java/util/List", "get", "(I)Ljava/lang/Object;"⟩, Cond.selects RJx4a65c ⟨"java/util/List", "get", "(I)Ljava/lang/Object;"⟩ yJx4a65c_get_915e3, Cond.instanceMethod yJx4a65c_get_915e3, Cond.code yJx4a65c_get_915e3 cJx4a65c_get_915e3 2 (some (.object "java/lang/Object")), Cond.methodLink RJx4a65c 118 yJ15_checkIndex_7cf53, Cond.static yJ15_checkIndex_7cf53, Cond.initialized RJ15, Cond.code yJ15_checkIndex_7cf53 cJ15_checkIndex_7cf53 2 (some .int), Cond.methodLink RJ15 105 yJ3_checkIndex_8e157, Cond.static yJ3_checkIndex_8e157, Cond.initialized RJ3, Cond.code yJ3_checkIndex_8e157 cJ3_checkIndex_8e157 3 (some .int), Cond.methodLink RJx4a65c 123 yJx4a65c_elementData_915e3]
def wsX6_questionOf_r2 : List Cond := [Cond.instanceMethod yJx4a65c_elementData_915e3, Cond.selects RJx4a65c yJx4a65c_elementData_915e3 yJx4a65c_elementData_915e3, Cond.code yJx4a65c_elementData_915e3 cJx4a65c_elementData_915e3 2 (some (.object "java/lang/Object")), Cond.fieldLink RJx4a65c 9 "java/util/ArrayList" "elementData" "[Ljava/lang/Object;"]
def wsX6_questionOf : List Cond := .code yX6_questionOf cX6_questionOf 3 (some (.object "AlertIndex$Question")) :: ((wsX6_questionOf_r1 ++ wsX6_questionOf_r2) ++ wsX60 ++ wsX40 ++ wsJx4a65c0 ++ (vx_atS RX6 161 "java/lang/IndexOutOfBoundsException" ["java/lang/RuntimeException", "java/lang/Exception"]).filter goodWord)
def wsX6_product_r1 : List Cond := [Cond.classLink RX6 40 "java/lang/IllegalStateException", Cond.initialized "java/lang/IllegalStateException", Cond.fieldLink RX6 58 "AlertIndex$Question" "products" "Ljava/util/List;", Cond.classLink RX6 63 RX3, Cond.instantiable RX3 3, Cond.initialized RX3, Cond.methodLink RX6 54 yX6_questionOf, Cond.instanceMethod yX6_questionOf, Cond.selects RX6 yX6_questionOf yX6_questionOf, Cond.initialized RX6, Cond.code yX6_questionOf cX6_questionOf 3 (some (.object "AlertIndex$Question")), Cond.classLink RX6 157 "java/lang/IndexOutOfBoundsException", Cond.initialized "java/lang/IndexOutOfBoundsException", Cond.fieldLink RX6 10 "AlertIndex" "questions" "Ljava/util/List;", Cond.classLink RX6 47 "AlertIndex$Question", Cond.fieldLink RX6 97 "AlertIndex$Question" "isDropped" "Z", Cond.methodLink RX6 34 ⟨"java/util/List", "size", "()I"⟩, Cond.selects RJx4a65c ⟨"java/util/List", "size", "()I"⟩ yJx4a65c_size_8abf5, Cond.instanceMethod yJx4a65c_size_8abf5, Cond.initialized RJx4a65c, Cond.code yJx4a65c_size_8abf5 cJx4a65c_size_8abf5 1 (some .int), Cond.fieldLink RJx4a65c 48 "java/util/ArrayList" "size" "I", Cond.methodLink RX6 122 ⟨"java/util/List", "get", "(I)Ljava/lang/Object;"⟩, Cond.selects RJx4a65c ⟨"java/util/List", "get", "(I)Ljava/lang/Object;"⟩ yJx4a65c_get_915e3]
def wsX6_product_r2 : List Cond := [Cond.instanceMethod yJx4a65c_get_915e3, Cond.code yJx4a65c_get_915e3 cJx4a65c_get_915e3 2 (some (.object "java/lang/Object")), Cond.methodLink RJx4a65c 118 yJ15_checkIndex_7cf53, Cond.static yJ15_checkIndex_7cf53, Cond.initialized RJ15, Cond.code yJ15_checkIndex_7cf53 cJ15_checkIndex_7cf53 2 (some .int), Cond.methodLink RJ15 105 yJ3_checkIndex_8e157, Cond.static yJ3_checkIndex_8e157, Cond.initialized RJ3, Cond.code yJ3_checkIndex_8e157 cJ3_checkIndex_8e157 3 (some .int), Cond.methodLink RJx4a65c 123 yJx4a65c_elementData_915e3, Cond.instanceMethod yJx4a65c_elementData_915e3, Cond.selects RJx4a65c yJx4a65c_elementData_915e3 yJx4a65c_elementData_915e3, Cond.code yJx4a65c_elementData_915e3 cJx4a65c_elementData_915e3 2 (some (.object "java/lang/Object")), Cond.fieldLink RJx4a65c 9 "java/util/ArrayList" "elementData" "[Ljava/lang/Object;", Cond.methodLink RX6 65 yX3_init, Cond.instanceMethod yX3_init, Cond.code yX3_init cX3_init 1 none, Cond.methodLink RX3 1 objectInit, Cond.instanceMethod objectInit, Cond.code objectInit ⟨#[0xb1]⟩ 1 none, Cond.classLink RX3 7 RJx4a65c, Cond.instantiable RJx4a65c 3, Cond.fieldLink RX3 10 "AlertIndex$Product" "tests" "Ljava/util/List;"]
def wsX6_product_r3 : List Cond := [Cond.fieldLink RX3 16 "AlertIndex$Product" "plainTests" "I", Cond.fieldLink RX3 20 "AlertIndex$Product" "hits" "I", Cond.methodLink RX3 9 yJx4a65c_init_da8c8, Cond.instanceMethod yJx4a65c_init_da8c8, Cond.code yJx4a65c_init_da8c8 cJx4a65c_init_da8c8 1 none, Cond.fieldLink RJx4a65c 39 "java/util/ArrayList" "DEFAULTCAPACITY_EMPTY_ELEMENTDATA" "[Ljava/lang/Object;", Cond.methodLink RJx4a65c 1 yJxc12de_init_da8c8, Cond.instanceMethod yJxc12de_init_da8c8, Cond.initialized RJxc12de, Cond.code yJxc12de_init_da8c8 cJxc12de_init_da8c8 1 none, Cond.fieldLink RJxc12de 7 "java/util/AbstractList" "modCount" "I", Cond.methodLink RJxc12de 1 yJxa1e45_init_da8c8, Cond.instanceMethod yJxa1e45_init_da8c8, Cond.initialized RJxa1e45, Cond.code yJxa1e45_init_da8c8 cJxa1e45_init_da8c8 1 none, Cond.methodLink RJxa1e45 1 objectInit, Cond.methodLink RX6 50 ⟨"java/util/List", "add", "(Ljava/lang/Object;)Z"⟩, Cond.selects RJx4a65c ⟨"java/util/List", "add", "(Ljava/lang/Object;)Z"⟩ yJx4a65c_add_9ea2d, Cond.instanceMethod yJx4a65c_add_9ea2d, Cond.code yJx4a65c_add_9ea2d cJx4a65c_add_9ea2d 2 (some .boolean), Cond.fieldLink RJx4a65c 63 "java/util/ArrayList" "modCount" "I", Cond.sameField "java/util/ArrayList" "java/util/AbstractList" "modCount" "I", Cond.methodLink RJx4a65c 131 yJx4a65c_add_72be8, Cond.instanceMethod yJx4a65c_add_72be8]
def wsX6_product_r4 : List Cond := [Cond.selects RJx4a65c yJx4a65c_add_72be8 yJx4a65c_add_72be8, Cond.code yJx4a65c_add_72be8 cJx4a65c_add_72be8 4 none, Cond.methodLink RJx4a65c 129 yJx4a65c_grow_d5877, Cond.instanceMethod yJx4a65c_grow_d5877, Cond.selects RJx4a65c yJx4a65c_grow_d5877 yJx4a65c_grow_d5877, Cond.code yJx4a65c_grow_d5877 cJx4a65c_grow_d5877 1 (some (.array (.object "java/lang/Object"))), Cond.methodLink RJx4a65c 69 yJx4a65c_grow_92f84, Cond.instanceMethod yJx4a65c_grow_92f84, Cond.selects RJx4a65c yJx4a65c_grow_92f84 yJx4a65c_grow_92f84, Cond.code yJx4a65c_grow_92f84 cJx4a65c_grow_92f84 4 (some (.array (.object "java/lang/Object"))), Cond.methodLink RJx4a65c 79 Lib.Math.max.name, Cond.static Lib.Math.max.name, Cond.initialized "java/lang/Math", Cond.code Lib.Math.max.name Lib.Math.max.code 2 (some .int), Cond.classLink RJx4a65c 7 "java/lang/Object", Cond.methodLink RJx4a65c 73 yJ8_newLength_cabcc, Cond.static yJ8_newLength_cabcc, Cond.initialized RJ8, Cond.code yJ8_newLength_cabcc cJ8_newLength_cabcc 4 (some .int), Cond.methodLink RJ8 194 Lib.Math.max.name, Cond.constant RJ8 200 (2147483639), Cond.methodLink RJ8 201 yJ8_hugeLength_7cf53, Cond.static yJ8_hugeLength_7cf53, Cond.code yJ8_hugeLength_7cf53 cJ8_hugeLength_7cf53 3 (some .int)]
def wsX6_product_r5 : List Cond := [Cond.methodLink RJx4a65c 66 yJ7_copyOf_1904c, Cond.static yJ7_copyOf_1904c, Cond.initialized RJ7, Cond.code yJ7_copyOf_1904c cJ7_copyOf_1904c 2 (some (.array (.object "java/lang/Object"))), Cond.methodLink RJ7 86 ⟨"java/lang/Object", "getClass", "()Ljava/lang/Class;"⟩, Cond.selects "[Ljava/lang/Object;" ⟨"java/lang/Object", "getClass", "()Ljava/lang/Class;"⟩ ⟨"java/lang/Object", "getClass", "()Ljava/lang/Class;"⟩, Cond.instanceMethod ⟨"java/lang/Object", "getClass", "()Ljava/lang/Class;"⟩, Cond.native ⟨"java/lang/Object", "getClass", "()Ljava/lang/Class;"⟩, Cond.methodLink RJ7 300 yJ7_copyOf_6403c, Cond.static yJ7_copyOf_6403c, Cond.code yJ7_copyOf_6403c cJ7_copyOf_6403c 4 (some (.array (.object "java/lang/Object"))), Cond.classLink RJ7 110 "[Ljava/lang/Object;", Cond.classLink RJ7 2 "java/lang/Object", Cond.methodLink RJ7 304 Lib.Math.min.name, Cond.static Lib.Math.min.name, Cond.code Lib.Math.min.name Lib.Math.min.code 2 (some .int), Cond.methodLink RJ7 150 arraycopyName, Cond.native arraycopyName, Cond.static arraycopyName, Cond.initialized "java/lang/System"]
def wsX6_product : List Cond := .code yX6_product cX6_product 3 (some .int) :: ((wsX6_product_r1 ++ (wsX6_product_r2 ++ (wsX6_product_r3 ++ (wsX6_product_r4 ++ wsX6_product_r5)))) ++ wsX40 ++ wsX30 ++ wsX60 ++ wsJx4a65c0 ++ (vx_atS RX6 44 "java/lang/IllegalStateException" ["java/lang/RuntimeException", "java/lang/Exception"]).filter goodWord ++ (vx_atS RX6 161 "java/lang/IndexOutOfBoundsException" ["java/lang/RuntimeException", "java/lang/Exception"]).filter goodWord)
def wsX6_refuseNoName : List Cond := .code yX6_refuseNoName cX6_refuseNoName 1 none :: ([.classLink RX6 157 "java/lang/IndexOutOfBoundsException", .initialized "java/lang/IndexOutOfBoundsException"] ++ (vx_atS RX6 161 "java/lang/IndexOutOfBoundsException" ["java/lang/RuntimeException", "java/lang/Exception"]).filter goodWord)
def wsX6_refuseNoRange : List Cond := .code yX6_refuseNoRange cX6_refuseNoRange 2 none :: ([.classLink RX6 104 "java/lang/IllegalArgumentException", .initialized "java/lang/IllegalArgumentException", .methodLink RX6 112 yX6_isValue, .static yX6_isValue, .initialized RX6, .code yX6_isValue cX6_isValue 1 (some .boolean)] ++ (vx_atS RX6 108 "java/lang/IllegalArgumentException" ["java/lang/RuntimeException", "java/lang/Exception"]).filter goodWord)
def wsX6_test_r1 : List Cond := [Cond.classLink RX6 40 "java/lang/IllegalStateException", Cond.initialized "java/lang/IllegalStateException", Cond.fieldLink RX6 80 "AlertIndex$Product" "tests" "Ljava/util/List;", Cond.classLink RX6 85 RX5, Cond.instantiable RX5 4, Cond.initialized RX5, Cond.fieldLink RX6 90 "AlertIndex$Product" "plainTests" "I", Cond.fieldLink RX6 26 "AlertIndex" "index" "LAlertIndex$PieceIndex;", Cond.methodLink RX6 54 yX6_questionOf, Cond.instanceMethod yX6_questionOf, Cond.selects RX6 yX6_questionOf yX6_questionOf, Cond.initialized RX6, Cond.code yX6_questionOf cX6_questionOf 3 (some (.object "AlertIndex$Question")), Cond.classLink RX6 157 "java/lang/IndexOutOfBoundsException", Cond.initialized "java/lang/IndexOutOfBoundsException", Cond.fieldLink RX6 10 "AlertIndex" "questions" "Ljava/util/List;", Cond.classLink RX6 47 "AlertIndex$Question", Cond.fieldLink RX6 97 "AlertIndex$Question" "isDropped" "Z", Cond.methodLink RX6 34 ⟨"java/util/List", "size", "()I"⟩, Cond.selects RJx4a65c ⟨"java/util/List", "size", "()I"⟩ yJx4a65c_size_8abf5, Cond.instanceMethod yJx4a65c_size_8abf5, Cond.initialized RJx4a65c, Cond.code yJx4a65c_size_8abf5 cJx4a65c_size_8abf5 1 (some .int), Cond.fieldLink RJx4a65c 48 "java/util/ArrayList" "size" "I"]
def wsX6_test_r2 : List Cond := [Cond.methodLink RX6 122 ⟨"java/util/List", "get", "(I)Ljava/lang/Object;"⟩, Cond.selects RJx4a65c ⟨"java/util/List", "get", "(I)Ljava/lang/Object;"⟩ yJx4a65c_get_915e3, Cond.instanceMethod yJx4a65c_get_915e3, Cond.code yJx4a65c_get_915e3 cJx4a65c_get_915e3 2 (some (.object "java/lang/Object")), Cond.methodLink RJx4a65c 118 yJ15_checkIndex_7cf53, Cond.static yJ15_checkIndex_7cf53, Cond.initialized RJ15, Cond.code yJ15_checkIndex_7cf53 cJ15_checkIndex_7cf53 2 (some .int), Cond.methodLink RJ15 105 yJ3_checkIndex_8e157, Cond.static yJ3_checkIndex_8e157, Cond.initialized RJ3, Cond.code yJ3_checkIndex_8e157 cJ3_checkIndex_8e157 3 (some .int), Cond.methodLink RJx4a65c 123 yJx4a65c_elementData_915e3, Cond.instanceMethod yJx4a65c_elementData_915e3, Cond.selects RJx4a65c yJx4a65c_elementData_915e3 yJx4a65c_elementData_915e3, Cond.code yJx4a65c_elementData_915e3 cJx4a65c_elementData_915e3 2 (some (.object "java/lang/Object")), Cond.fieldLink RJx4a65c 9 "java/util/ArrayList" "elementData" "[Ljava/lang/Object;", Cond.methodLink RX6 66 yX6_refuseNoName, Cond.static yX6_refuseNoName, Cond.code yX6_refuseNoName cX6_refuseNoName 1 none, Cond.methodLink RX6 70 yX6_refuseNoRange, Cond.static yX6_refuseNoRange, Cond.code yX6_refuseNoRange cX6_refuseNoRange 2 none, Cond.classLink RX6 104 "java/lang/IllegalArgumentException"]
def wsX6_test_r3 : List Cond := [Cond.initialized "java/lang/IllegalArgumentException", Cond.methodLink RX6 112 yX6_isValue, Cond.static yX6_isValue, Cond.code yX6_isValue cX6_isValue 1 (some .boolean), Cond.methodLink RX6 74 yX4_lastProduct, Cond.instanceMethod yX4_lastProduct, Cond.selects RX4 yX4_lastProduct yX4_lastProduct, Cond.initialized RX4, Cond.code yX4_lastProduct cX4_lastProduct 2 (some (.object "AlertIndex$Product")), Cond.fieldLink RX4 12 "AlertIndex$Question" "products" "Ljava/util/List;", Cond.classLink RX4 45 "AlertIndex$Product", Cond.methodLink RX4 35 ⟨"java/util/List", "size", "()I"⟩, Cond.methodLink RX4 41 ⟨"java/util/List", "get", "(I)Ljava/lang/Object;"⟩, Cond.methodLink RX6 87 yX5_init, Cond.instanceMethod yX5_init, Cond.code yX5_init cX5_init 5 none, Cond.methodLink RX5 3 objectInit, Cond.instanceMethod objectInit, Cond.code objectInit ⟨#[0xb1]⟩ 1 none, Cond.fieldLink RX5 9 "AlertIndex$Test" "name" "I", Cond.fieldLink RX5 15 "AlertIndex$Test" "low" "I", Cond.fieldLink RX5 18 "AlertIndex$Test" "high" "I", Cond.fieldLink RX5 21 "AlertIndex$Test" "isBarred" "Z", Cond.methodLink RX6 50 ⟨"java/util/List", "add", "(Ljava/lang/Object;)Z"⟩]
def wsX6_test_r4 : List Cond := [Cond.selects RJx4a65c ⟨"java/util/List", "add", "(Ljava/lang/Object;)Z"⟩ yJx4a65c_add_9ea2d, Cond.instanceMethod yJx4a65c_add_9ea2d, Cond.code yJx4a65c_add_9ea2d cJx4a65c_add_9ea2d 2 (some .boolean), Cond.fieldLink RJx4a65c 63 "java/util/ArrayList" "modCount" "I", Cond.sameField "java/util/ArrayList" "java/util/AbstractList" "modCount" "I", Cond.methodLink RJx4a65c 131 yJx4a65c_add_72be8, Cond.instanceMethod yJx4a65c_add_72be8, Cond.selects RJx4a65c yJx4a65c_add_72be8 yJx4a65c_add_72be8, Cond.code yJx4a65c_add_72be8 cJx4a65c_add_72be8 4 none, Cond.methodLink RJx4a65c 129 yJx4a65c_grow_d5877, Cond.instanceMethod yJx4a65c_grow_d5877, Cond.selects RJx4a65c yJx4a65c_grow_d5877 yJx4a65c_grow_d5877, Cond.code yJx4a65c_grow_d5877 cJx4a65c_grow_d5877 1 (some (.array (.object "java/lang/Object"))), Cond.methodLink RJx4a65c 69 yJx4a65c_grow_92f84, Cond.instanceMethod yJx4a65c_grow_92f84, Cond.selects RJx4a65c yJx4a65c_grow_92f84 yJx4a65c_grow_92f84, Cond.code yJx4a65c_grow_92f84 cJx4a65c_grow_92f84 4 (some (.array (.object "java/lang/Object"))), Cond.fieldLink RJx4a65c 39 "java/util/ArrayList" "DEFAULTCAPACITY_EMPTY_ELEMENTDATA" "[Ljava/lang/Object;", Cond.methodLink RJx4a65c 79 Lib.Math.max.name, Cond.static Lib.Math.max.name, Cond.initialized "java/lang/Math", Cond.code Lib.Math.max.name Lib.Math.max.code 2 (some .int), Cond.classLink RJx4a65c 7 "java/lang/Object", Cond.methodLink RJx4a65c 73 yJ8_newLength_cabcc]
def wsX6_test_r5 : List Cond := [Cond.static yJ8_newLength_cabcc, Cond.initialized RJ8, Cond.code yJ8_newLength_cabcc cJ8_newLength_cabcc 4 (some .int), Cond.methodLink RJ8 194 Lib.Math.max.name, Cond.constant RJ8 200 (2147483639), Cond.methodLink RJ8 201 yJ8_hugeLength_7cf53, Cond.static yJ8_hugeLength_7cf53, Cond.code yJ8_hugeLength_7cf53 cJ8_hugeLength_7cf53 3 (some .int), Cond.methodLink RJx4a65c 66 yJ7_copyOf_1904c, Cond.static yJ7_copyOf_1904c, Cond.initialized RJ7, Cond.code yJ7_copyOf_1904c cJ7_copyOf_1904c 2 (some (.array (.object "java/lang/Object"))), Cond.methodLink RJ7 86 ⟨"java/lang/Object", "getClass", "()Ljava/lang/Class;"⟩, Cond.selects "[Ljava/lang/Object;" ⟨"java/lang/Object", "getClass", "()Ljava/lang/Class;"⟩ ⟨"java/lang/Object", "getClass", "()Ljava/lang/Class;"⟩, Cond.instanceMethod ⟨"java/lang/Object", "getClass", "()Ljava/lang/Class;"⟩, Cond.native ⟨"java/lang/Object", "getClass", "()Ljava/lang/Class;"⟩, Cond.methodLink RJ7 300 yJ7_copyOf_6403c, Cond.static yJ7_copyOf_6403c, Cond.code yJ7_copyOf_6403c cJ7_copyOf_6403c 4 (some (.array (.object "java/lang/Object"))), Cond.classLink RJ7 110 "[Ljava/lang/Object;", Cond.classLink RJ7 2 "java/lang/Object", Cond.methodLink RJ7 304 Lib.Math.min.name, Cond.static Lib.Math.min.name, Cond.code Lib.Math.min.name Lib.Math.min.code 2 (some .int)]
def wsX6_test_r6 : List Cond := [Cond.methodLink RJ7 150 arraycopyName, Cond.native arraycopyName, Cond.static arraycopyName, Cond.initialized "java/lang/System", Cond.methodLink RX6 93 yX1_enter, Cond.instanceMethod yX1_enter, Cond.selects RX1 yX1_enter yX1_enter, Cond.initialized RX1, Cond.code yX1_enter cX1_enter 8 none, Cond.static yX6_levelOfPiece, Cond.code yX6_levelOfPiece cX6_levelOfPiece 4 (some .int), Cond.methodLink RX1 21 yX1_post, Cond.instanceMethod yX1_post, Cond.selects RX1 yX1_post yX1_post, Cond.code yX1_post cX1_post 3 none, Cond.fieldLink RX1 13 "AlertIndex$PieceIndex" "firsts" "[LAlertIndex$Posting;", Cond.classLink RX1 11 RX2, Cond.instantiable RX2 2, Cond.initialized RX2, Cond.methodLink RX1 25 yX2_init, Cond.instanceMethod yX2_init, Cond.code yX2_init cX2_init 3 none, Cond.methodLink RX2 1 objectInit, Cond.fieldLink RX2 7 "AlertIndex$Posting" "product" "LAlertIndex$Product;"]
def wsX6_test_r7 : List Cond := [Cond.fieldLink RX2 13 "AlertIndex$Posting" "next" "LAlertIndex$Posting;"]
def wsX6_test : List Cond := .code yX6_test cX6_test 8 (some .int) :: ((wsX6_test_r1 ++ (wsX6_test_r2 ++ (wsX6_test_r3 ++ (wsX6_test_r4 ++ (wsX6_test_r5 ++ (wsX6_test_r6 ++ wsX6_test_r7)))))) ++ wsX30 ++ wsX50 ++ wsX60 ++ wsX40 ++ wsJx4a65c0 ++ wsX10 ++ wsX20 ++ (vx_atS RX6 44 "java/lang/IllegalStateException" ["java/lang/RuntimeException", "java/lang/Exception"]).filter goodWord ++ (vx_atS RX6 161 "java/lang/IndexOutOfBoundsException" ["java/lang/RuntimeException", "java/lang/Exception"]).filter goodWord ++ (vx_atS RX6 108 "java/lang/IllegalArgumentException" ["java/lang/RuntimeException", "java/lang/Exception"]).filter goodWord)
def wsX6_drop_r1 : List Cond := [Cond.fieldLink RX6 97 "AlertIndex$Question" "isDropped" "Z", Cond.fieldLink RX6 101 "AlertIndex$Question" "batch" "I", Cond.methodLink RX6 54 yX6_questionOf, Cond.instanceMethod yX6_questionOf, Cond.selects RX6 yX6_questionOf yX6_questionOf, Cond.initialized RX6, Cond.code yX6_questionOf cX6_questionOf 3 (some (.object "AlertIndex$Question")), Cond.classLink RX6 157 "java/lang/IndexOutOfBoundsException", Cond.initialized "java/lang/IndexOutOfBoundsException", Cond.fieldLink RX6 10 "AlertIndex" "questions" "Ljava/util/List;", Cond.classLink RX6 47 "AlertIndex$Question", Cond.methodLink RX6 34 ⟨"java/util/List", "size", "()I"⟩, Cond.selects RJx4a65c ⟨"java/util/List", "size", "()I"⟩ yJx4a65c_size_8abf5, Cond.instanceMethod yJx4a65c_size_8abf5, Cond.initialized RJx4a65c, Cond.code yJx4a65c_size_8abf5 cJx4a65c_size_8abf5 1 (some .int), Cond.fieldLink RJx4a65c 48 "java/util/ArrayList" "size" "I", Cond.methodLink RX6 122 ⟨"java/util/List", "get", "(I)Ljava/lang/Object;"⟩, Cond.selects RJx4a65c ⟨"java/util/List", "get", "(I)Ljava/lang/Object;"⟩ yJx4a65c_get_915e3, Cond.instanceMethod yJx4a65c_get_915e3, Cond.code yJx4a65c_get_915e3 cJx4a65c_get_915e3 2 (some (.object "java/lang/Object")), Cond.methodLink RJx4a65c 118 yJ15_checkIndex_7cf53, Cond.static yJ15_checkIndex_7cf53, Cond.initialized RJ15]
def wsX6_drop_r2 : List Cond := [Cond.code yJ15_checkIndex_7cf53 cJ15_checkIndex_7cf53 2 (some .int), Cond.methodLink RJ15 105 yJ3_checkIndex_8e157, Cond.static yJ3_checkIndex_8e157, Cond.initialized RJ3, Cond.code yJ3_checkIndex_8e157 cJ3_checkIndex_8e157 3 (some .int), Cond.methodLink RJx4a65c 123 yJx4a65c_elementData_915e3, Cond.instanceMethod yJx4a65c_elementData_915e3, Cond.selects RJx4a65c yJx4a65c_elementData_915e3 yJx4a65c_elementData_915e3, Cond.code yJx4a65c_elementData_915e3 cJx4a65c_elementData_915e3 2 (some (.object "java/lang/Object")), Cond.fieldLink RJx4a65c 9 "java/util/ArrayList" "elementData" "[Ljava/lang/Object;"]
def wsX6_drop : List Cond := .code yX6_drop cX6_drop 3 (some .int) :: ((wsX6_drop_r1 ++ wsX6_drop_r2) ++ wsX40 ++ wsX60 ++ wsJx4a65c0 ++ (vx_atS RX6 161 "java/lang/IndexOutOfBoundsException" ["java/lang/RuntimeException", "java/lang/Exception"]).filter goodWord)
def wsX6_setQuiet_r1 : List Cond := [Cond.classLink RX6 104 "java/lang/IllegalArgumentException", Cond.initialized "java/lang/IllegalArgumentException", Cond.fieldLink RX6 109 "AlertIndex$Question" "quietMinutes" "I", Cond.methodLink RX6 54 yX6_questionOf, Cond.instanceMethod yX6_questionOf, Cond.selects RX6 yX6_questionOf yX6_questionOf, Cond.initialized RX6, Cond.code yX6_questionOf cX6_questionOf 3 (some (.object "AlertIndex$Question")), Cond.classLink RX6 157 "java/lang/IndexOutOfBoundsException", Cond.initialized "java/lang/IndexOutOfBoundsException", Cond.fieldLink RX6 10 "AlertIndex" "questions" "Ljava/util/List;", Cond.classLink RX6 47 "AlertIndex$Question", Cond.fieldLink RX6 97 "AlertIndex$Question" "isDropped" "Z", Cond.methodLink RX6 34 ⟨"java/util/List", "size", "()I"⟩, Cond.selects RJx4a65c ⟨"java/util/List", "size", "()I"⟩ yJx4a65c_size_8abf5, Cond.instanceMethod yJx4a65c_size_8abf5, Cond.initialized RJx4a65c, Cond.code yJx4a65c_size_8abf5 cJx4a65c_size_8abf5 1 (some .int), Cond.fieldLink RJx4a65c 48 "java/util/ArrayList" "size" "I", Cond.methodLink RX6 122 ⟨"java/util/List", "get", "(I)Ljava/lang/Object;"⟩, Cond.selects RJx4a65c ⟨"java/util/List", "get", "(I)Ljava/lang/Object;"⟩ yJx4a65c_get_915e3, Cond.instanceMethod yJx4a65c_get_915e3, Cond.code yJx4a65c_get_915e3 cJx4a65c_get_915e3 2 (some (.object "java/lang/Object")), Cond.methodLink RJx4a65c 118 yJ15_checkIndex_7cf53]
def wsX6_setQuiet_r2 : List Cond := [Cond.static yJ15_checkIndex_7cf53, Cond.initialized RJ15, Cond.code yJ15_checkIndex_7cf53 cJ15_checkIndex_7cf53 2 (some .int), Cond.methodLink RJ15 105 yJ3_checkIndex_8e157, Cond.static yJ3_checkIndex_8e157, Cond.initialized RJ3, Cond.code yJ3_checkIndex_8e157 cJ3_checkIndex_8e157 3 (some .int), Cond.methodLink RJx4a65c 123 yJx4a65c_elementData_915e3, Cond.instanceMethod yJx4a65c_elementData_915e3, Cond.selects RJx4a65c yJx4a65c_elementData_915e3 yJx4a65c_elementData_915e3, Cond.code yJx4a65c_elementData_915e3 cJx4a65c_elementData_915e3 2 (some (.object "java/lang/Object")), Cond.fieldLink RJx4a65c 9 "java/util/ArrayList" "elementData" "[Ljava/lang/Object;"]
def wsX6_setQuiet : List Cond := .code yX6_setQuiet cX6_setQuiet 5 (some .int) :: ((wsX6_setQuiet_r1 ++ wsX6_setQuiet_r2) ++ wsX40 ++ wsX60 ++ wsJx4a65c0 ++ (vx_atS RX6 108 "java/lang/IllegalArgumentException" ["java/lang/RuntimeException", "java/lang/Exception"]).filter goodWord ++ (vx_atS RX6 161 "java/lang/IndexOutOfBoundsException" ["java/lang/RuntimeException", "java/lang/Exception"]).filter goodWord)
def wsX6_set : List Cond := .code yX6_set cX6_set 3 (some .int) :: ([.classLink RX6 104 "java/lang/IllegalArgumentException", .initialized "java/lang/IllegalArgumentException", .fieldLink RX6 19 "AlertIndex" "draft" "LAlertIndex$Draft;", .methodLink RX6 66 yX6_refuseNoName, .static yX6_refuseNoName, .initialized RX6, .code yX6_refuseNoName cX6_refuseNoName 1 none, .classLink RX6 157 "java/lang/IndexOutOfBoundsException", .initialized "java/lang/IndexOutOfBoundsException", .methodLink RX6 112 yX6_isValue, .static yX6_isValue, .code yX6_isValue cX6_isValue 1 (some .boolean), .methodLink RX6 118 yX0_replace, .instanceMethod yX0_replace, .selects RX0 yX0_replace yX0_replace, .initialized RX0, .code yX0_replace cX0_replace 4 (some .int), .fieldLink RX0 9 "AlertIndex$Draft" "values" "[I", .methodLink RX0 21 yX0_valueOf, .instanceMethod yX0_valueOf, .selects RX0 yX0_valueOf yX0_valueOf, .code yX0_valueOf cX0_valueOf 2 (some .int)] ++ wsX60 ++ wsX00 ++ (vx_atS RX6 108 "java/lang/IllegalArgumentException" ["java/lang/RuntimeException", "java/lang/Exception"]).filter goodWord ++ (vx_atS RX6 161 "java/lang/IndexOutOfBoundsException" ["java/lang/RuntimeException", "java/lang/Exception"]).filter goodWord)
def wsX6_come_r1 : List Cond := [Cond.fieldLink RX6 10 "AlertIndex" "questions" "Ljava/util/List;", Cond.classLink RX6 47 "AlertIndex$Question", Cond.fieldLink RX6 19 "AlertIndex" "draft" "LAlertIndex$Draft;", Cond.fieldLink RX6 30 "AlertIndex" "minute" "I", Cond.methodLink RX6 34 ⟨"java/util/List", "size", "()I"⟩, Cond.selects RJx4a65c ⟨"java/util/List", "size", "()I"⟩ yJx4a65c_size_8abf5, Cond.instanceMethod yJx4a65c_size_8abf5, Cond.initialized RJx4a65c, Cond.code yJx4a65c_size_8abf5 cJx4a65c_size_8abf5 1 (some .int), Cond.fieldLink RJx4a65c 48 "java/util/ArrayList" "size" "I", Cond.methodLink RX6 122 ⟨"java/util/List", "get", "(I)Ljava/lang/Object;"⟩, Cond.selects RJx4a65c ⟨"java/util/List", "get", "(I)Ljava/lang/Object;"⟩ yJx4a65c_get_915e3, Cond.instanceMethod yJx4a65c_get_915e3, Cond.code yJx4a65c_get_915e3 cJx4a65c_get_915e3 2 (some (.object "java/lang/Object")), Cond.methodLink RJx4a65c 118 yJ15_checkIndex_7cf53, Cond.static yJ15_checkIndex_7cf53, Cond.initialized RJ15, Cond.code yJ15_checkIndex_7cf53 cJ15_checkIndex_7cf53 2 (some .int), Cond.methodLink RJ15 105 yJ3_checkIndex_8e157, Cond.static yJ3_checkIndex_8e157, Cond.initialized RJ3, Cond.code yJ3_checkIndex_8e157 cJ3_checkIndex_8e157 3 (some .int), Cond.methodLink RJx4a65c 123 yJx4a65c_elementData_915e3, Cond.instanceMethod yJx4a65c_elementData_915e3]
def wsX6_come_r2 : List Cond := [Cond.selects RJx4a65c yJx4a65c_elementData_915e3 yJx4a65c_elementData_915e3, Cond.code yJx4a65c_elementData_915e3 cJx4a65c_elementData_915e3 2 (some (.object "java/lang/Object")), Cond.fieldLink RJx4a65c 9 "java/util/ArrayList" "elementData" "[Ljava/lang/Object;", Cond.methodLink RX6 126 yX4_isSatisfied, Cond.instanceMethod yX4_isSatisfied, Cond.selects RX4 yX4_isSatisfied yX4_isSatisfied, Cond.initialized RX4, Cond.code yX4_isSatisfied cX4_isSatisfied 3 (some .boolean), Cond.fieldLink RX4 18 "AlertIndex$Question" "isDropped" "Z", Cond.fieldLink RX4 12 "AlertIndex$Question" "products" "Ljava/util/List;", Cond.classLink RX4 45 "AlertIndex$Product", Cond.methodLink RX4 35 ⟨"java/util/List", "size", "()I"⟩, Cond.methodLink RX4 41 ⟨"java/util/List", "get", "(I)Ljava/lang/Object;"⟩, Cond.methodLink RX4 60 yX3_isTrue, Cond.instanceMethod yX3_isTrue, Cond.selects RX3 yX3_isTrue yX3_isTrue, Cond.initialized RX3, Cond.code yX3_isTrue cX3_isTrue 3 (some .boolean), Cond.fieldLink RX3 10 "AlertIndex$Product" "tests" "Ljava/util/List;", Cond.classLink RX3 33 "AlertIndex$Test", Cond.methodLink RX3 23 ⟨"java/util/List", "size", "()I"⟩, Cond.methodLink RX3 29 ⟨"java/util/List", "get", "(I)Ljava/lang/Object;"⟩, Cond.methodLink RX3 35 yX5_isTrue, Cond.instanceMethod yX5_isTrue]
def wsX6_come_r3 : List Cond := [Cond.selects RX5 yX5_isTrue yX5_isTrue, Cond.initialized RX5, Cond.code yX5_isTrue cX5_isTrue 4 (some .boolean), Cond.fieldLink RX5 9 "AlertIndex$Test" "name" "I", Cond.fieldLink RX5 15 "AlertIndex$Test" "low" "I", Cond.fieldLink RX5 18 "AlertIndex$Test" "high" "I", Cond.fieldLink RX5 21 "AlertIndex$Test" "isBarred" "Z", Cond.methodLink RX5 25 yX0_valueOf, Cond.instanceMethod yX0_valueOf, Cond.selects RX0 yX0_valueOf yX0_valueOf, Cond.initialized RX0, Cond.code yX0_valueOf cX0_valueOf 2 (some .int), Cond.fieldLink RX0 9 "AlertIndex$Draft" "values" "[I", Cond.methodLink RX6 130 yX4_takeDocument, Cond.instanceMethod yX4_takeDocument, Cond.selects RX4 yX4_takeDocument yX4_takeDocument, Cond.code yX4_takeDocument cX4_takeDocument 2 (some .boolean), Cond.fieldLink RX4 32 "AlertIndex$Question" "batch" "I", Cond.methodLink RX4 70 yX4_isQuietAt, Cond.instanceMethod yX4_isQuietAt, Cond.selects RX4 yX4_isQuietAt yX4_isQuietAt, Cond.code yX4_isQuietAt cX4_isQuietAt 2 (some .boolean), Cond.fieldLink RX4 26 "AlertIndex$Question" "quietUntil" "I", Cond.methodLink RX4 74 yX4_raiseAlert]
def wsX6_come_r4 : List Cond := [Cond.instanceMethod yX4_raiseAlert, Cond.selects RX4 yX4_raiseAlert yX4_raiseAlert, Cond.code yX4_raiseAlert cX4_raiseAlert 2 none, Cond.fieldLink RX4 29 "AlertIndex$Question" "alerts" "I", Cond.fieldLink RX4 22 "AlertIndex$Question" "quietMinutes" "I"]
def wsX6_come : List Cond := .code yX6_come cX6_come 4 (some .int) :: ((wsX6_come_r1 ++ (wsX6_come_r2 ++ (wsX6_come_r3 ++ wsX6_come_r4))) ++ wsX60 ++ wsJx4a65c0 ++ wsX40 ++ wsX30 ++ wsX50 ++ wsX00)
def wsX6_advance_r1 : List Cond := [Cond.classLink RX6 104 "java/lang/IllegalArgumentException", Cond.initialized "java/lang/IllegalArgumentException", Cond.classLink RX6 40 "java/lang/IllegalStateException", Cond.initialized "java/lang/IllegalStateException", Cond.constant RX6 135 (1000000), Cond.fieldLink RX6 30 "AlertIndex" "minute" "I", Cond.fieldLink RX6 10 "AlertIndex" "questions" "Ljava/util/List;", Cond.classLink RX6 47 "AlertIndex$Question", Cond.methodLink RX6 34 ⟨"java/util/List", "size", "()I"⟩, Cond.selects RJx4a65c ⟨"java/util/List", "size", "()I"⟩ yJx4a65c_size_8abf5, Cond.instanceMethod yJx4a65c_size_8abf5, Cond.initialized RJx4a65c, Cond.code yJx4a65c_size_8abf5 cJx4a65c_size_8abf5 1 (some .int), Cond.fieldLink RJx4a65c 48 "java/util/ArrayList" "size" "I", Cond.methodLink RX6 122 ⟨"java/util/List", "get", "(I)Ljava/lang/Object;"⟩, Cond.selects RJx4a65c ⟨"java/util/List", "get", "(I)Ljava/lang/Object;"⟩ yJx4a65c_get_915e3, Cond.instanceMethod yJx4a65c_get_915e3, Cond.code yJx4a65c_get_915e3 cJx4a65c_get_915e3 2 (some (.object "java/lang/Object")), Cond.methodLink RJx4a65c 118 yJ15_checkIndex_7cf53, Cond.static yJ15_checkIndex_7cf53, Cond.initialized RJ15, Cond.code yJ15_checkIndex_7cf53 cJ15_checkIndex_7cf53 2 (some .int), Cond.methodLink RJ15 105 yJ3_checkIndex_8e157, Cond.static yJ3_checkIndex_8e157]
def wsX6_advance_r2 : List Cond := [Cond.initialized RJ3, Cond.code yJ3_checkIndex_8e157 cJ3_checkIndex_8e157 3 (some .int), Cond.methodLink RJx4a65c 123 yJx4a65c_elementData_915e3, Cond.instanceMethod yJx4a65c_elementData_915e3, Cond.selects RJx4a65c yJx4a65c_elementData_915e3 yJx4a65c_elementData_915e3, Cond.code yJx4a65c_elementData_915e3 cJx4a65c_elementData_915e3 2 (some (.object "java/lang/Object")), Cond.fieldLink RJx4a65c 9 "java/util/ArrayList" "elementData" "[Ljava/lang/Object;", Cond.methodLink RX6 138 yX4_sendBatch, Cond.instanceMethod yX4_sendBatch, Cond.selects RX4 yX4_sendBatch yX4_sendBatch, Cond.initialized RX4, Cond.code yX4_sendBatch cX4_sendBatch 2 (some .boolean), Cond.fieldLink RX4 18 "AlertIndex$Question" "isDropped" "Z", Cond.fieldLink RX4 32 "AlertIndex$Question" "batch" "I", Cond.fieldLink RX4 26 "AlertIndex$Question" "quietUntil" "I", Cond.methodLink RX4 70 yX4_isQuietAt, Cond.instanceMethod yX4_isQuietAt, Cond.selects RX4 yX4_isQuietAt yX4_isQuietAt, Cond.code yX4_isQuietAt cX4_isQuietAt 2 (some .boolean), Cond.methodLink RX4 74 yX4_raiseAlert, Cond.instanceMethod yX4_raiseAlert, Cond.selects RX4 yX4_raiseAlert yX4_raiseAlert, Cond.code yX4_raiseAlert cX4_raiseAlert 2 none, Cond.fieldLink RX4 29 "AlertIndex$Question" "alerts" "I"]
def wsX6_advance_r3 : List Cond := [Cond.fieldLink RX4 22 "AlertIndex$Question" "quietMinutes" "I"]
def wsX6_advance : List Cond := .code yX6_advance cX6_advance 4 (some .int) :: ((wsX6_advance_r1 ++ (wsX6_advance_r2 ++ wsX6_advance_r3)) ++ wsX60 ++ wsJx4a65c0 ++ wsX40 ++ (vx_atS RX6 108 "java/lang/IllegalArgumentException" ["java/lang/RuntimeException", "java/lang/Exception"]).filter goodWord ++ (vx_atS RX6 44 "java/lang/IllegalStateException" ["java/lang/RuntimeException", "java/lang/Exception"]).filter goodWord)
def wsX6_satisfies_r1 : List Cond := [Cond.fieldLink RX6 19 "AlertIndex" "draft" "LAlertIndex$Draft;", Cond.methodLink RX6 54 yX6_questionOf, Cond.instanceMethod yX6_questionOf, Cond.selects RX6 yX6_questionOf yX6_questionOf, Cond.initialized RX6, Cond.code yX6_questionOf cX6_questionOf 3 (some (.object "AlertIndex$Question")), Cond.classLink RX6 157 "java/lang/IndexOutOfBoundsException", Cond.initialized "java/lang/IndexOutOfBoundsException", Cond.fieldLink RX6 10 "AlertIndex" "questions" "Ljava/util/List;", Cond.classLink RX6 47 "AlertIndex$Question", Cond.fieldLink RX6 97 "AlertIndex$Question" "isDropped" "Z", Cond.methodLink RX6 34 ⟨"java/util/List", "size", "()I"⟩, Cond.selects RJx4a65c ⟨"java/util/List", "size", "()I"⟩ yJx4a65c_size_8abf5, Cond.instanceMethod yJx4a65c_size_8abf5, Cond.initialized RJx4a65c, Cond.code yJx4a65c_size_8abf5 cJx4a65c_size_8abf5 1 (some .int), Cond.fieldLink RJx4a65c 48 "java/util/ArrayList" "size" "I", Cond.methodLink RX6 122 ⟨"java/util/List", "get", "(I)Ljava/lang/Object;"⟩, Cond.selects RJx4a65c ⟨"java/util/List", "get", "(I)Ljava/lang/Object;"⟩ yJx4a65c_get_915e3, Cond.instanceMethod yJx4a65c_get_915e3, Cond.code yJx4a65c_get_915e3 cJx4a65c_get_915e3 2 (some (.object "java/lang/Object")), Cond.methodLink RJx4a65c 118 yJ15_checkIndex_7cf53, Cond.static yJ15_checkIndex_7cf53, Cond.initialized RJ15]
def wsX6_satisfies_r2 : List Cond := [Cond.code yJ15_checkIndex_7cf53 cJ15_checkIndex_7cf53 2 (some .int), Cond.methodLink RJ15 105 yJ3_checkIndex_8e157, Cond.static yJ3_checkIndex_8e157, Cond.initialized RJ3, Cond.code yJ3_checkIndex_8e157 cJ3_checkIndex_8e157 3 (some .int), Cond.methodLink RJx4a65c 123 yJx4a65c_elementData_915e3, Cond.instanceMethod yJx4a65c_elementData_915e3, Cond.selects RJx4a65c yJx4a65c_elementData_915e3 yJx4a65c_elementData_915e3, Cond.code yJx4a65c_elementData_915e3 cJx4a65c_elementData_915e3 2 (some (.object "java/lang/Object")), Cond.fieldLink RJx4a65c 9 "java/util/ArrayList" "elementData" "[Ljava/lang/Object;", Cond.methodLink RX6 126 yX4_isSatisfied, Cond.instanceMethod yX4_isSatisfied, Cond.selects RX4 yX4_isSatisfied yX4_isSatisfied, Cond.initialized RX4, Cond.code yX4_isSatisfied cX4_isSatisfied 3 (some .boolean), Cond.fieldLink RX4 18 "AlertIndex$Question" "isDropped" "Z", Cond.fieldLink RX4 12 "AlertIndex$Question" "products" "Ljava/util/List;", Cond.classLink RX4 45 "AlertIndex$Product", Cond.methodLink RX4 35 ⟨"java/util/List", "size", "()I"⟩, Cond.methodLink RX4 41 ⟨"java/util/List", "get", "(I)Ljava/lang/Object;"⟩, Cond.methodLink RX4 60 yX3_isTrue, Cond.instanceMethod yX3_isTrue, Cond.selects RX3 yX3_isTrue yX3_isTrue, Cond.initialized RX3]
def wsX6_satisfies_r3 : List Cond := [Cond.code yX3_isTrue cX3_isTrue 3 (some .boolean), Cond.fieldLink RX3 10 "AlertIndex$Product" "tests" "Ljava/util/List;", Cond.classLink RX3 33 "AlertIndex$Test", Cond.methodLink RX3 23 ⟨"java/util/List", "size", "()I"⟩, Cond.methodLink RX3 29 ⟨"java/util/List", "get", "(I)Ljava/lang/Object;"⟩, Cond.methodLink RX3 35 yX5_isTrue, Cond.instanceMethod yX5_isTrue, Cond.selects RX5 yX5_isTrue yX5_isTrue, Cond.initialized RX5, Cond.code yX5_isTrue cX5_isTrue 4 (some .boolean), Cond.fieldLink RX5 9 "AlertIndex$Test" "name" "I", Cond.fieldLink RX5 15 "AlertIndex$Test" "low" "I", Cond.fieldLink RX5 18 "AlertIndex$Test" "high" "I", Cond.fieldLink RX5 21 "AlertIndex$Test" "isBarred" "Z", Cond.methodLink RX5 25 yX0_valueOf, Cond.instanceMethod yX0_valueOf, Cond.selects RX0 yX0_valueOf yX0_valueOf, Cond.initialized RX0, Cond.code yX0_valueOf cX0_valueOf 2 (some .int), Cond.fieldLink RX0 9 "AlertIndex$Draft" "values" "[I"]
def wsX6_satisfies : List Cond := .code yX6_satisfies cX6_satisfies 2 (some .boolean) :: ((wsX6_satisfies_r1 ++ (wsX6_satisfies_r2 ++ wsX6_satisfies_r3)) ++ wsX60 ++ wsX40 ++ wsJx4a65c0 ++ wsX30 ++ wsX50 ++ wsX00 ++ (vx_atS RX6 161 "java/lang/IndexOutOfBoundsException" ["java/lang/RuntimeException", "java/lang/Exception"]).filter goodWord)
def wsX6_matching_r1 : List Cond := [Cond.fieldLink RX6 10 "AlertIndex" "questions" "Ljava/util/List;", Cond.classLink RX6 47 "AlertIndex$Question", Cond.fieldLink RX6 19 "AlertIndex" "draft" "LAlertIndex$Draft;", Cond.methodLink RX6 34 ⟨"java/util/List", "size", "()I"⟩, Cond.selects RJx4a65c ⟨"java/util/List", "size", "()I"⟩ yJx4a65c_size_8abf5, Cond.instanceMethod yJx4a65c_size_8abf5, Cond.initialized RJx4a65c, Cond.code yJx4a65c_size_8abf5 cJx4a65c_size_8abf5 1 (some .int), Cond.fieldLink RJx4a65c 48 "java/util/ArrayList" "size" "I", Cond.methodLink RX6 122 ⟨"java/util/List", "get", "(I)Ljava/lang/Object;"⟩, Cond.selects RJx4a65c ⟨"java/util/List", "get", "(I)Ljava/lang/Object;"⟩ yJx4a65c_get_915e3, Cond.instanceMethod yJx4a65c_get_915e3, Cond.code yJx4a65c_get_915e3 cJx4a65c_get_915e3 2 (some (.object "java/lang/Object")), Cond.methodLink RJx4a65c 118 yJ15_checkIndex_7cf53, Cond.static yJ15_checkIndex_7cf53, Cond.initialized RJ15, Cond.code yJ15_checkIndex_7cf53 cJ15_checkIndex_7cf53 2 (some .int), Cond.methodLink RJ15 105 yJ3_checkIndex_8e157, Cond.static yJ3_checkIndex_8e157, Cond.initialized RJ3, Cond.code yJ3_checkIndex_8e157 cJ3_checkIndex_8e157 3 (some .int), Cond.methodLink RJx4a65c 123 yJx4a65c_elementData_915e3, Cond.instanceMethod yJx4a65c_elementData_915e3, Cond.selects RJx4a65c yJx4a65c_elementData_915e3 yJx4a65c_elementData_915e3]
def wsX6_matching_r2 : List Cond := [Cond.code yJx4a65c_elementData_915e3 cJx4a65c_elementData_915e3 2 (some (.object "java/lang/Object")), Cond.fieldLink RJx4a65c 9 "java/util/ArrayList" "elementData" "[Ljava/lang/Object;", Cond.methodLink RX6 126 yX4_isSatisfied, Cond.instanceMethod yX4_isSatisfied, Cond.selects RX4 yX4_isSatisfied yX4_isSatisfied, Cond.initialized RX4, Cond.code yX4_isSatisfied cX4_isSatisfied 3 (some .boolean), Cond.fieldLink RX4 18 "AlertIndex$Question" "isDropped" "Z", Cond.fieldLink RX4 12 "AlertIndex$Question" "products" "Ljava/util/List;", Cond.classLink RX4 45 "AlertIndex$Product", Cond.methodLink RX4 35 ⟨"java/util/List", "size", "()I"⟩, Cond.methodLink RX4 41 ⟨"java/util/List", "get", "(I)Ljava/lang/Object;"⟩, Cond.methodLink RX4 60 yX3_isTrue, Cond.instanceMethod yX3_isTrue, Cond.selects RX3 yX3_isTrue yX3_isTrue, Cond.initialized RX3, Cond.code yX3_isTrue cX3_isTrue 3 (some .boolean), Cond.fieldLink RX3 10 "AlertIndex$Product" "tests" "Ljava/util/List;", Cond.classLink RX3 33 "AlertIndex$Test", Cond.methodLink RX3 23 ⟨"java/util/List", "size", "()I"⟩, Cond.methodLink RX3 29 ⟨"java/util/List", "get", "(I)Ljava/lang/Object;"⟩, Cond.methodLink RX3 35 yX5_isTrue, Cond.instanceMethod yX5_isTrue, Cond.selects RX5 yX5_isTrue yX5_isTrue]
def wsX6_matching_r3 : List Cond := [Cond.initialized RX5, Cond.code yX5_isTrue cX5_isTrue 4 (some .boolean), Cond.fieldLink RX5 9 "AlertIndex$Test" "name" "I", Cond.fieldLink RX5 15 "AlertIndex$Test" "low" "I", Cond.fieldLink RX5 18 "AlertIndex$Test" "high" "I", Cond.fieldLink RX5 21 "AlertIndex$Test" "isBarred" "Z", Cond.methodLink RX5 25 yX0_valueOf, Cond.instanceMethod yX0_valueOf, Cond.selects RX0 yX0_valueOf yX0_valueOf, Cond.initialized RX0, Cond.code yX0_valueOf cX0_valueOf 2 (some .int), Cond.fieldLink RX0 9 "AlertIndex$Draft" "values" "[I"]
def wsX6_matching : List Cond := .code yX6_matching cX6_matching 3 (some .int) :: ((wsX6_matching_r1 ++ (wsX6_matching_r2 ++ wsX6_matching_r3)) ++ wsX60 ++ wsJx4a65c0 ++ wsX40 ++ wsX30 ++ wsX50 ++ wsX00)
def wsX6_matchingByIndex_r1 : List Cond := [Cond.fieldLink RX6 10 "AlertIndex" "questions" "Ljava/util/List;", Cond.classLink RX6 47 "AlertIndex$Question", Cond.fieldLink RX6 26 "AlertIndex" "index" "LAlertIndex$PieceIndex;", Cond.fieldLink RX6 19 "AlertIndex" "draft" "LAlertIndex$Draft;", Cond.methodLink RX6 34 ⟨"java/util/List", "size", "()I"⟩, Cond.selects RJx4a65c ⟨"java/util/List", "size", "()I"⟩ yJx4a65c_size_8abf5, Cond.instanceMethod yJx4a65c_size_8abf5, Cond.initialized RJx4a65c, Cond.code yJx4a65c_size_8abf5 cJx4a65c_size_8abf5 1 (some .int), Cond.fieldLink RJx4a65c 48 "java/util/ArrayList" "size" "I", Cond.methodLink RX6 122 ⟨"java/util/List", "get", "(I)Ljava/lang/Object;"⟩, Cond.selects RJx4a65c ⟨"java/util/List", "get", "(I)Ljava/lang/Object;"⟩ yJx4a65c_get_915e3, Cond.instanceMethod yJx4a65c_get_915e3, Cond.code yJx4a65c_get_915e3 cJx4a65c_get_915e3 2 (some (.object "java/lang/Object")), Cond.methodLink RJx4a65c 118 yJ15_checkIndex_7cf53, Cond.static yJ15_checkIndex_7cf53, Cond.initialized RJ15, Cond.code yJ15_checkIndex_7cf53 cJ15_checkIndex_7cf53 2 (some .int), Cond.methodLink RJ15 105 yJ3_checkIndex_8e157, Cond.static yJ3_checkIndex_8e157, Cond.initialized RJ3, Cond.code yJ3_checkIndex_8e157 cJ3_checkIndex_8e157 3 (some .int), Cond.methodLink RJx4a65c 123 yJx4a65c_elementData_915e3, Cond.instanceMethod yJx4a65c_elementData_915e3]
def wsX6_matchingByIndex_r2 : List Cond := [Cond.selects RJx4a65c yJx4a65c_elementData_915e3 yJx4a65c_elementData_915e3, Cond.code yJx4a65c_elementData_915e3 cJx4a65c_elementData_915e3 2 (some (.object "java/lang/Object")), Cond.fieldLink RJx4a65c 9 "java/util/ArrayList" "elementData" "[Ljava/lang/Object;", Cond.methodLink RX6 141 yX4_forgetHits, Cond.instanceMethod yX4_forgetHits, Cond.selects RX4 yX4_forgetHits yX4_forgetHits, Cond.initialized RX4, Cond.code yX4_forgetHits cX4_forgetHits 2 none, Cond.fieldLink RX4 12 "AlertIndex$Question" "products" "Ljava/util/List;", Cond.classLink RX4 45 "AlertIndex$Product", Cond.fieldLink RX4 67 "AlertIndex$Product" "hits" "I", Cond.methodLink RX4 35 ⟨"java/util/List", "size", "()I"⟩, Cond.methodLink RX4 41 ⟨"java/util/List", "get", "(I)Ljava/lang/Object;"⟩, Cond.methodLink RX6 144 yX1_countHits, Cond.instanceMethod yX1_countHits, Cond.selects RX1 yX1_countHits yX1_countHits, Cond.initialized RX1, Cond.code yX1_countHits cX1_countHits 4 none, Cond.methodLink RX1 28 yX0_valueOf, Cond.instanceMethod yX0_valueOf, Cond.selects RX0 yX0_valueOf yX0_valueOf, Cond.initialized RX0, Cond.code yX0_valueOf cX0_valueOf 2 (some .int), Cond.fieldLink RX0 9 "AlertIndex$Draft" "values" "[I"]
def wsX6_matchingByIndex_r3 : List Cond := [Cond.static yX6_isValue, Cond.initialized RX6, Cond.code yX6_isValue cX6_isValue 1 (some .boolean), Cond.methodLink RX1 38 yX1_hitAbove, Cond.instanceMethod yX1_hitAbove, Cond.selects RX1 yX1_hitAbove yX1_hitAbove, Cond.code yX1_hitAbove cX1_hitAbove 5 none, Cond.fieldLink RX1 46 "AlertIndex$Posting" "product" "LAlertIndex$Product;", Cond.fieldLink RX1 50 "AlertIndex$Product" "hits" "I", Cond.fieldLink RX1 56 "AlertIndex$Posting" "next" "LAlertIndex$Posting;", Cond.methodLink RX1 42 yX1_firstAt, Cond.instanceMethod yX1_firstAt, Cond.selects RX1 yX1_firstAt yX1_firstAt, Cond.code yX1_firstAt cX1_firstAt 2 (some (.object "AlertIndex$Posting")), Cond.fieldLink RX1 13 "AlertIndex$PieceIndex" "firsts" "[LAlertIndex$Posting;", Cond.methodLink RX6 148 yX4_isSatisfiedByHits, Cond.instanceMethod yX4_isSatisfiedByHits, Cond.selects RX4 yX4_isSatisfiedByHits yX4_isSatisfiedByHits, Cond.code yX4_isSatisfiedByHits cX4_isSatisfiedByHits 3 (some .boolean), Cond.fieldLink RX4 18 "AlertIndex$Question" "isDropped" "Z", Cond.methodLink RX4 64 yX3_isTrueByHits, Cond.instanceMethod yX3_isTrueByHits, Cond.selects RX3 yX3_isTrueByHits yX3_isTrueByHits, Cond.initialized RX3]
def wsX6_matchingByIndex_r4 : List Cond := [Cond.code yX3_isTrueByHits cX3_isTrueByHits 4 (some .boolean), Cond.fieldLink RX3 20 "AlertIndex$Product" "hits" "I", Cond.fieldLink RX3 16 "AlertIndex$Product" "plainTests" "I", Cond.fieldLink RX3 10 "AlertIndex$Product" "tests" "Ljava/util/List;", Cond.classLink RX3 33 "AlertIndex$Test", Cond.fieldLink RX3 39 "AlertIndex$Test" "isBarred" "Z", Cond.methodLink RX3 23 ⟨"java/util/List", "size", "()I"⟩, Cond.methodLink RX3 29 ⟨"java/util/List", "get", "(I)Ljava/lang/Object;"⟩, Cond.methodLink RX3 35 yX5_isTrue, Cond.instanceMethod yX5_isTrue, Cond.selects RX5 yX5_isTrue yX5_isTrue, Cond.initialized RX5, Cond.code yX5_isTrue cX5_isTrue 4 (some .boolean), Cond.fieldLink RX5 9 "AlertIndex$Test" "name" "I", Cond.fieldLink RX5 15 "AlertIndex$Test" "low" "I", Cond.fieldLink RX5 18 "AlertIndex$Test" "high" "I", Cond.fieldLink RX5 21 "AlertIndex$Test" "isBarred" "Z", Cond.methodLink RX5 25 yX0_valueOf]
def wsX6_matchingByIndex : List Cond := .code yX6_matchingByIndex cX6_matchingByIndex 3 (some .int) :: ((wsX6_matchingByIndex_r1 ++ (wsX6_matchingByIndex_r2 ++ (wsX6_matchingByIndex_r3 ++ wsX6_matchingByIndex_r4))) ++ wsX60 ++ wsJx4a65c0 ++ wsX40 ++ wsX30 ++ wsX00 ++ wsX20 ++ wsX10 ++ wsX50)
def wsX6_sizeOf_r1 : List Cond := [Cond.methodLink RX6 54 yX6_questionOf, Cond.instanceMethod yX6_questionOf, Cond.selects RX6 yX6_questionOf yX6_questionOf, Cond.initialized RX6, Cond.code yX6_questionOf cX6_questionOf 3 (some (.object "AlertIndex$Question")), Cond.classLink RX6 157 "java/lang/IndexOutOfBoundsException", Cond.initialized "java/lang/IndexOutOfBoundsException", Cond.fieldLink RX6 10 "AlertIndex" "questions" "Ljava/util/List;", Cond.classLink RX6 47 "AlertIndex$Question", Cond.fieldLink RX6 97 "AlertIndex$Question" "isDropped" "Z", Cond.methodLink RX6 34 ⟨"java/util/List", "size", "()I"⟩, Cond.selects RJx4a65c ⟨"java/util/List", "size", "()I"⟩ yJx4a65c_size_8abf5, Cond.instanceMethod yJx4a65c_size_8abf5, Cond.initialized RJx4a65c, Cond.code yJx4a65c_size_8abf5 cJx4a65c_size_8abf5 1 (some .int), Cond.fieldLink RJx4a65c 48 "java/util/ArrayList" "size" "I", Cond.methodLink RX6 122 ⟨"java/util/List", "get", "(I)Ljava/lang/Object;"⟩, Cond.selects RJx4a65c ⟨"java/util/List", "get", "(I)Ljava/lang/Object;"⟩ yJx4a65c_get_915e3, Cond.instanceMethod yJx4a65c_get_915e3, Cond.code yJx4a65c_get_915e3 cJx4a65c_get_915e3 2 (some (.object "java/lang/Object")), Cond.methodLink RJx4a65c 118 yJ15_checkIndex_7cf53, Cond.static yJ15_checkIndex_7cf53, Cond.initialized RJ15, Cond.code yJ15_checkIndex_7cf53 cJ15_checkIndex_7cf53 2 (some .int)]
def wsX6_sizeOf_r2 : List Cond := [Cond.methodLink RJ15 105 yJ3_checkIndex_8e157, Cond.static yJ3_checkIndex_8e157, Cond.initialized RJ3, Cond.code yJ3_checkIndex_8e157 cJ3_checkIndex_8e157 3 (some .int), Cond.methodLink RJx4a65c 123 yJx4a65c_elementData_915e3, Cond.instanceMethod yJx4a65c_elementData_915e3, Cond.selects RJx4a65c yJx4a65c_elementData_915e3 yJx4a65c_elementData_915e3, Cond.code yJx4a65c_elementData_915e3 cJx4a65c_elementData_915e3 2 (some (.object "java/lang/Object")), Cond.fieldLink RJx4a65c 9 "java/util/ArrayList" "elementData" "[Ljava/lang/Object;", Cond.methodLink RX6 151 yX4_leastSize, Cond.instanceMethod yX4_leastSize, Cond.selects RX4 yX4_leastSize yX4_leastSize, Cond.initialized RX4, Cond.code yX4_leastSize cX4_leastSize 3 (some .int), Cond.fieldLink RX4 12 "AlertIndex$Question" "products" "Ljava/util/List;", Cond.classLink RX4 45 "AlertIndex$Product", Cond.fieldLink RX4 47 "AlertIndex$Product" "plainTests" "I", Cond.methodLink RX4 50 Lib.Math.min.name, Cond.static Lib.Math.min.name, Cond.initialized "java/lang/Math", Cond.code Lib.Math.min.name Lib.Math.min.code 2 (some .int), Cond.methodLink RX4 35 ⟨"java/util/List", "size", "()I"⟩, Cond.methodLink RX4 41 ⟨"java/util/List", "get", "(I)Ljava/lang/Object;"⟩, Cond.methodLink RX4 56 ⟨"java/util/List", "isEmpty", "()Z"⟩]
def wsX6_sizeOf_r3 : List Cond := [Cond.selects RJx4a65c ⟨"java/util/List", "isEmpty", "()Z"⟩ yJx4a65c_isEmpty_aae02, Cond.instanceMethod yJx4a65c_isEmpty_aae02, Cond.code yJx4a65c_isEmpty_aae02 cJx4a65c_isEmpty_aae02 1 (some .boolean)]
def wsX6_sizeOf : List Cond := .code yX6_sizeOf cX6_sizeOf 2 (some .int) :: ((wsX6_sizeOf_r1 ++ (wsX6_sizeOf_r2 ++ wsX6_sizeOf_r3)) ++ wsX60 ++ wsX40 ++ wsJx4a65c0 ++ wsX30 ++ (vx_atS RX6 161 "java/lang/IndexOutOfBoundsException" ["java/lang/RuntimeException", "java/lang/Exception"]).filter goodWord)
def wsX6_withSize_r1 : List Cond := [Cond.fieldLink RX6 10 "AlertIndex" "questions" "Ljava/util/List;", Cond.classLink RX6 47 "AlertIndex$Question", Cond.fieldLink RX6 97 "AlertIndex$Question" "isDropped" "Z", Cond.methodLink RX6 34 ⟨"java/util/List", "size", "()I"⟩, Cond.selects RJx4a65c ⟨"java/util/List", "size", "()I"⟩ yJx4a65c_size_8abf5, Cond.instanceMethod yJx4a65c_size_8abf5, Cond.initialized RJx4a65c, Cond.code yJx4a65c_size_8abf5 cJx4a65c_size_8abf5 1 (some .int), Cond.fieldLink RJx4a65c 48 "java/util/ArrayList" "size" "I", Cond.methodLink RX6 122 ⟨"java/util/List", "get", "(I)Ljava/lang/Object;"⟩, Cond.selects RJx4a65c ⟨"java/util/List", "get", "(I)Ljava/lang/Object;"⟩ yJx4a65c_get_915e3, Cond.instanceMethod yJx4a65c_get_915e3, Cond.code yJx4a65c_get_915e3 cJx4a65c_get_915e3 2 (some (.object "java/lang/Object")), Cond.methodLink RJx4a65c 118 yJ15_checkIndex_7cf53, Cond.static yJ15_checkIndex_7cf53, Cond.initialized RJ15, Cond.code yJ15_checkIndex_7cf53 cJ15_checkIndex_7cf53 2 (some .int), Cond.methodLink RJ15 105 yJ3_checkIndex_8e157, Cond.static yJ3_checkIndex_8e157, Cond.initialized RJ3, Cond.code yJ3_checkIndex_8e157 cJ3_checkIndex_8e157 3 (some .int), Cond.methodLink RJx4a65c 123 yJx4a65c_elementData_915e3, Cond.instanceMethod yJx4a65c_elementData_915e3, Cond.selects RJx4a65c yJx4a65c_elementData_915e3 yJx4a65c_elementData_915e3]
def wsX6_withSize_r2 : List Cond := [Cond.code yJx4a65c_elementData_915e3 cJx4a65c_elementData_915e3 2 (some (.object "java/lang/Object")), Cond.fieldLink RJx4a65c 9 "java/util/ArrayList" "elementData" "[Ljava/lang/Object;", Cond.methodLink RX6 151 yX4_leastSize, Cond.instanceMethod yX4_leastSize, Cond.selects RX4 yX4_leastSize yX4_leastSize, Cond.initialized RX4, Cond.code yX4_leastSize cX4_leastSize 3 (some .int), Cond.fieldLink RX4 12 "AlertIndex$Question" "products" "Ljava/util/List;", Cond.classLink RX4 45 "AlertIndex$Product", Cond.fieldLink RX4 47 "AlertIndex$Product" "plainTests" "I", Cond.methodLink RX4 50 Lib.Math.min.name, Cond.static Lib.Math.min.name, Cond.initialized "java/lang/Math", Cond.code Lib.Math.min.name Lib.Math.min.code 2 (some .int), Cond.methodLink RX4 35 ⟨"java/util/List", "size", "()I"⟩, Cond.methodLink RX4 41 ⟨"java/util/List", "get", "(I)Ljava/lang/Object;"⟩, Cond.methodLink RX4 56 ⟨"java/util/List", "isEmpty", "()Z"⟩, Cond.selects RJx4a65c ⟨"java/util/List", "isEmpty", "()Z"⟩ yJx4a65c_isEmpty_aae02, Cond.instanceMethod yJx4a65c_isEmpty_aae02, Cond.code yJx4a65c_isEmpty_aae02 cJx4a65c_isEmpty_aae02 1 (some .boolean)]
def wsX6_withSize : List Cond := .code yX6_withSize cX6_withSize 5 (some .int) :: ((wsX6_withSize_r1 ++ wsX6_withSize_r2) ++ wsX60 ++ wsX40 ++ wsJx4a65c0 ++ wsX30)
def wsX6_pieces : List Cond := .code yX6_pieces cX6_pieces 5 (some .int) :: ([.methodLink RX6 70 yX6_refuseNoRange, .static yX6_refuseNoRange, .initialized RX6, .code yX6_refuseNoRange cX6_refuseNoRange 2 none, .classLink RX6 104 "java/lang/IllegalArgumentException", .initialized "java/lang/IllegalArgumentException", .methodLink RX6 112 yX6_isValue, .static yX6_isValue, .code yX6_isValue cX6_isValue 1 (some .boolean), .methodLink RX6 154 yX6_levelOfPiece, .static yX6_levelOfPiece, .code yX6_levelOfPiece cX6_levelOfPiece 4 (some .int)] ++ (vx_atS RX6 108 "java/lang/IllegalArgumentException" ["java/lang/RuntimeException", "java/lang/Exception"]).filter goodWord)
def wsX6_pieceAt : List Cond := .code yX6_pieceAt cX6_pieceAt 6 (some .int) :: ([.classLink RX6 157 "java/lang/IndexOutOfBoundsException", .initialized "java/lang/IndexOutOfBoundsException", .methodLink RX6 70 yX6_refuseNoRange, .static yX6_refuseNoRange, .initialized RX6, .code yX6_refuseNoRange cX6_refuseNoRange 2 none, .classLink RX6 104 "java/lang/IllegalArgumentException", .initialized "java/lang/IllegalArgumentException", .methodLink RX6 112 yX6_isValue, .static yX6_isValue, .code yX6_isValue cX6_isValue 1 (some .boolean), .methodLink RX6 154 yX6_levelOfPiece, .static yX6_levelOfPiece, .code yX6_levelOfPiece cX6_levelOfPiece 4 (some .int)] ++ (vx_atS RX6 161 "java/lang/IndexOutOfBoundsException" ["java/lang/RuntimeException", "java/lang/Exception"]).filter goodWord ++ (vx_atS RX6 108 "java/lang/IllegalArgumentException" ["java/lang/RuntimeException", "java/lang/Exception"]).filter goodWord)
def wsX6_minute : List Cond := .code yX6_minute cX6_minute 1 (some .int) :: ([.fieldLink RX6 30 "AlertIndex" "minute" "I"] ++ wsX60)
def wsX6_isQuiet_r1 : List Cond := [Cond.fieldLink RX6 30 "AlertIndex" "minute" "I", Cond.methodLink RX6 54 yX6_questionOf, Cond.instanceMethod yX6_questionOf, Cond.selects RX6 yX6_questionOf yX6_questionOf, Cond.initialized RX6, Cond.code yX6_questionOf cX6_questionOf 3 (some (.object "AlertIndex$Question")), Cond.classLink RX6 157 "java/lang/IndexOutOfBoundsException", Cond.initialized "java/lang/IndexOutOfBoundsException", Cond.fieldLink RX6 10 "AlertIndex" "questions" "Ljava/util/List;", Cond.classLink RX6 47 "AlertIndex$Question", Cond.fieldLink RX6 97 "AlertIndex$Question" "isDropped" "Z", Cond.methodLink RX6 34 ⟨"java/util/List", "size", "()I"⟩, Cond.selects RJx4a65c ⟨"java/util/List", "size", "()I"⟩ yJx4a65c_size_8abf5, Cond.instanceMethod yJx4a65c_size_8abf5, Cond.initialized RJx4a65c, Cond.code yJx4a65c_size_8abf5 cJx4a65c_size_8abf5 1 (some .int), Cond.fieldLink RJx4a65c 48 "java/util/ArrayList" "size" "I", Cond.methodLink RX6 122 ⟨"java/util/List", "get", "(I)Ljava/lang/Object;"⟩, Cond.selects RJx4a65c ⟨"java/util/List", "get", "(I)Ljava/lang/Object;"⟩ yJx4a65c_get_915e3, Cond.instanceMethod yJx4a65c_get_915e3, Cond.code yJx4a65c_get_915e3 cJx4a65c_get_915e3 2 (some (.object "java/lang/Object")), Cond.methodLink RJx4a65c 118 yJ15_checkIndex_7cf53, Cond.static yJ15_checkIndex_7cf53, Cond.initialized RJ15]
def wsX6_isQuiet_r2 : List Cond := [Cond.code yJ15_checkIndex_7cf53 cJ15_checkIndex_7cf53 2 (some .int), Cond.methodLink RJ15 105 yJ3_checkIndex_8e157, Cond.static yJ3_checkIndex_8e157, Cond.initialized RJ3, Cond.code yJ3_checkIndex_8e157 cJ3_checkIndex_8e157 3 (some .int), Cond.methodLink RJx4a65c 123 yJx4a65c_elementData_915e3, Cond.instanceMethod yJx4a65c_elementData_915e3, Cond.selects RJx4a65c yJx4a65c_elementData_915e3 yJx4a65c_elementData_915e3, Cond.code yJx4a65c_elementData_915e3 cJx4a65c_elementData_915e3 2 (some (.object "java/lang/Object")), Cond.fieldLink RJx4a65c 9 "java/util/ArrayList" "elementData" "[Ljava/lang/Object;", Cond.methodLink RX6 162 yX4_isQuietAt, Cond.instanceMethod yX4_isQuietAt, Cond.selects RX4 yX4_isQuietAt yX4_isQuietAt, Cond.initialized RX4, Cond.code yX4_isQuietAt cX4_isQuietAt 2 (some .boolean), Cond.fieldLink RX4 26 "AlertIndex$Question" "quietUntil" "I"]
def wsX6_isQuiet : List Cond := .code yX6_isQuiet cX6_isQuiet 2 (some .boolean) :: ((wsX6_isQuiet_r1 ++ wsX6_isQuiet_r2) ++ wsX60 ++ wsX40 ++ wsJx4a65c0 ++ (vx_atS RX6 161 "java/lang/IndexOutOfBoundsException" ["java/lang/RuntimeException", "java/lang/Exception"]).filter goodWord)
def wsX6_alerts_r1 : List Cond := [Cond.fieldLink RX6 165 "AlertIndex$Question" "alerts" "I", Cond.methodLink RX6 54 yX6_questionOf, Cond.instanceMethod yX6_questionOf, Cond.selects RX6 yX6_questionOf yX6_questionOf, Cond.initialized RX6, Cond.code yX6_questionOf cX6_questionOf 3 (some (.object "AlertIndex$Question")), Cond.classLink RX6 157 "java/lang/IndexOutOfBoundsException", Cond.initialized "java/lang/IndexOutOfBoundsException", Cond.fieldLink RX6 10 "AlertIndex" "questions" "Ljava/util/List;", Cond.classLink RX6 47 "AlertIndex$Question", Cond.fieldLink RX6 97 "AlertIndex$Question" "isDropped" "Z", Cond.methodLink RX6 34 ⟨"java/util/List", "size", "()I"⟩, Cond.selects RJx4a65c ⟨"java/util/List", "size", "()I"⟩ yJx4a65c_size_8abf5, Cond.instanceMethod yJx4a65c_size_8abf5, Cond.initialized RJx4a65c, Cond.code yJx4a65c_size_8abf5 cJx4a65c_size_8abf5 1 (some .int), Cond.fieldLink RJx4a65c 48 "java/util/ArrayList" "size" "I", Cond.methodLink RX6 122 ⟨"java/util/List", "get", "(I)Ljava/lang/Object;"⟩, Cond.selects RJx4a65c ⟨"java/util/List", "get", "(I)Ljava/lang/Object;"⟩ yJx4a65c_get_915e3, Cond.instanceMethod yJx4a65c_get_915e3, Cond.code yJx4a65c_get_915e3 cJx4a65c_get_915e3 2 (some (.object "java/lang/Object")), Cond.methodLink RJx4a65c 118 yJ15_checkIndex_7cf53, Cond.static yJ15_checkIndex_7cf53, Cond.initialized RJ15]
def wsX6_alerts_r2 : List Cond := [Cond.code yJ15_checkIndex_7cf53 cJ15_checkIndex_7cf53 2 (some .int), Cond.methodLink RJ15 105 yJ3_checkIndex_8e157, Cond.static yJ3_checkIndex_8e157, Cond.initialized RJ3, Cond.code yJ3_checkIndex_8e157 cJ3_checkIndex_8e157 3 (some .int), Cond.methodLink RJx4a65c 123 yJx4a65c_elementData_915e3, Cond.instanceMethod yJx4a65c_elementData_915e3, Cond.selects RJx4a65c yJx4a65c_elementData_915e3 yJx4a65c_elementData_915e3, Cond.code yJx4a65c_elementData_915e3 cJx4a65c_elementData_915e3 2 (some (.object "java/lang/Object")), Cond.fieldLink RJx4a65c 9 "java/util/ArrayList" "elementData" "[Ljava/lang/Object;"]
def wsX6_alerts : List Cond := .code yX6_alerts cX6_alerts 2 (some .int) :: ((wsX6_alerts_r1 ++ wsX6_alerts_r2) ++ wsX40 ++ wsX60 ++ wsJx4a65c0 ++ (vx_atS RX6 161 "java/lang/IndexOutOfBoundsException" ["java/lang/RuntimeException", "java/lang/Exception"]).filter goodWord)
def wsX6_batch_r1 : List Cond := [Cond.fieldLink RX6 101 "AlertIndex$Question" "batch" "I", Cond.methodLink RX6 54 yX6_questionOf, Cond.instanceMethod yX6_questionOf, Cond.selects RX6 yX6_questionOf yX6_questionOf, Cond.initialized RX6, Cond.code yX6_questionOf cX6_questionOf 3 (some (.object "AlertIndex$Question")), Cond.classLink RX6 157 "java/lang/IndexOutOfBoundsException", Cond.initialized "java/lang/IndexOutOfBoundsException", Cond.fieldLink RX6 10 "AlertIndex" "questions" "Ljava/util/List;", Cond.classLink RX6 47 "AlertIndex$Question", Cond.fieldLink RX6 97 "AlertIndex$Question" "isDropped" "Z", Cond.methodLink RX6 34 ⟨"java/util/List", "size", "()I"⟩, Cond.selects RJx4a65c ⟨"java/util/List", "size", "()I"⟩ yJx4a65c_size_8abf5, Cond.instanceMethod yJx4a65c_size_8abf5, Cond.initialized RJx4a65c, Cond.code yJx4a65c_size_8abf5 cJx4a65c_size_8abf5 1 (some .int), Cond.fieldLink RJx4a65c 48 "java/util/ArrayList" "size" "I", Cond.methodLink RX6 122 ⟨"java/util/List", "get", "(I)Ljava/lang/Object;"⟩, Cond.selects RJx4a65c ⟨"java/util/List", "get", "(I)Ljava/lang/Object;"⟩ yJx4a65c_get_915e3, Cond.instanceMethod yJx4a65c_get_915e3, Cond.code yJx4a65c_get_915e3 cJx4a65c_get_915e3 2 (some (.object "java/lang/Object")), Cond.methodLink RJx4a65c 118 yJ15_checkIndex_7cf53, Cond.static yJ15_checkIndex_7cf53, Cond.initialized RJ15]
def wsX6_batch_r2 : List Cond := [Cond.code yJ15_checkIndex_7cf53 cJ15_checkIndex_7cf53 2 (some .int), Cond.methodLink RJ15 105 yJ3_checkIndex_8e157, Cond.static yJ3_checkIndex_8e157, Cond.initialized RJ3, Cond.code yJ3_checkIndex_8e157 cJ3_checkIndex_8e157 3 (some .int), Cond.methodLink RJx4a65c 123 yJx4a65c_elementData_915e3, Cond.instanceMethod yJx4a65c_elementData_915e3, Cond.selects RJx4a65c yJx4a65c_elementData_915e3 yJx4a65c_elementData_915e3, Cond.code yJx4a65c_elementData_915e3 cJx4a65c_elementData_915e3 2 (some (.object "java/lang/Object")), Cond.fieldLink RJx4a65c 9 "java/util/ArrayList" "elementData" "[Ljava/lang/Object;"]
def wsX6_batch : List Cond := .code yX6_batch cX6_batch 2 (some .int) :: ((wsX6_batch_r1 ++ wsX6_batch_r2) ++ wsX40 ++ wsX60 ++ wsJx4a65c0 ++ (vx_atS RX6 161 "java/lang/IndexOutOfBoundsException" ["java/lang/RuntimeException", "java/lang/Exception"]).filter goodWord)
def wsX7_init : List Cond := .code yX7_init cX7_init 2 none :: ([.methodLink RX7 1 objectInit, .instanceMethod objectInit, .code objectInit ⟨#[0xb1]⟩ 1 none, .arrayClass .int, .fieldLink RX7 7 "AlertIndexModel" "draft" "[I", .arrayClass .boolean, .fieldLink RX7 13 "AlertIndexModel" "isDropped" "[Z", .fieldLink RX7 17 "AlertIndexModel" "products" "[I", .fieldLink RX7 20 "AlertIndexModel" "quiets" "[I", .fieldLink RX7 23 "AlertIndexModel" "untils" "[I", .fieldLink RX7 26 "AlertIndexModel" "alerts" "[I", .fieldLink RX7 29 "AlertIndexModel" "batches" "[I", .fieldLink RX7 32 "AlertIndexModel" "tests" "[I", .fieldLink RX7 35 "AlertIndexModel" "names" "[I", .fieldLink RX7 38 "AlertIndexModel" "lows" "[I", .fieldLink RX7 41 "AlertIndexModel" "highs" "[I", .fieldLink RX7 44 "AlertIndexModel" "isBarred" "[Z"] ++ wsX70)
def wsX7_thrown : List Cond := .code yX7_thrown cX7_thrown 1 (some .int) :: ([.fieldLink RX7 47 "AlertIndexModel" "thrown" "I"] ++ wsX70)
def wsX7_holds : List Cond := .code yX7_holds cX7_holds 2 (some .boolean) :: ([.fieldLink RX7 47 "AlertIndexModel" "thrown" "I"] ++ wsX70)
def wsX7_isIn : List Cond := .code yX7_isIn cX7_isIn 3 (some .boolean) :: ([])
def wsX7_isQuestion : List Cond := .code yX7_isQuestion cX7_isQuestion 2 (some .boolean) :: ([.fieldLink RX7 51 "AlertIndexModel" "questions" "I", .fieldLink RX7 13 "AlertIndexModel" "isDropped" "[Z", .methodLink RX7 54 yX7_isIn, .static yX7_isIn, .initialized RX7, .code yX7_isIn cX7_isIn 3 (some .boolean)] ++ wsX70)
def wsX7_isName : List Cond := .code yX7_isName cX7_isName 1 (some .boolean) :: ([.methodLink RX7 54 yX7_isIn, .static yX7_isIn, .initialized RX7, .code yX7_isIn cX7_isIn 3 (some .boolean)])
def wsX7_isRange : List Cond := .code yX7_isRange cX7_isRange 2 (some .boolean) :: ([.methodLink RX7 54 yX7_isIn, .static yX7_isIn, .initialized RX7, .code yX7_isIn cX7_isIn 3 (some .boolean)])
def wsX7_question : List Cond := .code yX7_question cX7_question 1 (some .int) :: ([.fieldLink RX7 51 "AlertIndexModel" "questions" "I", .methodLink RX7 58 yX7_holds, .instanceMethod yX7_holds, .selects RX7 yX7_holds yX7_holds, .initialized RX7, .code yX7_holds cX7_holds 2 (some .boolean), .fieldLink RX7 47 "AlertIndexModel" "thrown" "I"] ++ wsX70)
def wsX7_product : List Cond := .code yX7_product cX7_product 3 (some .int) :: ([.fieldLink RX7 17 "AlertIndexModel" "products" "[I", .methodLink RX7 62 yX7_isQuestion, .instanceMethod yX7_isQuestion, .selects RX7 yX7_isQuestion yX7_isQuestion, .initialized RX7, .code yX7_isQuestion cX7_isQuestion 2 (some .boolean), .fieldLink RX7 51 "AlertIndexModel" "questions" "I", .fieldLink RX7 13 "AlertIndexModel" "isDropped" "[Z", .methodLink RX7 54 yX7_isIn, .static yX7_isIn, .code yX7_isIn cX7_isIn 3 (some .boolean), .methodLink RX7 58 yX7_holds, .instanceMethod yX7_holds, .selects RX7 yX7_holds yX7_holds, .code yX7_holds cX7_holds 2 (some .boolean), .fieldLink RX7 47 "AlertIndexModel" "thrown" "I"] ++ wsX70)
def wsX7_test_r1 : List Cond := [Cond.fieldLink RX7 17 "AlertIndexModel" "products" "[I", Cond.fieldLink RX7 32 "AlertIndexModel" "tests" "[I", Cond.fieldLink RX7 35 "AlertIndexModel" "names" "[I", Cond.fieldLink RX7 38 "AlertIndexModel" "lows" "[I", Cond.fieldLink RX7 41 "AlertIndexModel" "highs" "[I", Cond.fieldLink RX7 44 "AlertIndexModel" "isBarred" "[Z", Cond.methodLink RX7 62 yX7_isQuestion, Cond.instanceMethod yX7_isQuestion, Cond.selects RX7 yX7_isQuestion yX7_isQuestion, Cond.initialized RX7, Cond.code yX7_isQuestion cX7_isQuestion 2 (some .boolean), Cond.fieldLink RX7 51 "AlertIndexModel" "questions" "I", Cond.fieldLink RX7 13 "AlertIndexModel" "isDropped" "[Z", Cond.methodLink RX7 54 yX7_isIn, Cond.static yX7_isIn, Cond.code yX7_isIn cX7_isIn 3 (some .boolean), Cond.methodLink RX7 65 yX7_isName, Cond.static yX7_isName, Cond.code yX7_isName cX7_isName 1 (some .boolean), Cond.methodLink RX7 68 yX7_isRange, Cond.static yX7_isRange, Cond.code yX7_isRange cX7_isRange 2 (some .boolean), Cond.methodLink RX7 58 yX7_holds, Cond.instanceMethod yX7_holds]
def wsX7_test_r2 : List Cond := [Cond.selects RX7 yX7_holds yX7_holds, Cond.code yX7_holds cX7_holds 2 (some .boolean), Cond.fieldLink RX7 47 "AlertIndexModel" "thrown" "I"]
def wsX7_test : List Cond := .code yX7_test cX7_test 10 (some .int) :: ((wsX7_test_r1 ++ wsX7_test_r2) ++ wsX70)
def wsX7_drop : List Cond := .code yX7_drop cX7_drop 2 (some .int) :: ([.fieldLink RX7 13 "AlertIndexModel" "isDropped" "[Z", .fieldLink RX7 29 "AlertIndexModel" "batches" "[I", .methodLink RX7 62 yX7_isQuestion, .instanceMethod yX7_isQuestion, .selects RX7 yX7_isQuestion yX7_isQuestion, .initialized RX7, .code yX7_isQuestion cX7_isQuestion 2 (some .boolean), .fieldLink RX7 51 "AlertIndexModel" "questions" "I", .methodLink RX7 54 yX7_isIn, .static yX7_isIn, .code yX7_isIn cX7_isIn 3 (some .boolean), .methodLink RX7 58 yX7_holds, .instanceMethod yX7_holds, .selects RX7 yX7_holds yX7_holds, .code yX7_holds cX7_holds 2 (some .boolean), .fieldLink RX7 47 "AlertIndexModel" "thrown" "I"] ++ wsX70)
def wsX7_setQuiet : List Cond := .code yX7_setQuiet cX7_setQuiet 5 (some .int) :: ([.fieldLink RX7 20 "AlertIndexModel" "quiets" "[I", .methodLink RX7 62 yX7_isQuestion, .instanceMethod yX7_isQuestion, .selects RX7 yX7_isQuestion yX7_isQuestion, .initialized RX7, .code yX7_isQuestion cX7_isQuestion 2 (some .boolean), .fieldLink RX7 51 "AlertIndexModel" "questions" "I", .fieldLink RX7 13 "AlertIndexModel" "isDropped" "[Z", .methodLink RX7 54 yX7_isIn, .static yX7_isIn, .code yX7_isIn cX7_isIn 3 (some .boolean), .methodLink RX7 58 yX7_holds, .instanceMethod yX7_holds, .selects RX7 yX7_holds yX7_holds, .code yX7_holds cX7_holds 2 (some .boolean), .fieldLink RX7 47 "AlertIndexModel" "thrown" "I"] ++ wsX70)
def wsX7_set : List Cond := .code yX7_set cX7_set 4 (some .int) :: ([.fieldLink RX7 7 "AlertIndexModel" "draft" "[I", .methodLink RX7 65 yX7_isName, .static yX7_isName, .initialized RX7, .code yX7_isName cX7_isName 1 (some .boolean), .methodLink RX7 54 yX7_isIn, .static yX7_isIn, .code yX7_isIn cX7_isIn 3 (some .boolean), .methodLink RX7 58 yX7_holds, .instanceMethod yX7_holds, .selects RX7 yX7_holds yX7_holds, .code yX7_holds cX7_holds 2 (some .boolean), .fieldLink RX7 47 "AlertIndexModel" "thrown" "I"] ++ wsX70)
def wsX7_isTrue : List Cond := .code yX7_isTrue cX7_isTrue 4 (some .boolean) :: ([.fieldLink RX7 7 "AlertIndexModel" "draft" "[I", .fieldLink RX7 35 "AlertIndexModel" "names" "[I", .fieldLink RX7 38 "AlertIndexModel" "lows" "[I", .fieldLink RX7 41 "AlertIndexModel" "highs" "[I", .fieldLink RX7 44 "AlertIndexModel" "isBarred" "[Z"] ++ wsX70)
def wsX7_does : List Cond := .code yX7_does cX7_does 6 (some .boolean) :: ([.fieldLink RX7 17 "AlertIndexModel" "products" "[I", .fieldLink RX7 32 "AlertIndexModel" "tests" "[I", .methodLink RX7 72 yX7_isTrue, .instanceMethod yX7_isTrue, .selects RX7 yX7_isTrue yX7_isTrue, .initialized RX7, .code yX7_isTrue cX7_isTrue 4 (some .boolean), .fieldLink RX7 7 "AlertIndexModel" "draft" "[I", .fieldLink RX7 35 "AlertIndexModel" "names" "[I", .fieldLink RX7 38 "AlertIndexModel" "lows" "[I", .fieldLink RX7 41 "AlertIndexModel" "highs" "[I", .fieldLink RX7 44 "AlertIndexModel" "isBarred" "[Z"] ++ wsX70)
def wsX7_quietNow : List Cond := .code yX7_quietNow cX7_quietNow 2 (some .boolean) :: ([.fieldLink RX7 75 "AlertIndexModel" "minute" "I", .fieldLink RX7 23 "AlertIndexModel" "untils" "[I"] ++ wsX70)
def wsX7_raises : List Cond := .code yX7_raises cX7_raises 2 none :: ([.fieldLink RX7 26 "AlertIndexModel" "alerts" "[I", .fieldLink RX7 23 "AlertIndexModel" "untils" "[I", .fieldLink RX7 75 "AlertIndexModel" "minute" "I", .fieldLink RX7 20 "AlertIndexModel" "quiets" "[I"] ++ wsX70)
def wsX7_come_r1 : List Cond := [Cond.fieldLink RX7 47 "AlertIndexModel" "thrown" "I", Cond.fieldLink RX7 51 "AlertIndexModel" "questions" "I", Cond.fieldLink RX7 29 "AlertIndexModel" "batches" "[I", Cond.methodLink RX7 62 yX7_isQuestion, Cond.instanceMethod yX7_isQuestion, Cond.selects RX7 yX7_isQuestion yX7_isQuestion, Cond.initialized RX7, Cond.code yX7_isQuestion cX7_isQuestion 2 (some .boolean), Cond.fieldLink RX7 13 "AlertIndexModel" "isDropped" "[Z", Cond.methodLink RX7 54 yX7_isIn, Cond.static yX7_isIn, Cond.code yX7_isIn cX7_isIn 3 (some .boolean), Cond.methodLink RX7 78 yX7_does, Cond.instanceMethod yX7_does, Cond.selects RX7 yX7_does yX7_does, Cond.code yX7_does cX7_does 6 (some .boolean), Cond.fieldLink RX7 17 "AlertIndexModel" "products" "[I", Cond.fieldLink RX7 32 "AlertIndexModel" "tests" "[I", Cond.methodLink RX7 72 yX7_isTrue, Cond.instanceMethod yX7_isTrue, Cond.selects RX7 yX7_isTrue yX7_isTrue, Cond.code yX7_isTrue cX7_isTrue 4 (some .boolean), Cond.fieldLink RX7 7 "AlertIndexModel" "draft" "[I", Cond.fieldLink RX7 35 "AlertIndexModel" "names" "[I"]
def wsX7_come_r2 : List Cond := [Cond.fieldLink RX7 38 "AlertIndexModel" "lows" "[I", Cond.fieldLink RX7 41 "AlertIndexModel" "highs" "[I", Cond.fieldLink RX7 44 "AlertIndexModel" "isBarred" "[Z", Cond.methodLink RX7 81 yX7_quietNow, Cond.instanceMethod yX7_quietNow, Cond.selects RX7 yX7_quietNow yX7_quietNow, Cond.code yX7_quietNow cX7_quietNow 2 (some .boolean), Cond.fieldLink RX7 75 "AlertIndexModel" "minute" "I", Cond.fieldLink RX7 23 "AlertIndexModel" "untils" "[I", Cond.methodLink RX7 84 yX7_raises, Cond.instanceMethod yX7_raises, Cond.selects RX7 yX7_raises yX7_raises, Cond.code yX7_raises cX7_raises 2 none, Cond.fieldLink RX7 26 "AlertIndexModel" "alerts" "[I", Cond.fieldLink RX7 20 "AlertIndexModel" "quiets" "[I"]
def wsX7_come : List Cond := .code yX7_come cX7_come 3 (some .int) :: ((wsX7_come_r1 ++ wsX7_come_r2) ++ wsX70)
def wsX7_advance_r1 : List Cond := [Cond.fieldLink RX7 75 "AlertIndexModel" "minute" "I", Cond.constant RX7 88 (1000000), Cond.fieldLink RX7 51 "AlertIndexModel" "questions" "I", Cond.fieldLink RX7 23 "AlertIndexModel" "untils" "[I", Cond.fieldLink RX7 29 "AlertIndexModel" "batches" "[I", Cond.methodLink RX7 54 yX7_isIn, Cond.static yX7_isIn, Cond.initialized RX7, Cond.code yX7_isIn cX7_isIn 3 (some .boolean), Cond.methodLink RX7 58 yX7_holds, Cond.instanceMethod yX7_holds, Cond.selects RX7 yX7_holds yX7_holds, Cond.code yX7_holds cX7_holds 2 (some .boolean), Cond.fieldLink RX7 47 "AlertIndexModel" "thrown" "I", Cond.methodLink RX7 62 yX7_isQuestion, Cond.instanceMethod yX7_isQuestion, Cond.selects RX7 yX7_isQuestion yX7_isQuestion, Cond.code yX7_isQuestion cX7_isQuestion 2 (some .boolean), Cond.fieldLink RX7 13 "AlertIndexModel" "isDropped" "[Z", Cond.methodLink RX7 84 yX7_raises, Cond.instanceMethod yX7_raises, Cond.selects RX7 yX7_raises yX7_raises, Cond.code yX7_raises cX7_raises 2 none, Cond.fieldLink RX7 26 "AlertIndexModel" "alerts" "[I"]
def wsX7_advance_r2 : List Cond := [Cond.fieldLink RX7 20 "AlertIndexModel" "quiets" "[I"]
def wsX7_advance : List Cond := .code yX7_advance cX7_advance 5 (some .int) :: ((wsX7_advance_r1 ++ wsX7_advance_r2) ++ wsX70)
def wsX7_satisfies_r1 : List Cond := [Cond.methodLink RX7 62 yX7_isQuestion, Cond.instanceMethod yX7_isQuestion, Cond.selects RX7 yX7_isQuestion yX7_isQuestion, Cond.initialized RX7, Cond.code yX7_isQuestion cX7_isQuestion 2 (some .boolean), Cond.fieldLink RX7 51 "AlertIndexModel" "questions" "I", Cond.fieldLink RX7 13 "AlertIndexModel" "isDropped" "[Z", Cond.methodLink RX7 54 yX7_isIn, Cond.static yX7_isIn, Cond.code yX7_isIn cX7_isIn 3 (some .boolean), Cond.methodLink RX7 58 yX7_holds, Cond.instanceMethod yX7_holds, Cond.selects RX7 yX7_holds yX7_holds, Cond.code yX7_holds cX7_holds 2 (some .boolean), Cond.fieldLink RX7 47 "AlertIndexModel" "thrown" "I", Cond.methodLink RX7 78 yX7_does, Cond.instanceMethod yX7_does, Cond.selects RX7 yX7_does yX7_does, Cond.code yX7_does cX7_does 6 (some .boolean), Cond.fieldLink RX7 17 "AlertIndexModel" "products" "[I", Cond.fieldLink RX7 32 "AlertIndexModel" "tests" "[I", Cond.methodLink RX7 72 yX7_isTrue, Cond.instanceMethod yX7_isTrue, Cond.selects RX7 yX7_isTrue yX7_isTrue]
def wsX7_satisfies_r2 : List Cond := [Cond.code yX7_isTrue cX7_isTrue 4 (some .boolean), Cond.fieldLink RX7 7 "AlertIndexModel" "draft" "[I", Cond.fieldLink RX7 35 "AlertIndexModel" "names" "[I", Cond.fieldLink RX7 38 "AlertIndexModel" "lows" "[I", Cond.fieldLink RX7 41 "AlertIndexModel" "highs" "[I", Cond.fieldLink RX7 44 "AlertIndexModel" "isBarred" "[Z"]
def wsX7_satisfies : List Cond := .code yX7_satisfies cX7_satisfies 2 (some .boolean) :: ((wsX7_satisfies_r1 ++ wsX7_satisfies_r2) ++ wsX70)
def wsX7_found_r1 : List Cond := [Cond.fieldLink RX7 51 "AlertIndexModel" "questions" "I", Cond.methodLink RX7 62 yX7_isQuestion, Cond.instanceMethod yX7_isQuestion, Cond.selects RX7 yX7_isQuestion yX7_isQuestion, Cond.initialized RX7, Cond.code yX7_isQuestion cX7_isQuestion 2 (some .boolean), Cond.fieldLink RX7 13 "AlertIndexModel" "isDropped" "[Z", Cond.methodLink RX7 54 yX7_isIn, Cond.static yX7_isIn, Cond.code yX7_isIn cX7_isIn 3 (some .boolean), Cond.methodLink RX7 78 yX7_does, Cond.instanceMethod yX7_does, Cond.selects RX7 yX7_does yX7_does, Cond.code yX7_does cX7_does 6 (some .boolean), Cond.fieldLink RX7 17 "AlertIndexModel" "products" "[I", Cond.fieldLink RX7 32 "AlertIndexModel" "tests" "[I", Cond.methodLink RX7 72 yX7_isTrue, Cond.instanceMethod yX7_isTrue, Cond.selects RX7 yX7_isTrue yX7_isTrue, Cond.code yX7_isTrue cX7_isTrue 4 (some .boolean), Cond.fieldLink RX7 7 "AlertIndexModel" "draft" "[I", Cond.fieldLink RX7 35 "AlertIndexModel" "names" "[I", Cond.fieldLink RX7 38 "AlertIndexModel" "lows" "[I", Cond.fieldLink RX7 41 "AlertIndexModel" "highs" "[I"]
def wsX7_found_r2 : List Cond := [Cond.fieldLink RX7 44 "AlertIndexModel" "isBarred" "[Z"]
def wsX7_found : List Cond := .code yX7_found cX7_found 3 (some .int) :: ((wsX7_found_r1 ++ wsX7_found_r2) ++ wsX70)
def wsX7_matching_r1 : List Cond := [Cond.fieldLink RX7 47 "AlertIndexModel" "thrown" "I", Cond.methodLink RX7 89 yX7_found, Cond.instanceMethod yX7_found, Cond.selects RX7 yX7_found yX7_found, Cond.initialized RX7, Cond.code yX7_found cX7_found 3 (some .int), Cond.fieldLink RX7 51 "AlertIndexModel" "questions" "I", Cond.methodLink RX7 62 yX7_isQuestion, Cond.instanceMethod yX7_isQuestion, Cond.selects RX7 yX7_isQuestion yX7_isQuestion, Cond.code yX7_isQuestion cX7_isQuestion 2 (some .boolean), Cond.fieldLink RX7 13 "AlertIndexModel" "isDropped" "[Z", Cond.methodLink RX7 54 yX7_isIn, Cond.static yX7_isIn, Cond.code yX7_isIn cX7_isIn 3 (some .boolean), Cond.methodLink RX7 78 yX7_does, Cond.instanceMethod yX7_does, Cond.selects RX7 yX7_does yX7_does, Cond.code yX7_does cX7_does 6 (some .boolean), Cond.fieldLink RX7 17 "AlertIndexModel" "products" "[I", Cond.fieldLink RX7 32 "AlertIndexModel" "tests" "[I", Cond.methodLink RX7 72 yX7_isTrue, Cond.instanceMethod yX7_isTrue, Cond.selects RX7 yX7_isTrue yX7_isTrue]
def wsX7_matching_r2 : List Cond := [Cond.code yX7_isTrue cX7_isTrue 4 (some .boolean), Cond.fieldLink RX7 7 "AlertIndexModel" "draft" "[I", Cond.fieldLink RX7 35 "AlertIndexModel" "names" "[I", Cond.fieldLink RX7 38 "AlertIndexModel" "lows" "[I", Cond.fieldLink RX7 41 "AlertIndexModel" "highs" "[I", Cond.fieldLink RX7 44 "AlertIndexModel" "isBarred" "[Z"]
def wsX7_matching : List Cond := .code yX7_matching cX7_matching 1 (some .int) :: ((wsX7_matching_r1 ++ wsX7_matching_r2) ++ wsX70)
def wsX7_matchingByIndex_r1 : List Cond := [Cond.fieldLink RX7 47 "AlertIndexModel" "thrown" "I", Cond.methodLink RX7 89 yX7_found, Cond.instanceMethod yX7_found, Cond.selects RX7 yX7_found yX7_found, Cond.initialized RX7, Cond.code yX7_found cX7_found 3 (some .int), Cond.fieldLink RX7 51 "AlertIndexModel" "questions" "I", Cond.methodLink RX7 62 yX7_isQuestion, Cond.instanceMethod yX7_isQuestion, Cond.selects RX7 yX7_isQuestion yX7_isQuestion, Cond.code yX7_isQuestion cX7_isQuestion 2 (some .boolean), Cond.fieldLink RX7 13 "AlertIndexModel" "isDropped" "[Z", Cond.methodLink RX7 54 yX7_isIn, Cond.static yX7_isIn, Cond.code yX7_isIn cX7_isIn 3 (some .boolean), Cond.methodLink RX7 78 yX7_does, Cond.instanceMethod yX7_does, Cond.selects RX7 yX7_does yX7_does, Cond.code yX7_does cX7_does 6 (some .boolean), Cond.fieldLink RX7 17 "AlertIndexModel" "products" "[I", Cond.fieldLink RX7 32 "AlertIndexModel" "tests" "[I", Cond.methodLink RX7 72 yX7_isTrue, Cond.instanceMethod yX7_isTrue, Cond.selects RX7 yX7_isTrue yX7_isTrue]
def wsX7_matchingByIndex_r2 : List Cond := [Cond.code yX7_isTrue cX7_isTrue 4 (some .boolean), Cond.fieldLink RX7 7 "AlertIndexModel" "draft" "[I", Cond.fieldLink RX7 35 "AlertIndexModel" "names" "[I", Cond.fieldLink RX7 38 "AlertIndexModel" "lows" "[I", Cond.fieldLink RX7 41 "AlertIndexModel" "highs" "[I", Cond.fieldLink RX7 44 "AlertIndexModel" "isBarred" "[Z"]
def wsX7_matchingByIndex : List Cond := .code yX7_matchingByIndex cX7_matchingByIndex 1 (some .int) :: ((wsX7_matchingByIndex_r1 ++ wsX7_matchingByIndex_r2) ++ wsX70)
def wsX7_size : List Cond := .code yX7_size cX7_size 6 (some .int) :: ([.fieldLink RX7 17 "AlertIndexModel" "products" "[I", .fieldLink RX7 32 "AlertIndexModel" "tests" "[I", .fieldLink RX7 44 "AlertIndexModel" "isBarred" "[Z"] ++ wsX70)
def wsX7_sizeOf : List Cond := .code yX7_sizeOf cX7_sizeOf 2 (some .int) :: ([.methodLink RX7 62 yX7_isQuestion, .instanceMethod yX7_isQuestion, .selects RX7 yX7_isQuestion yX7_isQuestion, .initialized RX7, .code yX7_isQuestion cX7_isQuestion 2 (some .boolean), .fieldLink RX7 51 "AlertIndexModel" "questions" "I", .fieldLink RX7 13 "AlertIndexModel" "isDropped" "[Z", .methodLink RX7 54 yX7_isIn, .static yX7_isIn, .code yX7_isIn cX7_isIn 3 (some .boolean), .methodLink RX7 58 yX7_holds, .instanceMethod yX7_holds, .selects RX7 yX7_holds yX7_holds, .code yX7_holds cX7_holds 2 (some .boolean), .fieldLink RX7 47 "AlertIndexModel" "thrown" "I", .methodLink RX7 93 yX7_size, .instanceMethod yX7_size, .selects RX7 yX7_size yX7_size, .code yX7_size cX7_size 6 (some .int), .fieldLink RX7 17 "AlertIndexModel" "products" "[I", .fieldLink RX7 32 "AlertIndexModel" "tests" "[I", .fieldLink RX7 44 "AlertIndexModel" "isBarred" "[Z"] ++ wsX70)
def wsX7_withSize : List Cond := .code yX7_withSize cX7_withSize 4 (some .int) :: ([.fieldLink RX7 47 "AlertIndexModel" "thrown" "I", .fieldLink RX7 51 "AlertIndexModel" "questions" "I", .methodLink RX7 62 yX7_isQuestion, .instanceMethod yX7_isQuestion, .selects RX7 yX7_isQuestion yX7_isQuestion, .initialized RX7, .code yX7_isQuestion cX7_isQuestion 2 (some .boolean), .fieldLink RX7 13 "AlertIndexModel" "isDropped" "[Z", .methodLink RX7 54 yX7_isIn, .static yX7_isIn, .code yX7_isIn cX7_isIn 3 (some .boolean), .methodLink RX7 93 yX7_size, .instanceMethod yX7_size, .selects RX7 yX7_size yX7_size, .code yX7_size cX7_size 6 (some .int), .fieldLink RX7 17 "AlertIndexModel" "products" "[I", .fieldLink RX7 32 "AlertIndexModel" "tests" "[I", .fieldLink RX7 44 "AlertIndexModel" "isBarred" "[Z"] ++ wsX70)
def wsX7_piece : List Cond := .code yX7_piece cX7_piece 4 (some .int) :: ([])
def wsX7_pieces : List Cond := .code yX7_pieces cX7_pieces 5 (some .int) :: ([.methodLink RX7 68 yX7_isRange, .static yX7_isRange, .initialized RX7, .code yX7_isRange cX7_isRange 2 (some .boolean), .methodLink RX7 54 yX7_isIn, .static yX7_isIn, .code yX7_isIn cX7_isIn 3 (some .boolean), .methodLink RX7 58 yX7_holds, .instanceMethod yX7_holds, .selects RX7 yX7_holds yX7_holds, .code yX7_holds cX7_holds 2 (some .boolean), .fieldLink RX7 47 "AlertIndexModel" "thrown" "I", .methodLink RX7 97 yX7_piece, .static yX7_piece, .code yX7_piece cX7_piece 4 (some .int)] ++ wsX70)
def wsX7_pieceAt : List Cond := .code yX7_pieceAt cX7_pieceAt 6 (some .int) :: ([.methodLink RX7 68 yX7_isRange, .static yX7_isRange, .initialized RX7, .code yX7_isRange cX7_isRange 2 (some .boolean), .methodLink RX7 54 yX7_isIn, .static yX7_isIn, .code yX7_isIn cX7_isIn 3 (some .boolean), .methodLink RX7 58 yX7_holds, .instanceMethod yX7_holds, .selects RX7 yX7_holds yX7_holds, .code yX7_holds cX7_holds 2 (some .boolean), .fieldLink RX7 47 "AlertIndexModel" "thrown" "I", .methodLink RX7 97 yX7_piece, .static yX7_piece, .code yX7_piece cX7_piece 4 (some .int)] ++ wsX70)
def wsX7_minute : List Cond := .code yX7_minute cX7_minute 1 (some .int) :: ([.fieldLink RX7 47 "AlertIndexModel" "thrown" "I", .fieldLink RX7 75 "AlertIndexModel" "minute" "I"] ++ wsX70)
def wsX7_isQuiet : List Cond := .code yX7_isQuiet cX7_isQuiet 2 (some .boolean) :: ([.methodLink RX7 62 yX7_isQuestion, .instanceMethod yX7_isQuestion, .selects RX7 yX7_isQuestion yX7_isQuestion, .initialized RX7, .code yX7_isQuestion cX7_isQuestion 2 (some .boolean), .fieldLink RX7 51 "AlertIndexModel" "questions" "I", .fieldLink RX7 13 "AlertIndexModel" "isDropped" "[Z", .methodLink RX7 54 yX7_isIn, .static yX7_isIn, .code yX7_isIn cX7_isIn 3 (some .boolean), .methodLink RX7 58 yX7_holds, .instanceMethod yX7_holds, .selects RX7 yX7_holds yX7_holds, .code yX7_holds cX7_holds 2 (some .boolean), .fieldLink RX7 47 "AlertIndexModel" "thrown" "I", .methodLink RX7 81 yX7_quietNow, .instanceMethod yX7_quietNow, .selects RX7 yX7_quietNow yX7_quietNow, .code yX7_quietNow cX7_quietNow 2 (some .boolean), .fieldLink RX7 75 "AlertIndexModel" "minute" "I", .fieldLink RX7 23 "AlertIndexModel" "untils" "[I"] ++ wsX70)
def wsX7_alerts : List Cond := .code yX7_alerts cX7_alerts 2 (some .int) :: ([.fieldLink RX7 26 "AlertIndexModel" "alerts" "[I", .methodLink RX7 62 yX7_isQuestion, .instanceMethod yX7_isQuestion, .selects RX7 yX7_isQuestion yX7_isQuestion, .initialized RX7, .code yX7_isQuestion cX7_isQuestion 2 (some .boolean), .fieldLink RX7 51 "AlertIndexModel" "questions" "I", .fieldLink RX7 13 "AlertIndexModel" "isDropped" "[Z", .methodLink RX7 54 yX7_isIn, .static yX7_isIn, .code yX7_isIn cX7_isIn 3 (some .boolean), .methodLink RX7 58 yX7_holds, .instanceMethod yX7_holds, .selects RX7 yX7_holds yX7_holds, .code yX7_holds cX7_holds 2 (some .boolean), .fieldLink RX7 47 "AlertIndexModel" "thrown" "I"] ++ wsX70)
def wsX7_batch : List Cond := .code yX7_batch cX7_batch 2 (some .int) :: ([.fieldLink RX7 29 "AlertIndexModel" "batches" "[I", .methodLink RX7 62 yX7_isQuestion, .instanceMethod yX7_isQuestion, .selects RX7 yX7_isQuestion yX7_isQuestion, .initialized RX7, .code yX7_isQuestion cX7_isQuestion 2 (some .boolean), .fieldLink RX7 51 "AlertIndexModel" "questions" "I", .fieldLink RX7 13 "AlertIndexModel" "isDropped" "[Z", .methodLink RX7 54 yX7_isIn, .static yX7_isIn, .code yX7_isIn cX7_isIn 3 (some .boolean), .methodLink RX7 58 yX7_holds, .instanceMethod yX7_holds, .selects RX7 yX7_holds yX7_holds, .code yX7_holds cX7_holds 2 (some .boolean), .fieldLink RX7 47 "AlertIndexModel" "thrown" "I"] ++ wsX70)
def wsJ9_max_7cf53 : List Cond := .code yJ9_max_7cf53 cJ9_max_7cf53 2 (some .int) :: ([])
def wsJ9_min_7cf53 : List Cond := .code yJ9_min_7cf53 cJ9_min_7cf53 2 (some .int) :: ([])
def wsL_question_r1 : List Cond := [Cond.classLink RL 13 "java/lang/IllegalStateException", Cond.methodLink RL 7 yX6_question, Cond.instanceMethod yX6_question, Cond.selects RX6 yX6_question yX6_question, Cond.initialized RX6, Cond.code yX6_question cX6_question 1 (some .int), Cond.classLink RX6 40 "java/lang/IllegalStateException", Cond.initialized "java/lang/IllegalStateException", Cond.fieldLink RX6 10 "AlertIndex" "questions" "Ljava/util/List;", Cond.classLink RX6 47 RX4, Cond.instantiable RX4 6, Cond.initialized RX4, Cond.methodLink RX6 34 ⟨"java/util/List", "size", "()I"⟩, Cond.selects RJx4a65c ⟨"java/util/List", "size", "()I"⟩ yJx4a65c_size_8abf5, Cond.instanceMethod yJx4a65c_size_8abf5, Cond.initialized RJx4a65c, Cond.code yJx4a65c_size_8abf5 cJx4a65c_size_8abf5 1 (some .int), Cond.fieldLink RJx4a65c 48 "java/util/ArrayList" "size" "I", Cond.methodLink RX6 49 yX4_init, Cond.instanceMethod yX4_init, Cond.code yX4_init cX4_init 1 none, Cond.methodLink RX4 3 objectInit, Cond.instanceMethod objectInit, Cond.code objectInit ⟨#[0xb1]⟩ 1 none]
def wsL_question_r2 : List Cond := [Cond.classLink RX4 9 RJx4a65c, Cond.instantiable RJx4a65c 3, Cond.fieldLink RX4 12 "AlertIndex$Question" "products" "Ljava/util/List;", Cond.fieldLink RX4 18 "AlertIndex$Question" "isDropped" "Z", Cond.fieldLink RX4 22 "AlertIndex$Question" "quietMinutes" "I", Cond.fieldLink RX4 26 "AlertIndex$Question" "quietUntil" "I", Cond.fieldLink RX4 29 "AlertIndex$Question" "alerts" "I", Cond.fieldLink RX4 32 "AlertIndex$Question" "batch" "I", Cond.methodLink RX4 11 yJx4a65c_init_da8c8, Cond.instanceMethod yJx4a65c_init_da8c8, Cond.code yJx4a65c_init_da8c8 cJx4a65c_init_da8c8 1 none, Cond.fieldLink RJx4a65c 39 "java/util/ArrayList" "DEFAULTCAPACITY_EMPTY_ELEMENTDATA" "[Ljava/lang/Object;", Cond.fieldLink RJx4a65c 9 "java/util/ArrayList" "elementData" "[Ljava/lang/Object;", Cond.methodLink RJx4a65c 1 yJxc12de_init_da8c8, Cond.instanceMethod yJxc12de_init_da8c8, Cond.initialized RJxc12de, Cond.code yJxc12de_init_da8c8 cJxc12de_init_da8c8 1 none, Cond.fieldLink RJxc12de 7 "java/util/AbstractList" "modCount" "I", Cond.methodLink RJxc12de 1 yJxa1e45_init_da8c8, Cond.instanceMethod yJxa1e45_init_da8c8, Cond.initialized RJxa1e45, Cond.code yJxa1e45_init_da8c8 cJxa1e45_init_da8c8 1 none, Cond.methodLink RJxa1e45 1 objectInit, Cond.methodLink RX6 50 ⟨"java/util/List", "add", "(Ljava/lang/Object;)Z"⟩]
def wsL_question_r3 : List Cond := [Cond.selects RJx4a65c ⟨"java/util/List", "add", "(Ljava/lang/Object;)Z"⟩ yJx4a65c_add_9ea2d, Cond.instanceMethod yJx4a65c_add_9ea2d, Cond.code yJx4a65c_add_9ea2d cJx4a65c_add_9ea2d 2 (some .boolean), Cond.fieldLink RJx4a65c 63 "java/util/ArrayList" "modCount" "I", Cond.sameField "java/util/ArrayList" "java/util/AbstractList" "modCount" "I", Cond.methodLink RJx4a65c 131 yJx4a65c_add_72be8, Cond.instanceMethod yJx4a65c_add_72be8, Cond.selects RJx4a65c yJx4a65c_add_72be8 yJx4a65c_add_72be8, Cond.code yJx4a65c_add_72be8 cJx4a65c_add_72be8 4 none, Cond.methodLink RJx4a65c 129 yJx4a65c_grow_d5877, Cond.instanceMethod yJx4a65c_grow_d5877, Cond.selects RJx4a65c yJx4a65c_grow_d5877 yJx4a65c_grow_d5877, Cond.code yJx4a65c_grow_d5877 cJx4a65c_grow_d5877 1 (some (.array (.object "java/lang/Object"))), Cond.methodLink RJx4a65c 69 yJx4a65c_grow_92f84, Cond.instanceMethod yJx4a65c_grow_92f84, Cond.selects RJx4a65c yJx4a65c_grow_92f84 yJx4a65c_grow_92f84, Cond.code yJx4a65c_grow_92f84 cJx4a65c_grow_92f84 4 (some (.array (.object "java/lang/Object"))), Cond.methodLink RJx4a65c 79 Lib.Math.max.name, Cond.static Lib.Math.max.name, Cond.initialized "java/lang/Math", Cond.code Lib.Math.max.name Lib.Math.max.code 2 (some .int), Cond.classLink RJx4a65c 7 "java/lang/Object", Cond.methodLink RJx4a65c 73 yJ8_newLength_cabcc, Cond.static yJ8_newLength_cabcc]
def wsL_question_r4 : List Cond := [Cond.initialized RJ8, Cond.code yJ8_newLength_cabcc cJ8_newLength_cabcc 4 (some .int), Cond.methodLink RJ8 194 Lib.Math.max.name, Cond.constant RJ8 200 (2147483639), Cond.methodLink RJ8 201 yJ8_hugeLength_7cf53, Cond.static yJ8_hugeLength_7cf53, Cond.code yJ8_hugeLength_7cf53 cJ8_hugeLength_7cf53 3 (some .int), Cond.methodLink RJx4a65c 66 yJ7_copyOf_1904c, Cond.static yJ7_copyOf_1904c, Cond.initialized RJ7, Cond.code yJ7_copyOf_1904c cJ7_copyOf_1904c 2 (some (.array (.object "java/lang/Object"))), Cond.methodLink RJ7 86 ⟨"java/lang/Object", "getClass", "()Ljava/lang/Class;"⟩, Cond.selects "[Ljava/lang/Object;" ⟨"java/lang/Object", "getClass", "()Ljava/lang/Class;"⟩ ⟨"java/lang/Object", "getClass", "()Ljava/lang/Class;"⟩, Cond.instanceMethod ⟨"java/lang/Object", "getClass", "()Ljava/lang/Class;"⟩, Cond.native ⟨"java/lang/Object", "getClass", "()Ljava/lang/Class;"⟩, Cond.methodLink RJ7 300 yJ7_copyOf_6403c, Cond.static yJ7_copyOf_6403c, Cond.code yJ7_copyOf_6403c cJ7_copyOf_6403c 4 (some (.array (.object "java/lang/Object"))), Cond.classLink RJ7 110 "[Ljava/lang/Object;", Cond.classLink RJ7 2 "java/lang/Object", Cond.methodLink RJ7 304 Lib.Math.min.name, Cond.static Lib.Math.min.name, Cond.code Lib.Math.min.name Lib.Math.min.code 2 (some .int), Cond.methodLink RJ7 150 arraycopyName]
def wsL_question_r5 : List Cond := [Cond.native arraycopyName, Cond.static arraycopyName, Cond.initialized "java/lang/System"]
def wsL_question : List Cond := .codeWith yL_question cL_question 3 (some .int) [(0, 8, 11, 13)] :: ((wsL_question_r1 ++ (wsL_question_r2 ++ (wsL_question_r3 ++ (wsL_question_r4 ++ wsL_question_r5)))) ++ wsX60 ++ wsX40 ++ wsJx4a65c0 ++ (vx_atS RX6 44 "java/lang/IllegalStateException" ["java/lang/RuntimeException", "java/lang/Exception"]).filter goodWord)
def wsL_product_r1 : List Cond := [Cond.classLink RL 19 "java/lang/IndexOutOfBoundsException", Cond.classLink RL 13 "java/lang/IllegalStateException", Cond.methodLink RL 15 yX6_product, Cond.instanceMethod yX6_product, Cond.selects RX6 yX6_product yX6_product, Cond.initialized RX6, Cond.code yX6_product cX6_product 3 (some .int), Cond.classLink RX6 40 "java/lang/IllegalStateException", Cond.initialized "java/lang/IllegalStateException", Cond.fieldLink RX6 58 "AlertIndex$Question" "products" "Ljava/util/List;", Cond.classLink RX6 63 RX3, Cond.instantiable RX3 3, Cond.initialized RX3, Cond.methodLink RX6 54 yX6_questionOf, Cond.instanceMethod yX6_questionOf, Cond.selects RX6 yX6_questionOf yX6_questionOf, Cond.code yX6_questionOf cX6_questionOf 3 (some (.object "AlertIndex$Question")), Cond.classLink RX6 157 "java/lang/IndexOutOfBoundsException", Cond.initialized "java/lang/IndexOutOfBoundsException", Cond.fieldLink RX6 10 "AlertIndex" "questions" "Ljava/util/List;", Cond.classLink RX6 47 "AlertIndex$Question", Cond.fieldLink RX6 97 "AlertIndex$Question" "isDropped" "Z", Cond.methodLink RX6 34 ⟨"java/util/List", "size", "()I"⟩, Cond.selects RJx4a65c ⟨"java/util/List", "size", "()I"⟩ yJx4a65c_size_8abf5]
def wsL_product_r2 : List Cond := [Cond.instanceMethod yJx4a65c_size_8abf5, Cond.initialized RJx4a65c, Cond.code yJx4a65c_size_8abf5 cJx4a65c_size_8abf5 1 (some .int), Cond.fieldLink RJx4a65c 48 "java/util/ArrayList" "size" "I", Cond.methodLink RX6 122 ⟨"java/util/List", "get", "(I)Ljava/lang/Object;"⟩, Cond.selects RJx4a65c ⟨"java/util/List", "get", "(I)Ljava/lang/Object;"⟩ yJx4a65c_get_915e3, Cond.instanceMethod yJx4a65c_get_915e3, Cond.code yJx4a65c_get_915e3 cJx4a65c_get_915e3 2 (some (.object "java/lang/Object")), Cond.methodLink RJx4a65c 118 yJ15_checkIndex_7cf53, Cond.static yJ15_checkIndex_7cf53, Cond.initialized RJ15, Cond.code yJ15_checkIndex_7cf53 cJ15_checkIndex_7cf53 2 (some .int), Cond.methodLink RJ15 105 yJ3_checkIndex_8e157, Cond.static yJ3_checkIndex_8e157, Cond.initialized RJ3, Cond.code yJ3_checkIndex_8e157 cJ3_checkIndex_8e157 3 (some .int), Cond.methodLink RJx4a65c 123 yJx4a65c_elementData_915e3, Cond.instanceMethod yJx4a65c_elementData_915e3, Cond.selects RJx4a65c yJx4a65c_elementData_915e3 yJx4a65c_elementData_915e3, Cond.code yJx4a65c_elementData_915e3 cJx4a65c_elementData_915e3 2 (some (.object "java/lang/Object")), Cond.fieldLink RJx4a65c 9 "java/util/ArrayList" "elementData" "[Ljava/lang/Object;", Cond.methodLink RX6 65 yX3_init, Cond.instanceMethod yX3_init, Cond.code yX3_init cX3_init 1 none]
def wsL_product_r3 : List Cond := [Cond.methodLink RX3 1 objectInit, Cond.instanceMethod objectInit, Cond.code objectInit ⟨#[0xb1]⟩ 1 none, Cond.classLink RX3 7 RJx4a65c, Cond.instantiable RJx4a65c 3, Cond.fieldLink RX3 10 "AlertIndex$Product" "tests" "Ljava/util/List;", Cond.fieldLink RX3 16 "AlertIndex$Product" "plainTests" "I", Cond.fieldLink RX3 20 "AlertIndex$Product" "hits" "I", Cond.methodLink RX3 9 yJx4a65c_init_da8c8, Cond.instanceMethod yJx4a65c_init_da8c8, Cond.code yJx4a65c_init_da8c8 cJx4a65c_init_da8c8 1 none, Cond.fieldLink RJx4a65c 39 "java/util/ArrayList" "DEFAULTCAPACITY_EMPTY_ELEMENTDATA" "[Ljava/lang/Object;", Cond.methodLink RJx4a65c 1 yJxc12de_init_da8c8, Cond.instanceMethod yJxc12de_init_da8c8, Cond.initialized RJxc12de, Cond.code yJxc12de_init_da8c8 cJxc12de_init_da8c8 1 none, Cond.fieldLink RJxc12de 7 "java/util/AbstractList" "modCount" "I", Cond.methodLink RJxc12de 1 yJxa1e45_init_da8c8, Cond.instanceMethod yJxa1e45_init_da8c8, Cond.initialized RJxa1e45, Cond.code yJxa1e45_init_da8c8 cJxa1e45_init_da8c8 1 none, Cond.methodLink RJxa1e45 1 objectInit, Cond.methodLink RX6 50 ⟨"java/util/List", "add", "(Ljava/lang/Object;)Z"⟩, Cond.selects RJx4a65c ⟨"java/util/List", "add", "(Ljava/lang/Object;)Z"⟩ yJx4a65c_add_9ea2d]
def wsL_product_r4 : List Cond := [Cond.instanceMethod yJx4a65c_add_9ea2d, Cond.code yJx4a65c_add_9ea2d cJx4a65c_add_9ea2d 2 (some .boolean), Cond.fieldLink RJx4a65c 63 "java/util/ArrayList" "modCount" "I", Cond.sameField "java/util/ArrayList" "java/util/AbstractList" "modCount" "I", Cond.methodLink RJx4a65c 131 yJx4a65c_add_72be8, Cond.instanceMethod yJx4a65c_add_72be8, Cond.selects RJx4a65c yJx4a65c_add_72be8 yJx4a65c_add_72be8, Cond.code yJx4a65c_add_72be8 cJx4a65c_add_72be8 4 none, Cond.methodLink RJx4a65c 129 yJx4a65c_grow_d5877, Cond.instanceMethod yJx4a65c_grow_d5877, Cond.selects RJx4a65c yJx4a65c_grow_d5877 yJx4a65c_grow_d5877, Cond.code yJx4a65c_grow_d5877 cJx4a65c_grow_d5877 1 (some (.array (.object "java/lang/Object"))), Cond.methodLink RJx4a65c 69 yJx4a65c_grow_92f84, Cond.instanceMethod yJx4a65c_grow_92f84, Cond.selects RJx4a65c yJx4a65c_grow_92f84 yJx4a65c_grow_92f84, Cond.code yJx4a65c_grow_92f84 cJx4a65c_grow_92f84 4 (some (.array (.object "java/lang/Object"))), Cond.methodLink RJx4a65c 79 Lib.Math.max.name, Cond.static Lib.Math.max.name, Cond.initialized "java/lang/Math", Cond.code Lib.Math.max.name Lib.Math.max.code 2 (some .int), Cond.classLink RJx4a65c 7 "java/lang/Object", Cond.methodLink RJx4a65c 73 yJ8_newLength_cabcc, Cond.static yJ8_newLength_cabcc, Cond.initialized RJ8]
def wsL_product_r5 : List Cond := [Cond.code yJ8_newLength_cabcc cJ8_newLength_cabcc 4 (some .int), Cond.methodLink RJ8 194 Lib.Math.max.name, Cond.constant RJ8 200 (2147483639), Cond.methodLink RJ8 201 yJ8_hugeLength_7cf53, Cond.static yJ8_hugeLength_7cf53, Cond.code yJ8_hugeLength_7cf53 cJ8_hugeLength_7cf53 3 (some .int), Cond.methodLink RJx4a65c 66 yJ7_copyOf_1904c, Cond.static yJ7_copyOf_1904c, Cond.initialized RJ7, Cond.code yJ7_copyOf_1904c cJ7_copyOf_1904c 2 (some (.array (.object "java/lang/Object"))), Cond.methodLink RJ7 86 ⟨"java/lang/Object", "getClass", "()Ljava/lang/Class;"⟩, Cond.selects "[Ljava/lang/Object;" ⟨"java/lang/Object", "getClass", "()Ljava/lang/Class;"⟩ ⟨"java/lang/Object", "getClass", "()Ljava/lang/Class;"⟩, Cond.instanceMethod ⟨"java/lang/Object", "getClass", "()Ljava/lang/Class;"⟩, Cond.native ⟨"java/lang/Object", "getClass", "()Ljava/lang/Class;"⟩, Cond.methodLink RJ7 300 yJ7_copyOf_6403c, Cond.static yJ7_copyOf_6403c, Cond.code yJ7_copyOf_6403c cJ7_copyOf_6403c 4 (some (.array (.object "java/lang/Object"))), Cond.classLink RJ7 110 "[Ljava/lang/Object;", Cond.classLink RJ7 2 "java/lang/Object", Cond.methodLink RJ7 304 Lib.Math.min.name, Cond.static Lib.Math.min.name, Cond.code Lib.Math.min.name Lib.Math.min.code 2 (some .int), Cond.methodLink RJ7 150 arraycopyName, Cond.native arraycopyName]
def wsL_product_r6 : List Cond := [Cond.static arraycopyName, Cond.initialized "java/lang/System"]
def wsL_product : List Cond := .codeWith yL_product cL_product 4 (some .int) [(0, 9, 12, 19), (0, 9, 15, 13)] :: ((wsL_product_r1 ++ (wsL_product_r2 ++ (wsL_product_r3 ++ (wsL_product_r4 ++ (wsL_product_r5 ++ wsL_product_r6))))) ++ wsX40 ++ wsX30 ++ wsX60 ++ wsJx4a65c0 ++ (vx_atS RX6 44 "java/lang/IllegalStateException" ["java/lang/RuntimeException", "java/lang/Exception"]).filter goodWord ++ (vx_atS RX6 161 "java/lang/IndexOutOfBoundsException" ["java/lang/RuntimeException", "java/lang/Exception"]).filter goodWord)
def wsL_test_r1 : List Cond := [Cond.classLink RL 19 "java/lang/IndexOutOfBoundsException", Cond.classLink RL 25 "java/lang/IllegalArgumentException", Cond.classLink RL 13 "java/lang/IllegalStateException", Cond.methodLink RL 21 yX6_test, Cond.instanceMethod yX6_test, Cond.selects RX6 yX6_test yX6_test, Cond.initialized RX6, Cond.code yX6_test cX6_test 8 (some .int), Cond.classLink RX6 40 "java/lang/IllegalStateException", Cond.initialized "java/lang/IllegalStateException", Cond.fieldLink RX6 80 "AlertIndex$Product" "tests" "Ljava/util/List;", Cond.classLink RX6 85 RX5, Cond.instantiable RX5 4, Cond.initialized RX5, Cond.fieldLink RX6 90 "AlertIndex$Product" "plainTests" "I", Cond.fieldLink RX6 26 "AlertIndex" "index" "LAlertIndex$PieceIndex;", Cond.methodLink RX6 54 yX6_questionOf, Cond.instanceMethod yX6_questionOf, Cond.selects RX6 yX6_questionOf yX6_questionOf, Cond.code yX6_questionOf cX6_questionOf 3 (some (.object "AlertIndex$Question")), Cond.classLink RX6 157 "java/lang/IndexOutOfBoundsException", Cond.initialized "java/lang/IndexOutOfBoundsException", Cond.fieldLink RX6 10 "AlertIndex" "questions" "Ljava/util/List;", Cond.classLink RX6 47 "AlertIndex$Question"]
def wsL_test_r2 : List Cond := [Cond.fieldLink RX6 97 "AlertIndex$Question" "isDropped" "Z", Cond.methodLink RX6 34 ⟨"java/util/List", "size", "()I"⟩, Cond.selects RJx4a65c ⟨"java/util/List", "size", "()I"⟩ yJx4a65c_size_8abf5, Cond.instanceMethod yJx4a65c_size_8abf5, Cond.initialized RJx4a65c, Cond.code yJx4a65c_size_8abf5 cJx4a65c_size_8abf5 1 (some .int), Cond.fieldLink RJx4a65c 48 "java/util/ArrayList" "size" "I", Cond.methodLink RX6 122 ⟨"java/util/List", "get", "(I)Ljava/lang/Object;"⟩, Cond.selects RJx4a65c ⟨"java/util/List", "get", "(I)Ljava/lang/Object;"⟩ yJx4a65c_get_915e3, Cond.instanceMethod yJx4a65c_get_915e3, Cond.code yJx4a65c_get_915e3 cJx4a65c_get_915e3 2 (some (.object "java/lang/Object")), Cond.methodLink RJx4a65c 118 yJ15_checkIndex_7cf53, Cond.static yJ15_checkIndex_7cf53, Cond.initialized RJ15, Cond.code yJ15_checkIndex_7cf53 cJ15_checkIndex_7cf53 2 (some .int), Cond.methodLink RJ15 105 yJ3_checkIndex_8e157, Cond.static yJ3_checkIndex_8e157, Cond.initialized RJ3, Cond.code yJ3_checkIndex_8e157 cJ3_checkIndex_8e157 3 (some .int), Cond.methodLink RJx4a65c 123 yJx4a65c_elementData_915e3, Cond.instanceMethod yJx4a65c_elementData_915e3, Cond.selects RJx4a65c yJx4a65c_elementData_915e3 yJx4a65c_elementData_915e3, Cond.code yJx4a65c_elementData_915e3 cJx4a65c_elementData_915e3 2 (some (.object "java/lang/Object")), Cond.fieldLink RJx4a65c 9 "java/util/ArrayList" "elementData" "[Ljava/lang/Object;"]
def wsL_test_r3 : List Cond := [Cond.methodLink RX6 66 yX6_refuseNoName, Cond.static yX6_refuseNoName, Cond.code yX6_refuseNoName cX6_refuseNoName 1 none, Cond.methodLink RX6 70 yX6_refuseNoRange, Cond.static yX6_refuseNoRange, Cond.code yX6_refuseNoRange cX6_refuseNoRange 2 none, Cond.classLink RX6 104 "java/lang/IllegalArgumentException", Cond.initialized "java/lang/IllegalArgumentException", Cond.methodLink RX6 112 yX6_isValue, Cond.static yX6_isValue, Cond.code yX6_isValue cX6_isValue 1 (some .boolean), Cond.methodLink RX6 74 yX4_lastProduct, Cond.instanceMethod yX4_lastProduct, Cond.selects RX4 yX4_lastProduct yX4_lastProduct, Cond.initialized RX4, Cond.code yX4_lastProduct cX4_lastProduct 2 (some (.object "AlertIndex$Product")), Cond.fieldLink RX4 12 "AlertIndex$Question" "products" "Ljava/util/List;", Cond.classLink RX4 45 "AlertIndex$Product", Cond.methodLink RX4 35 ⟨"java/util/List", "size", "()I"⟩, Cond.methodLink RX4 41 ⟨"java/util/List", "get", "(I)Ljava/lang/Object;"⟩, Cond.methodLink RX6 87 yX5_init, Cond.instanceMethod yX5_init, Cond.code yX5_init cX5_init 5 none, Cond.methodLink RX5 3 objectInit]
def wsL_test_r4 : List Cond := [Cond.instanceMethod objectInit, Cond.code objectInit ⟨#[0xb1]⟩ 1 none, Cond.fieldLink RX5 9 "AlertIndex$Test" "name" "I", Cond.fieldLink RX5 15 "AlertIndex$Test" "low" "I", Cond.fieldLink RX5 18 "AlertIndex$Test" "high" "I", Cond.fieldLink RX5 21 "AlertIndex$Test" "isBarred" "Z", Cond.methodLink RX6 50 ⟨"java/util/List", "add", "(Ljava/lang/Object;)Z"⟩, Cond.selects RJx4a65c ⟨"java/util/List", "add", "(Ljava/lang/Object;)Z"⟩ yJx4a65c_add_9ea2d, Cond.instanceMethod yJx4a65c_add_9ea2d, Cond.code yJx4a65c_add_9ea2d cJx4a65c_add_9ea2d 2 (some .boolean), Cond.fieldLink RJx4a65c 63 "java/util/ArrayList" "modCount" "I", Cond.sameField "java/util/ArrayList" "java/util/AbstractList" "modCount" "I", Cond.methodLink RJx4a65c 131 yJx4a65c_add_72be8, Cond.instanceMethod yJx4a65c_add_72be8, Cond.selects RJx4a65c yJx4a65c_add_72be8 yJx4a65c_add_72be8, Cond.code yJx4a65c_add_72be8 cJx4a65c_add_72be8 4 none, Cond.methodLink RJx4a65c 129 yJx4a65c_grow_d5877, Cond.instanceMethod yJx4a65c_grow_d5877, Cond.selects RJx4a65c yJx4a65c_grow_d5877 yJx4a65c_grow_d5877, Cond.code yJx4a65c_grow_d5877 cJx4a65c_grow_d5877 1 (some (.array (.object "java/lang/Object"))), Cond.methodLink RJx4a65c 69 yJx4a65c_grow_92f84, Cond.instanceMethod yJx4a65c_grow_92f84, Cond.selects RJx4a65c yJx4a65c_grow_92f84 yJx4a65c_grow_92f84, Cond.code yJx4a65c_grow_92f84 cJx4a65c_grow_92f84 4 (some (.array (.object "java/lang/Object")))]
def wsL_test_r5 : List Cond := [Cond.fieldLink RJx4a65c 39 "java/util/ArrayList" "DEFAULTCAPACITY_EMPTY_ELEMENTDATA" "[Ljava/lang/Object;", Cond.methodLink RJx4a65c 79 Lib.Math.max.name, Cond.static Lib.Math.max.name, Cond.initialized "java/lang/Math", Cond.code Lib.Math.max.name Lib.Math.max.code 2 (some .int), Cond.classLink RJx4a65c 7 "java/lang/Object", Cond.methodLink RJx4a65c 73 yJ8_newLength_cabcc, Cond.static yJ8_newLength_cabcc, Cond.initialized RJ8, Cond.code yJ8_newLength_cabcc cJ8_newLength_cabcc 4 (some .int), Cond.methodLink RJ8 194 Lib.Math.max.name, Cond.constant RJ8 200 (2147483639), Cond.methodLink RJ8 201 yJ8_hugeLength_7cf53, Cond.static yJ8_hugeLength_7cf53, Cond.code yJ8_hugeLength_7cf53 cJ8_hugeLength_7cf53 3 (some .int), Cond.methodLink RJx4a65c 66 yJ7_copyOf_1904c, Cond.static yJ7_copyOf_1904c, Cond.initialized RJ7, Cond.code yJ7_copyOf_1904c cJ7_copyOf_1904c 2 (some (.array (.object "java/lang/Object"))), Cond.methodLink RJ7 86 ⟨"java/lang/Object", "getClass", "()Ljava/lang/Class;"⟩, Cond.selects "[Ljava/lang/Object;" ⟨"java/lang/Object", "getClass", "()Ljava/lang/Class;"⟩ ⟨"java/lang/Object", "getClass", "()Ljava/lang/Class;"⟩, Cond.instanceMethod ⟨"java/lang/Object", "getClass", "()Ljava/lang/Class;"⟩, Cond.native ⟨"java/lang/Object", "getClass", "()Ljava/lang/Class;"⟩, Cond.methodLink RJ7 300 yJ7_copyOf_6403c]
def wsL_test_r6 : List Cond := [Cond.static yJ7_copyOf_6403c, Cond.code yJ7_copyOf_6403c cJ7_copyOf_6403c 4 (some (.array (.object "java/lang/Object"))), Cond.classLink RJ7 110 "[Ljava/lang/Object;", Cond.classLink RJ7 2 "java/lang/Object", Cond.methodLink RJ7 304 Lib.Math.min.name, Cond.static Lib.Math.min.name, Cond.code Lib.Math.min.name Lib.Math.min.code 2 (some .int), Cond.methodLink RJ7 150 arraycopyName, Cond.native arraycopyName, Cond.static arraycopyName, Cond.initialized "java/lang/System", Cond.methodLink RX6 93 yX1_enter, Cond.instanceMethod yX1_enter, Cond.selects RX1 yX1_enter yX1_enter, Cond.initialized RX1, Cond.code yX1_enter cX1_enter 8 none, Cond.static yX6_levelOfPiece, Cond.code yX6_levelOfPiece cX6_levelOfPiece 4 (some .int), Cond.methodLink RX1 21 yX1_post, Cond.instanceMethod yX1_post, Cond.selects RX1 yX1_post yX1_post, Cond.code yX1_post cX1_post 3 none, Cond.fieldLink RX1 13 "AlertIndex$PieceIndex" "firsts" "[LAlertIndex$Posting;", Cond.classLink RX1 11 RX2]
def wsL_test_r7 : List Cond := [Cond.instantiable RX2 2, Cond.initialized RX2, Cond.methodLink RX1 25 yX2_init, Cond.instanceMethod yX2_init, Cond.code yX2_init cX2_init 3 none, Cond.methodLink RX2 1 objectInit, Cond.fieldLink RX2 7 "AlertIndex$Posting" "product" "LAlertIndex$Product;", Cond.fieldLink RX2 13 "AlertIndex$Posting" "next" "LAlertIndex$Posting;"]
def wsL_test : List Cond := .codeWith yL_test cL_test 8 (some .int) [(0, 16, 19, 19), (0, 16, 23, 25), (0, 16, 27, 13)] :: ((wsL_test_r1 ++ (wsL_test_r2 ++ (wsL_test_r3 ++ (wsL_test_r4 ++ (wsL_test_r5 ++ (wsL_test_r6 ++ wsL_test_r7)))))) ++ wsX30 ++ wsX50 ++ wsX60 ++ wsX40 ++ wsJx4a65c0 ++ wsX10 ++ wsX20 ++ (vx_atS RX6 44 "java/lang/IllegalStateException" ["java/lang/RuntimeException", "java/lang/Exception"]).filter goodWord ++ (vx_atS RX6 161 "java/lang/IndexOutOfBoundsException" ["java/lang/RuntimeException", "java/lang/Exception"]).filter goodWord ++ (vx_atS RX6 108 "java/lang/IllegalArgumentException" ["java/lang/RuntimeException", "java/lang/Exception"]).filter goodWord)
def wsL_drop_r1 : List Cond := [Cond.classLink RL 19 "java/lang/IndexOutOfBoundsException", Cond.methodLink RL 27 yX6_drop, Cond.instanceMethod yX6_drop, Cond.selects RX6 yX6_drop yX6_drop, Cond.initialized RX6, Cond.code yX6_drop cX6_drop 3 (some .int), Cond.fieldLink RX6 97 "AlertIndex$Question" "isDropped" "Z", Cond.fieldLink RX6 101 "AlertIndex$Question" "batch" "I", Cond.methodLink RX6 54 yX6_questionOf, Cond.instanceMethod yX6_questionOf, Cond.selects RX6 yX6_questionOf yX6_questionOf, Cond.code yX6_questionOf cX6_questionOf 3 (some (.object "AlertIndex$Question")), Cond.classLink RX6 157 "java/lang/IndexOutOfBoundsException", Cond.initialized "java/lang/IndexOutOfBoundsException", Cond.fieldLink RX6 10 "AlertIndex" "questions" "Ljava/util/List;", Cond.classLink RX6 47 "AlertIndex$Question", Cond.methodLink RX6 34 ⟨"java/util/List", "size", "()I"⟩, Cond.selects RJx4a65c ⟨"java/util/List", "size", "()I"⟩ yJx4a65c_size_8abf5, Cond.instanceMethod yJx4a65c_size_8abf5, Cond.initialized RJx4a65c, Cond.code yJx4a65c_size_8abf5 cJx4a65c_size_8abf5 1 (some .int), Cond.fieldLink RJx4a65c 48 "java/util/ArrayList" "size" "I", Cond.methodLink RX6 122 ⟨"java/util/List", "get", "(I)Ljava/lang/Object;"⟩, Cond.selects RJx4a65c ⟨"java/util/List", "get", "(I)Ljava/lang/Object;"⟩ yJx4a65c_get_915e3]
def wsL_drop_r2 : List Cond := [Cond.instanceMethod yJx4a65c_get_915e3, Cond.code yJx4a65c_get_915e3 cJx4a65c_get_915e3 2 (some (.object "java/lang/Object")), Cond.methodLink RJx4a65c 118 yJ15_checkIndex_7cf53, Cond.static yJ15_checkIndex_7cf53, Cond.initialized RJ15, Cond.code yJ15_checkIndex_7cf53 cJ15_checkIndex_7cf53 2 (some .int), Cond.methodLink RJ15 105 yJ3_checkIndex_8e157, Cond.static yJ3_checkIndex_8e157, Cond.initialized RJ3, Cond.code yJ3_checkIndex_8e157 cJ3_checkIndex_8e157 3 (some .int), Cond.methodLink RJx4a65c 123 yJx4a65c_elementData_915e3, Cond.instanceMethod yJx4a65c_elementData_915e3, Cond.selects RJx4a65c yJx4a65c_elementData_915e3 yJx4a65c_elementData_915e3, Cond.code yJx4a65c_elementData_915e3 cJx4a65c_elementData_915e3 2 (some (.object "java/lang/Object")), Cond.fieldLink RJx4a65c 9 "java/util/ArrayList" "elementData" "[Ljava/lang/Object;"]
def wsL_drop : List Cond := .codeWith yL_drop cL_drop 4 (some .int) [(0, 9, 12, 19)] :: ((wsL_drop_r1 ++ wsL_drop_r2) ++ wsX40 ++ wsX60 ++ wsJx4a65c0 ++ (vx_atS RX6 161 "java/lang/IndexOutOfBoundsException" ["java/lang/RuntimeException", "java/lang/Exception"]).filter goodWord)
def wsL_setQuiet_r1 : List Cond := [Cond.classLink RL 19 "java/lang/IndexOutOfBoundsException", Cond.classLink RL 25 "java/lang/IllegalArgumentException", Cond.methodLink RL 30 yX6_setQuiet, Cond.instanceMethod yX6_setQuiet, Cond.selects RX6 yX6_setQuiet yX6_setQuiet, Cond.initialized RX6, Cond.code yX6_setQuiet cX6_setQuiet 5 (some .int), Cond.classLink RX6 104 "java/lang/IllegalArgumentException", Cond.initialized "java/lang/IllegalArgumentException", Cond.fieldLink RX6 109 "AlertIndex$Question" "quietMinutes" "I", Cond.methodLink RX6 54 yX6_questionOf, Cond.instanceMethod yX6_questionOf, Cond.selects RX6 yX6_questionOf yX6_questionOf, Cond.code yX6_questionOf cX6_questionOf 3 (some (.object "AlertIndex$Question")), Cond.classLink RX6 157 "java/lang/IndexOutOfBoundsException", Cond.initialized "java/lang/IndexOutOfBoundsException", Cond.fieldLink RX6 10 "AlertIndex" "questions" "Ljava/util/List;", Cond.classLink RX6 47 "AlertIndex$Question", Cond.fieldLink RX6 97 "AlertIndex$Question" "isDropped" "Z", Cond.methodLink RX6 34 ⟨"java/util/List", "size", "()I"⟩, Cond.selects RJx4a65c ⟨"java/util/List", "size", "()I"⟩ yJx4a65c_size_8abf5, Cond.instanceMethod yJx4a65c_size_8abf5, Cond.initialized RJx4a65c, Cond.code yJx4a65c_size_8abf5 cJx4a65c_size_8abf5 1 (some .int)]
def wsL_setQuiet_r2 : List Cond := [Cond.fieldLink RJx4a65c 48 "java/util/ArrayList" "size" "I", Cond.methodLink RX6 122 ⟨"java/util/List", "get", "(I)Ljava/lang/Object;"⟩, Cond.selects RJx4a65c ⟨"java/util/List", "get", "(I)Ljava/lang/Object;"⟩ yJx4a65c_get_915e3, Cond.instanceMethod yJx4a65c_get_915e3, Cond.code yJx4a65c_get_915e3 cJx4a65c_get_915e3 2 (some (.object "java/lang/Object")), Cond.methodLink RJx4a65c 118 yJ15_checkIndex_7cf53, Cond.static yJ15_checkIndex_7cf53, Cond.initialized RJ15, Cond.code yJ15_checkIndex_7cf53 cJ15_checkIndex_7cf53 2 (some .int), Cond.methodLink RJ15 105 yJ3_checkIndex_8e157, Cond.static yJ3_checkIndex_8e157, Cond.initialized RJ3, Cond.code yJ3_checkIndex_8e157 cJ3_checkIndex_8e157 3 (some .int), Cond.methodLink RJx4a65c 123 yJx4a65c_elementData_915e3, Cond.instanceMethod yJx4a65c_elementData_915e3, Cond.selects RJx4a65c yJx4a65c_elementData_915e3 yJx4a65c_elementData_915e3, Cond.code yJx4a65c_elementData_915e3 cJx4a65c_elementData_915e3 2 (some (.object "java/lang/Object")), Cond.fieldLink RJx4a65c 9 "java/util/ArrayList" "elementData" "[Ljava/lang/Object;"]
def wsL_setQuiet : List Cond := .codeWith yL_setQuiet cL_setQuiet 5 (some .int) [(0, 10, 13, 19), (0, 10, 17, 25)] :: ((wsL_setQuiet_r1 ++ wsL_setQuiet_r2) ++ wsX40 ++ wsX60 ++ wsJx4a65c0 ++ (vx_atS RX6 108 "java/lang/IllegalArgumentException" ["java/lang/RuntimeException", "java/lang/Exception"]).filter goodWord ++ (vx_atS RX6 161 "java/lang/IndexOutOfBoundsException" ["java/lang/RuntimeException", "java/lang/Exception"]).filter goodWord)
def wsL_set_r1 : List Cond := [Cond.classLink RL 19 "java/lang/IndexOutOfBoundsException", Cond.classLink RL 25 "java/lang/IllegalArgumentException", Cond.methodLink RL 34 yX6_set, Cond.instanceMethod yX6_set, Cond.selects RX6 yX6_set yX6_set, Cond.initialized RX6, Cond.code yX6_set cX6_set 3 (some .int), Cond.classLink RX6 104 "java/lang/IllegalArgumentException", Cond.initialized "java/lang/IllegalArgumentException", Cond.fieldLink RX6 19 "AlertIndex" "draft" "LAlertIndex$Draft;", Cond.methodLink RX6 66 yX6_refuseNoName, Cond.static yX6_refuseNoName, Cond.code yX6_refuseNoName cX6_refuseNoName 1 none, Cond.classLink RX6 157 "java/lang/IndexOutOfBoundsException", Cond.initialized "java/lang/IndexOutOfBoundsException", Cond.methodLink RX6 112 yX6_isValue, Cond.static yX6_isValue, Cond.code yX6_isValue cX6_isValue 1 (some .boolean), Cond.methodLink RX6 118 yX0_replace, Cond.instanceMethod yX0_replace, Cond.selects RX0 yX0_replace yX0_replace, Cond.initialized RX0, Cond.code yX0_replace cX0_replace 4 (some .int), Cond.fieldLink RX0 9 "AlertIndex$Draft" "values" "[I"]
def wsL_set_r2 : List Cond := [Cond.methodLink RX0 21 yX0_valueOf, Cond.instanceMethod yX0_valueOf, Cond.selects RX0 yX0_valueOf yX0_valueOf, Cond.code yX0_valueOf cX0_valueOf 2 (some .int)]
def wsL_set : List Cond := .codeWith yL_set cL_set 5 (some .int) [(0, 10, 13, 19), (0, 10, 17, 25)] :: ((wsL_set_r1 ++ wsL_set_r2) ++ wsX60 ++ wsX00 ++ (vx_atS RX6 108 "java/lang/IllegalArgumentException" ["java/lang/RuntimeException", "java/lang/Exception"]).filter goodWord ++ (vx_atS RX6 161 "java/lang/IndexOutOfBoundsException" ["java/lang/RuntimeException", "java/lang/Exception"]).filter goodWord)
def wsL_advance_r1 : List Cond := [Cond.classLink RL 25 "java/lang/IllegalArgumentException", Cond.classLink RL 13 "java/lang/IllegalStateException", Cond.methodLink RL 37 yX6_advance, Cond.instanceMethod yX6_advance, Cond.selects RX6 yX6_advance yX6_advance, Cond.initialized RX6, Cond.code yX6_advance cX6_advance 4 (some .int), Cond.classLink RX6 104 "java/lang/IllegalArgumentException", Cond.initialized "java/lang/IllegalArgumentException", Cond.classLink RX6 40 "java/lang/IllegalStateException", Cond.initialized "java/lang/IllegalStateException", Cond.constant RX6 135 (1000000), Cond.fieldLink RX6 30 "AlertIndex" "minute" "I", Cond.fieldLink RX6 10 "AlertIndex" "questions" "Ljava/util/List;", Cond.classLink RX6 47 "AlertIndex$Question", Cond.methodLink RX6 34 ⟨"java/util/List", "size", "()I"⟩, Cond.selects RJx4a65c ⟨"java/util/List", "size", "()I"⟩ yJx4a65c_size_8abf5, Cond.instanceMethod yJx4a65c_size_8abf5, Cond.initialized RJx4a65c, Cond.code yJx4a65c_size_8abf5 cJx4a65c_size_8abf5 1 (some .int), Cond.fieldLink RJx4a65c 48 "java/util/ArrayList" "size" "I", Cond.methodLink RX6 122 ⟨"java/util/List", "get", "(I)Ljava/lang/Object;"⟩, Cond.selects RJx4a65c ⟨"java/util/List", "get", "(I)Ljava/lang/Object;"⟩ yJx4a65c_get_915e3, Cond.instanceMethod yJx4a65c_get_915e3]
def wsL_advance_r2 : List Cond := [Cond.code yJx4a65c_get_915e3 cJx4a65c_get_915e3 2 (some (.object "java/lang/Object")), Cond.methodLink RJx4a65c 118 yJ15_checkIndex_7cf53, Cond.static yJ15_checkIndex_7cf53, Cond.initialized RJ15, Cond.code yJ15_checkIndex_7cf53 cJ15_checkIndex_7cf53 2 (some .int), Cond.methodLink RJ15 105 yJ3_checkIndex_8e157, Cond.static yJ3_checkIndex_8e157, Cond.initialized RJ3, Cond.code yJ3_checkIndex_8e157 cJ3_checkIndex_8e157 3 (some .int), Cond.methodLink RJx4a65c 123 yJx4a65c_elementData_915e3, Cond.instanceMethod yJx4a65c_elementData_915e3, Cond.selects RJx4a65c yJx4a65c_elementData_915e3 yJx4a65c_elementData_915e3, Cond.code yJx4a65c_elementData_915e3 cJx4a65c_elementData_915e3 2 (some (.object "java/lang/Object")), Cond.fieldLink RJx4a65c 9 "java/util/ArrayList" "elementData" "[Ljava/lang/Object;", Cond.methodLink RX6 138 yX4_sendBatch, Cond.instanceMethod yX4_sendBatch, Cond.selects RX4 yX4_sendBatch yX4_sendBatch, Cond.initialized RX4, Cond.code yX4_sendBatch cX4_sendBatch 2 (some .boolean), Cond.fieldLink RX4 18 "AlertIndex$Question" "isDropped" "Z", Cond.fieldLink RX4 32 "AlertIndex$Question" "batch" "I", Cond.fieldLink RX4 26 "AlertIndex$Question" "quietUntil" "I", Cond.methodLink RX4 70 yX4_isQuietAt, Cond.instanceMethod yX4_isQuietAt]
def wsL_advance_r3 : List Cond := [Cond.selects RX4 yX4_isQuietAt yX4_isQuietAt, Cond.code yX4_isQuietAt cX4_isQuietAt 2 (some .boolean), Cond.methodLink RX4 74 yX4_raiseAlert, Cond.instanceMethod yX4_raiseAlert, Cond.selects RX4 yX4_raiseAlert yX4_raiseAlert, Cond.code yX4_raiseAlert cX4_raiseAlert 2 none, Cond.fieldLink RX4 29 "AlertIndex$Question" "alerts" "I", Cond.fieldLink RX4 22 "AlertIndex$Question" "quietMinutes" "I"]
def wsL_advance : List Cond := .codeWith yL_advance cL_advance 4 (some .int) [(0, 9, 12, 25), (0, 9, 15, 13)] :: ((wsL_advance_r1 ++ (wsL_advance_r2 ++ wsL_advance_r3)) ++ wsX60 ++ wsJx4a65c0 ++ wsX40 ++ (vx_atS RX6 108 "java/lang/IllegalArgumentException" ["java/lang/RuntimeException", "java/lang/Exception"]).filter goodWord ++ (vx_atS RX6 44 "java/lang/IllegalStateException" ["java/lang/RuntimeException", "java/lang/Exception"]).filter goodWord)
def wsL_satisfies_r1 : List Cond := [Cond.classLink RL 19 "java/lang/IndexOutOfBoundsException", Cond.methodLink RL 40 yX6_satisfies, Cond.instanceMethod yX6_satisfies, Cond.selects RX6 yX6_satisfies yX6_satisfies, Cond.initialized RX6, Cond.code yX6_satisfies cX6_satisfies 2 (some .boolean), Cond.fieldLink RX6 19 "AlertIndex" "draft" "LAlertIndex$Draft;", Cond.methodLink RX6 54 yX6_questionOf, Cond.instanceMethod yX6_questionOf, Cond.selects RX6 yX6_questionOf yX6_questionOf, Cond.code yX6_questionOf cX6_questionOf 3 (some (.object "AlertIndex$Question")), Cond.classLink RX6 157 "java/lang/IndexOutOfBoundsException", Cond.initialized "java/lang/IndexOutOfBoundsException", Cond.fieldLink RX6 10 "AlertIndex" "questions" "Ljava/util/List;", Cond.classLink RX6 47 "AlertIndex$Question", Cond.fieldLink RX6 97 "AlertIndex$Question" "isDropped" "Z", Cond.methodLink RX6 34 ⟨"java/util/List", "size", "()I"⟩, Cond.selects RJx4a65c ⟨"java/util/List", "size", "()I"⟩ yJx4a65c_size_8abf5, Cond.instanceMethod yJx4a65c_size_8abf5, Cond.initialized RJx4a65c, Cond.code yJx4a65c_size_8abf5 cJx4a65c_size_8abf5 1 (some .int), Cond.fieldLink RJx4a65c 48 "java/util/ArrayList" "size" "I", Cond.methodLink RX6 122 ⟨"java/util/List", "get", "(I)Ljava/lang/Object;"⟩, Cond.selects RJx4a65c ⟨"java/util/List", "get", "(I)Ljava/lang/Object;"⟩ yJx4a65c_get_915e3]
def wsL_satisfies_r2 : List Cond := [Cond.instanceMethod yJx4a65c_get_915e3, Cond.code yJx4a65c_get_915e3 cJx4a65c_get_915e3 2 (some (.object "java/lang/Object")), Cond.methodLink RJx4a65c 118 yJ15_checkIndex_7cf53, Cond.static yJ15_checkIndex_7cf53, Cond.initialized RJ15, Cond.code yJ15_checkIndex_7cf53 cJ15_checkIndex_7cf53 2 (some .int), Cond.methodLink RJ15 105 yJ3_checkIndex_8e157, Cond.static yJ3_checkIndex_8e157, Cond.initialized RJ3, Cond.code yJ3_checkIndex_8e157 cJ3_checkIndex_8e157 3 (some .int), Cond.methodLink RJx4a65c 123 yJx4a65c_elementData_915e3, Cond.instanceMethod yJx4a65c_elementData_915e3, Cond.selects RJx4a65c yJx4a65c_elementData_915e3 yJx4a65c_elementData_915e3, Cond.code yJx4a65c_elementData_915e3 cJx4a65c_elementData_915e3 2 (some (.object "java/lang/Object")), Cond.fieldLink RJx4a65c 9 "java/util/ArrayList" "elementData" "[Ljava/lang/Object;", Cond.methodLink RX6 126 yX4_isSatisfied, Cond.instanceMethod yX4_isSatisfied, Cond.selects RX4 yX4_isSatisfied yX4_isSatisfied, Cond.initialized RX4, Cond.code yX4_isSatisfied cX4_isSatisfied 3 (some .boolean), Cond.fieldLink RX4 18 "AlertIndex$Question" "isDropped" "Z", Cond.fieldLink RX4 12 "AlertIndex$Question" "products" "Ljava/util/List;", Cond.classLink RX4 45 "AlertIndex$Product", Cond.methodLink RX4 35 ⟨"java/util/List", "size", "()I"⟩]
def wsL_satisfies_r3 : List Cond := [Cond.methodLink RX4 41 ⟨"java/util/List", "get", "(I)Ljava/lang/Object;"⟩, Cond.methodLink RX4 60 yX3_isTrue, Cond.instanceMethod yX3_isTrue, Cond.selects RX3 yX3_isTrue yX3_isTrue, Cond.initialized RX3, Cond.code yX3_isTrue cX3_isTrue 3 (some .boolean), Cond.fieldLink RX3 10 "AlertIndex$Product" "tests" "Ljava/util/List;", Cond.classLink RX3 33 "AlertIndex$Test", Cond.methodLink RX3 23 ⟨"java/util/List", "size", "()I"⟩, Cond.methodLink RX3 29 ⟨"java/util/List", "get", "(I)Ljava/lang/Object;"⟩, Cond.methodLink RX3 35 yX5_isTrue, Cond.instanceMethod yX5_isTrue, Cond.selects RX5 yX5_isTrue yX5_isTrue, Cond.initialized RX5, Cond.code yX5_isTrue cX5_isTrue 4 (some .boolean), Cond.fieldLink RX5 9 "AlertIndex$Test" "name" "I", Cond.fieldLink RX5 15 "AlertIndex$Test" "low" "I", Cond.fieldLink RX5 18 "AlertIndex$Test" "high" "I", Cond.fieldLink RX5 21 "AlertIndex$Test" "isBarred" "Z", Cond.methodLink RX5 25 yX0_valueOf, Cond.instanceMethod yX0_valueOf, Cond.selects RX0 yX0_valueOf yX0_valueOf, Cond.initialized RX0, Cond.code yX0_valueOf cX0_valueOf 2 (some .int)]
def wsL_satisfies_r4 : List Cond := [Cond.fieldLink RX0 9 "AlertIndex$Draft" "values" "[I"]
def wsL_satisfies : List Cond := .codeWith yL_satisfies cL_satisfies 4 (some .int) [(0, 16, 19, 19)] :: ((wsL_satisfies_r1 ++ (wsL_satisfies_r2 ++ (wsL_satisfies_r3 ++ wsL_satisfies_r4))) ++ wsX60 ++ wsX40 ++ wsJx4a65c0 ++ wsX30 ++ wsX50 ++ wsX00 ++ (vx_atS RX6 161 "java/lang/IndexOutOfBoundsException" ["java/lang/RuntimeException", "java/lang/Exception"]).filter goodWord)
def wsL_sizeOf_r1 : List Cond := [Cond.classLink RL 19 "java/lang/IndexOutOfBoundsException", Cond.methodLink RL 44 yX6_sizeOf, Cond.instanceMethod yX6_sizeOf, Cond.selects RX6 yX6_sizeOf yX6_sizeOf, Cond.initialized RX6, Cond.code yX6_sizeOf cX6_sizeOf 2 (some .int), Cond.methodLink RX6 54 yX6_questionOf, Cond.instanceMethod yX6_questionOf, Cond.selects RX6 yX6_questionOf yX6_questionOf, Cond.code yX6_questionOf cX6_questionOf 3 (some (.object "AlertIndex$Question")), Cond.classLink RX6 157 "java/lang/IndexOutOfBoundsException", Cond.initialized "java/lang/IndexOutOfBoundsException", Cond.fieldLink RX6 10 "AlertIndex" "questions" "Ljava/util/List;", Cond.classLink RX6 47 "AlertIndex$Question", Cond.fieldLink RX6 97 "AlertIndex$Question" "isDropped" "Z", Cond.methodLink RX6 34 ⟨"java/util/List", "size", "()I"⟩, Cond.selects RJx4a65c ⟨"java/util/List", "size", "()I"⟩ yJx4a65c_size_8abf5, Cond.instanceMethod yJx4a65c_size_8abf5, Cond.initialized RJx4a65c, Cond.code yJx4a65c_size_8abf5 cJx4a65c_size_8abf5 1 (some .int), Cond.fieldLink RJx4a65c 48 "java/util/ArrayList" "size" "I", Cond.methodLink RX6 122 ⟨"java/util/List", "get", "(I)Ljava/lang/Object;"⟩, Cond.selects RJx4a65c ⟨"java/util/List", "get", "(I)Ljava/lang/Object;"⟩ yJx4a65c_get_915e3, Cond.instanceMethod yJx4a65c_get_915e3]
def wsL_sizeOf_r2 : List Cond := [Cond.code yJx4a65c_get_915e3 cJx4a65c_get_915e3 2 (some (.object "java/lang/Object")), Cond.methodLink RJx4a65c 118 yJ15_checkIndex_7cf53, Cond.static yJ15_checkIndex_7cf53, Cond.initialized RJ15, Cond.code yJ15_checkIndex_7cf53 cJ15_checkIndex_7cf53 2 (some .int), Cond.methodLink RJ15 105 yJ3_checkIndex_8e157, Cond.static yJ3_checkIndex_8e157, Cond.initialized RJ3, Cond.code yJ3_checkIndex_8e157 cJ3_checkIndex_8e157 3 (some .int), Cond.methodLink RJx4a65c 123 yJx4a65c_elementData_915e3, Cond.instanceMethod yJx4a65c_elementData_915e3, Cond.selects RJx4a65c yJx4a65c_elementData_915e3 yJx4a65c_elementData_915e3, Cond.code yJx4a65c_elementData_915e3 cJx4a65c_elementData_915e3 2 (some (.object "java/lang/Object")), Cond.fieldLink RJx4a65c 9 "java/util/ArrayList" "elementData" "[Ljava/lang/Object;", Cond.methodLink RX6 151 yX4_leastSize, Cond.instanceMethod yX4_leastSize, Cond.selects RX4 yX4_leastSize yX4_leastSize, Cond.initialized RX4, Cond.code yX4_leastSize cX4_leastSize 3 (some .int), Cond.fieldLink RX4 12 "AlertIndex$Question" "products" "Ljava/util/List;", Cond.classLink RX4 45 "AlertIndex$Product", Cond.fieldLink RX4 47 "AlertIndex$Product" "plainTests" "I", Cond.methodLink RX4 50 Lib.Math.min.name, Cond.static Lib.Math.min.name]
def wsL_sizeOf_r3 : List Cond := [Cond.initialized "java/lang/Math", Cond.code Lib.Math.min.name Lib.Math.min.code 2 (some .int), Cond.methodLink RX4 35 ⟨"java/util/List", "size", "()I"⟩, Cond.methodLink RX4 41 ⟨"java/util/List", "get", "(I)Ljava/lang/Object;"⟩, Cond.methodLink RX4 56 ⟨"java/util/List", "isEmpty", "()Z"⟩, Cond.selects RJx4a65c ⟨"java/util/List", "isEmpty", "()Z"⟩ yJx4a65c_isEmpty_aae02, Cond.instanceMethod yJx4a65c_isEmpty_aae02, Cond.code yJx4a65c_isEmpty_aae02 cJx4a65c_isEmpty_aae02 1 (some .boolean)]
def wsL_sizeOf : List Cond := .codeWith yL_sizeOf cL_sizeOf 4 (some .int) [(0, 9, 12, 19)] :: ((wsL_sizeOf_r1 ++ (wsL_sizeOf_r2 ++ wsL_sizeOf_r3)) ++ wsX60 ++ wsX40 ++ wsJx4a65c0 ++ wsX30 ++ (vx_atS RX6 161 "java/lang/IndexOutOfBoundsException" ["java/lang/RuntimeException", "java/lang/Exception"]).filter goodWord)
def wsL_pieces : List Cond := .codeWith yL_pieces cL_pieces 5 (some .int) [(0, 10, 13, 25)] :: ([.classLink RL 25 "java/lang/IllegalArgumentException", .methodLink RL 47 yX6_pieces, .instanceMethod yX6_pieces, .selects RX6 yX6_pieces yX6_pieces, .initialized RX6, .code yX6_pieces cX6_pieces 5 (some .int), .methodLink RX6 70 yX6_refuseNoRange, .static yX6_refuseNoRange, .code yX6_refuseNoRange cX6_refuseNoRange 2 none, .classLink RX6 104 "java/lang/IllegalArgumentException", .initialized "java/lang/IllegalArgumentException", .methodLink RX6 112 yX6_isValue, .static yX6_isValue, .code yX6_isValue cX6_isValue 1 (some .boolean), .methodLink RX6 154 yX6_levelOfPiece, .static yX6_levelOfPiece, .code yX6_levelOfPiece cX6_levelOfPiece 4 (some .int)] ++ (vx_atS RX6 108 "java/lang/IllegalArgumentException" ["java/lang/RuntimeException", "java/lang/Exception"]).filter goodWord)
def wsL_pieceAt : List Cond := .codeWith yL_pieceAt cL_pieceAt 6 (some .int) [(0, 12, 15, 19), (0, 12, 19, 25)] :: ([.classLink RL 19 "java/lang/IndexOutOfBoundsException", .classLink RL 25 "java/lang/IllegalArgumentException", .methodLink RL 50 yX6_pieceAt, .instanceMethod yX6_pieceAt, .selects RX6 yX6_pieceAt yX6_pieceAt, .initialized RX6, .code yX6_pieceAt cX6_pieceAt 6 (some .int), .classLink RX6 157 "java/lang/IndexOutOfBoundsException", .initialized "java/lang/IndexOutOfBoundsException", .methodLink RX6 70 yX6_refuseNoRange, .static yX6_refuseNoRange, .code yX6_refuseNoRange cX6_refuseNoRange 2 none, .classLink RX6 104 "java/lang/IllegalArgumentException", .initialized "java/lang/IllegalArgumentException", .methodLink RX6 112 yX6_isValue, .static yX6_isValue, .code yX6_isValue cX6_isValue 1 (some .boolean), .methodLink RX6 154 yX6_levelOfPiece, .static yX6_levelOfPiece, .code yX6_levelOfPiece cX6_levelOfPiece 4 (some .int)] ++ (vx_atS RX6 161 "java/lang/IndexOutOfBoundsException" ["java/lang/RuntimeException", "java/lang/Exception"]).filter goodWord ++ (vx_atS RX6 108 "java/lang/IllegalArgumentException" ["java/lang/RuntimeException", "java/lang/Exception"]).filter goodWord)
def wsL_isQuiet_r1 : List Cond := [Cond.classLink RL 19 "java/lang/IndexOutOfBoundsException", Cond.methodLink RL 54 yX6_isQuiet, Cond.instanceMethod yX6_isQuiet, Cond.selects RX6 yX6_isQuiet yX6_isQuiet, Cond.initialized RX6, Cond.code yX6_isQuiet cX6_isQuiet 2 (some .boolean), Cond.fieldLink RX6 30 "AlertIndex" "minute" "I", Cond.methodLink RX6 54 yX6_questionOf, Cond.instanceMethod yX6_questionOf, Cond.selects RX6 yX6_questionOf yX6_questionOf, Cond.code yX6_questionOf cX6_questionOf 3 (some (.object "AlertIndex$Question")), Cond.classLink RX6 157 "java/lang/IndexOutOfBoundsException", Cond.initialized "java/lang/IndexOutOfBoundsException", Cond.fieldLink RX6 10 "AlertIndex" "questions" "Ljava/util/List;", Cond.classLink RX6 47 "AlertIndex$Question", Cond.fieldLink RX6 97 "AlertIndex$Question" "isDropped" "Z", Cond.methodLink RX6 34 ⟨"java/util/List", "size", "()I"⟩, Cond.selects RJx4a65c ⟨"java/util/List", "size", "()I"⟩ yJx4a65c_size_8abf5, Cond.instanceMethod yJx4a65c_size_8abf5, Cond.initialized RJx4a65c, Cond.code yJx4a65c_size_8abf5 cJx4a65c_size_8abf5 1 (some .int), Cond.fieldLink RJx4a65c 48 "java/util/ArrayList" "size" "I", Cond.methodLink RX6 122 ⟨"java/util/List", "get", "(I)Ljava/lang/Object;"⟩, Cond.selects RJx4a65c ⟨"java/util/List", "get", "(I)Ljava/lang/Object;"⟩ yJx4a65c_get_915e3]
def wsL_isQuiet_r2 : List Cond := [Cond.instanceMethod yJx4a65c_get_915e3, Cond.code yJx4a65c_get_915e3 cJx4a65c_get_915e3 2 (some (.object "java/lang/Object")), Cond.methodLink RJx4a65c 118 yJ15_checkIndex_7cf53, Cond.static yJ15_checkIndex_7cf53, Cond.initialized RJ15, Cond.code yJ15_checkIndex_7cf53 cJ15_checkIndex_7cf53 2 (some .int), Cond.methodLink RJ15 105 yJ3_checkIndex_8e157, Cond.static yJ3_checkIndex_8e157, Cond.initialized RJ3, Cond.code yJ3_checkIndex_8e157 cJ3_checkIndex_8e157 3 (some .int), Cond.methodLink RJx4a65c 123 yJx4a65c_elementData_915e3, Cond.instanceMethod yJx4a65c_elementData_915e3, Cond.selects RJx4a65c yJx4a65c_elementData_915e3 yJx4a65c_elementData_915e3, Cond.code yJx4a65c_elementData_915e3 cJx4a65c_elementData_915e3 2 (some (.object "java/lang/Object")), Cond.fieldLink RJx4a65c 9 "java/util/ArrayList" "elementData" "[Ljava/lang/Object;", Cond.methodLink RX6 162 yX4_isQuietAt, Cond.instanceMethod yX4_isQuietAt, Cond.selects RX4 yX4_isQuietAt yX4_isQuietAt, Cond.initialized RX4, Cond.code yX4_isQuietAt cX4_isQuietAt 2 (some .boolean), Cond.fieldLink RX4 26 "AlertIndex$Question" "quietUntil" "I"]
def wsL_isQuiet : List Cond := .codeWith yL_isQuiet cL_isQuiet 4 (some .int) [(0, 16, 19, 19)] :: ((wsL_isQuiet_r1 ++ wsL_isQuiet_r2) ++ wsX60 ++ wsX40 ++ wsJx4a65c0 ++ (vx_atS RX6 161 "java/lang/IndexOutOfBoundsException" ["java/lang/RuntimeException", "java/lang/Exception"]).filter goodWord)
def wsL_alerts_r1 : List Cond := [Cond.classLink RL 19 "java/lang/IndexOutOfBoundsException", Cond.methodLink RL 57 yX6_alerts, Cond.instanceMethod yX6_alerts, Cond.selects RX6 yX6_alerts yX6_alerts, Cond.initialized RX6, Cond.code yX6_alerts cX6_alerts 2 (some .int), Cond.fieldLink RX6 165 "AlertIndex$Question" "alerts" "I", Cond.methodLink RX6 54 yX6_questionOf, Cond.instanceMethod yX6_questionOf, Cond.selects RX6 yX6_questionOf yX6_questionOf, Cond.code yX6_questionOf cX6_questionOf 3 (some (.object "AlertIndex$Question")), Cond.classLink RX6 157 "java/lang/IndexOutOfBoundsException", Cond.initialized "java/lang/IndexOutOfBoundsException", Cond.fieldLink RX6 10 "AlertIndex" "questions" "Ljava/util/List;", Cond.classLink RX6 47 "AlertIndex$Question", Cond.fieldLink RX6 97 "AlertIndex$Question" "isDropped" "Z", Cond.methodLink RX6 34 ⟨"java/util/List", "size", "()I"⟩, Cond.selects RJx4a65c ⟨"java/util/List", "size", "()I"⟩ yJx4a65c_size_8abf5, Cond.instanceMethod yJx4a65c_size_8abf5, Cond.initialized RJx4a65c, Cond.code yJx4a65c_size_8abf5 cJx4a65c_size_8abf5 1 (some .int), Cond.fieldLink RJx4a65c 48 "java/util/ArrayList" "size" "I", Cond.methodLink RX6 122 ⟨"java/util/List", "get", "(I)Ljava/lang/Object;"⟩, Cond.selects RJx4a65c ⟨"java/util/List", "get", "(I)Ljava/lang/Object;"⟩ yJx4a65c_get_915e3]
def wsL_alerts_r2 : List Cond := [Cond.instanceMethod yJx4a65c_get_915e3, Cond.code yJx4a65c_get_915e3 cJx4a65c_get_915e3 2 (some (.object "java/lang/Object")), Cond.methodLink RJx4a65c 118 yJ15_checkIndex_7cf53, Cond.static yJ15_checkIndex_7cf53, Cond.initialized RJ15, Cond.code yJ15_checkIndex_7cf53 cJ15_checkIndex_7cf53 2 (some .int), Cond.methodLink RJ15 105 yJ3_checkIndex_8e157, Cond.static yJ3_checkIndex_8e157, Cond.initialized RJ3, Cond.code yJ3_checkIndex_8e157 cJ3_checkIndex_8e157 3 (some .int), Cond.methodLink RJx4a65c 123 yJx4a65c_elementData_915e3, Cond.instanceMethod yJx4a65c_elementData_915e3, Cond.selects RJx4a65c yJx4a65c_elementData_915e3 yJx4a65c_elementData_915e3, Cond.code yJx4a65c_elementData_915e3 cJx4a65c_elementData_915e3 2 (some (.object "java/lang/Object")), Cond.fieldLink RJx4a65c 9 "java/util/ArrayList" "elementData" "[Ljava/lang/Object;"]
def wsL_alerts : List Cond := .codeWith yL_alerts cL_alerts 4 (some .int) [(0, 9, 12, 19)] :: ((wsL_alerts_r1 ++ wsL_alerts_r2) ++ wsX40 ++ wsX60 ++ wsJx4a65c0 ++ (vx_atS RX6 161 "java/lang/IndexOutOfBoundsException" ["java/lang/RuntimeException", "java/lang/Exception"]).filter goodWord)
def wsL_batch_r1 : List Cond := [Cond.classLink RL 19 "java/lang/IndexOutOfBoundsException", Cond.methodLink RL 60 yX6_batch, Cond.instanceMethod yX6_batch, Cond.selects RX6 yX6_batch yX6_batch, Cond.initialized RX6, Cond.code yX6_batch cX6_batch 2 (some .int), Cond.fieldLink RX6 101 "AlertIndex$Question" "batch" "I", Cond.methodLink RX6 54 yX6_questionOf, Cond.instanceMethod yX6_questionOf, Cond.selects RX6 yX6_questionOf yX6_questionOf, Cond.code yX6_questionOf cX6_questionOf 3 (some (.object "AlertIndex$Question")), Cond.classLink RX6 157 "java/lang/IndexOutOfBoundsException", Cond.initialized "java/lang/IndexOutOfBoundsException", Cond.fieldLink RX6 10 "AlertIndex" "questions" "Ljava/util/List;", Cond.classLink RX6 47 "AlertIndex$Question", Cond.fieldLink RX6 97 "AlertIndex$Question" "isDropped" "Z", Cond.methodLink RX6 34 ⟨"java/util/List", "size", "()I"⟩, Cond.selects RJx4a65c ⟨"java/util/List", "size", "()I"⟩ yJx4a65c_size_8abf5, Cond.instanceMethod yJx4a65c_size_8abf5, Cond.initialized RJx4a65c, Cond.code yJx4a65c_size_8abf5 cJx4a65c_size_8abf5 1 (some .int), Cond.fieldLink RJx4a65c 48 "java/util/ArrayList" "size" "I", Cond.methodLink RX6 122 ⟨"java/util/List", "get", "(I)Ljava/lang/Object;"⟩, Cond.selects RJx4a65c ⟨"java/util/List", "get", "(I)Ljava/lang/Object;"⟩ yJx4a65c_get_915e3]
def wsL_batch_r2 : List Cond := [Cond.instanceMethod yJx4a65c_get_915e3, Cond.code yJx4a65c_get_915e3 cJx4a65c_get_915e3 2 (some (.object "java/lang/Object")), Cond.methodLink RJx4a65c 118 yJ15_checkIndex_7cf53, Cond.static yJ15_checkIndex_7cf53, Cond.initialized RJ15, Cond.code yJ15_checkIndex_7cf53 cJ15_checkIndex_7cf53 2 (some .int), Cond.methodLink RJ15 105 yJ3_checkIndex_8e157, Cond.static yJ3_checkIndex_8e157, Cond.initialized RJ3, Cond.code yJ3_checkIndex_8e157 cJ3_checkIndex_8e157 3 (some .int), Cond.methodLink RJx4a65c 123 yJx4a65c_elementData_915e3, Cond.instanceMethod yJx4a65c_elementData_915e3, Cond.selects RJx4a65c yJx4a65c_elementData_915e3 yJx4a65c_elementData_915e3, Cond.code yJx4a65c_elementData_915e3 cJx4a65c_elementData_915e3 2 (some (.object "java/lang/Object")), Cond.fieldLink RJx4a65c 9 "java/util/ArrayList" "elementData" "[Ljava/lang/Object;"]
def wsL_batch : List Cond := .codeWith yL_batch cL_batch 4 (some .int) [(0, 9, 12, 19)] :: ((wsL_batch_r1 ++ wsL_batch_r2) ++ wsX40 ++ wsX60 ++ wsJx4a65c0 ++ (vx_atS RX6 161 "java/lang/IndexOutOfBoundsException" ["java/lang/RuntimeException", "java/lang/Exception"]).filter goodWord)
def wsL_law0_r1 : List Cond := [Cond.classLink RL 8 RX6, Cond.instantiable RX6 4, Cond.initialized RX6, Cond.classLink RL 64 RX7, Cond.instantiable RX7 15, Cond.initialized RX7, Cond.arrayClass .long, Cond.methodLink RL 63 yX6_init, Cond.instanceMethod yX6_init, Cond.code yX6_init cX6_init 1 none, Cond.methodLink RX6 1 objectInit, Cond.instanceMethod objectInit, Cond.code objectInit ⟨#[0xb1]⟩ 1 none, Cond.classLink RX6 7 RJx4a65c, Cond.instantiable RJx4a65c 3, Cond.initialized RJx4a65c, Cond.fieldLink RX6 10 "AlertIndex" "questions" "Ljava/util/List;", Cond.classLink RX6 16 RX0, Cond.instantiable RX0 1, Cond.initialized RX0, Cond.fieldLink RX6 19 "AlertIndex" "draft" "LAlertIndex$Draft;", Cond.classLink RX6 23 RX1, Cond.instantiable RX1 1, Cond.initialized RX1]
def wsL_law0_r2 : List Cond := [Cond.fieldLink RX6 26 "AlertIndex" "index" "LAlertIndex$PieceIndex;", Cond.fieldLink RX6 30 "AlertIndex" "minute" "I", Cond.methodLink RX6 9 yJx4a65c_init_da8c8, Cond.instanceMethod yJx4a65c_init_da8c8, Cond.code yJx4a65c_init_da8c8 cJx4a65c_init_da8c8 1 none, Cond.fieldLink RJx4a65c 39 "java/util/ArrayList" "DEFAULTCAPACITY_EMPTY_ELEMENTDATA" "[Ljava/lang/Object;", Cond.fieldLink RJx4a65c 9 "java/util/ArrayList" "elementData" "[Ljava/lang/Object;", Cond.methodLink RJx4a65c 1 yJxc12de_init_da8c8, Cond.instanceMethod yJxc12de_init_da8c8, Cond.initialized RJxc12de, Cond.code yJxc12de_init_da8c8 cJxc12de_init_da8c8 1 none, Cond.fieldLink RJxc12de 7 "java/util/AbstractList" "modCount" "I", Cond.methodLink RJxc12de 1 yJxa1e45_init_da8c8, Cond.instanceMethod yJxa1e45_init_da8c8, Cond.initialized RJxa1e45, Cond.code yJxa1e45_init_da8c8 cJxa1e45_init_da8c8 1 none, Cond.methodLink RJxa1e45 1 objectInit, Cond.methodLink RX6 18 yX0_init, Cond.instanceMethod yX0_init, Cond.code yX0_init cX0_init 1 none, Cond.methodLink RX0 3 objectInit, Cond.arrayClass .int, Cond.fieldLink RX0 9 "AlertIndex$Draft" "values" "[I", Cond.methodLink RX0 15 yJ7_fill_53178]
def wsL_law0_r3 : List Cond := [Cond.static yJ7_fill_53178, Cond.initialized RJ7, Cond.code yJ7_fill_53178 cJ7_fill_53178 4 none, Cond.methodLink RX6 25 yX1_init, Cond.instanceMethod yX1_init, Cond.code yX1_init cX1_init 1 none, Cond.methodLink RX1 3 objectInit, Cond.classLink RX1 11 RX2, Cond.fieldLink RX1 13 "AlertIndex$PieceIndex" "firsts" "[LAlertIndex$Posting;", Cond.methodLink RL 66 yX7_init, Cond.instanceMethod yX7_init, Cond.code yX7_init cX7_init 2 none, Cond.methodLink RX7 1 objectInit, Cond.fieldLink RX7 7 "AlertIndexModel" "draft" "[I", Cond.arrayClass .boolean, Cond.fieldLink RX7 13 "AlertIndexModel" "isDropped" "[Z", Cond.fieldLink RX7 17 "AlertIndexModel" "products" "[I", Cond.fieldLink RX7 20 "AlertIndexModel" "quiets" "[I", Cond.fieldLink RX7 23 "AlertIndexModel" "untils" "[I", Cond.fieldLink RX7 26 "AlertIndexModel" "alerts" "[I", Cond.fieldLink RX7 29 "AlertIndexModel" "batches" "[I", Cond.fieldLink RX7 32 "AlertIndexModel" "tests" "[I", Cond.fieldLink RX7 35 "AlertIndexModel" "names" "[I", Cond.fieldLink RX7 38 "AlertIndexModel" "lows" "[I"]
def wsL_law0_r4 : List Cond := [Cond.fieldLink RX7 41 "AlertIndexModel" "highs" "[I", Cond.fieldLink RX7 44 "AlertIndexModel" "isBarred" "[Z", Cond.methodLink RL 67 yL_question, Cond.static yL_question, Cond.initialized RL, Cond.codeWith yL_question cL_question 3 (some .int) [(0, 8, 11, 13)], Cond.classLink RL 13 "java/lang/IllegalStateException", Cond.methodLink RL 7 yX6_question, Cond.instanceMethod yX6_question, Cond.selects RX6 yX6_question yX6_question, Cond.code yX6_question cX6_question 1 (some .int), Cond.classLink RX6 40 "java/lang/IllegalStateException", Cond.initialized "java/lang/IllegalStateException", Cond.classLink RX6 47 RX4, Cond.instantiable RX4 6, Cond.initialized RX4, Cond.methodLink RX6 34 ⟨"java/util/List", "size", "()I"⟩, Cond.selects RJx4a65c ⟨"java/util/List", "size", "()I"⟩ yJx4a65c_size_8abf5, Cond.instanceMethod yJx4a65c_size_8abf5, Cond.code yJx4a65c_size_8abf5 cJx4a65c_size_8abf5 1 (some .int), Cond.fieldLink RJx4a65c 48 "java/util/ArrayList" "size" "I", Cond.methodLink RX6 49 yX4_init, Cond.instanceMethod yX4_init, Cond.code yX4_init cX4_init 1 none]
def wsL_law0_r5 : List Cond := [Cond.methodLink RX4 3 objectInit, Cond.classLink RX4 9 RJx4a65c, Cond.fieldLink RX4 12 "AlertIndex$Question" "products" "Ljava/util/List;", Cond.fieldLink RX4 18 "AlertIndex$Question" "isDropped" "Z", Cond.fieldLink RX4 22 "AlertIndex$Question" "quietMinutes" "I", Cond.fieldLink RX4 26 "AlertIndex$Question" "quietUntil" "I", Cond.fieldLink RX4 29 "AlertIndex$Question" "alerts" "I", Cond.fieldLink RX4 32 "AlertIndex$Question" "batch" "I", Cond.methodLink RX4 11 yJx4a65c_init_da8c8, Cond.methodLink RX6 50 ⟨"java/util/List", "add", "(Ljava/lang/Object;)Z"⟩, Cond.selects RJx4a65c ⟨"java/util/List", "add", "(Ljava/lang/Object;)Z"⟩ yJx4a65c_add_9ea2d, Cond.instanceMethod yJx4a65c_add_9ea2d, Cond.code yJx4a65c_add_9ea2d cJx4a65c_add_9ea2d 2 (some .boolean), Cond.fieldLink RJx4a65c 63 "java/util/ArrayList" "modCount" "I", Cond.sameField "java/util/ArrayList" "java/util/AbstractList" "modCount" "I", Cond.methodLink RJx4a65c 131 yJx4a65c_add_72be8, Cond.instanceMethod yJx4a65c_add_72be8, Cond.selects RJx4a65c yJx4a65c_add_72be8 yJx4a65c_add_72be8, Cond.code yJx4a65c_add_72be8 cJx4a65c_add_72be8 4 none, Cond.methodLink RJx4a65c 129 yJx4a65c_grow_d5877, Cond.instanceMethod yJx4a65c_grow_d5877, Cond.selects RJx4a65c yJx4a65c_grow_d5877 yJx4a65c_grow_d5877, Cond.code yJx4a65c_grow_d5877 cJx4a65c_grow_d5877 1 (some (.array (.object "java/lang/Object"))), Cond.methodLink RJx4a65c 69 yJx4a65c_grow_92f84]
def wsL_law0_r6 : List Cond := [Cond.instanceMethod yJx4a65c_grow_92f84, Cond.selects RJx4a65c yJx4a65c_grow_92f84 yJx4a65c_grow_92f84, Cond.code yJx4a65c_grow_92f84 cJx4a65c_grow_92f84 4 (some (.array (.object "java/lang/Object"))), Cond.methodLink RJx4a65c 79 Lib.Math.max.name, Cond.static Lib.Math.max.name, Cond.initialized "java/lang/Math", Cond.code Lib.Math.max.name Lib.Math.max.code 2 (some .int), Cond.classLink RJx4a65c 7 "java/lang/Object", Cond.methodLink RJx4a65c 73 yJ8_newLength_cabcc, Cond.static yJ8_newLength_cabcc, Cond.initialized RJ8, Cond.code yJ8_newLength_cabcc cJ8_newLength_cabcc 4 (some .int), Cond.methodLink RJ8 194 Lib.Math.max.name, Cond.constant RJ8 200 (2147483639), Cond.methodLink RJ8 201 yJ8_hugeLength_7cf53, Cond.static yJ8_hugeLength_7cf53, Cond.code yJ8_hugeLength_7cf53 cJ8_hugeLength_7cf53 3 (some .int), Cond.methodLink RJx4a65c 66 yJ7_copyOf_1904c, Cond.static yJ7_copyOf_1904c, Cond.code yJ7_copyOf_1904c cJ7_copyOf_1904c 2 (some (.array (.object "java/lang/Object"))), Cond.methodLink RJ7 86 ⟨"java/lang/Object", "getClass", "()Ljava/lang/Class;"⟩, Cond.selects "[Ljava/lang/Object;" ⟨"java/lang/Object", "getClass", "()Ljava/lang/Class;"⟩ ⟨"java/lang/Object", "getClass", "()Ljava/lang/Class;"⟩, Cond.instanceMethod ⟨"java/lang/Object", "getClass", "()Ljava/lang/Class;"⟩, Cond.native ⟨"java/lang/Object", "getClass", "()Ljava/lang/Class;"⟩]
def wsL_law0_r7 : List Cond := [Cond.methodLink RJ7 300 yJ7_copyOf_6403c, Cond.static yJ7_copyOf_6403c, Cond.code yJ7_copyOf_6403c cJ7_copyOf_6403c 4 (some (.array (.object "java/lang/Object"))), Cond.classLink RJ7 110 "[Ljava/lang/Object;", Cond.classLink RJ7 2 "java/lang/Object", Cond.methodLink RJ7 304 Lib.Math.min.name, Cond.static Lib.Math.min.name, Cond.code Lib.Math.min.name Lib.Math.min.code 2 (some .int), Cond.methodLink RJ7 150 arraycopyName, Cond.native arraycopyName, Cond.static arraycopyName, Cond.initialized "java/lang/System", Cond.methodLink RL 72 yX7_question, Cond.instanceMethod yX7_question, Cond.selects RX7 yX7_question yX7_question, Cond.code yX7_question cX7_question 1 (some .int), Cond.fieldLink RX7 51 "AlertIndexModel" "questions" "I", Cond.methodLink RX7 58 yX7_holds, Cond.instanceMethod yX7_holds, Cond.selects RX7 yX7_holds yX7_holds, Cond.code yX7_holds cX7_holds 2 (some .boolean), Cond.fieldLink RX7 47 "AlertIndexModel" "thrown" "I", Cond.methodLink RL 73 yX7_thrown, Cond.instanceMethod yX7_thrown]
def wsL_law0_r8 : List Cond := [Cond.selects RX7 yX7_thrown yX7_thrown, Cond.code yX7_thrown cX7_thrown 1 (some .int), Cond.methodLink RL 76 yL_product, Cond.static yL_product, Cond.codeWith yL_product cL_product 4 (some .int) [(0, 9, 12, 19), (0, 9, 15, 13)], Cond.classLink RL 19 "java/lang/IndexOutOfBoundsException", Cond.methodLink RL 15 yX6_product, Cond.instanceMethod yX6_product, Cond.selects RX6 yX6_product yX6_product, Cond.code yX6_product cX6_product 3 (some .int), Cond.fieldLink RX6 58 "AlertIndex$Question" "products" "Ljava/util/List;", Cond.classLink RX6 63 RX3, Cond.instantiable RX3 3, Cond.initialized RX3, Cond.methodLink RX6 54 yX6_questionOf, Cond.instanceMethod yX6_questionOf, Cond.selects RX6 yX6_questionOf yX6_questionOf, Cond.code yX6_questionOf cX6_questionOf 3 (some (.object "AlertIndex$Question")), Cond.classLink RX6 157 "java/lang/IndexOutOfBoundsException", Cond.initialized "java/lang/IndexOutOfBoundsException", Cond.classLink RX6 47 "AlertIndex$Question", Cond.fieldLink RX6 97 "AlertIndex$Question" "isDropped" "Z", Cond.methodLink RX6 122 ⟨"java/util/List", "get", "(I)Ljava/lang/Object;"⟩, Cond.selects RJx4a65c ⟨"java/util/List", "get", "(I)Ljava/lang/Object;"⟩ yJx4a65c_get_915e3]
def wsL_law0_r9 : List Cond := [Cond.instanceMethod yJx4a65c_get_915e3, Cond.code yJx4a65c_get_915e3 cJx4a65c_get_915e3 2 (some (.object "java/lang/Object")), Cond.methodLink RJx4a65c 118 yJ15_checkIndex_7cf53, Cond.static yJ15_checkIndex_7cf53, Cond.initialized RJ15, Cond.code yJ15_checkIndex_7cf53 cJ15_checkIndex_7cf53 2 (some .int), Cond.methodLink RJ15 105 yJ3_checkIndex_8e157, Cond.static yJ3_checkIndex_8e157, Cond.initialized RJ3, Cond.code yJ3_checkIndex_8e157 cJ3_checkIndex_8e157 3 (some .int), Cond.methodLink RJx4a65c 123 yJx4a65c_elementData_915e3, Cond.instanceMethod yJx4a65c_elementData_915e3, Cond.selects RJx4a65c yJx4a65c_elementData_915e3 yJx4a65c_elementData_915e3, Cond.code yJx4a65c_elementData_915e3 cJx4a65c_elementData_915e3 2 (some (.object "java/lang/Object")), Cond.methodLink RX6 65 yX3_init, Cond.instanceMethod yX3_init, Cond.code yX3_init cX3_init 1 none, Cond.methodLink RX3 1 objectInit, Cond.classLink RX3 7 RJx4a65c, Cond.fieldLink RX3 10 "AlertIndex$Product" "tests" "Ljava/util/List;", Cond.fieldLink RX3 16 "AlertIndex$Product" "plainTests" "I", Cond.fieldLink RX3 20 "AlertIndex$Product" "hits" "I", Cond.methodLink RX3 9 yJx4a65c_init_da8c8, Cond.methodLink RL 79 yX7_product]
def wsL_law0_r10 : List Cond := [Cond.instanceMethod yX7_product, Cond.selects RX7 yX7_product yX7_product, Cond.code yX7_product cX7_product 3 (some .int), Cond.methodLink RX7 62 yX7_isQuestion, Cond.instanceMethod yX7_isQuestion, Cond.selects RX7 yX7_isQuestion yX7_isQuestion, Cond.code yX7_isQuestion cX7_isQuestion 2 (some .boolean), Cond.methodLink RX7 54 yX7_isIn, Cond.static yX7_isIn, Cond.code yX7_isIn cX7_isIn 3 (some .boolean), Cond.methodLink RL 80 yL_test, Cond.static yL_test, Cond.codeWith yL_test cL_test 8 (some .int) [(0, 16, 19, 19), (0, 16, 23, 25), (0, 16, 27, 13)], Cond.classLink RL 25 "java/lang/IllegalArgumentException", Cond.methodLink RL 21 yX6_test, Cond.instanceMethod yX6_test, Cond.selects RX6 yX6_test yX6_test, Cond.code yX6_test cX6_test 8 (some .int), Cond.fieldLink RX6 80 "AlertIndex$Product" "tests" "Ljava/util/List;", Cond.classLink RX6 85 RX5, Cond.instantiable RX5 4, Cond.initialized RX5, Cond.fieldLink RX6 90 "AlertIndex$Product" "plainTests" "I", Cond.methodLink RX6 66 yX6_refuseNoName]
def wsL_law0_r11 : List Cond := [Cond.static yX6_refuseNoName, Cond.code yX6_refuseNoName cX6_refuseNoName 1 none, Cond.methodLink RX6 70 yX6_refuseNoRange, Cond.static yX6_refuseNoRange, Cond.code yX6_refuseNoRange cX6_refuseNoRange 2 none, Cond.classLink RX6 104 "java/lang/IllegalArgumentException", Cond.initialized "java/lang/IllegalArgumentException", Cond.methodLink RX6 112 yX6_isValue, Cond.static yX6_isValue, Cond.code yX6_isValue cX6_isValue 1 (some .boolean), Cond.methodLink RX6 74 yX4_lastProduct, Cond.instanceMethod yX4_lastProduct, Cond.selects RX4 yX4_lastProduct yX4_lastProduct, Cond.code yX4_lastProduct cX4_lastProduct 2 (some (.object "AlertIndex$Product")), Cond.classLink RX4 45 "AlertIndex$Product", Cond.methodLink RX4 35 ⟨"java/util/List", "size", "()I"⟩, Cond.methodLink RX4 41 ⟨"java/util/List", "get", "(I)Ljava/lang/Object;"⟩, Cond.methodLink RX6 87 yX5_init, Cond.instanceMethod yX5_init, Cond.code yX5_init cX5_init 5 none, Cond.methodLink RX5 3 objectInit, Cond.fieldLink RX5 9 "AlertIndex$Test" "name" "I", Cond.fieldLink RX5 15 "AlertIndex$Test" "low" "I", Cond.fieldLink RX5 18 "AlertIndex$Test" "high" "I"]
def wsL_law0_r12 : List Cond := [Cond.fieldLink RX5 21 "AlertIndex$Test" "isBarred" "Z", Cond.methodLink RX6 93 yX1_enter, Cond.instanceMethod yX1_enter, Cond.selects RX1 yX1_enter yX1_enter, Cond.code yX1_enter cX1_enter 8 none, Cond.static yX6_levelOfPiece, Cond.code yX6_levelOfPiece cX6_levelOfPiece 4 (some .int), Cond.methodLink RX1 21 yX1_post, Cond.instanceMethod yX1_post, Cond.selects RX1 yX1_post yX1_post, Cond.code yX1_post cX1_post 3 none, Cond.instantiable RX2 2, Cond.initialized RX2, Cond.methodLink RX1 25 yX2_init, Cond.instanceMethod yX2_init, Cond.code yX2_init cX2_init 3 none, Cond.methodLink RX2 1 objectInit, Cond.fieldLink RX2 7 "AlertIndex$Posting" "product" "LAlertIndex$Product;", Cond.fieldLink RX2 13 "AlertIndex$Posting" "next" "LAlertIndex$Posting;", Cond.methodLink RL 83 yX7_test, Cond.instanceMethod yX7_test, Cond.selects RX7 yX7_test yX7_test, Cond.code yX7_test cX7_test 10 (some .int), Cond.methodLink RX7 65 yX7_isName]
def wsL_law0_r13 : List Cond := [Cond.static yX7_isName, Cond.code yX7_isName cX7_isName 1 (some .boolean), Cond.methodLink RX7 68 yX7_isRange, Cond.static yX7_isRange, Cond.code yX7_isRange cX7_isRange 2 (some .boolean), Cond.methodLink RL 84 yL_drop, Cond.static yL_drop, Cond.codeWith yL_drop cL_drop 4 (some .int) [(0, 9, 12, 19)], Cond.methodLink RL 27 yX6_drop, Cond.instanceMethod yX6_drop, Cond.selects RX6 yX6_drop yX6_drop, Cond.code yX6_drop cX6_drop 3 (some .int), Cond.fieldLink RX6 101 "AlertIndex$Question" "batch" "I", Cond.methodLink RL 86 yX7_drop, Cond.instanceMethod yX7_drop, Cond.selects RX7 yX7_drop yX7_drop, Cond.code yX7_drop cX7_drop 2 (some .int), Cond.methodLink RL 87 yL_setQuiet, Cond.static yL_setQuiet, Cond.codeWith yL_setQuiet cL_setQuiet 5 (some .int) [(0, 10, 13, 19), (0, 10, 17, 25)], Cond.methodLink RL 30 yX6_setQuiet, Cond.instanceMethod yX6_setQuiet, Cond.selects RX6 yX6_setQuiet yX6_setQuiet, Cond.code yX6_setQuiet cX6_setQuiet 5 (some .int)]
def wsL_law0_r14 : List Cond := [Cond.fieldLink RX6 109 "AlertIndex$Question" "quietMinutes" "I", Cond.methodLink RL 90 yX7_setQuiet, Cond.instanceMethod yX7_setQuiet, Cond.selects RX7 yX7_setQuiet yX7_setQuiet, Cond.code yX7_setQuiet cX7_setQuiet 5 (some .int), Cond.methodLink RL 91 yL_set, Cond.static yL_set, Cond.codeWith yL_set cL_set 5 (some .int) [(0, 10, 13, 19), (0, 10, 17, 25)], Cond.methodLink RL 34 yX6_set, Cond.instanceMethod yX6_set, Cond.selects RX6 yX6_set yX6_set, Cond.code yX6_set cX6_set 3 (some .int), Cond.methodLink RX6 118 yX0_replace, Cond.instanceMethod yX0_replace, Cond.selects RX0 yX0_replace yX0_replace, Cond.code yX0_replace cX0_replace 4 (some .int), Cond.methodLink RX0 21 yX0_valueOf, Cond.instanceMethod yX0_valueOf, Cond.selects RX0 yX0_valueOf yX0_valueOf, Cond.code yX0_valueOf cX0_valueOf 2 (some .int), Cond.methodLink RL 93 yX7_set, Cond.instanceMethod yX7_set, Cond.selects RX7 yX7_set yX7_set, Cond.code yX7_set cX7_set 4 (some .int)]
def wsL_law0_r15 : List Cond := [Cond.methodLink RL 94 yX6_come, Cond.instanceMethod yX6_come, Cond.selects RX6 yX6_come yX6_come, Cond.code yX6_come cX6_come 4 (some .int), Cond.methodLink RX6 126 yX4_isSatisfied, Cond.instanceMethod yX4_isSatisfied, Cond.selects RX4 yX4_isSatisfied yX4_isSatisfied, Cond.code yX4_isSatisfied cX4_isSatisfied 3 (some .boolean), Cond.methodLink RX4 60 yX3_isTrue, Cond.instanceMethod yX3_isTrue, Cond.selects RX3 yX3_isTrue yX3_isTrue, Cond.code yX3_isTrue cX3_isTrue 3 (some .boolean), Cond.classLink RX3 33 "AlertIndex$Test", Cond.methodLink RX3 23 ⟨"java/util/List", "size", "()I"⟩, Cond.methodLink RX3 29 ⟨"java/util/List", "get", "(I)Ljava/lang/Object;"⟩, Cond.methodLink RX3 35 yX5_isTrue, Cond.instanceMethod yX5_isTrue, Cond.selects RX5 yX5_isTrue yX5_isTrue, Cond.code yX5_isTrue cX5_isTrue 4 (some .boolean), Cond.methodLink RX5 25 yX0_valueOf, Cond.methodLink RX6 130 yX4_takeDocument, Cond.instanceMethod yX4_takeDocument, Cond.selects RX4 yX4_takeDocument yX4_takeDocument, Cond.code yX4_takeDocument cX4_takeDocument 2 (some .boolean)]
def wsL_law0_r16 : List Cond := [Cond.methodLink RX4 70 yX4_isQuietAt, Cond.instanceMethod yX4_isQuietAt, Cond.selects RX4 yX4_isQuietAt yX4_isQuietAt, Cond.code yX4_isQuietAt cX4_isQuietAt 2 (some .boolean), Cond.methodLink RX4 74 yX4_raiseAlert, Cond.instanceMethod yX4_raiseAlert, Cond.selects RX4 yX4_raiseAlert yX4_raiseAlert, Cond.code yX4_raiseAlert cX4_raiseAlert 2 none, Cond.methodLink RL 97 yX7_come, Cond.instanceMethod yX7_come, Cond.selects RX7 yX7_come yX7_come, Cond.code yX7_come cX7_come 3 (some .int), Cond.methodLink RX7 78 yX7_does, Cond.instanceMethod yX7_does, Cond.selects RX7 yX7_does yX7_does, Cond.code yX7_does cX7_does 6 (some .boolean), Cond.methodLink RX7 72 yX7_isTrue, Cond.instanceMethod yX7_isTrue, Cond.selects RX7 yX7_isTrue yX7_isTrue, Cond.code yX7_isTrue cX7_isTrue 4 (some .boolean), Cond.methodLink RX7 81 yX7_quietNow, Cond.instanceMethod yX7_quietNow, Cond.selects RX7 yX7_quietNow yX7_quietNow, Cond.code yX7_quietNow cX7_quietNow 2 (some .boolean)]
def wsL_law0_r17 : List Cond := [Cond.fieldLink RX7 75 "AlertIndexModel" "minute" "I", Cond.methodLink RX7 84 yX7_raises, Cond.instanceMethod yX7_raises, Cond.selects RX7 yX7_raises yX7_raises, Cond.code yX7_raises cX7_raises 2 none, Cond.methodLink RL 98 yL_advance, Cond.static yL_advance, Cond.codeWith yL_advance cL_advance 4 (some .int) [(0, 9, 12, 25), (0, 9, 15, 13)], Cond.methodLink RL 37 yX6_advance, Cond.instanceMethod yX6_advance, Cond.selects RX6 yX6_advance yX6_advance, Cond.code yX6_advance cX6_advance 4 (some .int), Cond.constant RX6 135 (1000000), Cond.methodLink RX6 138 yX4_sendBatch, Cond.instanceMethod yX4_sendBatch, Cond.selects RX4 yX4_sendBatch yX4_sendBatch, Cond.code yX4_sendBatch cX4_sendBatch 2 (some .boolean), Cond.methodLink RL 100 yX7_advance, Cond.instanceMethod yX7_advance, Cond.selects RX7 yX7_advance yX7_advance, Cond.code yX7_advance cX7_advance 5 (some .int), Cond.constant RX7 88 (1000000), Cond.methodLink RL 101 yL_satisfies, Cond.static yL_satisfies]
def wsL_law0_r18 : List Cond := [Cond.codeWith yL_satisfies cL_satisfies 4 (some .int) [(0, 16, 19, 19)], Cond.methodLink RL 40 yX6_satisfies, Cond.instanceMethod yX6_satisfies, Cond.selects RX6 yX6_satisfies yX6_satisfies, Cond.code yX6_satisfies cX6_satisfies 2 (some .boolean), Cond.methodLink RL 103 yX7_satisfies, Cond.instanceMethod yX7_satisfies, Cond.selects RX7 yX7_satisfies yX7_satisfies, Cond.code yX7_satisfies cX7_satisfies 2 (some .boolean), Cond.methodLink RL 104 yX6_matching, Cond.instanceMethod yX6_matching, Cond.selects RX6 yX6_matching yX6_matching, Cond.code yX6_matching cX6_matching 3 (some .int), Cond.methodLink RL 107 yX7_matching, Cond.instanceMethod yX7_matching, Cond.selects RX7 yX7_matching yX7_matching, Cond.code yX7_matching cX7_matching 1 (some .int), Cond.methodLink RX7 89 yX7_found, Cond.instanceMethod yX7_found, Cond.selects RX7 yX7_found yX7_found, Cond.code yX7_found cX7_found 3 (some .int), Cond.methodLink RL 108 yX6_matchingByIndex, Cond.instanceMethod yX6_matchingByIndex, Cond.selects RX6 yX6_matchingByIndex yX6_matchingByIndex]
def wsL_law0_r19 : List Cond := [Cond.code yX6_matchingByIndex cX6_matchingByIndex 3 (some .int), Cond.methodLink RX6 141 yX4_forgetHits, Cond.instanceMethod yX4_forgetHits, Cond.selects RX4 yX4_forgetHits yX4_forgetHits, Cond.code yX4_forgetHits cX4_forgetHits 2 none, Cond.fieldLink RX4 67 "AlertIndex$Product" "hits" "I", Cond.methodLink RX6 144 yX1_countHits, Cond.instanceMethod yX1_countHits, Cond.selects RX1 yX1_countHits yX1_countHits, Cond.code yX1_countHits cX1_countHits 4 none, Cond.methodLink RX1 28 yX0_valueOf, Cond.methodLink RX1 38 yX1_hitAbove, Cond.instanceMethod yX1_hitAbove, Cond.selects RX1 yX1_hitAbove yX1_hitAbove, Cond.code yX1_hitAbove cX1_hitAbove 5 none, Cond.fieldLink RX1 46 "AlertIndex$Posting" "product" "LAlertIndex$Product;", Cond.fieldLink RX1 50 "AlertIndex$Product" "hits" "I", Cond.fieldLink RX1 56 "AlertIndex$Posting" "next" "LAlertIndex$Posting;", Cond.methodLink RX1 42 yX1_firstAt, Cond.instanceMethod yX1_firstAt, Cond.selects RX1 yX1_firstAt yX1_firstAt, Cond.code yX1_firstAt cX1_firstAt 2 (some (.object "AlertIndex$Posting")), Cond.methodLink RX6 148 yX4_isSatisfiedByHits, Cond.instanceMethod yX4_isSatisfiedByHits]
def wsL_law0_r20 : List Cond := [Cond.selects RX4 yX4_isSatisfiedByHits yX4_isSatisfiedByHits, Cond.code yX4_isSatisfiedByHits cX4_isSatisfiedByHits 3 (some .boolean), Cond.methodLink RX4 64 yX3_isTrueByHits, Cond.instanceMethod yX3_isTrueByHits, Cond.selects RX3 yX3_isTrueByHits yX3_isTrueByHits, Cond.code yX3_isTrueByHits cX3_isTrueByHits 4 (some .boolean), Cond.fieldLink RX3 39 "AlertIndex$Test" "isBarred" "Z", Cond.methodLink RL 111 yX7_matchingByIndex, Cond.instanceMethod yX7_matchingByIndex, Cond.selects RX7 yX7_matchingByIndex yX7_matchingByIndex, Cond.code yX7_matchingByIndex cX7_matchingByIndex 1 (some .int), Cond.methodLink RL 112 yL_sizeOf, Cond.static yL_sizeOf, Cond.codeWith yL_sizeOf cL_sizeOf 4 (some .int) [(0, 9, 12, 19)], Cond.methodLink RL 44 yX6_sizeOf, Cond.instanceMethod yX6_sizeOf, Cond.selects RX6 yX6_sizeOf yX6_sizeOf, Cond.code yX6_sizeOf cX6_sizeOf 2 (some .int), Cond.methodLink RX6 151 yX4_leastSize, Cond.instanceMethod yX4_leastSize, Cond.selects RX4 yX4_leastSize yX4_leastSize, Cond.code yX4_leastSize cX4_leastSize 3 (some .int), Cond.fieldLink RX4 47 "AlertIndex$Product" "plainTests" "I", Cond.methodLink RX4 50 Lib.Math.min.name]
def wsL_law0_r21 : List Cond := [Cond.methodLink RX4 56 ⟨"java/util/List", "isEmpty", "()Z"⟩, Cond.selects RJx4a65c ⟨"java/util/List", "isEmpty", "()Z"⟩ yJx4a65c_isEmpty_aae02, Cond.instanceMethod yJx4a65c_isEmpty_aae02, Cond.code yJx4a65c_isEmpty_aae02 cJx4a65c_isEmpty_aae02 1 (some .boolean), Cond.methodLink RL 114 yX7_sizeOf, Cond.instanceMethod yX7_sizeOf, Cond.selects RX7 yX7_sizeOf yX7_sizeOf, Cond.code yX7_sizeOf cX7_sizeOf 2 (some .int), Cond.methodLink RX7 93 yX7_size, Cond.instanceMethod yX7_size, Cond.selects RX7 yX7_size yX7_size, Cond.code yX7_size cX7_size 6 (some .int), Cond.methodLink RL 115 yX6_withSize, Cond.instanceMethod yX6_withSize, Cond.selects RX6 yX6_withSize yX6_withSize, Cond.code yX6_withSize cX6_withSize 5 (some .int), Cond.methodLink RL 118 yX7_withSize, Cond.instanceMethod yX7_withSize, Cond.selects RX7 yX7_withSize yX7_withSize, Cond.code yX7_withSize cX7_withSize 4 (some .int), Cond.methodLink RL 119 yL_pieces, Cond.static yL_pieces, Cond.codeWith yL_pieces cL_pieces 5 (some .int) [(0, 10, 13, 25)], Cond.methodLink RL 47 yX6_pieces]
def wsL_law0_r22 : List Cond := [Cond.instanceMethod yX6_pieces, Cond.selects RX6 yX6_pieces yX6_pieces, Cond.code yX6_pieces cX6_pieces 5 (some .int), Cond.methodLink RX6 154 yX6_levelOfPiece, Cond.methodLink RL 121 yX7_pieces, Cond.instanceMethod yX7_pieces, Cond.selects RX7 yX7_pieces yX7_pieces, Cond.code yX7_pieces cX7_pieces 5 (some .int), Cond.methodLink RX7 97 yX7_piece, Cond.static yX7_piece, Cond.code yX7_piece cX7_piece 4 (some .int), Cond.methodLink RL 122 yL_pieceAt, Cond.static yL_pieceAt, Cond.codeWith yL_pieceAt cL_pieceAt 6 (some .int) [(0, 12, 15, 19), (0, 12, 19, 25)], Cond.methodLink RL 50 yX6_pieceAt, Cond.instanceMethod yX6_pieceAt, Cond.selects RX6 yX6_pieceAt yX6_pieceAt, Cond.code yX6_pieceAt cX6_pieceAt 6 (some .int), Cond.methodLink RL 125 yX7_pieceAt, Cond.instanceMethod yX7_pieceAt, Cond.selects RX7 yX7_pieceAt yX7_pieceAt, Cond.code yX7_pieceAt cX7_pieceAt 6 (some .int), Cond.methodLink RL 126 yX6_minute, Cond.instanceMethod yX6_minute]
def wsL_law0_r23 : List Cond := [Cond.selects RX6 yX6_minute yX6_minute, Cond.code yX6_minute cX6_minute 1 (some .int), Cond.methodLink RL 129 yX7_minute, Cond.instanceMethod yX7_minute, Cond.selects RX7 yX7_minute yX7_minute, Cond.code yX7_minute cX7_minute 1 (some .int), Cond.methodLink RL 130 yL_isQuiet, Cond.static yL_isQuiet, Cond.codeWith yL_isQuiet cL_isQuiet 4 (some .int) [(0, 16, 19, 19)], Cond.methodLink RL 54 yX6_isQuiet, Cond.instanceMethod yX6_isQuiet, Cond.selects RX6 yX6_isQuiet yX6_isQuiet, Cond.code yX6_isQuiet cX6_isQuiet 2 (some .boolean), Cond.methodLink RX6 162 yX4_isQuietAt, Cond.methodLink RL 132 yX7_isQuiet, Cond.instanceMethod yX7_isQuiet, Cond.selects RX7 yX7_isQuiet yX7_isQuiet, Cond.code yX7_isQuiet cX7_isQuiet 2 (some .boolean), Cond.methodLink RL 133 yL_alerts, Cond.static yL_alerts, Cond.codeWith yL_alerts cL_alerts 4 (some .int) [(0, 9, 12, 19)], Cond.methodLink RL 57 yX6_alerts, Cond.instanceMethod yX6_alerts, Cond.selects RX6 yX6_alerts yX6_alerts]
def wsL_law0_r24 : List Cond := [Cond.code yX6_alerts cX6_alerts 2 (some .int), Cond.fieldLink RX6 165 "AlertIndex$Question" "alerts" "I", Cond.methodLink RL 135 yX7_alerts, Cond.instanceMethod yX7_alerts, Cond.selects RX7 yX7_alerts yX7_alerts, Cond.code yX7_alerts cX7_alerts 2 (some .int), Cond.methodLink RL 136 yL_batch, Cond.static yL_batch, Cond.codeWith yL_batch cL_batch 4 (some .int) [(0, 9, 12, 19)], Cond.methodLink RL 60 yX6_batch, Cond.instanceMethod yX6_batch, Cond.selects RX6 yX6_batch yX6_batch, Cond.code yX6_batch cX6_batch 2 (some .int), Cond.methodLink RL 138 yX7_batch, Cond.instanceMethod yX7_batch, Cond.selects RX7 yX7_batch yX7_batch, Cond.code yX7_batch cX7_batch 2 (some .int)]
def wsL_law0 : List Cond := (wsL_law0_r1 ++ (wsL_law0_r2 ++ (wsL_law0_r3 ++ (wsL_law0_r4 ++ (wsL_law0_r5 ++ (wsL_law0_r6 ++ (wsL_law0_r7 ++ (wsL_law0_r8 ++ (wsL_law0_r9 ++ (wsL_law0_r10 ++ (wsL_law0_r11 ++ (wsL_law0_r12 ++ (wsL_law0_r13 ++ (wsL_law0_r14 ++ (wsL_law0_r15 ++ (wsL_law0_r16 ++ (wsL_law0_r17 ++ (wsL_law0_r18 ++ (wsL_law0_r19 ++ (wsL_law0_r20 ++ (wsL_law0_r21 ++ (wsL_law0_r22 ++ (wsL_law0_r23 ++ wsL_law0_r24))))))))))))))))))))))) ++ wsX60 ++ wsX70 ++ wsJx4a65c0 ++ wsX00 ++ wsX10 ++ wsX40 ++ wsX30 ++ wsX50 ++ wsX20 ++ ([] : List Cond)
def wsL_law : List Cond := wsL_law0 ++ (vx_atS RX6 44 "java/lang/IllegalStateException" ["java/lang/RuntimeException", "java/lang/Exception"]).filter goodWord ++ (vx_atS RX6 161 "java/lang/IndexOutOfBoundsException" ["java/lang/RuntimeException", "java/lang/Exception"]).filter goodWord ++ (vx_atS RX6 108 "java/lang/IllegalArgumentException" ["java/lang/RuntimeException", "java/lang/Exception"]).filter goodWord
abbrev vwCl : List vw_C := [(RJx4a65c, TJx4a65c, 3), (RX0, TX0, 1), (RX1, TX1, 1), (RX2, TX2, 2), (RX3, TX3, 3), (RX4, TX4, 6), (RX5, TX5, 4), (RX6, TX6, 4), (RX7, TX7, 15)]
end
section
theorem dJ9_max_7cf53_0 : decode cJ9_max_7cf53 0 = .ok (.iload_n 0, 1) := by decide +kernel
theorem dJ9_max_7cf53_1 : decode cJ9_max_7cf53 1 = .ok (.iload_n 1, 1) := by decide +kernel
theorem dJ9_max_7cf53_2 : decode cJ9_max_7cf53 2 = .ok (.if_icmp .lt 7, 3) := by decide +kernel
theorem dJ9_max_7cf53_5 : decode cJ9_max_7cf53 5 = .ok (.iload_n 0, 1) := by decide +kernel
theorem dJ9_max_7cf53_6 : decode cJ9_max_7cf53 6 = .ok (.goto 4, 3) := by decide +kernel
theorem dJ9_max_7cf53_9 : decode cJ9_max_7cf53 9 = .ok (.iload_n 1, 1) := by decide +kernel
theorem dJ9_max_7cf53_10 : decode cJ9_max_7cf53 10 = .ok (.ireturn, 1) := by decide +kernel
theorem dJ9_min_7cf53_0 : decode cJ9_min_7cf53 0 = .ok (.iload_n 0, 1) := by decide +kernel
theorem dJ9_min_7cf53_1 : decode cJ9_min_7cf53 1 = .ok (.iload_n 1, 1) := by decide +kernel
theorem dJ9_min_7cf53_2 : decode cJ9_min_7cf53 2 = .ok (.if_icmp .gt 7, 3) := by decide +kernel
theorem dJ9_min_7cf53_5 : decode cJ9_min_7cf53 5 = .ok (.iload_n 0, 1) := by decide +kernel
theorem dJ9_min_7cf53_6 : decode cJ9_min_7cf53 6 = .ok (.goto 4, 3) := by decide +kernel
theorem dJ9_min_7cf53_9 : decode cJ9_min_7cf53 9 = .ok (.iload_n 1, 1) := by decide +kernel
theorem dJ9_min_7cf53_10 : decode cJ9_min_7cf53 10 = .ok (.ireturn, 1) := by decide +kernel
theorem dJxa1e45_init_da8c8_0 : decode cJxa1e45_init_da8c8 0 = .ok (.aload_n 0, 1) := by decide +kernel
theorem dJxa1e45_init_da8c8_1 : decode cJxa1e45_init_da8c8 1 = .ok (.invokespecial 1, 3) := by decide +kernel
theorem dJxa1e45_init_da8c8_4 : decode cJxa1e45_init_da8c8 4 = .ok (.return_, 1) := by decide +kernel
set_option maxRecDepth 20000 in
theorem ggJxc12de_init_da8c8_Jxa1e45_init_da8c8 : GoodIn wsJxc12de_init_da8c8 wsJxa1e45_init_da8c8 := goodIn_r _ [5, 6, 7, 8] (by decide +kernel) (by decide +kernel)
set_option maxRecDepth 20000 in
theorem gJxc12de_init_da8c8_Jxa1e45_init_da8c8 : GoodIn wsJxc12de_init_da8c8 (wsJxa1e45_init_da8c8) := ggJxc12de_init_da8c8_Jxa1e45_init_da8c8
theorem dJxc12de_init_da8c8_0 : decode cJxc12de_init_da8c8 0 = .ok (.aload_n 0, 1) := by decide +kernel
theorem dJxc12de_init_da8c8_1 : decode cJxc12de_init_da8c8 1 = .ok (.invokespecial 1, 3) := by decide +kernel
theorem dJxc12de_init_da8c8_4 : decode cJxc12de_init_da8c8 4 = .ok (.aload_n 0, 1) := by decide +kernel
theorem dJxc12de_init_da8c8_5 : decode cJxc12de_init_da8c8 5 = .ok (.iconst 0, 1) := by decide +kernel
theorem dJxc12de_init_da8c8_6 : decode cJxc12de_init_da8c8 6 = .ok (.putfield 7, 3) := by decide +kernel
theorem dJxc12de_init_da8c8_9 : decode cJxc12de_init_da8c8 9 = .ok (.return_, 1) := by decide +kernel
set_option maxRecDepth 20000 in
theorem ggJx4a65c_init_da8c8_Jxc12de_init_da8c8 : GoodIn wsJx4a65c_init_da8c8 wsJxc12de_init_da8c8 := goodIn_r _ [6, 7, 8, 9, 10, 11, 12, 13, 14, 15, 16, 17] (by decide +kernel) (by decide +kernel)
set_option maxRecDepth 20000 in
theorem gJx4a65c_init_da8c8_Jxc12de_init_da8c8 : GoodIn wsJx4a65c_init_da8c8 (wsJxc12de_init_da8c8) := ggJx4a65c_init_da8c8_Jxc12de_init_da8c8
theorem dJx4a65c_init_da8c8_0 : decode cJx4a65c_init_da8c8 0 = .ok (.aload_n 0, 1) := by decide +kernel
theorem dJx4a65c_init_da8c8_1 : decode cJx4a65c_init_da8c8 1 = .ok (.invokespecial 1, 3) := by decide +kernel
theorem dJx4a65c_init_da8c8_4 : decode cJx4a65c_init_da8c8 4 = .ok (.aload_n 0, 1) := by decide +kernel
theorem dJx4a65c_init_da8c8_5 : decode cJx4a65c_init_da8c8 5 = .ok (.getstatic 39, 3) := by decide +kernel
theorem dJx4a65c_init_da8c8_8 : decode cJx4a65c_init_da8c8 8 = .ok (.putfield 9, 3) := by decide +kernel
theorem dJx4a65c_init_da8c8_11 : decode cJx4a65c_init_da8c8 11 = .ok (.return_, 1) := by decide +kernel
set_option maxRecDepth 20000 in
theorem ggJx4a65c_grow_92f84_J8_newLength_cabcc : GoodIn wsJx4a65c_grow_92f84 wsJ8_newLength_cabcc := goodIn_r _ [11, 12, 4, 5, 6, 13, 14, 15, 10, 16] (by decide +kernel) (by decide +kernel)
set_option maxRecDepth 20000 in
theorem gJx4a65c_grow_92f84_J8_newLength_cabcc : GoodIn wsJx4a65c_grow_92f84 (va_wsS RJx4a65c 73 yJ8_newLength_cabcc wsJ8_newLength_cabcc) := goodIn_app (goodIn_of _ (by decide +kernel)) ggJx4a65c_grow_92f84_J8_newLength_cabcc
set_option maxRecDepth 20000 in
theorem ggJx4a65c_grow_92f84_J7_copyOf_1904c : GoodIn wsJx4a65c_grow_92f84 wsJ7_copyOf_1904c := goodIn_r _ [20, 21, 22, 23, 24, 25, 26, 19, 27, 28, 29, 30, 31, 5, 32, 33, 34, 35, 36] (by decide +kernel) (by decide +kernel)
set_option maxRecDepth 20000 in
theorem gJx4a65c_grow_92f84_J7_copyOf_1904c : GoodIn wsJx4a65c_grow_92f84 (va_wsS RJx4a65c 66 yJ7_copyOf_1904c wsJ7_copyOf_1904c) := goodIn_app (goodIn_of _ (by decide +kernel)) ggJx4a65c_grow_92f84_J7_copyOf_1904c
theorem dJx4a65c_grow_92f84_0 : decode cJx4a65c_grow_92f84 0 = .ok (.aload_n 0, 1) := by decide +kernel
theorem dJx4a65c_grow_92f84_1 : decode cJx4a65c_grow_92f84 1 = .ok (.getfield 9, 3) := by decide +kernel
theorem dJx4a65c_grow_92f84_4 : decode cJx4a65c_grow_92f84 4 = .ok (.arraylength, 1) := by decide +kernel
theorem dJx4a65c_grow_92f84_5 : decode cJx4a65c_grow_92f84 5 = .ok (.istore_n 2, 1) := by decide +kernel
theorem dJx4a65c_grow_92f84_6 : decode cJx4a65c_grow_92f84 6 = .ok (.iload_n 2, 1) := by decide +kernel
theorem dJx4a65c_grow_92f84_7 : decode cJx4a65c_grow_92f84 7 = .ok (.ifCond .gt 13, 3) := by decide +kernel
theorem dJx4a65c_grow_92f84_10 : decode cJx4a65c_grow_92f84 10 = .ok (.aload_n 0, 1) := by decide +kernel
theorem dJx4a65c_grow_92f84_11 : decode cJx4a65c_grow_92f84 11 = .ok (.getfield 9, 3) := by decide +kernel
theorem dJx4a65c_grow_92f84_14 : decode cJx4a65c_grow_92f84 14 = .ok (.getstatic 39, 3) := by decide +kernel
theorem dJx4a65c_grow_92f84_17 : decode cJx4a65c_grow_92f84 17 = .ok (.if_acmp .eq 28, 3) := by decide +kernel
theorem dJx4a65c_grow_92f84_20 : decode cJx4a65c_grow_92f84 20 = .ok (.iload_n 2, 1) := by decide +kernel
theorem dJx4a65c_grow_92f84_21 : decode cJx4a65c_grow_92f84 21 = .ok (.iload_n 1, 1) := by decide +kernel
theorem dJx4a65c_grow_92f84_22 : decode cJx4a65c_grow_92f84 22 = .ok (.iload_n 2, 1) := by decide +kernel
theorem dJx4a65c_grow_92f84_23 : decode cJx4a65c_grow_92f84 23 = .ok (.isub, 1) := by decide +kernel
theorem dJx4a65c_grow_92f84_24 : decode cJx4a65c_grow_92f84 24 = .ok (.iload_n 2, 1) := by decide +kernel
theorem dJx4a65c_grow_92f84_25 : decode cJx4a65c_grow_92f84 25 = .ok (.iconst 1, 1) := by decide +kernel
theorem dJx4a65c_grow_92f84_26 : decode cJx4a65c_grow_92f84 26 = .ok (.ishr, 1) := by decide +kernel
theorem dJx4a65c_grow_92f84_27 : decode cJx4a65c_grow_92f84 27 = .ok (.invokestatic 73, 3) := by decide +kernel
theorem dJx4a65c_grow_92f84_30 : decode cJx4a65c_grow_92f84 30 = .ok (.istore_n 3, 1) := by decide +kernel
theorem dJx4a65c_grow_92f84_31 : decode cJx4a65c_grow_92f84 31 = .ok (.aload_n 0, 1) := by decide +kernel
theorem dJx4a65c_grow_92f84_32 : decode cJx4a65c_grow_92f84 32 = .ok (.aload_n 0, 1) := by decide +kernel
theorem dJx4a65c_grow_92f84_33 : decode cJx4a65c_grow_92f84 33 = .ok (.getfield 9, 3) := by decide +kernel
theorem dJx4a65c_grow_92f84_36 : decode cJx4a65c_grow_92f84 36 = .ok (.iload_n 3, 1) := by decide +kernel
theorem dJx4a65c_grow_92f84_37 : decode cJx4a65c_grow_92f84 37 = .ok (.invokestatic 66, 3) := by decide +kernel
theorem dJx4a65c_grow_92f84_40 : decode cJx4a65c_grow_92f84 40 = .ok (.dup_x1, 1) := by decide +kernel
theorem dJx4a65c_grow_92f84_41 : decode cJx4a65c_grow_92f84 41 = .ok (.putfield 9, 3) := by decide +kernel
theorem dJx4a65c_grow_92f84_44 : decode cJx4a65c_grow_92f84 44 = .ok (.areturn, 1) := by decide +kernel
theorem dJx4a65c_grow_92f84_45 : decode cJx4a65c_grow_92f84 45 = .ok (.aload_n 0, 1) := by decide +kernel
theorem dJx4a65c_grow_92f84_46 : decode cJx4a65c_grow_92f84 46 = .ok (.bipush 10, 2) := by decide +kernel
theorem dJx4a65c_grow_92f84_48 : decode cJx4a65c_grow_92f84 48 = .ok (.iload_n 1, 1) := by decide +kernel
theorem dJx4a65c_grow_92f84_49 : decode cJx4a65c_grow_92f84 49 = .ok (.invokestatic 79, 3) := by decide +kernel
theorem dJx4a65c_grow_92f84_52 : decode cJx4a65c_grow_92f84 52 = .ok (.anewarray 7, 3) := by decide +kernel
theorem dJx4a65c_grow_92f84_55 : decode cJx4a65c_grow_92f84 55 = .ok (.dup_x1, 1) := by decide +kernel
theorem dJx4a65c_grow_92f84_56 : decode cJx4a65c_grow_92f84 56 = .ok (.putfield 9, 3) := by decide +kernel
theorem dJx4a65c_grow_92f84_59 : decode cJx4a65c_grow_92f84 59 = .ok (.areturn, 1) := by decide +kernel
set_option maxRecDepth 20000 in
theorem ggJx4a65c_grow_d5877_Jx4a65c_grow_92f84 : GoodIn wsJx4a65c_grow_d5877 wsJx4a65c_grow_92f84 := goodIn_r _ [6, 7, 8, 9, 10, 11, 12, 13, 14, 15, 16, 17, 18, 19, 20, 21, 22, 23, 24, 25, 26, 27, 28, 29, 30, 31, 32, 33, 34, 35, 36, 37, 38, 39, 40, 41, 42, 43, 44, 45] (by decide +kernel) (by decide +kernel)
set_option maxRecDepth 20000 in
theorem gJx4a65c_grow_d5877_Jx4a65c_grow_92f84 : GoodIn wsJx4a65c_grow_d5877 (wsV RJx4a65c 69 RJx4a65c yJx4a65c_grow_92f84 wsJx4a65c_grow_92f84) := goodIn_app (goodIn_of _ (by decide +kernel)) ggJx4a65c_grow_d5877_Jx4a65c_grow_92f84
theorem dJx4a65c_grow_d5877_0 : decode cJx4a65c_grow_d5877 0 = .ok (.aload_n 0, 1) := by decide +kernel
theorem dJx4a65c_grow_d5877_1 : decode cJx4a65c_grow_d5877 1 = .ok (.aload_n 0, 1) := by decide +kernel
theorem dJx4a65c_grow_d5877_2 : decode cJx4a65c_grow_d5877 2 = .ok (.getfield 48, 3) := by decide +kernel
theorem dJx4a65c_grow_d5877_5 : decode cJx4a65c_grow_d5877 5 = .ok (.iconst 1, 1) := by decide +kernel
theorem dJx4a65c_grow_d5877_6 : decode cJx4a65c_grow_d5877 6 = .ok (.iadd, 1) := by decide +kernel
theorem dJx4a65c_grow_d5877_7 : decode cJx4a65c_grow_d5877 7 = .ok (.invokevirtual 69, 3) := by decide +kernel
theorem dJx4a65c_grow_d5877_10 : decode cJx4a65c_grow_d5877 10 = .ok (.areturn, 1) := by decide +kernel
theorem dJx4a65c_size_8abf5_0 : decode cJx4a65c_size_8abf5 0 = .ok (.aload_n 0, 1) := by decide +kernel
theorem dJx4a65c_size_8abf5_1 : decode cJx4a65c_size_8abf5 1 = .ok (.getfield 48, 3) := by decide +kernel
theorem dJx4a65c_size_8abf5_4 : decode cJx4a65c_size_8abf5 4 = .ok (.ireturn, 1) := by decide +kernel
theorem dJx4a65c_isEmpty_aae02_0 : decode cJx4a65c_isEmpty_aae02 0 = .ok (.aload_n 0, 1) := by decide +kernel
theorem dJx4a65c_isEmpty_aae02_1 : decode cJx4a65c_isEmpty_aae02 1 = .ok (.getfield 48, 3) := by decide +kernel
theorem dJx4a65c_isEmpty_aae02_4 : decode cJx4a65c_isEmpty_aae02 4 = .ok (.ifCond .ne 7, 3) := by decide +kernel
theorem dJx4a65c_isEmpty_aae02_7 : decode cJx4a65c_isEmpty_aae02 7 = .ok (.iconst 1, 1) := by decide +kernel
theorem dJx4a65c_isEmpty_aae02_8 : decode cJx4a65c_isEmpty_aae02 8 = .ok (.goto 4, 3) := by decide +kernel
theorem dJx4a65c_isEmpty_aae02_11 : decode cJx4a65c_isEmpty_aae02 11 = .ok (.iconst 0, 1) := by decide +kernel
theorem dJx4a65c_isEmpty_aae02_12 : decode cJx4a65c_isEmpty_aae02 12 = .ok (.ireturn, 1) := by decide +kernel
theorem dJx4a65c_elementData_915e3_0 : decode cJx4a65c_elementData_915e3 0 = .ok (.aload_n 0, 1) := by decide +kernel
theorem dJx4a65c_elementData_915e3_1 : decode cJx4a65c_elementData_915e3 1 = .ok (.getfield 9, 3) := by decide +kernel
theorem dJx4a65c_elementData_915e3_4 : decode cJx4a65c_elementData_915e3 4 = .ok (.iload_n 1, 1) := by decide +kernel
theorem dJx4a65c_elementData_915e3_5 : decode cJx4a65c_elementData_915e3 5 = .ok (.aaload, 1) := by decide +kernel
theorem dJx4a65c_elementData_915e3_6 : decode cJx4a65c_elementData_915e3 6 = .ok (.areturn, 1) := by decide +kernel
set_option maxRecDepth 20000 in
theorem ggJx4a65c_get_915e3_J15_checkIndex_7cf53 : GoodIn wsJx4a65c_get_915e3 wsJ15_checkIndex_7cf53 := goodIn_r _ [5, 6, 7, 8, 9] (by decide +kernel) (by decide +kernel)
set_option maxRecDepth 20000 in
theorem gJx4a65c_get_915e3_J15_checkIndex_7cf53 : GoodIn wsJx4a65c_get_915e3 (va_wsS RJx4a65c 118 yJ15_checkIndex_7cf53 wsJ15_checkIndex_7cf53) := goodIn_app (goodIn_of _ (by decide +kernel)) ggJx4a65c_get_915e3_J15_checkIndex_7cf53
set_option maxRecDepth 20000 in
theorem ggJx4a65c_get_915e3_Jx4a65c_elementData_915e3 : GoodIn wsJx4a65c_get_915e3 wsJx4a65c_elementData_915e3 := goodIn_r _ [14, 15, 16, 17, 18] (by decide +kernel) (by decide +kernel)
set_option maxRecDepth 20000 in
theorem gJx4a65c_get_915e3_Jx4a65c_elementData_915e3 : GoodIn wsJx4a65c_get_915e3 (wsV RJx4a65c 123 RJx4a65c yJx4a65c_elementData_915e3 wsJx4a65c_elementData_915e3) := goodIn_app (goodIn_of _ (by decide +kernel)) ggJx4a65c_get_915e3_Jx4a65c_elementData_915e3
theorem dJx4a65c_get_915e3_0 : decode cJx4a65c_get_915e3 0 = .ok (.iload_n 1, 1) := by decide +kernel
theorem dJx4a65c_get_915e3_1 : decode cJx4a65c_get_915e3 1 = .ok (.aload_n 0, 1) := by decide +kernel
theorem dJx4a65c_get_915e3_2 : decode cJx4a65c_get_915e3 2 = .ok (.getfield 48, 3) := by decide +kernel
theorem dJx4a65c_get_915e3_5 : decode cJx4a65c_get_915e3 5 = .ok (.invokestatic 118, 3) := by decide +kernel
theorem dJx4a65c_get_915e3_8 : decode cJx4a65c_get_915e3 8 = .ok (.pop, 1) := by decide +kernel
theorem dJx4a65c_get_915e3_9 : decode cJx4a65c_get_915e3 9 = .ok (.aload_n 0, 1) := by decide +kernel
theorem dJx4a65c_get_915e3_10 : decode cJx4a65c_get_915e3 10 = .ok (.iload_n 1, 1) := by decide +kernel
theorem dJx4a65c_get_915e3_11 : decode cJx4a65c_get_915e3 11 = .ok (.invokevirtual 123, 3) := by decide +kernel
theorem dJx4a65c_get_915e3_14 : decode cJx4a65c_get_915e3 14 = .ok (.areturn, 1) := by decide +kernel
set_option maxRecDepth 20000 in
theorem ggJx4a65c_add_72be8_Jx4a65c_grow_d5877 : GoodIn wsJx4a65c_add_72be8 wsJx4a65c_grow_d5877 := goodIn_r _ [6, 1, 7, 8, 9, 5, 10, 11, 12, 13, 14, 15, 16, 17, 18, 19, 20, 21, 22, 23, 24, 25, 26, 27, 28, 29, 30, 31, 32, 33, 34, 35, 36, 37, 38, 39, 40, 41, 42, 43, 44, 45, 46, 47, 48, 49] (by decide +kernel) (by decide +kernel)
set_option maxRecDepth 20000 in
theorem gJx4a65c_add_72be8_Jx4a65c_grow_d5877 : GoodIn wsJx4a65c_add_72be8 (wsV RJx4a65c 129 RJx4a65c yJx4a65c_grow_d5877 wsJx4a65c_grow_d5877) := goodIn_app (goodIn_of _ (by decide +kernel)) ggJx4a65c_add_72be8_Jx4a65c_grow_d5877
theorem dJx4a65c_add_72be8_0 : decode cJx4a65c_add_72be8 0 = .ok (.iload_n 3, 1) := by decide +kernel
theorem dJx4a65c_add_72be8_1 : decode cJx4a65c_add_72be8 1 = .ok (.aload_n 2, 1) := by decide +kernel
theorem dJx4a65c_add_72be8_2 : decode cJx4a65c_add_72be8 2 = .ok (.arraylength, 1) := by decide +kernel
theorem dJx4a65c_add_72be8_3 : decode cJx4a65c_add_72be8 3 = .ok (.if_icmp .ne 8, 3) := by decide +kernel
theorem dJx4a65c_add_72be8_6 : decode cJx4a65c_add_72be8 6 = .ok (.aload_n 0, 1) := by decide +kernel
theorem dJx4a65c_add_72be8_7 : decode cJx4a65c_add_72be8 7 = .ok (.invokevirtual 129, 3) := by decide +kernel
theorem dJx4a65c_add_72be8_10 : decode cJx4a65c_add_72be8 10 = .ok (.astore_n 2, 1) := by decide +kernel
theorem dJx4a65c_add_72be8_11 : decode cJx4a65c_add_72be8 11 = .ok (.aload_n 2, 1) := by decide +kernel
theorem dJx4a65c_add_72be8_12 : decode cJx4a65c_add_72be8 12 = .ok (.iload_n 3, 1) := by decide +kernel
theorem dJx4a65c_add_72be8_13 : decode cJx4a65c_add_72be8 13 = .ok (.aload_n 1, 1) := by decide +kernel
theorem dJx4a65c_add_72be8_14 : decode cJx4a65c_add_72be8 14 = .ok (.aastore, 1) := by decide +kernel
theorem dJx4a65c_add_72be8_15 : decode cJx4a65c_add_72be8 15 = .ok (.aload_n 0, 1) := by decide +kernel
theorem dJx4a65c_add_72be8_16 : decode cJx4a65c_add_72be8 16 = .ok (.iload_n 3, 1) := by decide +kernel
theorem dJx4a65c_add_72be8_17 : decode cJx4a65c_add_72be8 17 = .ok (.iconst 1, 1) := by decide +kernel
theorem dJx4a65c_add_72be8_18 : decode cJx4a65c_add_72be8 18 = .ok (.iadd, 1) := by decide +kernel
theorem dJx4a65c_add_72be8_19 : decode cJx4a65c_add_72be8 19 = .ok (.putfield 48, 3) := by decide +kernel
theorem dJx4a65c_add_72be8_22 : decode cJx4a65c_add_72be8 22 = .ok (.return_, 1) := by decide +kernel
set_option maxRecDepth 20000 in
theorem ggJx4a65c_add_9ea2d_Jx4a65c_add_72be8 : GoodIn wsJx4a65c_add_9ea2d wsJx4a65c_add_72be8 := goodIn_r _ [9, 4, 10, 11, 12, 8, 13, 14, 15, 16, 17, 3, 18, 19, 20, 21, 22, 23, 24, 25, 26, 27, 28, 29, 30, 31, 32, 33, 34, 35, 36, 37, 38, 39, 40, 41, 42, 43, 44, 45, 46, 47, 48, 49, 50, 51, 52, 53, 54, 55] (by decide +kernel) (by decide +kernel)
set_option maxRecDepth 20000 in
theorem gJx4a65c_add_9ea2d_Jx4a65c_add_72be8 : GoodIn wsJx4a65c_add_9ea2d (wsV RJx4a65c 131 RJx4a65c yJx4a65c_add_72be8 wsJx4a65c_add_72be8) := goodIn_app (goodIn_of _ (by decide +kernel)) ggJx4a65c_add_9ea2d_Jx4a65c_add_72be8
theorem dJx4a65c_add_9ea2d_0 : decode cJx4a65c_add_9ea2d 0 = .ok (.aload_n 0, 1) := by decide +kernel
theorem dJx4a65c_add_9ea2d_1 : decode cJx4a65c_add_9ea2d 1 = .ok (.dup, 1) := by decide +kernel
theorem dJx4a65c_add_9ea2d_2 : decode cJx4a65c_add_9ea2d 2 = .ok (.getfield 63, 3) := by decide +kernel
theorem dJx4a65c_add_9ea2d_5 : decode cJx4a65c_add_9ea2d 5 = .ok (.iconst 1, 1) := by decide +kernel
theorem dJx4a65c_add_9ea2d_6 : decode cJx4a65c_add_9ea2d 6 = .ok (.iadd, 1) := by decide +kernel
theorem dJx4a65c_add_9ea2d_7 : decode cJx4a65c_add_9ea2d 7 = .ok (.putfield 63, 3) := by decide +kernel
theorem dJx4a65c_add_9ea2d_10 : decode cJx4a65c_add_9ea2d 10 = .ok (.aload_n 0, 1) := by decide +kernel
theorem dJx4a65c_add_9ea2d_11 : decode cJx4a65c_add_9ea2d 11 = .ok (.aload_n 1, 1) := by decide +kernel
theorem dJx4a65c_add_9ea2d_12 : decode cJx4a65c_add_9ea2d 12 = .ok (.aload_n 0, 1) := by decide +kernel
theorem dJx4a65c_add_9ea2d_13 : decode cJx4a65c_add_9ea2d 13 = .ok (.getfield 9, 3) := by decide +kernel
theorem dJx4a65c_add_9ea2d_16 : decode cJx4a65c_add_9ea2d 16 = .ok (.aload_n 0, 1) := by decide +kernel
theorem dJx4a65c_add_9ea2d_17 : decode cJx4a65c_add_9ea2d 17 = .ok (.getfield 48, 3) := by decide +kernel
theorem dJx4a65c_add_9ea2d_20 : decode cJx4a65c_add_9ea2d 20 = .ok (.invokevirtual 131, 3) := by decide +kernel
theorem dJx4a65c_add_9ea2d_23 : decode cJx4a65c_add_9ea2d 23 = .ok (.iconst 1, 1) := by decide +kernel
theorem dJx4a65c_add_9ea2d_24 : decode cJx4a65c_add_9ea2d 24 = .ok (.ireturn, 1) := by decide +kernel
theorem dJ7_fill_53178_0 : decode cJ7_fill_53178 0 = .ok (.iconst 0, 1) := by decide +kernel
theorem dJ7_fill_53178_1 : decode cJ7_fill_53178 1 = .ok (.istore_n 2, 1) := by decide +kernel
theorem dJ7_fill_53178_2 : decode cJ7_fill_53178 2 = .ok (.aload_n 0, 1) := by decide +kernel
theorem dJ7_fill_53178_3 : decode cJ7_fill_53178 3 = .ok (.arraylength, 1) := by decide +kernel
theorem dJ7_fill_53178_4 : decode cJ7_fill_53178 4 = .ok (.istore_n 3, 1) := by decide +kernel
theorem dJ7_fill_53178_5 : decode cJ7_fill_53178 5 = .ok (.iload_n 2, 1) := by decide +kernel
theorem dJ7_fill_53178_6 : decode cJ7_fill_53178 6 = .ok (.iload_n 3, 1) := by decide +kernel
theorem dJ7_fill_53178_7 : decode cJ7_fill_53178 7 = .ok (.if_icmp .ge 13, 3) := by decide +kernel
theorem dJ7_fill_53178_10 : decode cJ7_fill_53178 10 = .ok (.aload_n 0, 1) := by decide +kernel
theorem dJ7_fill_53178_11 : decode cJ7_fill_53178 11 = .ok (.iload_n 2, 1) := by decide +kernel
theorem dJ7_fill_53178_12 : decode cJ7_fill_53178 12 = .ok (.iload_n 1, 1) := by decide +kernel
theorem dJ7_fill_53178_13 : decode cJ7_fill_53178 13 = .ok (.iastore, 1) := by decide +kernel
theorem dJ7_fill_53178_14 : decode cJ7_fill_53178 14 = .ok (.iinc 2 1, 3) := by decide +kernel
theorem dJ7_fill_53178_17 : decode cJ7_fill_53178 17 = .ok (.goto (-12), 3) := by decide +kernel
theorem dJ7_fill_53178_20 : decode cJ7_fill_53178 20 = .ok (.return_, 1) := by decide +kernel
set_option maxRecDepth 20000 in
theorem ggJ7_copyOf_1904c_J7_copyOf_6403c : GoodIn wsJ7_copyOf_1904c wsJ7_copyOf_6403c := goodIn_r _ [8, 9, 10, 11, 12, 13, 14, 15, 16, 17, 18] (by decide +kernel) (by decide +kernel)
set_option maxRecDepth 20000 in
theorem gJ7_copyOf_1904c_J7_copyOf_6403c : GoodIn wsJ7_copyOf_1904c (va_wsS RJ7 300 yJ7_copyOf_6403c wsJ7_copyOf_6403c) := goodIn_app (goodIn_of _ (by decide +kernel)) ggJ7_copyOf_1904c_J7_copyOf_6403c
theorem dJ7_copyOf_1904c_0 : decode cJ7_copyOf_1904c 0 = .ok (.aload_n 0, 1) := by decide +kernel
theorem dJ7_copyOf_1904c_1 : decode cJ7_copyOf_1904c 1 = .ok (.iload_n 1, 1) := by decide +kernel
theorem dJ7_copyOf_1904c_2 : decode cJ7_copyOf_1904c 2 = .ok (.aload_n 0, 1) := by decide +kernel
theorem dJ7_copyOf_1904c_3 : decode cJ7_copyOf_1904c 3 = .ok (.invokevirtual 86, 3) := by decide +kernel
theorem dJ7_copyOf_1904c_6 : decode cJ7_copyOf_1904c 6 = .ok (.invokestatic 300, 3) := by decide +kernel
theorem dJ7_copyOf_1904c_9 : decode cJ7_copyOf_1904c 9 = .ok (.areturn, 1) := by decide +kernel
theorem dJ7_copyOf_6403c_0 : decode cJ7_copyOf_6403c 0 = .ok (.aload_n 2, 1) := by decide +kernel
theorem dJ7_copyOf_6403c_1 : decode cJ7_copyOf_6403c 1 = .ok (.ldc 110, 2) := by decide +kernel
theorem dJ7_copyOf_6403c_3 : decode cJ7_copyOf_6403c 3 = .ok (.if_acmp .ne 10, 3) := by decide +kernel
theorem dJ7_copyOf_6403c_6 : decode cJ7_copyOf_6403c 6 = .ok (.iload_n 1, 1) := by decide +kernel
theorem dJ7_copyOf_6403c_7 : decode cJ7_copyOf_6403c 7 = .ok (.anewarray 2, 3) := by decide +kernel
theorem dJ7_copyOf_6403c_10 : decode cJ7_copyOf_6403c 10 = .ok (.goto 14, 3) := by decide +kernel
theorem dJ7_copyOf_6403c_13 : decode cJ7_copyOf_6403c 13 = .ok (.aload_n 2, 1) := by decide +kernel
theorem dJ7_copyOf_6403c_14 : decode cJ7_copyOf_6403c 14 = .ok (.invokevirtual 90, 3) := by decide +kernel
theorem dJ7_copyOf_6403c_17 : decode cJ7_copyOf_6403c 17 = .ok (.iload_n 1, 1) := by decide +kernel
theorem dJ7_copyOf_6403c_18 : decode cJ7_copyOf_6403c 18 = .ok (.invokestatic 95, 3) := by decide +kernel
theorem dJ7_copyOf_6403c_21 : decode cJ7_copyOf_6403c 21 = .ok (.checkcast 110, 3) := by decide +kernel
theorem dJ7_copyOf_6403c_24 : decode cJ7_copyOf_6403c 24 = .ok (.astore_n 3, 1) := by decide +kernel
theorem dJ7_copyOf_6403c_25 : decode cJ7_copyOf_6403c 25 = .ok (.aload_n 0, 1) := by decide +kernel
theorem dJ7_copyOf_6403c_26 : decode cJ7_copyOf_6403c 26 = .ok (.iconst 0, 1) := by decide +kernel
theorem dJ7_copyOf_6403c_27 : decode cJ7_copyOf_6403c 27 = .ok (.aload_n 3, 1) := by decide +kernel
theorem dJ7_copyOf_6403c_28 : decode cJ7_copyOf_6403c 28 = .ok (.iconst 0, 1) := by decide +kernel
theorem dJ7_copyOf_6403c_29 : decode cJ7_copyOf_6403c 29 = .ok (.aload_n 0, 1) := by decide +kernel
theorem dJ7_copyOf_6403c_30 : decode cJ7_copyOf_6403c 30 = .ok (.arraylength, 1) := by decide +kernel
theorem dJ7_copyOf_6403c_31 : decode cJ7_copyOf_6403c 31 = .ok (.iload_n 1, 1) := by decide +kernel
theorem dJ7_copyOf_6403c_32 : decode cJ7_copyOf_6403c 32 = .ok (.invokestatic 304, 3) := by decide +kernel
theorem dJ7_copyOf_6403c_35 : decode cJ7_copyOf_6403c 35 = .ok (.invokestatic 150, 3) := by decide +kernel
theorem dJ7_copyOf_6403c_38 : decode cJ7_copyOf_6403c 38 = .ok (.aload_n 3, 1) := by decide +kernel
theorem dJ7_copyOf_6403c_39 : decode cJ7_copyOf_6403c 39 = .ok (.areturn, 1) := by decide +kernel
set_option maxRecDepth 20000 in
theorem ggJ15_checkIndex_7cf53_J3_checkIndex_8e157 : GoodIn wsJ15_checkIndex_7cf53 wsJ3_checkIndex_8e157 := goodIn_r _ [4] (by decide +kernel) (by decide +kernel)
set_option maxRecDepth 20000 in
theorem gJ15_checkIndex_7cf53_J3_checkIndex_8e157 : GoodIn wsJ15_checkIndex_7cf53 (va_wsS RJ15 105 yJ3_checkIndex_8e157 wsJ3_checkIndex_8e157) := goodIn_app (goodIn_of _ (by decide +kernel)) ggJ15_checkIndex_7cf53_J3_checkIndex_8e157
theorem dJ15_checkIndex_7cf53_0 : decode cJ15_checkIndex_7cf53 0 = .ok (.iload_n 0, 1) := by decide +kernel
theorem dJ15_checkIndex_7cf53_1 : decode cJ15_checkIndex_7cf53 1 = .ok (.iload_n 1, 1) := by decide +kernel
theorem dJ15_checkIndex_7cf53_2 : decode cJ15_checkIndex_7cf53 2 = .ok (.aconst_null, 1) := by decide +kernel
theorem dJ15_checkIndex_7cf53_3 : decode cJ15_checkIndex_7cf53 3 = .ok (.invokestatic 105, 3) := by decide +kernel
theorem dJ15_checkIndex_7cf53_6 : decode cJ15_checkIndex_7cf53 6 = .ok (.ireturn, 1) := by decide +kernel
set_option maxRecDepth 20000 in
theorem ggJ8_newLength_cabcc_J8_hugeLength_7cf53 : GoodIn wsJ8_newLength_cabcc wsJ8_hugeLength_7cf53 := goodIn_r _ [9, 5] (by decide +kernel) (by decide +kernel)
set_option maxRecDepth 20000 in
theorem gJ8_newLength_cabcc_J8_hugeLength_7cf53 : GoodIn wsJ8_newLength_cabcc (va_wsS RJ8 201 yJ8_hugeLength_7cf53 wsJ8_hugeLength_7cf53) := goodIn_app (goodIn_of _ (by decide +kernel)) ggJ8_newLength_cabcc_J8_hugeLength_7cf53
theorem dJ8_newLength_cabcc_0 : decode cJ8_newLength_cabcc 0 = .ok (.iload_n 0, 1) := by decide +kernel
theorem dJ8_newLength_cabcc_1 : decode cJ8_newLength_cabcc 1 = .ok (.iload_n 1, 1) := by decide +kernel
theorem dJ8_newLength_cabcc_2 : decode cJ8_newLength_cabcc 2 = .ok (.iload_n 2, 1) := by decide +kernel
theorem dJ8_newLength_cabcc_3 : decode cJ8_newLength_cabcc 3 = .ok (.invokestatic 194, 3) := by decide +kernel
theorem dJ8_newLength_cabcc_6 : decode cJ8_newLength_cabcc 6 = .ok (.iadd, 1) := by decide +kernel
theorem dJ8_newLength_cabcc_7 : decode cJ8_newLength_cabcc 7 = .ok (.istore_n 3, 1) := by decide +kernel
theorem dJ8_newLength_cabcc_8 : decode cJ8_newLength_cabcc 8 = .ok (.iconst 0, 1) := by decide +kernel
theorem dJ8_newLength_cabcc_9 : decode cJ8_newLength_cabcc 9 = .ok (.iload_n 3, 1) := by decide +kernel
theorem dJ8_newLength_cabcc_10 : decode cJ8_newLength_cabcc 10 = .ok (.if_icmp .ge 11, 3) := by decide +kernel
theorem dJ8_newLength_cabcc_13 : decode cJ8_newLength_cabcc 13 = .ok (.iload_n 3, 1) := by decide +kernel
theorem dJ8_newLength_cabcc_14 : decode cJ8_newLength_cabcc 14 = .ok (.ldc 200, 2) := by decide +kernel
theorem dJ8_newLength_cabcc_16 : decode cJ8_newLength_cabcc 16 = .ok (.if_icmp .gt 5, 3) := by decide +kernel
theorem dJ8_newLength_cabcc_19 : decode cJ8_newLength_cabcc 19 = .ok (.iload_n 3, 1) := by decide +kernel
theorem dJ8_newLength_cabcc_20 : decode cJ8_newLength_cabcc 20 = .ok (.ireturn, 1) := by decide +kernel
theorem dJ8_newLength_cabcc_21 : decode cJ8_newLength_cabcc 21 = .ok (.iload_n 0, 1) := by decide +kernel
theorem dJ8_newLength_cabcc_22 : decode cJ8_newLength_cabcc 22 = .ok (.iload_n 1, 1) := by decide +kernel
theorem dJ8_newLength_cabcc_23 : decode cJ8_newLength_cabcc 23 = .ok (.invokestatic 201, 3) := by decide +kernel
theorem dJ8_newLength_cabcc_26 : decode cJ8_newLength_cabcc 26 = .ok (.ireturn, 1) := by decide +kernel
theorem dJ8_hugeLength_7cf53_0 : decode cJ8_hugeLength_7cf53 0 = .ok (.iload_n 0, 1) := by decide +kernel
theorem dJ8_hugeLength_7cf53_1 : decode cJ8_hugeLength_7cf53 1 = .ok (.iload_n 1, 1) := by decide +kernel
theorem dJ8_hugeLength_7cf53_2 : decode cJ8_hugeLength_7cf53 2 = .ok (.iadd, 1) := by decide +kernel
theorem dJ8_hugeLength_7cf53_3 : decode cJ8_hugeLength_7cf53 3 = .ok (.istore_n 2, 1) := by decide +kernel
theorem dJ8_hugeLength_7cf53_4 : decode cJ8_hugeLength_7cf53 4 = .ok (.iload_n 2, 1) := by decide +kernel
theorem dJ8_hugeLength_7cf53_5 : decode cJ8_hugeLength_7cf53 5 = .ok (.ifCond .ge 44, 3) := by decide +kernel
theorem dJ8_hugeLength_7cf53_8 : decode cJ8_hugeLength_7cf53 8 = .ok (.new 204, 3) := by decide +kernel
theorem dJ8_hugeLength_7cf53_11 : decode cJ8_hugeLength_7cf53 11 = .ok (.dup, 1) := by decide +kernel
theorem dJ8_hugeLength_7cf53_12 : decode cJ8_hugeLength_7cf53 12 = .ok (.new 89, 3) := by decide +kernel
theorem dJ8_hugeLength_7cf53_15 : decode cJ8_hugeLength_7cf53 15 = .ok (.dup, 1) := by decide +kernel
theorem dJ8_hugeLength_7cf53_16 : decode cJ8_hugeLength_7cf53 16 = .ok (.invokespecial 91, 3) := by decide +kernel
theorem dJ8_hugeLength_7cf53_19 : decode cJ8_hugeLength_7cf53 19 = .ok (.ldc 206, 2) := by decide +kernel
theorem dJ8_hugeLength_7cf53_21 : decode cJ8_hugeLength_7cf53 21 = .ok (.invokevirtual 94, 3) := by decide +kernel
theorem dJ8_hugeLength_7cf53_24 : decode cJ8_hugeLength_7cf53 24 = .ok (.iload_n 0, 1) := by decide +kernel
theorem dJ8_hugeLength_7cf53_25 : decode cJ8_hugeLength_7cf53 25 = .ok (.invokevirtual 98, 3) := by decide +kernel
theorem dJ8_hugeLength_7cf53_28 : decode cJ8_hugeLength_7cf53 28 = .ok (.ldc 208, 2) := by decide +kernel
theorem dJ8_hugeLength_7cf53_30 : decode cJ8_hugeLength_7cf53 30 = .ok (.invokevirtual 94, 3) := by decide +kernel
theorem dJ8_hugeLength_7cf53_33 : decode cJ8_hugeLength_7cf53 33 = .ok (.iload_n 1, 1) := by decide +kernel
theorem dJ8_hugeLength_7cf53_34 : decode cJ8_hugeLength_7cf53 34 = .ok (.invokevirtual 98, 3) := by decide +kernel
theorem dJ8_hugeLength_7cf53_37 : decode cJ8_hugeLength_7cf53 37 = .ok (.ldc 210, 2) := by decide +kernel
theorem dJ8_hugeLength_7cf53_39 : decode cJ8_hugeLength_7cf53 39 = .ok (.invokevirtual 94, 3) := by decide +kernel
theorem dJ8_hugeLength_7cf53_42 : decode cJ8_hugeLength_7cf53 42 = .ok (.invokevirtual 101, 3) := by decide +kernel
theorem dJ8_hugeLength_7cf53_45 : decode cJ8_hugeLength_7cf53 45 = .ok (.invokespecial 212, 3) := by decide +kernel
theorem dJ8_hugeLength_7cf53_48 : decode cJ8_hugeLength_7cf53 48 = .ok (.athrow, 1) := by decide +kernel
theorem dJ8_hugeLength_7cf53_49 : decode cJ8_hugeLength_7cf53 49 = .ok (.iload_n 2, 1) := by decide +kernel
theorem dJ8_hugeLength_7cf53_50 : decode cJ8_hugeLength_7cf53 50 = .ok (.ldc 200, 2) := by decide +kernel
theorem dJ8_hugeLength_7cf53_52 : decode cJ8_hugeLength_7cf53 52 = .ok (.if_icmp .gt 6, 3) := by decide +kernel
theorem dJ8_hugeLength_7cf53_55 : decode cJ8_hugeLength_7cf53 55 = .ok (.ldc 200, 2) := by decide +kernel
theorem dJ8_hugeLength_7cf53_57 : decode cJ8_hugeLength_7cf53 57 = .ok (.ireturn, 1) := by decide +kernel
theorem dJ8_hugeLength_7cf53_58 : decode cJ8_hugeLength_7cf53 58 = .ok (.iload_n 2, 1) := by decide +kernel
theorem dJ8_hugeLength_7cf53_59 : decode cJ8_hugeLength_7cf53 59 = .ok (.ireturn, 1) := by decide +kernel
theorem dJ3_checkIndex_8e157_0 : decode cJ3_checkIndex_8e157 0 = .ok (.iload_n 0, 1) := by decide +kernel
theorem dJ3_checkIndex_8e157_1 : decode cJ3_checkIndex_8e157 1 = .ok (.ifCond .lt 8, 3) := by decide +kernel
theorem dJ3_checkIndex_8e157_4 : decode cJ3_checkIndex_8e157 4 = .ok (.iload_n 0, 1) := by decide +kernel
theorem dJ3_checkIndex_8e157_5 : decode cJ3_checkIndex_8e157 5 = .ok (.iload_n 1, 1) := by decide +kernel
theorem dJ3_checkIndex_8e157_6 : decode cJ3_checkIndex_8e157 6 = .ok (.if_icmp .lt 10, 3) := by decide +kernel
theorem dJ3_checkIndex_8e157_9 : decode cJ3_checkIndex_8e157 9 = .ok (.aload_n 2, 1) := by decide +kernel
theorem dJ3_checkIndex_8e157_10 : decode cJ3_checkIndex_8e157 10 = .ok (.iload_n 0, 1) := by decide +kernel
theorem dJ3_checkIndex_8e157_11 : decode cJ3_checkIndex_8e157 11 = .ok (.iload_n 1, 1) := by decide +kernel
theorem dJ3_checkIndex_8e157_12 : decode cJ3_checkIndex_8e157 12 = .ok (.invokestatic 95, 3) := by decide +kernel
theorem dJ3_checkIndex_8e157_15 : decode cJ3_checkIndex_8e157 15 = .ok (.athrow, 1) := by decide +kernel
theorem dJ3_checkIndex_8e157_16 : decode cJ3_checkIndex_8e157 16 = .ok (.iload_n 0, 1) := by decide +kernel
theorem dJ3_checkIndex_8e157_17 : decode cJ3_checkIndex_8e157 17 = .ok (.ireturn, 1) := by decide +kernel
set_option maxRecDepth 20000 in
theorem ggL_question_X6_question : GoodIn wsL_question wsX6_question := goodIn_ca (goodIn_r _ [6, 7, 8, 9, 10, 11, 12, 13, 14, 15, 16, 17, 18, 19, 20, 21, 22, 23, 24, 25, 26, 27, 28, 29, 30, 31, 32, 33, 34, 35, 36, 37, 38, 39, 40, 41, 42, 43, 44, 45, 46, 47, 48, 49, 50, 51, 52, 53, 54, 55, 56, 57, 58, 59, 60, 61, 62, 63, 64, 65, 66, 67, 68, 69, 70, 71, 72, 73, 74, 75, 76, 77, 78, 79, 80, 81, 82, 83, 84, 85, 86, 87, 88, 89, 90, 91, 92, 93, 94, 95, 96, 97, 98, 99, 100, 101, 102, 103, 104, 105, 106, 107, 108, 109, 110, 111, 112] (by decide +kernel) (by decide +kernel)) (goodIn_sub (fun _ h => List.mem_cons_of_mem _ (List.mem_append_right _ h)) (by decide +kernel))
set_option maxRecDepth 20000 in
theorem gL_question_X6_question : GoodIn wsL_question (wsV RL 7 RX6 yX6_question wsX6_question) := goodIn_app (goodIn_of _ (by decide +kernel)) ggL_question_X6_question
end
section
theorem dX0_init_0 : decode cX0_init 0 = .ok (.aload_n 0, 1) := by decide +kernel
theorem dX0_init_1 : decode cX0_init 1 = .ok (.invokespecial 3, 3) := by decide +kernel
theorem dX0_init_4 : decode cX0_init 4 = .ok (.aload_n 0, 1) := by decide +kernel
theorem dX0_init_5 : decode cX0_init 5 = .ok (.bipush 6, 2) := by decide +kernel
theorem dX0_init_7 : decode cX0_init 7 = .ok (.newarray .int, 2) := by decide +kernel
theorem dX0_init_9 : decode cX0_init 9 = .ok (.putfield 9, 3) := by decide +kernel
theorem dX0_init_12 : decode cX0_init 12 = .ok (.aload_n 0, 1) := by decide +kernel
theorem dX0_init_13 : decode cX0_init 13 = .ok (.getfield 9, 3) := by decide +kernel
theorem dX0_init_16 : decode cX0_init 16 = .ok (.iconst (-1), 1) := by decide +kernel
theorem dX0_init_17 : decode cX0_init 17 = .ok (.invokestatic 15, 3) := by decide +kernel
theorem dX0_init_20 : decode cX0_init 20 = .ok (.return_, 1) := by decide +kernel
theorem dX0_valueOf_0 : decode cX0_valueOf 0 = .ok (.iload_n 1, 1) := by decide +kernel
theorem dX0_valueOf_1 : decode cX0_valueOf 1 = .ok (.ifCond .lt 21, 3) := by decide +kernel
theorem dX0_valueOf_4 : decode cX0_valueOf 4 = .ok (.iload_n 1, 1) := by decide +kernel
theorem dX0_valueOf_5 : decode cX0_valueOf 5 = .ok (.aload_n 0, 1) := by decide +kernel
theorem dX0_valueOf_6 : decode cX0_valueOf 6 = .ok (.getfield 9, 3) := by decide +kernel
theorem dX0_valueOf_9 : decode cX0_valueOf 9 = .ok (.arraylength, 1) := by decide +kernel
theorem dX0_valueOf_10 : decode cX0_valueOf 10 = .ok (.if_icmp .ge 12, 3) := by decide +kernel
theorem dX0_valueOf_13 : decode cX0_valueOf 13 = .ok (.aload_n 0, 1) := by decide +kernel
theorem dX0_valueOf_14 : decode cX0_valueOf 14 = .ok (.getfield 9, 3) := by decide +kernel
theorem dX0_valueOf_17 : decode cX0_valueOf 17 = .ok (.iload_n 1, 1) := by decide +kernel
theorem dX0_valueOf_18 : decode cX0_valueOf 18 = .ok (.iaload, 1) := by decide +kernel
theorem dX0_valueOf_19 : decode cX0_valueOf 19 = .ok (.goto 4, 3) := by decide +kernel
theorem dX0_valueOf_22 : decode cX0_valueOf 22 = .ok (.iconst (-1), 1) := by decide +kernel
theorem dX0_valueOf_23 : decode cX0_valueOf 23 = .ok (.ireturn, 1) := by decide +kernel
set_option maxRecDepth 20000 in
theorem ggX0_replace_X0_valueOf : GoodIn wsX0_replace wsX0_valueOf := goodIn_r _ [6, 1, 7] (by decide +kernel) (by decide +kernel)
set_option maxRecDepth 20000 in
theorem gX0_replace_X0_valueOf : GoodIn wsX0_replace (wsV RX0 21 RX0 yX0_valueOf wsX0_valueOf) := goodIn_app (goodIn_of _ (by decide +kernel)) ggX0_replace_X0_valueOf
theorem dX0_replace_0 : decode cX0_replace 0 = .ok (.aload_n 0, 1) := by decide +kernel
theorem dX0_replace_1 : decode cX0_replace 1 = .ok (.iload_n 1, 1) := by decide +kernel
theorem dX0_replace_2 : decode cX0_replace 2 = .ok (.invokevirtual 21, 3) := by decide +kernel
theorem dX0_replace_5 : decode cX0_replace 5 = .ok (.istore_n 3, 1) := by decide +kernel
theorem dX0_replace_6 : decode cX0_replace 6 = .ok (.iload_n 1, 1) := by decide +kernel
theorem dX0_replace_7 : decode cX0_replace 7 = .ok (.ifCond .lt 19, 3) := by decide +kernel
theorem dX0_replace_10 : decode cX0_replace 10 = .ok (.iload_n 1, 1) := by decide +kernel
theorem dX0_replace_11 : decode cX0_replace 11 = .ok (.aload_n 0, 1) := by decide +kernel
theorem dX0_replace_12 : decode cX0_replace 12 = .ok (.getfield 9, 3) := by decide +kernel
theorem dX0_replace_15 : decode cX0_replace 15 = .ok (.arraylength, 1) := by decide +kernel
theorem dX0_replace_16 : decode cX0_replace 16 = .ok (.if_icmp .ge 10, 3) := by decide +kernel
theorem dX0_replace_19 : decode cX0_replace 19 = .ok (.aload_n 0, 1) := by decide +kernel
theorem dX0_replace_20 : decode cX0_replace 20 = .ok (.getfield 9, 3) := by decide +kernel
theorem dX0_replace_23 : decode cX0_replace 23 = .ok (.iload_n 1, 1) := by decide +kernel
theorem dX0_replace_24 : decode cX0_replace 24 = .ok (.iload_n 2, 1) := by decide +kernel
theorem dX0_replace_25 : decode cX0_replace 25 = .ok (.iastore, 1) := by decide +kernel
theorem dX0_replace_26 : decode cX0_replace 26 = .ok (.iload_n 3, 1) := by decide +kernel
theorem dX0_replace_27 : decode cX0_replace 27 = .ok (.ireturn, 1) := by decide +kernel
theorem dX1_init_0 : decode cX1_init 0 = .ok (.aload_n 0, 1) := by decide +kernel
theorem dX1_init_1 : decode cX1_init 1 = .ok (.invokespecial 3, 3) := by decide +kernel
theorem dX1_init_4 : decode cX1_init 4 = .ok (.aload_n 0, 1) := by decide +kernel
theorem dX1_init_5 : decode cX1_init 5 = .ok (.sipush 768, 3) := by decide +kernel
theorem dX1_init_8 : decode cX1_init 8 = .ok (.anewarray 11, 3) := by decide +kernel
theorem dX1_init_11 : decode cX1_init 11 = .ok (.putfield 13, 3) := by decide +kernel
theorem dX1_init_14 : decode cX1_init 14 = .ok (.return_, 1) := by decide +kernel
set_option maxRecDepth 20000 in
theorem ggX1_enter_X6_levelOfPiece : GoodIn wsX1_enter wsX6_levelOfPiece := goodIn_r _ [3] (by decide +kernel) (by decide +kernel)
set_option maxRecDepth 20000 in
theorem gX1_enter_X6_levelOfPiece_n17 : GoodIn wsX1_enter (wsX6_levelOfPiece) := ggX1_enter_X6_levelOfPiece
set_option maxRecDepth 20000 in
theorem ggX1_enter_X1_post : GoodIn wsX1_enter wsX1_post := goodIn_r _ [8, 9, 10, 11, 12, 13, 14, 15, 16, 17, 18, 19, 20, 21, 22, 23] (by decide +kernel) (by decide +kernel)
set_option maxRecDepth 20000 in
theorem gX1_enter_X1_post : GoodIn wsX1_enter (wsV RX1 21 RX1 yX1_post wsX1_post) := goodIn_app (goodIn_of _ (by decide +kernel)) ggX1_enter_X1_post
theorem dX1_enter_0 : decode cX1_enter 0 = .ok (.iload_n 3, 1) := by decide +kernel
theorem dX1_enter_1 : decode cX1_enter 1 = .ok (.istore 5, 2) := by decide +kernel
theorem dX1_enter_3 : decode cX1_enter 3 = .ok (.iconst 0, 1) := by decide +kernel
theorem dX1_enter_4 : decode cX1_enter 4 = .ok (.istore 6, 2) := by decide +kernel
theorem dX1_enter_6 : decode cX1_enter 6 = .ok (.iload 6, 2) := by decide +kernel
theorem dX1_enter_8 : decode cX1_enter 8 = .ok (.bipush 64, 2) := by decide +kernel
theorem dX1_enter_10 : decode cX1_enter 10 = .ok (.if_icmp .ge 53, 3) := by decide +kernel
theorem dX1_enter_13 : decode cX1_enter 13 = .ok (.iload 5, 2) := by decide +kernel
theorem dX1_enter_15 : decode cX1_enter 15 = .ok (.iload 4, 2) := by decide +kernel
theorem dX1_enter_17 : decode cX1_enter 17 = .ok (.if_icmp .gt 46, 3) := by decide +kernel
theorem dX1_enter_20 : decode cX1_enter 20 = .ok (.iload 5, 2) := by decide +kernel
theorem dX1_enter_22 : decode cX1_enter 22 = .ok (.iload 4, 2) := by decide +kernel
theorem dX1_enter_24 : decode cX1_enter 24 = .ok (.invokestatic 17, 3) := by decide +kernel
theorem dX1_enter_27 : decode cX1_enter 27 = .ok (.istore 7, 2) := by decide +kernel
theorem dX1_enter_29 : decode cX1_enter 29 = .ok (.aload_n 0, 1) := by decide +kernel
theorem dX1_enter_30 : decode cX1_enter 30 = .ok (.aload_n 1, 1) := by decide +kernel
theorem dX1_enter_31 : decode cX1_enter 31 = .ok (.iload_n 2, 1) := by decide +kernel
theorem dX1_enter_32 : decode cX1_enter 32 = .ok (.sipush 128, 3) := by decide +kernel
theorem dX1_enter_35 : decode cX1_enter 35 = .ok (.imul, 1) := by decide +kernel
theorem dX1_enter_36 : decode cX1_enter 36 = .ok (.bipush 64, 2) := by decide +kernel
theorem dX1_enter_38 : decode cX1_enter 38 = .ok (.iload 5, 2) := by decide +kernel
theorem dX1_enter_40 : decode cX1_enter 40 = .ok (.iadd, 1) := by decide +kernel
theorem dX1_enter_41 : decode cX1_enter 41 = .ok (.iload 7, 2) := by decide +kernel
theorem dX1_enter_43 : decode cX1_enter 43 = .ok (.ishr, 1) := by decide +kernel
theorem dX1_enter_44 : decode cX1_enter 44 = .ok (.iadd, 1) := by decide +kernel
theorem dX1_enter_45 : decode cX1_enter 45 = .ok (.invokevirtual 21, 3) := by decide +kernel
theorem dX1_enter_48 : decode cX1_enter 48 = .ok (.iload 5, 2) := by decide +kernel
theorem dX1_enter_50 : decode cX1_enter 50 = .ok (.iconst 1, 1) := by decide +kernel
theorem dX1_enter_51 : decode cX1_enter 51 = .ok (.iload 7, 2) := by decide +kernel
theorem dX1_enter_53 : decode cX1_enter 53 = .ok (.ishl, 1) := by decide +kernel
theorem dX1_enter_54 : decode cX1_enter 54 = .ok (.iadd, 1) := by decide +kernel
theorem dX1_enter_55 : decode cX1_enter 55 = .ok (.istore 5, 2) := by decide +kernel
theorem dX1_enter_57 : decode cX1_enter 57 = .ok (.iinc 6 1, 3) := by decide +kernel
theorem dX1_enter_60 : decode cX1_enter 60 = .ok (.goto (-54), 3) := by decide +kernel
theorem dX1_enter_63 : decode cX1_enter 63 = .ok (.return_, 1) := by decide +kernel
set_option maxRecDepth 20000 in
theorem ggX1_post_X2_init : GoodIn wsX1_post wsX2_init := goodIn_r _ [7, 8, 9, 10, 11, 12, 14, 15] (by decide +kernel) (by decide +kernel)
set_option maxRecDepth 20000 in
theorem gX1_post_X2_init : GoodIn wsX1_post (wsX2_init) := ggX1_post_X2_init
theorem dX1_post_0 : decode cX1_post 0 = .ok (.iload_n 2, 1) := by decide +kernel
theorem dX1_post_1 : decode cX1_post 1 = .ok (.ifCond .lt 32, 3) := by decide +kernel
theorem dX1_post_4 : decode cX1_post 4 = .ok (.iload_n 2, 1) := by decide +kernel
theorem dX1_post_5 : decode cX1_post 5 = .ok (.aload_n 0, 1) := by decide +kernel
theorem dX1_post_6 : decode cX1_post 6 = .ok (.getfield 13, 3) := by decide +kernel
theorem dX1_post_9 : decode cX1_post 9 = .ok (.arraylength, 1) := by decide +kernel
theorem dX1_post_10 : decode cX1_post 10 = .ok (.if_icmp .ge 23, 3) := by decide +kernel
theorem dX1_post_13 : decode cX1_post 13 = .ok (.aload_n 0, 1) := by decide +kernel
theorem dX1_post_14 : decode cX1_post 14 = .ok (.getfield 13, 3) := by decide +kernel
theorem dX1_post_17 : decode cX1_post 17 = .ok (.iload_n 2, 1) := by decide +kernel
theorem dX1_post_18 : decode cX1_post 18 = .ok (.new 11, 3) := by decide +kernel
theorem dX1_post_21 : decode cX1_post 21 = .ok (.dup, 1) := by decide +kernel
theorem dX1_post_22 : decode cX1_post 22 = .ok (.aload_n 1, 1) := by decide +kernel
theorem dX1_post_23 : decode cX1_post 23 = .ok (.aload_n 0, 1) := by decide +kernel
theorem dX1_post_24 : decode cX1_post 24 = .ok (.getfield 13, 3) := by decide +kernel
theorem dX1_post_27 : decode cX1_post 27 = .ok (.iload_n 2, 1) := by decide +kernel
theorem dX1_post_28 : decode cX1_post 28 = .ok (.aaload, 1) := by decide +kernel
theorem dX1_post_29 : decode cX1_post 29 = .ok (.invokespecial 25, 3) := by decide +kernel
theorem dX1_post_32 : decode cX1_post 32 = .ok (.aastore, 1) := by decide +kernel
theorem dX1_post_33 : decode cX1_post 33 = .ok (.return_, 1) := by decide +kernel
set_option maxRecDepth 20000 in
theorem ggX1_countHits_X0_valueOf : GoodIn wsX1_countHits wsX0_valueOf := goodIn_r _ [5, 6, 23] (by decide +kernel) (by decide +kernel)
set_option maxRecDepth 20000 in
theorem gX1_countHits_X0_valueOf : GoodIn wsX1_countHits (wsV RX1 28 RX0 yX0_valueOf wsX0_valueOf) := goodIn_app (goodIn_of _ (by decide +kernel)) ggX1_countHits_X0_valueOf
set_option maxRecDepth 20000 in
theorem ggX1_countHits_X6_isValue : GoodIn wsX1_countHits wsX6_isValue := goodIn_r _ [9] (by decide +kernel) (by decide +kernel)
set_option maxRecDepth 20000 in
theorem gX1_countHits_X6_isValue_n34 : GoodIn wsX1_countHits (wsX6_isValue) := ggX1_countHits_X6_isValue
set_option maxRecDepth 20000 in
theorem ggX1_countHits_X1_hitAbove : GoodIn wsX1_countHits wsX1_hitAbove := goodIn_r _ [14, 15, 16, 17, 18, 19, 20, 13, 21, 22, 24, 25, 26, 27, 28, 29] (by decide +kernel) (by decide +kernel)
set_option maxRecDepth 20000 in
theorem gX1_countHits_X1_hitAbove : GoodIn wsX1_countHits (wsV RX1 38 RX1 yX1_hitAbove wsX1_hitAbove) := goodIn_app (goodIn_of _ (by decide +kernel)) ggX1_countHits_X1_hitAbove
theorem dX1_countHits_0 : decode cX1_countHits 0 = .ok (.iconst 0, 1) := by decide +kernel
theorem dX1_countHits_1 : decode cX1_countHits 1 = .ok (.istore_n 2, 1) := by decide +kernel
theorem dX1_countHits_2 : decode cX1_countHits 2 = .ok (.iload_n 2, 1) := by decide +kernel
theorem dX1_countHits_3 : decode cX1_countHits 3 = .ok (.bipush 6, 2) := by decide +kernel
theorem dX1_countHits_5 : decode cX1_countHits 5 = .ok (.if_icmp .ge 35, 3) := by decide +kernel
theorem dX1_countHits_8 : decode cX1_countHits 8 = .ok (.aload_n 1, 1) := by decide +kernel
theorem dX1_countHits_9 : decode cX1_countHits 9 = .ok (.iload_n 2, 1) := by decide +kernel
theorem dX1_countHits_10 : decode cX1_countHits 10 = .ok (.invokevirtual 28, 3) := by decide +kernel
theorem dX1_countHits_13 : decode cX1_countHits 13 = .ok (.istore_n 3, 1) := by decide +kernel
theorem dX1_countHits_14 : decode cX1_countHits 14 = .ok (.iload_n 3, 1) := by decide +kernel
theorem dX1_countHits_15 : decode cX1_countHits 15 = .ok (.invokestatic 34, 3) := by decide +kernel
theorem dX1_countHits_18 : decode cX1_countHits 18 = .ok (.ifCond .eq 16, 3) := by decide +kernel
theorem dX1_countHits_21 : decode cX1_countHits 21 = .ok (.aload_n 0, 1) := by decide +kernel
theorem dX1_countHits_22 : decode cX1_countHits 22 = .ok (.iload_n 2, 1) := by decide +kernel
theorem dX1_countHits_23 : decode cX1_countHits 23 = .ok (.sipush 128, 3) := by decide +kernel
theorem dX1_countHits_26 : decode cX1_countHits 26 = .ok (.imul, 1) := by decide +kernel
theorem dX1_countHits_27 : decode cX1_countHits 27 = .ok (.bipush 64, 2) := by decide +kernel
theorem dX1_countHits_29 : decode cX1_countHits 29 = .ok (.iload_n 3, 1) := by decide +kernel
theorem dX1_countHits_30 : decode cX1_countHits 30 = .ok (.iadd, 1) := by decide +kernel
theorem dX1_countHits_31 : decode cX1_countHits 31 = .ok (.invokevirtual 38, 3) := by decide +kernel
theorem dX1_countHits_34 : decode cX1_countHits 34 = .ok (.iinc 2 1, 3) := by decide +kernel
theorem dX1_countHits_37 : decode cX1_countHits 37 = .ok (.goto (-35), 3) := by decide +kernel
theorem dX1_countHits_40 : decode cX1_countHits 40 = .ok (.return_, 1) := by decide +kernel
set_option maxRecDepth 20000 in
theorem ggX1_hitAbove_X1_firstAt : GoodIn wsX1_hitAbove wsX1_firstAt := goodIn_r _ [8, 9, 15] (by decide +kernel) (by decide +kernel)
set_option maxRecDepth 20000 in
theorem gX1_hitAbove_X1_firstAt : GoodIn wsX1_hitAbove (wsV RX1 42 RX1 yX1_firstAt wsX1_firstAt) := goodIn_app (goodIn_of _ (by decide +kernel)) ggX1_hitAbove_X1_firstAt
theorem dX1_hitAbove_0 : decode cX1_hitAbove 0 = .ok (.iload_n 2, 1) := by decide +kernel
theorem dX1_hitAbove_1 : decode cX1_hitAbove 1 = .ok (.istore_n 3, 1) := by decide +kernel
theorem dX1_hitAbove_2 : decode cX1_hitAbove 2 = .ok (.iload_n 3, 1) := by decide +kernel
theorem dX1_hitAbove_3 : decode cX1_hitAbove 3 = .ok (.ifCond .le 48, 3) := by decide +kernel
theorem dX1_hitAbove_6 : decode cX1_hitAbove 6 = .ok (.aload_n 0, 1) := by decide +kernel
theorem dX1_hitAbove_7 : decode cX1_hitAbove 7 = .ok (.iload_n 1, 1) := by decide +kernel
theorem dX1_hitAbove_8 : decode cX1_hitAbove 8 = .ok (.iload_n 3, 1) := by decide +kernel
theorem dX1_hitAbove_9 : decode cX1_hitAbove 9 = .ok (.iadd, 1) := by decide +kernel
theorem dX1_hitAbove_10 : decode cX1_hitAbove 10 = .ok (.invokevirtual 42, 3) := by decide +kernel
theorem dX1_hitAbove_13 : decode cX1_hitAbove 13 = .ok (.astore 4, 2) := by decide +kernel
theorem dX1_hitAbove_15 : decode cX1_hitAbove 15 = .ok (.aload 4, 2) := by decide +kernel
theorem dX1_hitAbove_17 : decode cX1_hitAbove 17 = .ok (.ifnull 27, 3) := by decide +kernel
theorem dX1_hitAbove_20 : decode cX1_hitAbove 20 = .ok (.aload 4, 2) := by decide +kernel
theorem dX1_hitAbove_22 : decode cX1_hitAbove 22 = .ok (.getfield 46, 3) := by decide +kernel
theorem dX1_hitAbove_25 : decode cX1_hitAbove 25 = .ok (.dup, 1) := by decide +kernel
theorem dX1_hitAbove_26 : decode cX1_hitAbove 26 = .ok (.getfield 50, 3) := by decide +kernel
theorem dX1_hitAbove_29 : decode cX1_hitAbove 29 = .ok (.iconst 1, 1) := by decide +kernel
theorem dX1_hitAbove_30 : decode cX1_hitAbove 30 = .ok (.iadd, 1) := by decide +kernel
theorem dX1_hitAbove_31 : decode cX1_hitAbove 31 = .ok (.putfield 50, 3) := by decide +kernel
theorem dX1_hitAbove_34 : decode cX1_hitAbove 34 = .ok (.aload 4, 2) := by decide +kernel
theorem dX1_hitAbove_36 : decode cX1_hitAbove 36 = .ok (.getfield 56, 3) := by decide +kernel
theorem dX1_hitAbove_39 : decode cX1_hitAbove 39 = .ok (.astore 4, 2) := by decide +kernel
theorem dX1_hitAbove_41 : decode cX1_hitAbove 41 = .ok (.goto (-26), 3) := by decide +kernel
theorem dX1_hitAbove_44 : decode cX1_hitAbove 44 = .ok (.iload_n 3, 1) := by decide +kernel
theorem dX1_hitAbove_45 : decode cX1_hitAbove 45 = .ok (.iconst 1, 1) := by decide +kernel
theorem dX1_hitAbove_46 : decode cX1_hitAbove 46 = .ok (.ishr, 1) := by decide +kernel
theorem dX1_hitAbove_47 : decode cX1_hitAbove 47 = .ok (.istore_n 3, 1) := by decide +kernel
theorem dX1_hitAbove_48 : decode cX1_hitAbove 48 = .ok (.goto (-46), 3) := by decide +kernel
theorem dX1_hitAbove_51 : decode cX1_hitAbove 51 = .ok (.return_, 1) := by decide +kernel
theorem dX1_firstAt_0 : decode cX1_firstAt 0 = .ok (.iload_n 1, 1) := by decide +kernel
theorem dX1_firstAt_1 : decode cX1_firstAt 1 = .ok (.ifCond .lt 21, 3) := by decide +kernel
theorem dX1_firstAt_4 : decode cX1_firstAt 4 = .ok (.iload_n 1, 1) := by decide +kernel
theorem dX1_firstAt_5 : decode cX1_firstAt 5 = .ok (.aload_n 0, 1) := by decide +kernel
theorem dX1_firstAt_6 : decode cX1_firstAt 6 = .ok (.getfield 13, 3) := by decide +kernel
theorem dX1_firstAt_9 : decode cX1_firstAt 9 = .ok (.arraylength, 1) := by decide +kernel
theorem dX1_firstAt_10 : decode cX1_firstAt 10 = .ok (.if_icmp .ge 12, 3) := by decide +kernel
theorem dX1_firstAt_13 : decode cX1_firstAt 13 = .ok (.aload_n 0, 1) := by decide +kernel
theorem dX1_firstAt_14 : decode cX1_firstAt 14 = .ok (.getfield 13, 3) := by decide +kernel
theorem dX1_firstAt_17 : decode cX1_firstAt 17 = .ok (.iload_n 1, 1) := by decide +kernel
theorem dX1_firstAt_18 : decode cX1_firstAt 18 = .ok (.aaload, 1) := by decide +kernel
theorem dX1_firstAt_19 : decode cX1_firstAt 19 = .ok (.goto 4, 3) := by decide +kernel
theorem dX1_firstAt_22 : decode cX1_firstAt 22 = .ok (.aconst_null, 1) := by decide +kernel
theorem dX1_firstAt_23 : decode cX1_firstAt 23 = .ok (.areturn, 1) := by decide +kernel
theorem dX2_init_0 : decode cX2_init 0 = .ok (.aload_n 0, 1) := by decide +kernel
theorem dX2_init_1 : decode cX2_init 1 = .ok (.invokespecial 1, 3) := by decide +kernel
theorem dX2_init_4 : decode cX2_init 4 = .ok (.aload_n 0, 1) := by decide +kernel
theorem dX2_init_5 : decode cX2_init 5 = .ok (.aload_n 1, 1) := by decide +kernel
theorem dX2_init_6 : decode cX2_init 6 = .ok (.putfield 7, 3) := by decide +kernel
theorem dX2_init_9 : decode cX2_init 9 = .ok (.aload_n 0, 1) := by decide +kernel
theorem dX2_init_10 : decode cX2_init 10 = .ok (.aload_n 2, 1) := by decide +kernel
theorem dX2_init_11 : decode cX2_init 11 = .ok (.putfield 13, 3) := by decide +kernel
theorem dX2_init_14 : decode cX2_init 14 = .ok (.return_, 1) := by decide +kernel
set_option maxRecDepth 20000 in
theorem ggX3_init_Jx4a65c_init_da8c8 : GoodIn wsX3_init wsJx4a65c_init_da8c8 := goodIn_r _ [12, 13, 14, 15, 16, 17, 18, 19, 20, 21, 22, 23, 24, 2, 3, 25, 26, 27] (by decide +kernel) (by decide +kernel)
set_option maxRecDepth 20000 in
theorem gX3_init_Jx4a65c_init_da8c8 : GoodIn wsX3_init (wsJx4a65c_init_da8c8) := ggX3_init_Jx4a65c_init_da8c8
theorem dX3_init_0 : decode cX3_init 0 = .ok (.aload_n 0, 1) := by decide +kernel
theorem dX3_init_1 : decode cX3_init 1 = .ok (.invokespecial 1, 3) := by decide +kernel
theorem dX3_init_4 : decode cX3_init 4 = .ok (.aload_n 0, 1) := by decide +kernel
theorem dX3_init_5 : decode cX3_init 5 = .ok (.new 7, 3) := by decide +kernel
theorem dX3_init_8 : decode cX3_init 8 = .ok (.dup, 1) := by decide +kernel
theorem dX3_init_9 : decode cX3_init 9 = .ok (.invokespecial 9, 3) := by decide +kernel
theorem dX3_init_12 : decode cX3_init 12 = .ok (.putfield 10, 3) := by decide +kernel
theorem dX3_init_15 : decode cX3_init 15 = .ok (.aload_n 0, 1) := by decide +kernel
theorem dX3_init_16 : decode cX3_init 16 = .ok (.iconst 0, 1) := by decide +kernel
theorem dX3_init_17 : decode cX3_init 17 = .ok (.putfield 16, 3) := by decide +kernel
theorem dX3_init_20 : decode cX3_init 20 = .ok (.aload_n 0, 1) := by decide +kernel
theorem dX3_init_21 : decode cX3_init 21 = .ok (.iconst 0, 1) := by decide +kernel
theorem dX3_init_22 : decode cX3_init 22 = .ok (.putfield 20, 3) := by decide +kernel
theorem dX3_init_25 : decode cX3_init 25 = .ok (.return_, 1) := by decide +kernel
set_option maxRecDepth 20000 in
theorem ggX3_isTrue_Jx4a65c_size_8abf5 : GoodIn wsX3_isTrue wsJx4a65c_size_8abf5 := goodIn_r _ [7, 8, 44, 45, 46] (by decide +kernel) (by decide +kernel)
set_option maxRecDepth 20000 in
theorem gX3_isTrue_Jx4a65c_size_8abf5_f23Jx4a65c : GoodIn wsX3_isTrue (va_wsF RX3 23 RJx4a65c ⟨"java/util/List", "size", "()I"⟩ yJx4a65c_size_8abf5 wsJx4a65c_size_8abf5) := goodIn_app (goodIn_of _ (by decide +kernel)) ggX3_isTrue_Jx4a65c_size_8abf5
set_option maxRecDepth 20000 in
theorem ggX3_isTrue_Jx4a65c_get_915e3 : GoodIn wsX3_isTrue wsJx4a65c_get_915e3 := goodIn_r _ [12, 8, 13, 14, 15, 16, 17, 18, 19, 20, 21, 22, 23, 6, 24, 25, 44, 45, 46] (by decide +kernel) (by decide +kernel)
set_option maxRecDepth 20000 in
theorem gX3_isTrue_Jx4a65c_get_915e3_f29Jx4a65c : GoodIn wsX3_isTrue (va_wsF RX3 29 RJx4a65c ⟨"java/util/List", "get", "(I)Ljava/lang/Object;"⟩ yJx4a65c_get_915e3 wsJx4a65c_get_915e3) := goodIn_app (goodIn_of _ (by decide +kernel)) ggX3_isTrue_Jx4a65c_get_915e3
set_option maxRecDepth 20000 in
theorem ggX3_isTrue_X5_isTrue : GoodIn wsX3_isTrue wsX5_isTrue := goodIn_r _ [30, 31, 32, 33, 34, 35, 36, 37, 38, 39, 40, 47, 48, 49, 50, 51] (by decide +kernel) (by decide +kernel)
set_option maxRecDepth 20000 in
theorem gX3_isTrue_X5_isTrue : GoodIn wsX3_isTrue (wsV RX3 35 RX5 yX5_isTrue wsX5_isTrue) := goodIn_app (goodIn_of _ (by decide +kernel)) ggX3_isTrue_X5_isTrue
theorem dX3_isTrue_0 : decode cX3_isTrue 0 = .ok (.iconst 0, 1) := by decide +kernel
theorem dX3_isTrue_1 : decode cX3_isTrue 1 = .ok (.istore_n 2, 1) := by decide +kernel
theorem dX3_isTrue_2 : decode cX3_isTrue 2 = .ok (.iload_n 2, 1) := by decide +kernel
theorem dX3_isTrue_3 : decode cX3_isTrue 3 = .ok (.aload_n 0, 1) := by decide +kernel
theorem dX3_isTrue_4 : decode cX3_isTrue 4 = .ok (.getfield 10, 3) := by decide +kernel
theorem dX3_isTrue_7 : decode cX3_isTrue 7 = .ok (.invokeinterface 23 1, 5) := by decide +kernel
theorem dX3_isTrue_12 : decode cX3_isTrue 12 = .ok (.if_icmp .ge 31, 3) := by decide +kernel
theorem dX3_isTrue_15 : decode cX3_isTrue 15 = .ok (.aload_n 0, 1) := by decide +kernel
theorem dX3_isTrue_16 : decode cX3_isTrue 16 = .ok (.getfield 10, 3) := by decide +kernel
theorem dX3_isTrue_19 : decode cX3_isTrue 19 = .ok (.iload_n 2, 1) := by decide +kernel
theorem dX3_isTrue_20 : decode cX3_isTrue 20 = .ok (.invokeinterface 29 2, 5) := by decide +kernel
theorem dX3_isTrue_25 : decode cX3_isTrue 25 = .ok (.checkcast 33, 3) := by decide +kernel
theorem dX3_isTrue_28 : decode cX3_isTrue 28 = .ok (.aload_n 1, 1) := by decide +kernel
theorem dX3_isTrue_29 : decode cX3_isTrue 29 = .ok (.invokevirtual 35, 3) := by decide +kernel
theorem dX3_isTrue_32 : decode cX3_isTrue 32 = .ok (.ifCond .ne 5, 3) := by decide +kernel
theorem dX3_isTrue_35 : decode cX3_isTrue 35 = .ok (.iconst 0, 1) := by decide +kernel
theorem dX3_isTrue_36 : decode cX3_isTrue 36 = .ok (.ireturn, 1) := by decide +kernel
theorem dX3_isTrue_37 : decode cX3_isTrue 37 = .ok (.iinc 2 1, 3) := by decide +kernel
theorem dX3_isTrue_40 : decode cX3_isTrue 40 = .ok (.goto (-38), 3) := by decide +kernel
theorem dX3_isTrue_43 : decode cX3_isTrue 43 = .ok (.iconst 1, 1) := by decide +kernel
theorem dX3_isTrue_44 : decode cX3_isTrue 44 = .ok (.ireturn, 1) := by decide +kernel
set_option maxRecDepth 20000 in
theorem ggX3_isTrueByHits_Jx4a65c_size_8abf5 : GoodIn wsX3_isTrueByHits wsJx4a65c_size_8abf5 := goodIn_r _ [10, 11, 51, 52, 53] (by decide +kernel) (by decide +kernel)
set_option maxRecDepth 20000 in
theorem gX3_isTrueByHits_Jx4a65c_size_8abf5_f23Jx4a65c : GoodIn wsX3_isTrueByHits (va_wsF RX3 23 RJx4a65c ⟨"java/util/List", "size", "()I"⟩ yJx4a65c_size_8abf5 wsJx4a65c_size_8abf5) := goodIn_app (goodIn_of _ (by decide +kernel)) ggX3_isTrueByHits_Jx4a65c_size_8abf5
set_option maxRecDepth 20000 in
theorem ggX3_isTrueByHits_Jx4a65c_get_915e3 : GoodIn wsX3_isTrueByHits wsJx4a65c_get_915e3 := goodIn_r _ [15, 11, 16, 17, 18, 19, 20, 21, 22, 23, 24, 25, 26, 9, 27, 28, 51, 52, 53] (by decide +kernel) (by decide +kernel)
set_option maxRecDepth 20000 in
theorem gX3_isTrueByHits_Jx4a65c_get_915e3_f29Jx4a65c : GoodIn wsX3_isTrueByHits (va_wsF RX3 29 RJx4a65c ⟨"java/util/List", "get", "(I)Ljava/lang/Object;"⟩ yJx4a65c_get_915e3 wsJx4a65c_get_915e3) := goodIn_app (goodIn_of _ (by decide +kernel)) ggX3_isTrueByHits_Jx4a65c_get_915e3
set_option maxRecDepth 20000 in
theorem ggX3_isTrueByHits_X5_isTrue : GoodIn wsX3_isTrueByHits wsX5_isTrue := goodIn_r _ [33, 34, 35, 36, 37, 38, 39, 40, 41, 42, 43, 47, 48, 49, 50, 54] (by decide +kernel) (by decide +kernel)
set_option maxRecDepth 20000 in
theorem gX3_isTrueByHits_X5_isTrue : GoodIn wsX3_isTrueByHits (wsV RX3 35 RX5 yX5_isTrue wsX5_isTrue) := goodIn_app (goodIn_of _ (by decide +kernel)) ggX3_isTrueByHits_X5_isTrue
theorem dX3_isTrueByHits_0 : decode cX3_isTrueByHits 0 = .ok (.aload_n 0, 1) := by decide +kernel
theorem dX3_isTrueByHits_1 : decode cX3_isTrueByHits 1 = .ok (.getfield 20, 3) := by decide +kernel
theorem dX3_isTrueByHits_4 : decode cX3_isTrueByHits 4 = .ok (.aload_n 0, 1) := by decide +kernel
theorem dX3_isTrueByHits_5 : decode cX3_isTrueByHits 5 = .ok (.getfield 16, 3) := by decide +kernel
theorem dX3_isTrueByHits_8 : decode cX3_isTrueByHits 8 = .ok (.if_icmp .eq 5, 3) := by decide +kernel
theorem dX3_isTrueByHits_11 : decode cX3_isTrueByHits 11 = .ok (.iconst 0, 1) := by decide +kernel
theorem dX3_isTrueByHits_12 : decode cX3_isTrueByHits 12 = .ok (.ireturn, 1) := by decide +kernel
theorem dX3_isTrueByHits_13 : decode cX3_isTrueByHits 13 = .ok (.iconst 0, 1) := by decide +kernel
theorem dX3_isTrueByHits_14 : decode cX3_isTrueByHits 14 = .ok (.istore_n 2, 1) := by decide +kernel
theorem dX3_isTrueByHits_15 : decode cX3_isTrueByHits 15 = .ok (.iload_n 2, 1) := by decide +kernel
theorem dX3_isTrueByHits_16 : decode cX3_isTrueByHits 16 = .ok (.aload_n 0, 1) := by decide +kernel
theorem dX3_isTrueByHits_17 : decode cX3_isTrueByHits 17 = .ok (.getfield 10, 3) := by decide +kernel
theorem dX3_isTrueByHits_20 : decode cX3_isTrueByHits 20 = .ok (.invokeinterface 23 1, 5) := by decide +kernel
theorem dX3_isTrueByHits_25 : decode cX3_isTrueByHits 25 = .ok (.if_icmp .ge 40, 3) := by decide +kernel
theorem dX3_isTrueByHits_28 : decode cX3_isTrueByHits 28 = .ok (.aload_n 0, 1) := by decide +kernel
theorem dX3_isTrueByHits_29 : decode cX3_isTrueByHits 29 = .ok (.getfield 10, 3) := by decide +kernel
theorem dX3_isTrueByHits_32 : decode cX3_isTrueByHits 32 = .ok (.iload_n 2, 1) := by decide +kernel
theorem dX3_isTrueByHits_33 : decode cX3_isTrueByHits 33 = .ok (.invokeinterface 29 2, 5) := by decide +kernel
theorem dX3_isTrueByHits_38 : decode cX3_isTrueByHits 38 = .ok (.checkcast 33, 3) := by decide +kernel
theorem dX3_isTrueByHits_41 : decode cX3_isTrueByHits 41 = .ok (.astore_n 3, 1) := by decide +kernel
theorem dX3_isTrueByHits_42 : decode cX3_isTrueByHits 42 = .ok (.aload_n 3, 1) := by decide +kernel
theorem dX3_isTrueByHits_43 : decode cX3_isTrueByHits 43 = .ok (.getfield 39, 3) := by decide +kernel
theorem dX3_isTrueByHits_46 : decode cX3_isTrueByHits 46 = .ok (.ifCond .eq 13, 3) := by decide +kernel
theorem dX3_isTrueByHits_49 : decode cX3_isTrueByHits 49 = .ok (.aload_n 3, 1) := by decide +kernel
theorem dX3_isTrueByHits_50 : decode cX3_isTrueByHits 50 = .ok (.aload_n 1, 1) := by decide +kernel
theorem dX3_isTrueByHits_51 : decode cX3_isTrueByHits 51 = .ok (.invokevirtual 35, 3) := by decide +kernel
theorem dX3_isTrueByHits_54 : decode cX3_isTrueByHits 54 = .ok (.ifCond .ne 5, 3) := by decide +kernel
theorem dX3_isTrueByHits_57 : decode cX3_isTrueByHits 57 = .ok (.iconst 0, 1) := by decide +kernel
theorem dX3_isTrueByHits_58 : decode cX3_isTrueByHits 58 = .ok (.ireturn, 1) := by decide +kernel
theorem dX3_isTrueByHits_59 : decode cX3_isTrueByHits 59 = .ok (.iinc 2 1, 3) := by decide +kernel
theorem dX3_isTrueByHits_62 : decode cX3_isTrueByHits 62 = .ok (.goto (-47), 3) := by decide +kernel
theorem dX3_isTrueByHits_65 : decode cX3_isTrueByHits 65 = .ok (.iconst 1, 1) := by decide +kernel
theorem dX3_isTrueByHits_66 : decode cX3_isTrueByHits 66 = .ok (.ireturn, 1) := by decide +kernel
set_option maxRecDepth 20000 in
theorem ggX4_init_Jx4a65c_init_da8c8 : GoodIn wsX4_init wsJx4a65c_init_da8c8 := goodIn_r _ [15, 16, 17, 18, 19, 20, 21, 22, 23, 24, 25, 26, 27, 2, 3, 28, 29, 30] (by decide +kernel) (by decide +kernel)
set_option maxRecDepth 20000 in
theorem gX4_init_Jx4a65c_init_da8c8 : GoodIn wsX4_init (wsJx4a65c_init_da8c8) := ggX4_init_Jx4a65c_init_da8c8
theorem dX4_init_0 : decode cX4_init 0 = .ok (.aload_n 0, 1) := by decide +kernel
theorem dX4_init_1 : decode cX4_init 1 = .ok (.invokespecial 3, 3) := by decide +kernel
theorem dX4_init_4 : decode cX4_init 4 = .ok (.aload_n 0, 1) := by decide +kernel
theorem dX4_init_5 : decode cX4_init 5 = .ok (.new 9, 3) := by decide +kernel
theorem dX4_init_8 : decode cX4_init 8 = .ok (.dup, 1) := by decide +kernel
theorem dX4_init_9 : decode cX4_init 9 = .ok (.invokespecial 11, 3) := by decide +kernel
theorem dX4_init_12 : decode cX4_init 12 = .ok (.putfield 12, 3) := by decide +kernel
theorem dX4_init_15 : decode cX4_init 15 = .ok (.aload_n 0, 1) := by decide +kernel
theorem dX4_init_16 : decode cX4_init 16 = .ok (.iconst 0, 1) := by decide +kernel
theorem dX4_init_17 : decode cX4_init 17 = .ok (.putfield 18, 3) := by decide +kernel
theorem dX4_init_20 : decode cX4_init 20 = .ok (.aload_n 0, 1) := by decide +kernel
theorem dX4_init_21 : decode cX4_init 21 = .ok (.iconst 0, 1) := by decide +kernel
theorem dX4_init_22 : decode cX4_init 22 = .ok (.putfield 22, 3) := by decide +kernel
theorem dX4_init_25 : decode cX4_init 25 = .ok (.aload_n 0, 1) := by decide +kernel
theorem dX4_init_26 : decode cX4_init 26 = .ok (.iconst 0, 1) := by decide +kernel
theorem dX4_init_27 : decode cX4_init 27 = .ok (.putfield 26, 3) := by decide +kernel
theorem dX4_init_30 : decode cX4_init 30 = .ok (.aload_n 0, 1) := by decide +kernel
theorem dX4_init_31 : decode cX4_init 31 = .ok (.iconst 0, 1) := by decide +kernel
theorem dX4_init_32 : decode cX4_init 32 = .ok (.putfield 29, 3) := by decide +kernel
theorem dX4_init_35 : decode cX4_init 35 = .ok (.aload_n 0, 1) := by decide +kernel
theorem dX4_init_36 : decode cX4_init 36 = .ok (.iconst 0, 1) := by decide +kernel
theorem dX4_init_37 : decode cX4_init 37 = .ok (.putfield 32, 3) := by decide +kernel
theorem dX4_init_40 : decode cX4_init 40 = .ok (.return_, 1) := by decide +kernel
set_option maxRecDepth 20000 in
theorem ggX4_lastProduct_Jx4a65c_size_8abf5 : GoodIn wsX4_lastProduct wsJx4a65c_size_8abf5 := goodIn_r _ [7, 8, 32, 33, 34] (by decide +kernel) (by decide +kernel)
set_option maxRecDepth 20000 in
theorem gX4_lastProduct_Jx4a65c_size_8abf5_f35Jx4a65c : GoodIn wsX4_lastProduct (va_wsF RX4 35 RJx4a65c ⟨"java/util/List", "size", "()I"⟩ yJx4a65c_size_8abf5 wsJx4a65c_size_8abf5) := goodIn_app (goodIn_of _ (by decide +kernel)) ggX4_lastProduct_Jx4a65c_size_8abf5
set_option maxRecDepth 20000 in
theorem ggX4_lastProduct_Jx4a65c_get_915e3 : GoodIn wsX4_lastProduct wsJx4a65c_get_915e3 := goodIn_r _ [12, 8, 13, 14, 15, 16, 17, 18, 19, 20, 21, 22, 23, 6, 24, 25, 32, 33, 34] (by decide +kernel) (by decide +kernel)
set_option maxRecDepth 20000 in
theorem gX4_lastProduct_Jx4a65c_get_915e3_f41Jx4a65c : GoodIn wsX4_lastProduct (va_wsF RX4 41 RJx4a65c ⟨"java/util/List", "get", "(I)Ljava/lang/Object;"⟩ yJx4a65c_get_915e3 wsJx4a65c_get_915e3) := goodIn_app (goodIn_of _ (by decide +kernel)) ggX4_lastProduct_Jx4a65c_get_915e3
theorem dX4_lastProduct_0 : decode cX4_lastProduct 0 = .ok (.aload_n 0, 1) := by decide +kernel
theorem dX4_lastProduct_1 : decode cX4_lastProduct 1 = .ok (.getfield 12, 3) := by decide +kernel
theorem dX4_lastProduct_4 : decode cX4_lastProduct 4 = .ok (.invokeinterface 35 1, 5) := by decide +kernel
theorem dX4_lastProduct_9 : decode cX4_lastProduct 9 = .ok (.istore_n 1, 1) := by decide +kernel
theorem dX4_lastProduct_10 : decode cX4_lastProduct 10 = .ok (.iload_n 1, 1) := by decide +kernel
theorem dX4_lastProduct_11 : decode cX4_lastProduct 11 = .ok (.ifCond .le 21, 3) := by decide +kernel
theorem dX4_lastProduct_14 : decode cX4_lastProduct 14 = .ok (.aload_n 0, 1) := by decide +kernel
theorem dX4_lastProduct_15 : decode cX4_lastProduct 15 = .ok (.getfield 12, 3) := by decide +kernel
theorem dX4_lastProduct_18 : decode cX4_lastProduct 18 = .ok (.iload_n 1, 1) := by decide +kernel
theorem dX4_lastProduct_19 : decode cX4_lastProduct 19 = .ok (.iconst 1, 1) := by decide +kernel
theorem dX4_lastProduct_20 : decode cX4_lastProduct 20 = .ok (.isub, 1) := by decide +kernel
theorem dX4_lastProduct_21 : decode cX4_lastProduct 21 = .ok (.invokeinterface 41 2, 5) := by decide +kernel
theorem dX4_lastProduct_26 : decode cX4_lastProduct 26 = .ok (.checkcast 45, 3) := by decide +kernel
theorem dX4_lastProduct_29 : decode cX4_lastProduct 29 = .ok (.goto 4, 3) := by decide +kernel
theorem dX4_lastProduct_32 : decode cX4_lastProduct 32 = .ok (.aconst_null, 1) := by decide +kernel
theorem dX4_lastProduct_33 : decode cX4_lastProduct 33 = .ok (.areturn, 1) := by decide +kernel
set_option maxRecDepth 20000 in
theorem ggX4_leastSize_Jx4a65c_size_8abf5 : GoodIn wsX4_leastSize wsJx4a65c_size_8abf5 := goodIn_r _ [12, 13, 44, 45, 46] (by decide +kernel) (by decide +kernel)
set_option maxRecDepth 20000 in
theorem gX4_leastSize_Jx4a65c_size_8abf5_f35Jx4a65c : GoodIn wsX4_leastSize (va_wsF RX4 35 RJx4a65c ⟨"java/util/List", "size", "()I"⟩ yJx4a65c_size_8abf5 wsJx4a65c_size_8abf5) := goodIn_app (goodIn_of _ (by decide +kernel)) ggX4_leastSize_Jx4a65c_size_8abf5
set_option maxRecDepth 20000 in
theorem ggX4_leastSize_Jx4a65c_get_915e3 : GoodIn wsX4_leastSize wsJx4a65c_get_915e3 := goodIn_r _ [17, 13, 18, 19, 20, 21, 22, 23, 24, 25, 26, 27, 28, 11, 29, 30, 44, 45, 46] (by decide +kernel) (by decide +kernel)
set_option maxRecDepth 20000 in
theorem gX4_leastSize_Jx4a65c_get_915e3_f41Jx4a65c : GoodIn wsX4_leastSize (va_wsF RX4 41 RJx4a65c ⟨"java/util/List", "get", "(I)Ljava/lang/Object;"⟩ yJx4a65c_get_915e3 wsJx4a65c_get_915e3) := goodIn_app (goodIn_of _ (by decide +kernel)) ggX4_leastSize_Jx4a65c_get_915e3
set_option maxRecDepth 20000 in
theorem ggX4_leastSize_Jx4a65c_isEmpty_aae02 : GoodIn wsX4_leastSize wsJx4a65c_isEmpty_aae02 := goodIn_r _ [34, 13, 44, 45, 46] (by decide +kernel) (by decide +kernel)
set_option maxRecDepth 20000 in
theorem gX4_leastSize_Jx4a65c_isEmpty_aae02_f56Jx4a65c : GoodIn wsX4_leastSize (va_wsF RX4 56 RJx4a65c ⟨"java/util/List", "isEmpty", "()Z"⟩ yJx4a65c_isEmpty_aae02 wsJx4a65c_isEmpty_aae02) := goodIn_app (goodIn_of _ (by decide +kernel)) ggX4_leastSize_Jx4a65c_isEmpty_aae02
theorem dX4_leastSize_0 : decode cX4_leastSize 0 = .ok (.iconst 4, 1) := by decide +kernel
theorem dX4_leastSize_1 : decode cX4_leastSize 1 = .ok (.istore_n 1, 1) := by decide +kernel
theorem dX4_leastSize_2 : decode cX4_leastSize 2 = .ok (.iconst 0, 1) := by decide +kernel
theorem dX4_leastSize_3 : decode cX4_leastSize 3 = .ok (.istore_n 2, 1) := by decide +kernel
theorem dX4_leastSize_4 : decode cX4_leastSize 4 = .ok (.iload_n 2, 1) := by decide +kernel
theorem dX4_leastSize_5 : decode cX4_leastSize 5 = .ok (.aload_n 0, 1) := by decide +kernel
theorem dX4_leastSize_6 : decode cX4_leastSize 6 = .ok (.getfield 12, 3) := by decide +kernel
theorem dX4_leastSize_9 : decode cX4_leastSize 9 = .ok (.invokeinterface 35 1, 5) := by decide +kernel
theorem dX4_leastSize_14 : decode cX4_leastSize 14 = .ok (.if_icmp .ge 30, 3) := by decide +kernel
theorem dX4_leastSize_17 : decode cX4_leastSize 17 = .ok (.iload_n 1, 1) := by decide +kernel
theorem dX4_leastSize_18 : decode cX4_leastSize 18 = .ok (.aload_n 0, 1) := by decide +kernel
theorem dX4_leastSize_19 : decode cX4_leastSize 19 = .ok (.getfield 12, 3) := by decide +kernel
theorem dX4_leastSize_22 : decode cX4_leastSize 22 = .ok (.iload_n 2, 1) := by decide +kernel
theorem dX4_leastSize_23 : decode cX4_leastSize 23 = .ok (.invokeinterface 41 2, 5) := by decide +kernel
theorem dX4_leastSize_28 : decode cX4_leastSize 28 = .ok (.checkcast 45, 3) := by decide +kernel
theorem dX4_leastSize_31 : decode cX4_leastSize 31 = .ok (.getfield 47, 3) := by decide +kernel
theorem dX4_leastSize_34 : decode cX4_leastSize 34 = .ok (.invokestatic 50, 3) := by decide +kernel
theorem dX4_leastSize_37 : decode cX4_leastSize 37 = .ok (.istore_n 1, 1) := by decide +kernel
theorem dX4_leastSize_38 : decode cX4_leastSize 38 = .ok (.iinc 2 1, 3) := by decide +kernel
theorem dX4_leastSize_41 : decode cX4_leastSize 41 = .ok (.goto (-37), 3) := by decide +kernel
theorem dX4_leastSize_44 : decode cX4_leastSize 44 = .ok (.aload_n 0, 1) := by decide +kernel
theorem dX4_leastSize_45 : decode cX4_leastSize 45 = .ok (.getfield 12, 3) := by decide +kernel
theorem dX4_leastSize_48 : decode cX4_leastSize 48 = .ok (.invokeinterface 56 1, 5) := by decide +kernel
theorem dX4_leastSize_53 : decode cX4_leastSize 53 = .ok (.ifCond .eq 7, 3) := by decide +kernel
theorem dX4_leastSize_56 : decode cX4_leastSize 56 = .ok (.iconst 0, 1) := by decide +kernel
theorem dX4_leastSize_57 : decode cX4_leastSize 57 = .ok (.goto 4, 3) := by decide +kernel
theorem dX4_leastSize_60 : decode cX4_leastSize 60 = .ok (.iload_n 1, 1) := by decide +kernel
theorem dX4_leastSize_61 : decode cX4_leastSize 61 = .ok (.ireturn, 1) := by decide +kernel
set_option maxRecDepth 20000 in
theorem ggX4_isSatisfied_Jx4a65c_size_8abf5 : GoodIn wsX4_isSatisfied wsJx4a65c_size_8abf5 := goodIn_r _ [8, 9, 57, 58, 59] (by decide +kernel) (by decide +kernel)
set_option maxRecDepth 20000 in
theorem gX4_isSatisfied_Jx4a65c_size_8abf5_f35Jx4a65c : GoodIn wsX4_isSatisfied (va_wsF RX4 35 RJx4a65c ⟨"java/util/List", "size", "()I"⟩ yJx4a65c_size_8abf5 wsJx4a65c_size_8abf5) := goodIn_app (goodIn_of _ (by decide +kernel)) ggX4_isSatisfied_Jx4a65c_size_8abf5
set_option maxRecDepth 20000 in
theorem ggX4_isSatisfied_Jx4a65c_get_915e3 : GoodIn wsX4_isSatisfied wsJx4a65c_get_915e3 := goodIn_r _ [13, 9, 14, 15, 16, 17, 18, 19, 20, 21, 22, 23, 24, 7, 25, 26, 57, 58, 59] (by decide +kernel) (by decide +kernel)
set_option maxRecDepth 20000 in
theorem gX4_isSatisfied_Jx4a65c_get_915e3_f41Jx4a65c : GoodIn wsX4_isSatisfied (va_wsF RX4 41 RJx4a65c ⟨"java/util/List", "get", "(I)Ljava/lang/Object;"⟩ yJx4a65c_get_915e3 wsJx4a65c_get_915e3) := goodIn_app (goodIn_of _ (by decide +kernel)) ggX4_isSatisfied_Jx4a65c_get_915e3
set_option maxRecDepth 20000 in
theorem ggX4_isSatisfied_X3_isTrue : GoodIn wsX4_isSatisfied wsX3_isTrue := goodIn_r _ [31, 32, 33, 34, 5, 6, 7, 8, 9, 35, 11, 12, 13, 14, 15, 16, 17, 18, 19, 20, 21, 22, 23, 24, 25, 26, 36, 37, 38, 39, 40, 41, 42, 43, 44, 45, 46, 47, 48, 49, 50, 60, 61, 62, 57, 58, 59, 63, 64, 65, 66, 67] (by decide +kernel) (by decide +kernel)
set_option maxRecDepth 20000 in
theorem gX4_isSatisfied_X3_isTrue : GoodIn wsX4_isSatisfied (wsV RX4 60 RX3 yX3_isTrue wsX3_isTrue) := goodIn_app (goodIn_of _ (by decide +kernel)) ggX4_isSatisfied_X3_isTrue
theorem dX4_isSatisfied_0 : decode cX4_isSatisfied 0 = .ok (.iconst 0, 1) := by decide +kernel
theorem dX4_isSatisfied_1 : decode cX4_isSatisfied 1 = .ok (.istore_n 2, 1) := by decide +kernel
theorem dX4_isSatisfied_2 : decode cX4_isSatisfied 2 = .ok (.aload_n 0, 1) := by decide +kernel
theorem dX4_isSatisfied_3 : decode cX4_isSatisfied 3 = .ok (.getfield 18, 3) := by decide +kernel
theorem dX4_isSatisfied_6 : decode cX4_isSatisfied 6 = .ok (.ifCond .ne 44, 3) := by decide +kernel
theorem dX4_isSatisfied_9 : decode cX4_isSatisfied 9 = .ok (.iload_n 2, 1) := by decide +kernel
theorem dX4_isSatisfied_10 : decode cX4_isSatisfied 10 = .ok (.aload_n 0, 1) := by decide +kernel
theorem dX4_isSatisfied_11 : decode cX4_isSatisfied 11 = .ok (.getfield 12, 3) := by decide +kernel
theorem dX4_isSatisfied_14 : decode cX4_isSatisfied 14 = .ok (.invokeinterface 35 1, 5) := by decide +kernel
theorem dX4_isSatisfied_19 : decode cX4_isSatisfied 19 = .ok (.if_icmp .ge 31, 3) := by decide +kernel
theorem dX4_isSatisfied_22 : decode cX4_isSatisfied 22 = .ok (.aload_n 0, 1) := by decide +kernel
theorem dX4_isSatisfied_23 : decode cX4_isSatisfied 23 = .ok (.getfield 12, 3) := by decide +kernel
theorem dX4_isSatisfied_26 : decode cX4_isSatisfied 26 = .ok (.iload_n 2, 1) := by decide +kernel
theorem dX4_isSatisfied_27 : decode cX4_isSatisfied 27 = .ok (.invokeinterface 41 2, 5) := by decide +kernel
theorem dX4_isSatisfied_32 : decode cX4_isSatisfied 32 = .ok (.checkcast 45, 3) := by decide +kernel
theorem dX4_isSatisfied_35 : decode cX4_isSatisfied 35 = .ok (.aload_n 1, 1) := by decide +kernel
theorem dX4_isSatisfied_36 : decode cX4_isSatisfied 36 = .ok (.invokevirtual 60, 3) := by decide +kernel
theorem dX4_isSatisfied_39 : decode cX4_isSatisfied 39 = .ok (.ifCond .eq 5, 3) := by decide +kernel
theorem dX4_isSatisfied_42 : decode cX4_isSatisfied 42 = .ok (.iconst 1, 1) := by decide +kernel
theorem dX4_isSatisfied_43 : decode cX4_isSatisfied 43 = .ok (.ireturn, 1) := by decide +kernel
theorem dX4_isSatisfied_44 : decode cX4_isSatisfied 44 = .ok (.iinc 2 1, 3) := by decide +kernel
theorem dX4_isSatisfied_47 : decode cX4_isSatisfied 47 = .ok (.goto (-45), 3) := by decide +kernel
theorem dX4_isSatisfied_50 : decode cX4_isSatisfied 50 = .ok (.iconst 0, 1) := by decide +kernel
theorem dX4_isSatisfied_51 : decode cX4_isSatisfied 51 = .ok (.ireturn, 1) := by decide +kernel
set_option maxRecDepth 20000 in
theorem ggX4_isSatisfiedByHits_Jx4a65c_size_8abf5 : GoodIn wsX4_isSatisfiedByHits wsJx4a65c_size_8abf5 := goodIn_r _ [8, 9, 60, 61, 62] (by decide +kernel) (by decide +kernel)
set_option maxRecDepth 20000 in
theorem gX4_isSatisfiedByHits_Jx4a65c_size_8abf5_f35Jx4a65c : GoodIn wsX4_isSatisfiedByHits (va_wsF RX4 35 RJx4a65c ⟨"java/util/List", "size", "()I"⟩ yJx4a65c_size_8abf5 wsJx4a65c_size_8abf5) := goodIn_app (goodIn_of _ (by decide +kernel)) ggX4_isSatisfiedByHits_Jx4a65c_size_8abf5
set_option maxRecDepth 20000 in
theorem ggX4_isSatisfiedByHits_Jx4a65c_get_915e3 : GoodIn wsX4_isSatisfiedByHits wsJx4a65c_get_915e3 := goodIn_r _ [13, 9, 14, 15, 16, 17, 18, 19, 20, 21, 22, 23, 24, 7, 25, 26, 60, 61, 62] (by decide +kernel) (by decide +kernel)
set_option maxRecDepth 20000 in
theorem gX4_isSatisfiedByHits_Jx4a65c_get_915e3_f41Jx4a65c : GoodIn wsX4_isSatisfiedByHits (va_wsF RX4 41 RJx4a65c ⟨"java/util/List", "get", "(I)Ljava/lang/Object;"⟩ yJx4a65c_get_915e3 wsJx4a65c_get_915e3) := goodIn_app (goodIn_of _ (by decide +kernel)) ggX4_isSatisfiedByHits_Jx4a65c_get_915e3
set_option maxRecDepth 20000 in
theorem ggX4_isSatisfiedByHits_X3_isTrueByHits : GoodIn wsX4_isSatisfiedByHits wsX3_isTrueByHits := goodIn_r _ [31, 32, 33, 34, 35, 36, 37, 5, 6, 7, 8, 9, 38, 11, 12, 13, 14, 15, 16, 17, 18, 19, 20, 21, 22, 23, 24, 25, 26, 39, 40, 41, 42, 43, 44, 45, 46, 47, 48, 49, 50, 51, 52, 53, 63, 64, 65, 66, 67, 68, 69, 60, 61, 62, 70] (by decide +kernel) (by decide +kernel)
set_option maxRecDepth 20000 in
theorem gX4_isSatisfiedByHits_X3_isTrueByHits : GoodIn wsX4_isSatisfiedByHits (wsV RX4 64 RX3 yX3_isTrueByHits wsX3_isTrueByHits) := goodIn_app (goodIn_of _ (by decide +kernel)) ggX4_isSatisfiedByHits_X3_isTrueByHits
theorem dX4_isSatisfiedByHits_0 : decode cX4_isSatisfiedByHits 0 = .ok (.iconst 0, 1) := by decide +kernel
theorem dX4_isSatisfiedByHits_1 : decode cX4_isSatisfiedByHits 1 = .ok (.istore_n 2, 1) := by decide +kernel
theorem dX4_isSatisfiedByHits_2 : decode cX4_isSatisfiedByHits 2 = .ok (.aload_n 0, 1) := by decide +kernel
theorem dX4_isSatisfiedByHits_3 : decode cX4_isSatisfiedByHits 3 = .ok (.getfield 18, 3) := by decide +kernel
theorem dX4_isSatisfiedByHits_6 : decode cX4_isSatisfiedByHits 6 = .ok (.ifCond .ne 44, 3) := by decide +kernel
theorem dX4_isSatisfiedByHits_9 : decode cX4_isSatisfiedByHits 9 = .ok (.iload_n 2, 1) := by decide +kernel
theorem dX4_isSatisfiedByHits_10 : decode cX4_isSatisfiedByHits 10 = .ok (.aload_n 0, 1) := by decide +kernel
theorem dX4_isSatisfiedByHits_11 : decode cX4_isSatisfiedByHits 11 = .ok (.getfield 12, 3) := by decide +kernel
theorem dX4_isSatisfiedByHits_14 : decode cX4_isSatisfiedByHits 14 = .ok (.invokeinterface 35 1, 5) := by decide +kernel
theorem dX4_isSatisfiedByHits_19 : decode cX4_isSatisfiedByHits 19 = .ok (.if_icmp .ge 31, 3) := by decide +kernel
theorem dX4_isSatisfiedByHits_22 : decode cX4_isSatisfiedByHits 22 = .ok (.aload_n 0, 1) := by decide +kernel
theorem dX4_isSatisfiedByHits_23 : decode cX4_isSatisfiedByHits 23 = .ok (.getfield 12, 3) := by decide +kernel
theorem dX4_isSatisfiedByHits_26 : decode cX4_isSatisfiedByHits 26 = .ok (.iload_n 2, 1) := by decide +kernel
theorem dX4_isSatisfiedByHits_27 : decode cX4_isSatisfiedByHits 27 = .ok (.invokeinterface 41 2, 5) := by decide +kernel
theorem dX4_isSatisfiedByHits_32 : decode cX4_isSatisfiedByHits 32 = .ok (.checkcast 45, 3) := by decide +kernel
theorem dX4_isSatisfiedByHits_35 : decode cX4_isSatisfiedByHits 35 = .ok (.aload_n 1, 1) := by decide +kernel
theorem dX4_isSatisfiedByHits_36 : decode cX4_isSatisfiedByHits 36 = .ok (.invokevirtual 64, 3) := by decide +kernel
theorem dX4_isSatisfiedByHits_39 : decode cX4_isSatisfiedByHits 39 = .ok (.ifCond .eq 5, 3) := by decide +kernel
theorem dX4_isSatisfiedByHits_42 : decode cX4_isSatisfiedByHits 42 = .ok (.iconst 1, 1) := by decide +kernel
theorem dX4_isSatisfiedByHits_43 : decode cX4_isSatisfiedByHits 43 = .ok (.ireturn, 1) := by decide +kernel
theorem dX4_isSatisfiedByHits_44 : decode cX4_isSatisfiedByHits 44 = .ok (.iinc 2 1, 3) := by decide +kernel
theorem dX4_isSatisfiedByHits_47 : decode cX4_isSatisfiedByHits 47 = .ok (.goto (-45), 3) := by decide +kernel
theorem dX4_isSatisfiedByHits_50 : decode cX4_isSatisfiedByHits 50 = .ok (.iconst 0, 1) := by decide +kernel
theorem dX4_isSatisfiedByHits_51 : decode cX4_isSatisfiedByHits 51 = .ok (.ireturn, 1) := by decide +kernel
set_option maxRecDepth 20000 in
theorem ggX4_forgetHits_Jx4a65c_size_8abf5 : GoodIn wsX4_forgetHits wsJx4a65c_size_8abf5 := goodIn_r _ [8, 9, 36, 37, 38] (by decide +kernel) (by decide +kernel)
set_option maxRecDepth 20000 in
theorem gX4_forgetHits_Jx4a65c_size_8abf5_f35Jx4a65c : GoodIn wsX4_forgetHits (va_wsF RX4 35 RJx4a65c ⟨"java/util/List", "size", "()I"⟩ yJx4a65c_size_8abf5 wsJx4a65c_size_8abf5) := goodIn_app (goodIn_of _ (by decide +kernel)) ggX4_forgetHits_Jx4a65c_size_8abf5
set_option maxRecDepth 20000 in
theorem ggX4_forgetHits_Jx4a65c_get_915e3 : GoodIn wsX4_forgetHits wsJx4a65c_get_915e3 := goodIn_r _ [13, 9, 14, 15, 16, 17, 18, 19, 20, 21, 22, 23, 24, 7, 25, 26, 36, 37, 38] (by decide +kernel) (by decide +kernel)
set_option maxRecDepth 20000 in
theorem gX4_forgetHits_Jx4a65c_get_915e3_f41Jx4a65c : GoodIn wsX4_forgetHits (va_wsF RX4 41 RJx4a65c ⟨"java/util/List", "get", "(I)Ljava/lang/Object;"⟩ yJx4a65c_get_915e3 wsJx4a65c_get_915e3) := goodIn_app (goodIn_of _ (by decide +kernel)) ggX4_forgetHits_Jx4a65c_get_915e3
theorem dX4_forgetHits_0 : decode cX4_forgetHits 0 = .ok (.iconst 0, 1) := by decide +kernel
theorem dX4_forgetHits_1 : decode cX4_forgetHits 1 = .ok (.istore_n 1, 1) := by decide +kernel
theorem dX4_forgetHits_2 : decode cX4_forgetHits 2 = .ok (.iload_n 1, 1) := by decide +kernel
theorem dX4_forgetHits_3 : decode cX4_forgetHits 3 = .ok (.aload_n 0, 1) := by decide +kernel
theorem dX4_forgetHits_4 : decode cX4_forgetHits 4 = .ok (.getfield 12, 3) := by decide +kernel
theorem dX4_forgetHits_7 : decode cX4_forgetHits 7 = .ok (.invokeinterface 35 1, 5) := by decide +kernel
theorem dX4_forgetHits_12 : decode cX4_forgetHits 12 = .ok (.if_icmp .ge 26, 3) := by decide +kernel
theorem dX4_forgetHits_15 : decode cX4_forgetHits 15 = .ok (.aload_n 0, 1) := by decide +kernel
theorem dX4_forgetHits_16 : decode cX4_forgetHits 16 = .ok (.getfield 12, 3) := by decide +kernel
theorem dX4_forgetHits_19 : decode cX4_forgetHits 19 = .ok (.iload_n 1, 1) := by decide +kernel
theorem dX4_forgetHits_20 : decode cX4_forgetHits 20 = .ok (.invokeinterface 41 2, 5) := by decide +kernel
theorem dX4_forgetHits_25 : decode cX4_forgetHits 25 = .ok (.checkcast 45, 3) := by decide +kernel
theorem dX4_forgetHits_28 : decode cX4_forgetHits 28 = .ok (.iconst 0, 1) := by decide +kernel
theorem dX4_forgetHits_29 : decode cX4_forgetHits 29 = .ok (.putfield 67, 3) := by decide +kernel
theorem dX4_forgetHits_32 : decode cX4_forgetHits 32 = .ok (.iinc 1 1, 3) := by decide +kernel
theorem dX4_forgetHits_35 : decode cX4_forgetHits 35 = .ok (.goto (-33), 3) := by decide +kernel
theorem dX4_forgetHits_38 : decode cX4_forgetHits 38 = .ok (.return_, 1) := by decide +kernel
theorem dX4_isQuietAt_0 : decode cX4_isQuietAt 0 = .ok (.iload_n 1, 1) := by decide +kernel
theorem dX4_isQuietAt_1 : decode cX4_isQuietAt 1 = .ok (.aload_n 0, 1) := by decide +kernel
theorem dX4_isQuietAt_2 : decode cX4_isQuietAt 2 = .ok (.getfield 26, 3) := by decide +kernel
theorem dX4_isQuietAt_5 : decode cX4_isQuietAt 5 = .ok (.if_icmp .ge 7, 3) := by decide +kernel
theorem dX4_isQuietAt_8 : decode cX4_isQuietAt 8 = .ok (.iconst 1, 1) := by decide +kernel
theorem dX4_isQuietAt_9 : decode cX4_isQuietAt 9 = .ok (.goto 4, 3) := by decide +kernel
theorem dX4_isQuietAt_12 : decode cX4_isQuietAt 12 = .ok (.iconst 0, 1) := by decide +kernel
theorem dX4_isQuietAt_13 : decode cX4_isQuietAt 13 = .ok (.ireturn, 1) := by decide +kernel
set_option maxRecDepth 20000 in
theorem ggX4_takeDocument_X4_isQuietAt : GoodIn wsX4_takeDocument wsX4_isQuietAt := goodIn_r _ [6, 7, 14, 15, 16, 17, 18, 19] (by decide +kernel) (by decide +kernel)
set_option maxRecDepth 20000 in
theorem gX4_takeDocument_X4_isQuietAt : GoodIn wsX4_takeDocument (wsV RX4 70 RX4 yX4_isQuietAt wsX4_isQuietAt) := goodIn_app (goodIn_of _ (by decide +kernel)) ggX4_takeDocument_X4_isQuietAt
set_option maxRecDepth 20000 in
theorem ggX4_takeDocument_X4_raiseAlert : GoodIn wsX4_takeDocument wsX4_raiseAlert := goodIn_r _ [11, 12, 13, 7, 14, 15, 16, 17, 18, 19] (by decide +kernel) (by decide +kernel)
set_option maxRecDepth 20000 in
theorem gX4_takeDocument_X4_raiseAlert : GoodIn wsX4_takeDocument (wsV RX4 74 RX4 yX4_raiseAlert wsX4_raiseAlert) := goodIn_app (goodIn_of _ (by decide +kernel)) ggX4_takeDocument_X4_raiseAlert
theorem dX4_takeDocument_0 : decode cX4_takeDocument 0 = .ok (.aload_n 0, 1) := by decide +kernel
theorem dX4_takeDocument_1 : decode cX4_takeDocument 1 = .ok (.iload_n 1, 1) := by decide +kernel
theorem dX4_takeDocument_2 : decode cX4_takeDocument 2 = .ok (.invokevirtual 70, 3) := by decide +kernel
theorem dX4_takeDocument_5 : decode cX4_takeDocument 5 = .ok (.ifCond .eq 15, 3) := by decide +kernel
theorem dX4_takeDocument_8 : decode cX4_takeDocument 8 = .ok (.aload_n 0, 1) := by decide +kernel
theorem dX4_takeDocument_9 : decode cX4_takeDocument 9 = .ok (.dup, 1) := by decide +kernel
theorem dX4_takeDocument_10 : decode cX4_takeDocument 10 = .ok (.getfield 32, 3) := by decide +kernel
theorem dX4_takeDocument_13 : decode cX4_takeDocument 13 = .ok (.iconst 1, 1) := by decide +kernel
theorem dX4_takeDocument_14 : decode cX4_takeDocument 14 = .ok (.iadd, 1) := by decide +kernel
theorem dX4_takeDocument_15 : decode cX4_takeDocument 15 = .ok (.putfield 32, 3) := by decide +kernel
theorem dX4_takeDocument_18 : decode cX4_takeDocument 18 = .ok (.iconst 0, 1) := by decide +kernel
theorem dX4_takeDocument_19 : decode cX4_takeDocument 19 = .ok (.ireturn, 1) := by decide +kernel
theorem dX4_takeDocument_20 : decode cX4_takeDocument 20 = .ok (.aload_n 0, 1) := by decide +kernel
theorem dX4_takeDocument_21 : decode cX4_takeDocument 21 = .ok (.iload_n 1, 1) := by decide +kernel
theorem dX4_takeDocument_22 : decode cX4_takeDocument 22 = .ok (.invokevirtual 74, 3) := by decide +kernel
theorem dX4_takeDocument_25 : decode cX4_takeDocument 25 = .ok (.iconst 1, 1) := by decide +kernel
theorem dX4_takeDocument_26 : decode cX4_takeDocument 26 = .ok (.ireturn, 1) := by decide +kernel
set_option maxRecDepth 20000 in
theorem ggX4_sendBatch_X4_isQuietAt : GoodIn wsX4_sendBatch wsX4_isQuietAt := goodIn_r _ [8, 3, 15, 16, 17, 18, 19, 20] (by decide +kernel) (by decide +kernel)
set_option maxRecDepth 20000 in
theorem gX4_sendBatch_X4_isQuietAt : GoodIn wsX4_sendBatch (wsV RX4 70 RX4 yX4_isQuietAt wsX4_isQuietAt) := goodIn_app (goodIn_of _ (by decide +kernel)) ggX4_sendBatch_X4_isQuietAt
set_option maxRecDepth 20000 in
theorem ggX4_sendBatch_X4_raiseAlert : GoodIn wsX4_sendBatch wsX4_raiseAlert := goodIn_r _ [12, 13, 14, 3, 15, 16, 17, 18, 19, 20] (by decide +kernel) (by decide +kernel)
set_option maxRecDepth 20000 in
theorem gX4_sendBatch_X4_raiseAlert : GoodIn wsX4_sendBatch (wsV RX4 74 RX4 yX4_raiseAlert wsX4_raiseAlert) := goodIn_app (goodIn_of _ (by decide +kernel)) ggX4_sendBatch_X4_raiseAlert
theorem dX4_sendBatch_0 : decode cX4_sendBatch 0 = .ok (.aload_n 0, 1) := by decide +kernel
theorem dX4_sendBatch_1 : decode cX4_sendBatch 1 = .ok (.getfield 18, 3) := by decide +kernel
theorem dX4_sendBatch_4 : decode cX4_sendBatch 4 = .ok (.ifCond .ne 18, 3) := by decide +kernel
theorem dX4_sendBatch_7 : decode cX4_sendBatch 7 = .ok (.aload_n 0, 1) := by decide +kernel
theorem dX4_sendBatch_8 : decode cX4_sendBatch 8 = .ok (.getfield 32, 3) := by decide +kernel
theorem dX4_sendBatch_11 : decode cX4_sendBatch 11 = .ok (.ifCond .eq 11, 3) := by decide +kernel
theorem dX4_sendBatch_14 : decode cX4_sendBatch 14 = .ok (.aload_n 0, 1) := by decide +kernel
theorem dX4_sendBatch_15 : decode cX4_sendBatch 15 = .ok (.iload_n 1, 1) := by decide +kernel
theorem dX4_sendBatch_16 : decode cX4_sendBatch 16 = .ok (.invokevirtual 70, 3) := by decide +kernel
theorem dX4_sendBatch_19 : decode cX4_sendBatch 19 = .ok (.ifCond .eq 5, 3) := by decide +kernel
theorem dX4_sendBatch_22 : decode cX4_sendBatch 22 = .ok (.iconst 0, 1) := by decide +kernel
theorem dX4_sendBatch_23 : decode cX4_sendBatch 23 = .ok (.ireturn, 1) := by decide +kernel
theorem dX4_sendBatch_24 : decode cX4_sendBatch 24 = .ok (.aload_n 0, 1) := by decide +kernel
theorem dX4_sendBatch_25 : decode cX4_sendBatch 25 = .ok (.iconst 0, 1) := by decide +kernel
theorem dX4_sendBatch_26 : decode cX4_sendBatch 26 = .ok (.putfield 32, 3) := by decide +kernel
theorem dX4_sendBatch_29 : decode cX4_sendBatch 29 = .ok (.aload_n 0, 1) := by decide +kernel
theorem dX4_sendBatch_30 : decode cX4_sendBatch 30 = .ok (.aload_n 0, 1) := by decide +kernel
theorem dX4_sendBatch_31 : decode cX4_sendBatch 31 = .ok (.getfield 26, 3) := by decide +kernel
theorem dX4_sendBatch_34 : decode cX4_sendBatch 34 = .ok (.invokevirtual 74, 3) := by decide +kernel
theorem dX4_sendBatch_37 : decode cX4_sendBatch 37 = .ok (.iconst 1, 1) := by decide +kernel
theorem dX4_sendBatch_38 : decode cX4_sendBatch 38 = .ok (.ireturn, 1) := by decide +kernel
theorem dX4_raiseAlert_0 : decode cX4_raiseAlert 0 = .ok (.aload_n 0, 1) := by decide +kernel
theorem dX4_raiseAlert_1 : decode cX4_raiseAlert 1 = .ok (.dup, 1) := by decide +kernel
theorem dX4_raiseAlert_2 : decode cX4_raiseAlert 2 = .ok (.getfield 29, 3) := by decide +kernel
theorem dX4_raiseAlert_5 : decode cX4_raiseAlert 5 = .ok (.iconst 1, 1) := by decide +kernel
theorem dX4_raiseAlert_6 : decode cX4_raiseAlert 6 = .ok (.iadd, 1) := by decide +kernel
theorem dX4_raiseAlert_7 : decode cX4_raiseAlert 7 = .ok (.putfield 29, 3) := by decide +kernel
theorem dX4_raiseAlert_10 : decode cX4_raiseAlert 10 = .ok (.aload_n 0, 1) := by decide +kernel
theorem dX4_raiseAlert_11 : decode cX4_raiseAlert 11 = .ok (.iload_n 1, 1) := by decide +kernel
theorem dX4_raiseAlert_12 : decode cX4_raiseAlert 12 = .ok (.aload_n 0, 1) := by decide +kernel
theorem dX4_raiseAlert_13 : decode cX4_raiseAlert 13 = .ok (.getfield 22, 3) := by decide +kernel
theorem dX4_raiseAlert_16 : decode cX4_raiseAlert 16 = .ok (.iadd, 1) := by decide +kernel
theorem dX4_raiseAlert_17 : decode cX4_raiseAlert 17 = .ok (.putfield 26, 3) := by decide +kernel
theorem dX4_raiseAlert_20 : decode cX4_raiseAlert 20 = .ok (.return_, 1) := by decide +kernel
theorem dX5_init_0 : decode cX5_init 0 = .ok (.aload_n 0, 1) := by decide +kernel
theorem dX5_init_1 : decode cX5_init 1 = .ok (.invokespecial 3, 3) := by decide +kernel
theorem dX5_init_4 : decode cX5_init 4 = .ok (.aload_n 0, 1) := by decide +kernel
theorem dX5_init_5 : decode cX5_init 5 = .ok (.iload_n 1, 1) := by decide +kernel
theorem dX5_init_6 : decode cX5_init 6 = .ok (.putfield 9, 3) := by decide +kernel
theorem dX5_init_9 : decode cX5_init 9 = .ok (.aload_n 0, 1) := by decide +kernel
theorem dX5_init_10 : decode cX5_init 10 = .ok (.iload_n 2, 1) := by decide +kernel
theorem dX5_init_11 : decode cX5_init 11 = .ok (.putfield 15, 3) := by decide +kernel
theorem dX5_init_14 : decode cX5_init 14 = .ok (.aload_n 0, 1) := by decide +kernel
theorem dX5_init_15 : decode cX5_init 15 = .ok (.iload_n 3, 1) := by decide +kernel
theorem dX5_init_16 : decode cX5_init 16 = .ok (.putfield 18, 3) := by decide +kernel
theorem dX5_init_19 : decode cX5_init 19 = .ok (.aload_n 0, 1) := by decide +kernel
theorem dX5_init_20 : decode cX5_init 20 = .ok (.iload 4, 2) := by decide +kernel
theorem dX5_init_22 : decode cX5_init 22 = .ok (.putfield 21, 3) := by decide +kernel
theorem dX5_init_25 : decode cX5_init 25 = .ok (.return_, 1) := by decide +kernel
set_option maxRecDepth 20000 in
theorem ggX5_isTrue_X0_valueOf : GoodIn wsX5_isTrue wsX0_valueOf := goodIn_r _ [9, 10, 15] (by decide +kernel) (by decide +kernel)
set_option maxRecDepth 20000 in
theorem gX5_isTrue_X0_valueOf : GoodIn wsX5_isTrue (wsV RX5 25 RX0 yX0_valueOf wsX0_valueOf) := goodIn_app (goodIn_of _ (by decide +kernel)) ggX5_isTrue_X0_valueOf
theorem dX5_isTrue_0 : decode cX5_isTrue 0 = .ok (.aload_n 1, 1) := by decide +kernel
theorem dX5_isTrue_1 : decode cX5_isTrue 1 = .ok (.aload_n 0, 1) := by decide +kernel
theorem dX5_isTrue_2 : decode cX5_isTrue 2 = .ok (.getfield 9, 3) := by decide +kernel
theorem dX5_isTrue_5 : decode cX5_isTrue 5 = .ok (.invokevirtual 25, 3) := by decide +kernel
theorem dX5_isTrue_8 : decode cX5_isTrue 8 = .ok (.istore_n 2, 1) := by decide +kernel
theorem dX5_isTrue_9 : decode cX5_isTrue 9 = .ok (.iload_n 2, 1) := by decide +kernel
theorem dX5_isTrue_10 : decode cX5_isTrue 10 = .ok (.iconst (-1), 1) := by decide +kernel
theorem dX5_isTrue_11 : decode cX5_isTrue 11 = .ok (.if_icmp .eq 23, 3) := by decide +kernel
theorem dX5_isTrue_14 : decode cX5_isTrue 14 = .ok (.iload_n 2, 1) := by decide +kernel
theorem dX5_isTrue_15 : decode cX5_isTrue 15 = .ok (.aload_n 0, 1) := by decide +kernel
theorem dX5_isTrue_16 : decode cX5_isTrue 16 = .ok (.getfield 15, 3) := by decide +kernel
theorem dX5_isTrue_19 : decode cX5_isTrue 19 = .ok (.if_icmp .lt 15, 3) := by decide +kernel
theorem dX5_isTrue_22 : decode cX5_isTrue 22 = .ok (.iload_n 2, 1) := by decide +kernel
theorem dX5_isTrue_23 : decode cX5_isTrue 23 = .ok (.aload_n 0, 1) := by decide +kernel
theorem dX5_isTrue_24 : decode cX5_isTrue 24 = .ok (.getfield 18, 3) := by decide +kernel
theorem dX5_isTrue_27 : decode cX5_isTrue 27 = .ok (.if_icmp .gt 7, 3) := by decide +kernel
theorem dX5_isTrue_30 : decode cX5_isTrue 30 = .ok (.iconst 1, 1) := by decide +kernel
theorem dX5_isTrue_31 : decode cX5_isTrue 31 = .ok (.goto 4, 3) := by decide +kernel
theorem dX5_isTrue_34 : decode cX5_isTrue 34 = .ok (.iconst 0, 1) := by decide +kernel
theorem dX5_isTrue_35 : decode cX5_isTrue 35 = .ok (.istore_n 3, 1) := by decide +kernel
theorem dX5_isTrue_36 : decode cX5_isTrue 36 = .ok (.iload_n 3, 1) := by decide +kernel
theorem dX5_isTrue_37 : decode cX5_isTrue 37 = .ok (.aload_n 0, 1) := by decide +kernel
theorem dX5_isTrue_38 : decode cX5_isTrue 38 = .ok (.getfield 21, 3) := by decide +kernel
theorem dX5_isTrue_41 : decode cX5_isTrue 41 = .ok (.if_icmp .eq 7, 3) := by decide +kernel
theorem dX5_isTrue_44 : decode cX5_isTrue 44 = .ok (.iconst 1, 1) := by decide +kernel
theorem dX5_isTrue_45 : decode cX5_isTrue 45 = .ok (.goto 4, 3) := by decide +kernel
theorem dX5_isTrue_48 : decode cX5_isTrue 48 = .ok (.iconst 0, 1) := by decide +kernel
theorem dX5_isTrue_49 : decode cX5_isTrue 49 = .ok (.ireturn, 1) := by decide +kernel
set_option maxRecDepth 20000 in
theorem ggX6_init_Jx4a65c_init_da8c8 : GoodIn wsX6_init wsJx4a65c_init_da8c8 := goodIn_r _ [19, 20, 21, 22, 23, 24, 25, 26, 27, 28, 29, 30, 31, 2, 3, 48, 49, 50] (by decide +kernel) (by decide +kernel)
set_option maxRecDepth 20000 in
theorem gX6_init_Jx4a65c_init_da8c8 : GoodIn wsX6_init (wsJx4a65c_init_da8c8) := ggX6_init_Jx4a65c_init_da8c8
set_option maxRecDepth 20000 in
theorem ggX6_init_X0_init : GoodIn wsX6_init wsX0_init := goodIn_r _ [34, 35, 2, 3, 36, 37, 38, 39, 40, 41, 55] (by decide +kernel) (by decide +kernel)
set_option maxRecDepth 20000 in
theorem gX6_init_X0_init : GoodIn wsX6_init (wsX0_init) := ggX6_init_X0_init
set_option maxRecDepth 20000 in
theorem ggX6_init_X1_init : GoodIn wsX6_init wsX1_init := goodIn_r _ [44, 45, 2, 3, 46, 47, 56] (by decide +kernel) (by decide +kernel)
set_option maxRecDepth 20000 in
theorem gX6_init_X1_init : GoodIn wsX6_init (wsX1_init) := ggX6_init_X1_init
end
section
theorem dX6_init_0 : decode cX6_init 0 = .ok (.aload_n 0, 1) := by decide +kernel
theorem dX6_init_1 : decode cX6_init 1 = .ok (.invokespecial 1, 3) := by decide +kernel
theorem dX6_init_4 : decode cX6_init 4 = .ok (.aload_n 0, 1) := by decide +kernel
theorem dX6_init_5 : decode cX6_init 5 = .ok (.new 7, 3) := by decide +kernel
theorem dX6_init_8 : decode cX6_init 8 = .ok (.dup, 1) := by decide +kernel
theorem dX6_init_9 : decode cX6_init 9 = .ok (.invokespecial 9, 3) := by decide +kernel
theorem dX6_init_12 : decode cX6_init 12 = .ok (.putfield 10, 3) := by decide +kernel
theorem dX6_init_15 : decode cX6_init 15 = .ok (.aload_n 0, 1) := by decide +kernel
theorem dX6_init_16 : decode cX6_init 16 = .ok (.new 16, 3) := by decide +kernel
theorem dX6_init_19 : decode cX6_init 19 = .ok (.dup, 1) := by decide +kernel
theorem dX6_init_20 : decode cX6_init 20 = .ok (.invokespecial 18, 3) := by decide +kernel
theorem dX6_init_23 : decode cX6_init 23 = .ok (.putfield 19, 3) := by decide +kernel
theorem dX6_init_26 : decode cX6_init 26 = .ok (.aload_n 0, 1) := by decide +kernel
theorem dX6_init_27 : decode cX6_init 27 = .ok (.new 23, 3) := by decide +kernel
theorem dX6_init_30 : decode cX6_init 30 = .ok (.dup, 1) := by decide +kernel
theorem dX6_init_31 : decode cX6_init 31 = .ok (.invokespecial 25, 3) := by decide +kernel
theorem dX6_init_34 : decode cX6_init 34 = .ok (.putfield 26, 3) := by decide +kernel
theorem dX6_init_37 : decode cX6_init 37 = .ok (.aload_n 0, 1) := by decide +kernel
theorem dX6_init_38 : decode cX6_init 38 = .ok (.iconst 0, 1) := by decide +kernel
theorem dX6_init_39 : decode cX6_init 39 = .ok (.putfield 30, 3) := by decide +kernel
theorem dX6_init_42 : decode cX6_init 42 = .ok (.return_, 1) := by decide +kernel
set_option maxRecDepth 20000 in
theorem ggX6_question_Jx4a65c_size_8abf5 : GoodIn wsX6_question wsJx4a65c_size_8abf5 := goodIn_r _ [11, 12, 104, 105, 106] (by decide +kernel) (by decide +kernel)
set_option maxRecDepth 20000 in
theorem gX6_question_Jx4a65c_size_8abf5_f34Jx4a65c : GoodIn wsX6_question (va_wsF RX6 34 RJx4a65c ⟨"java/util/List", "size", "()I"⟩ yJx4a65c_size_8abf5 wsJx4a65c_size_8abf5) := goodIn_app (goodIn_of _ (by decide +kernel)) ggX6_question_Jx4a65c_size_8abf5
set_option maxRecDepth 20000 in
theorem ggX6_question_X4_init : GoodIn wsX6_question wsX4_init := goodIn_r _ [15, 16, 17, 18, 19, 20, 10, 21, 22, 23, 24, 25, 26, 27, 28, 29, 30, 31, 32, 33, 34, 35, 36, 37, 38, 39, 40, 41, 104, 105, 106, 98, 99, 100, 101, 102, 103] (by decide +kernel) (by decide +kernel)
set_option maxRecDepth 20000 in
theorem gX6_question_X4_init : GoodIn wsX6_question (wsX4_init) := ggX6_question_X4_init
set_option maxRecDepth 20000 in
theorem ggX6_question_Jx4a65c_add_9ea2d : GoodIn wsX6_question wsJx4a65c_add_9ea2d := goodIn_r _ [45, 46, 47, 31, 12, 48, 49, 50, 10, 51, 52, 53, 54, 55, 56, 57, 58, 59, 30, 60, 61, 62, 63, 64, 65, 66, 67, 68, 69, 70, 71, 72, 73, 74, 75, 76, 77, 78, 79, 80, 81, 82, 83, 84, 85, 86, 87, 88, 89, 90, 91, 92, 93, 104, 105, 106] (by decide +kernel) (by decide +kernel)
set_option maxRecDepth 20000 in
theorem gX6_question_Jx4a65c_add_9ea2d_f50Jx4a65c : GoodIn wsX6_question (va_wsF RX6 50 RJx4a65c ⟨"java/util/List", "add", "(Ljava/lang/Object;)Z"⟩ yJx4a65c_add_9ea2d wsJx4a65c_add_9ea2d) := goodIn_app (goodIn_of _ (by decide +kernel)) ggX6_question_Jx4a65c_add_9ea2d
theorem dX6_question_0 : decode cX6_question 0 = .ok (.aload_n 0, 1) := by decide +kernel
theorem dX6_question_1 : decode cX6_question 1 = .ok (.getfield 10, 3) := by decide +kernel
theorem dX6_question_4 : decode cX6_question 4 = .ok (.invokeinterface 34 1, 5) := by decide +kernel
theorem dX6_question_9 : decode cX6_question 9 = .ok (.bipush 20, 2) := by decide +kernel
theorem dX6_question_11 : decode cX6_question 11 = .ok (.if_icmp .lt 13, 3) := by decide +kernel
theorem dX6_question_14 : decode cX6_question 14 = .ok (.new 40, 3) := by decide +kernel
theorem dX6_question_17 : decode cX6_question 17 = .ok (.dup, 1) := by decide +kernel
theorem dX6_question_18 : decode cX6_question 18 = .ok (.ldc 42, 2) := by decide +kernel
theorem dX6_question_20 : decode cX6_question 20 = .ok (.invokespecial 44, 3) := by decide +kernel
theorem dX6_question_23 : decode cX6_question 23 = .ok (.athrow, 1) := by decide +kernel
theorem dX6_question_24 : decode cX6_question 24 = .ok (.aload_n 0, 1) := by decide +kernel
theorem dX6_question_25 : decode cX6_question 25 = .ok (.getfield 10, 3) := by decide +kernel
theorem dX6_question_28 : decode cX6_question 28 = .ok (.new 47, 3) := by decide +kernel
theorem dX6_question_31 : decode cX6_question 31 = .ok (.dup, 1) := by decide +kernel
theorem dX6_question_32 : decode cX6_question 32 = .ok (.invokespecial 49, 3) := by decide +kernel
theorem dX6_question_35 : decode cX6_question 35 = .ok (.invokeinterface 50 2, 5) := by decide +kernel
theorem dX6_question_40 : decode cX6_question 40 = .ok (.pop, 1) := by decide +kernel
theorem dX6_question_41 : decode cX6_question 41 = .ok (.aload_n 0, 1) := by decide +kernel
theorem dX6_question_42 : decode cX6_question 42 = .ok (.getfield 10, 3) := by decide +kernel
theorem dX6_question_45 : decode cX6_question 45 = .ok (.invokeinterface 34 1, 5) := by decide +kernel
theorem dX6_question_50 : decode cX6_question 50 = .ok (.iconst 1, 1) := by decide +kernel
theorem dX6_question_51 : decode cX6_question 51 = .ok (.isub, 1) := by decide +kernel
theorem dX6_question_52 : decode cX6_question 52 = .ok (.ireturn, 1) := by decide +kernel
set_option maxRecDepth 20000 in
theorem ggX6_product_X6_questionOf : GoodIn wsX6_product wsX6_questionOf := goodIn_ca (goodIn_r _ [11, 12, 13, 14, 15, 16, 17, 18, 19, 20, 21, 22, 23, 24, 25, 26, 27, 28, 29, 30, 31, 32, 33, 34, 35, 36, 37, 38, 39, 126, 127, 128, 129, 117, 118, 119, 120, 121, 122, 130, 131, 132] (by decide +kernel) (by decide +kernel)) (goodIn_sub (fun _ h => List.mem_cons_of_mem _ (List.mem_append_right _ h)) (by decide +kernel))
set_option maxRecDepth 20000 in
theorem gX6_product_X6_questionOf : GoodIn wsX6_product (wsV RX6 54 RX6 yX6_questionOf wsX6_questionOf) := goodIn_app (goodIn_of _ (by decide +kernel)) ggX6_product_X6_questionOf
set_option maxRecDepth 20000 in
theorem ggX6_product_Jx4a65c_size_8abf5 : GoodIn wsX6_product wsJx4a65c_size_8abf5 := goodIn_r _ [21, 22, 130, 131, 132] (by decide +kernel) (by decide +kernel)
set_option maxRecDepth 20000 in
theorem gX6_product_Jx4a65c_size_8abf5_f34Jx4a65c : GoodIn wsX6_product (va_wsF RX6 34 RJx4a65c ⟨"java/util/List", "size", "()I"⟩ yJx4a65c_size_8abf5 wsJx4a65c_size_8abf5) := goodIn_app (goodIn_of _ (by decide +kernel)) ggX6_product_Jx4a65c_size_8abf5
set_option maxRecDepth 20000 in
theorem ggX6_product_X3_init : GoodIn wsX6_product wsX3_init := goodIn_r _ [42, 43, 44, 45, 46, 47, 20, 48, 49, 50, 51, 52, 53, 54, 39, 55, 56, 57, 58, 59, 60, 61, 62, 63, 64, 130, 131, 132, 123, 124, 125] (by decide +kernel) (by decide +kernel)
set_option maxRecDepth 20000 in
theorem gX6_product_X3_init : GoodIn wsX6_product (wsX3_init) := ggX6_product_X3_init
set_option maxRecDepth 20000 in
theorem ggX6_product_Jx4a65c_add_9ea2d : GoodIn wsX6_product wsJx4a65c_add_9ea2d := goodIn_r _ [68, 69, 70, 39, 22, 71, 72, 73, 20, 74, 75, 76, 77, 78, 79, 80, 81, 82, 54, 83, 84, 85, 86, 87, 88, 89, 90, 91, 92, 93, 94, 95, 96, 97, 98, 99, 100, 101, 102, 103, 104, 105, 106, 107, 108, 109, 110, 111, 112, 113, 114, 115, 116, 130, 131, 132] (by decide +kernel) (by decide +kernel)
set_option maxRecDepth 20000 in
theorem gX6_product_Jx4a65c_add_9ea2d_f50Jx4a65c : GoodIn wsX6_product (va_wsF RX6 50 RJx4a65c ⟨"java/util/List", "add", "(Ljava/lang/Object;)Z"⟩ yJx4a65c_add_9ea2d wsJx4a65c_add_9ea2d) := goodIn_app (goodIn_of _ (by decide +kernel)) ggX6_product_Jx4a65c_add_9ea2d
theorem dX6_product_0 : decode cX6_product 0 = .ok (.aload_n 0, 1) := by decide +kernel
theorem dX6_product_1 : decode cX6_product 1 = .ok (.iload_n 1, 1) := by decide +kernel
theorem dX6_product_2 : decode cX6_product 2 = .ok (.invokevirtual 54, 3) := by decide +kernel
theorem dX6_product_5 : decode cX6_product 5 = .ok (.astore_n 2, 1) := by decide +kernel
theorem dX6_product_6 : decode cX6_product 6 = .ok (.aload_n 2, 1) := by decide +kernel
theorem dX6_product_7 : decode cX6_product 7 = .ok (.getfield 58, 3) := by decide +kernel
theorem dX6_product_10 : decode cX6_product 10 = .ok (.invokeinterface 34 1, 5) := by decide +kernel
theorem dX6_product_15 : decode cX6_product 15 = .ok (.iconst 3, 1) := by decide +kernel
theorem dX6_product_16 : decode cX6_product 16 = .ok (.if_icmp .lt 13, 3) := by decide +kernel
theorem dX6_product_19 : decode cX6_product 19 = .ok (.new 40, 3) := by decide +kernel
theorem dX6_product_22 : decode cX6_product 22 = .ok (.dup, 1) := by decide +kernel
theorem dX6_product_23 : decode cX6_product 23 = .ok (.ldc 61, 2) := by decide +kernel
theorem dX6_product_25 : decode cX6_product 25 = .ok (.invokespecial 44, 3) := by decide +kernel
theorem dX6_product_28 : decode cX6_product 28 = .ok (.athrow, 1) := by decide +kernel
theorem dX6_product_29 : decode cX6_product 29 = .ok (.aload_n 2, 1) := by decide +kernel
theorem dX6_product_30 : decode cX6_product 30 = .ok (.getfield 58, 3) := by decide +kernel
theorem dX6_product_33 : decode cX6_product 33 = .ok (.new 63, 3) := by decide +kernel
theorem dX6_product_36 : decode cX6_product 36 = .ok (.dup, 1) := by decide +kernel
theorem dX6_product_37 : decode cX6_product 37 = .ok (.invokespecial 65, 3) := by decide +kernel
theorem dX6_product_40 : decode cX6_product 40 = .ok (.invokeinterface 50 2, 5) := by decide +kernel
theorem dX6_product_45 : decode cX6_product 45 = .ok (.pop, 1) := by decide +kernel
theorem dX6_product_46 : decode cX6_product 46 = .ok (.aload_n 2, 1) := by decide +kernel
theorem dX6_product_47 : decode cX6_product 47 = .ok (.getfield 58, 3) := by decide +kernel
theorem dX6_product_50 : decode cX6_product 50 = .ok (.invokeinterface 34 1, 5) := by decide +kernel
theorem dX6_product_55 : decode cX6_product 55 = .ok (.ireturn, 1) := by decide +kernel
set_option maxRecDepth 20000 in
theorem ggX6_test_X6_questionOf : GoodIn wsX6_test wsX6_questionOf := goodIn_ca (goodIn_r _ [13, 14, 15, 16, 17, 18, 19, 20, 21, 22, 23, 24, 25, 26, 27, 28, 29, 30, 31, 32, 33, 34, 35, 36, 37, 38, 39, 40, 41, 153, 154, 155, 156, 157, 158, 159, 160, 161, 162, 163, 164, 165] (by decide +kernel) (by decide +kernel)) (goodIn_sub (fun _ h => List.mem_cons_of_mem _ (List.mem_append_left _ (List.mem_append_right _ h))) (by decide +kernel))
set_option maxRecDepth 20000 in
theorem gX6_test_X6_questionOf : GoodIn wsX6_test (wsV RX6 54 RX6 yX6_questionOf wsX6_questionOf) := goodIn_app (goodIn_of _ (by decide +kernel)) ggX6_test_X6_questionOf
set_option maxRecDepth 20000 in
theorem ggX6_test_X6_refuseNoName : GoodIn wsX6_test wsX6_refuseNoName := goodIn_ca (goodIn_r _ [44, 14, 15] (by decide +kernel) (by decide +kernel)) (goodIn_sub (fun _ h => List.mem_cons_of_mem _ (List.mem_append_left _ (List.mem_append_right _ h))) (by decide +kernel))
set_option maxRecDepth 20000 in
theorem gX6_test_X6_refuseNoName : GoodIn wsX6_test (va_wsS RX6 66 yX6_refuseNoName wsX6_refuseNoName) := goodIn_app (goodIn_of _ (by decide +kernel)) ggX6_test_X6_refuseNoName
set_option maxRecDepth 20000 in
theorem ggX6_test_X6_refuseNoRange : GoodIn wsX6_test wsX6_refuseNoRange := goodIn_ca (goodIn_r _ [47, 48, 49, 50, 51, 12, 52] (by decide +kernel) (by decide +kernel)) (goodIn_sub (fun _ h => List.mem_cons_of_mem _ (List.mem_append_right _ h)) (by decide +kernel))
set_option maxRecDepth 20000 in
theorem gX6_test_X6_refuseNoRange : GoodIn wsX6_test (va_wsS RX6 70 yX6_refuseNoRange wsX6_refuseNoRange) := goodIn_app (goodIn_of _ (by decide +kernel)) ggX6_test_X6_refuseNoRange
set_option maxRecDepth 20000 in
theorem ggX6_test_X4_lastProduct : GoodIn wsX6_test wsX4_lastProduct := goodIn_r _ [57, 58, 59, 60, 20, 21, 22, 23, 24, 61, 26, 27, 28, 29, 30, 31, 32, 33, 34, 35, 36, 37, 38, 39, 40, 41, 157, 158, 159, 160, 161, 162, 163, 164, 165] (by decide +kernel) (by decide +kernel)
set_option maxRecDepth 20000 in
theorem gX6_test_X4_lastProduct : GoodIn wsX6_test (wsV RX6 74 RX4 yX4_lastProduct wsX4_lastProduct) := goodIn_app (goodIn_of _ (by decide +kernel)) ggX6_test_X4_lastProduct
set_option maxRecDepth 20000 in
theorem ggX6_test_Jx4a65c_size_8abf5 : GoodIn wsX6_test wsJx4a65c_size_8abf5 := goodIn_r _ [23, 24, 163, 164, 165] (by decide +kernel) (by decide +kernel)
set_option maxRecDepth 20000 in
theorem gX6_test_Jx4a65c_size_8abf5_f34Jx4a65c : GoodIn wsX6_test (va_wsF RX6 34 RJx4a65c ⟨"java/util/List", "size", "()I"⟩ yJx4a65c_size_8abf5 wsJx4a65c_size_8abf5) := goodIn_app (goodIn_of _ (by decide +kernel)) ggX6_test_Jx4a65c_size_8abf5
set_option maxRecDepth 20000 in
theorem ggX6_test_X5_init : GoodIn wsX6_test wsX5_init := goodIn_r _ [64, 65, 66, 67, 68, 69, 70, 71, 149, 150, 151, 152] (by decide +kernel) (by decide +kernel)
set_option maxRecDepth 20000 in
theorem gX6_test_X5_init : GoodIn wsX6_test (wsX5_init) := ggX6_test_X5_init
set_option maxRecDepth 20000 in
theorem ggX6_test_Jx4a65c_add_9ea2d : GoodIn wsX6_test wsJx4a65c_add_9ea2d := goodIn_r _ [75, 76, 77, 41, 24, 78, 79, 80, 22, 81, 82, 83, 84, 85, 86, 87, 88, 89, 90, 91, 92, 93, 94, 95, 96, 97, 98, 99, 100, 101, 102, 103, 104, 105, 106, 107, 108, 109, 110, 111, 112, 113, 114, 115, 116, 117, 118, 119, 120, 121, 122, 123, 124, 163, 164, 165] (by decide +kernel) (by decide +kernel)
set_option maxRecDepth 20000 in
theorem gX6_test_Jx4a65c_add_9ea2d_f50Jx4a65c : GoodIn wsX6_test (va_wsF RX6 50 RJx4a65c ⟨"java/util/List", "add", "(Ljava/lang/Object;)Z"⟩ yJx4a65c_add_9ea2d wsJx4a65c_add_9ea2d) := goodIn_app (goodIn_of _ (by decide +kernel)) ggX6_test_Jx4a65c_add_9ea2d
set_option maxRecDepth 20000 in
theorem ggX6_test_X1_enter : GoodIn wsX6_test wsX1_enter := goodIn_r _ [129, 130, 12, 131, 132, 133, 134, 128, 135, 136, 137, 138, 139, 140, 141, 142, 143, 66, 67, 144, 145, 166, 167, 168] (by decide +kernel) (by decide +kernel)
set_option maxRecDepth 20000 in
theorem gX6_test_X1_enter : GoodIn wsX6_test (wsV RX6 93 RX1 yX1_enter wsX1_enter) := goodIn_app (goodIn_of _ (by decide +kernel)) ggX6_test_X1_enter
theorem dX6_test_0 : decode cX6_test 0 = .ok (.aload_n 0, 1) := by decide +kernel
theorem dX6_test_1 : decode cX6_test 1 = .ok (.iload_n 1, 1) := by decide +kernel
theorem dX6_test_2 : decode cX6_test 2 = .ok (.invokevirtual 54, 3) := by decide +kernel
theorem dX6_test_5 : decode cX6_test 5 = .ok (.astore 6, 2) := by decide +kernel
theorem dX6_test_7 : decode cX6_test 7 = .ok (.iload_n 2, 1) := by decide +kernel
theorem dX6_test_8 : decode cX6_test 8 = .ok (.invokestatic 66, 3) := by decide +kernel
theorem dX6_test_11 : decode cX6_test 11 = .ok (.iload_n 3, 1) := by decide +kernel
theorem dX6_test_12 : decode cX6_test 12 = .ok (.iload 4, 2) := by decide +kernel
theorem dX6_test_14 : decode cX6_test 14 = .ok (.invokestatic 70, 3) := by decide +kernel
theorem dX6_test_17 : decode cX6_test 17 = .ok (.aload 6, 2) := by decide +kernel
theorem dX6_test_19 : decode cX6_test 19 = .ok (.invokevirtual 74, 3) := by decide +kernel
theorem dX6_test_22 : decode cX6_test 22 = .ok (.astore 7, 2) := by decide +kernel
theorem dX6_test_24 : decode cX6_test 24 = .ok (.aload 7, 2) := by decide +kernel
theorem dX6_test_26 : decode cX6_test 26 = .ok (.ifnonnull 13, 3) := by decide +kernel
theorem dX6_test_29 : decode cX6_test 29 = .ok (.new 40, 3) := by decide +kernel
theorem dX6_test_32 : decode cX6_test 32 = .ok (.dup, 1) := by decide +kernel
theorem dX6_test_33 : decode cX6_test 33 = .ok (.ldc 78, 2) := by decide +kernel
theorem dX6_test_35 : decode cX6_test 35 = .ok (.invokespecial 44, 3) := by decide +kernel
theorem dX6_test_38 : decode cX6_test 38 = .ok (.athrow, 1) := by decide +kernel
theorem dX6_test_39 : decode cX6_test 39 = .ok (.aload 7, 2) := by decide +kernel
theorem dX6_test_41 : decode cX6_test 41 = .ok (.getfield 80, 3) := by decide +kernel
theorem dX6_test_44 : decode cX6_test 44 = .ok (.invokeinterface 34 1, 5) := by decide +kernel
theorem dX6_test_49 : decode cX6_test 49 = .ok (.iconst 4, 1) := by decide +kernel
theorem dX6_test_50 : decode cX6_test 50 = .ok (.if_icmp .lt 13, 3) := by decide +kernel
theorem dX6_test_53 : decode cX6_test 53 = .ok (.new 40, 3) := by decide +kernel
theorem dX6_test_56 : decode cX6_test 56 = .ok (.dup, 1) := by decide +kernel
theorem dX6_test_57 : decode cX6_test 57 = .ok (.ldc 83, 2) := by decide +kernel
theorem dX6_test_59 : decode cX6_test 59 = .ok (.invokespecial 44, 3) := by decide +kernel
theorem dX6_test_62 : decode cX6_test 62 = .ok (.athrow, 1) := by decide +kernel
theorem dX6_test_63 : decode cX6_test 63 = .ok (.aload 7, 2) := by decide +kernel
theorem dX6_test_65 : decode cX6_test 65 = .ok (.getfield 80, 3) := by decide +kernel
theorem dX6_test_68 : decode cX6_test 68 = .ok (.new 85, 3) := by decide +kernel
theorem dX6_test_71 : decode cX6_test 71 = .ok (.dup, 1) := by decide +kernel
theorem dX6_test_72 : decode cX6_test 72 = .ok (.iload_n 2, 1) := by decide +kernel
theorem dX6_test_73 : decode cX6_test 73 = .ok (.iload_n 3, 1) := by decide +kernel
theorem dX6_test_74 : decode cX6_test 74 = .ok (.iload 4, 2) := by decide +kernel
theorem dX6_test_76 : decode cX6_test 76 = .ok (.iload 5, 2) := by decide +kernel
theorem dX6_test_78 : decode cX6_test 78 = .ok (.invokespecial 87, 3) := by decide +kernel
theorem dX6_test_81 : decode cX6_test 81 = .ok (.invokeinterface 50 2, 5) := by decide +kernel
theorem dX6_test_86 : decode cX6_test 86 = .ok (.pop, 1) := by decide +kernel
theorem dX6_test_87 : decode cX6_test 87 = .ok (.iload 5, 2) := by decide +kernel
theorem dX6_test_89 : decode cX6_test 89 = .ok (.ifCond .ne 27, 3) := by decide +kernel
theorem dX6_test_92 : decode cX6_test 92 = .ok (.aload 7, 2) := by decide +kernel
theorem dX6_test_94 : decode cX6_test 94 = .ok (.dup, 1) := by decide +kernel
theorem dX6_test_95 : decode cX6_test 95 = .ok (.getfield 90, 3) := by decide +kernel
theorem dX6_test_98 : decode cX6_test 98 = .ok (.iconst 1, 1) := by decide +kernel
theorem dX6_test_99 : decode cX6_test 99 = .ok (.iadd, 1) := by decide +kernel
theorem dX6_test_100 : decode cX6_test 100 = .ok (.putfield 90, 3) := by decide +kernel
theorem dX6_test_103 : decode cX6_test 103 = .ok (.aload_n 0, 1) := by decide +kernel
theorem dX6_test_104 : decode cX6_test 104 = .ok (.getfield 26, 3) := by decide +kernel
theorem dX6_test_107 : decode cX6_test 107 = .ok (.aload 7, 2) := by decide +kernel
theorem dX6_test_109 : decode cX6_test 109 = .ok (.iload_n 2, 1) := by decide +kernel
theorem dX6_test_110 : decode cX6_test 110 = .ok (.iload_n 3, 1) := by decide +kernel
theorem dX6_test_111 : decode cX6_test 111 = .ok (.iload 4, 2) := by decide +kernel
theorem dX6_test_113 : decode cX6_test 113 = .ok (.invokevirtual 93, 3) := by decide +kernel
theorem dX6_test_116 : decode cX6_test 116 = .ok (.aload 7, 2) := by decide +kernel
theorem dX6_test_118 : decode cX6_test 118 = .ok (.getfield 80, 3) := by decide +kernel
theorem dX6_test_121 : decode cX6_test 121 = .ok (.invokeinterface 34 1, 5) := by decide +kernel
theorem dX6_test_126 : decode cX6_test 126 = .ok (.ireturn, 1) := by decide +kernel
set_option maxRecDepth 20000 in
theorem ggX6_drop_X6_questionOf : GoodIn wsX6_drop wsX6_questionOf := goodIn_ca (goodIn_r _ [7, 8, 9, 10, 11, 1, 12, 13, 14, 15, 16, 17, 18, 19, 20, 21, 22, 23, 24, 25, 26, 27, 28, 29, 30, 31, 32, 33, 34, 41, 42, 43, 44, 35, 36, 37, 38, 39, 40, 45, 46, 47] (by decide +kernel) (by decide +kernel)) (goodIn_sub (fun _ h => List.mem_cons_of_mem _ (List.mem_append_right _ h)) (by decide +kernel))
set_option maxRecDepth 20000 in
theorem gX6_drop_X6_questionOf : GoodIn wsX6_drop (wsV RX6 54 RX6 yX6_questionOf wsX6_questionOf) := goodIn_app (goodIn_of _ (by decide +kernel)) ggX6_drop_X6_questionOf
theorem dX6_drop_0 : decode cX6_drop 0 = .ok (.aload_n 0, 1) := by decide +kernel
theorem dX6_drop_1 : decode cX6_drop 1 = .ok (.iload_n 1, 1) := by decide +kernel
theorem dX6_drop_2 : decode cX6_drop 2 = .ok (.invokevirtual 54, 3) := by decide +kernel
theorem dX6_drop_5 : decode cX6_drop 5 = .ok (.astore_n 2, 1) := by decide +kernel
theorem dX6_drop_6 : decode cX6_drop 6 = .ok (.aload_n 2, 1) := by decide +kernel
theorem dX6_drop_7 : decode cX6_drop 7 = .ok (.iconst 1, 1) := by decide +kernel
theorem dX6_drop_8 : decode cX6_drop 8 = .ok (.putfield 97, 3) := by decide +kernel
theorem dX6_drop_11 : decode cX6_drop 11 = .ok (.aload_n 2, 1) := by decide +kernel
theorem dX6_drop_12 : decode cX6_drop 12 = .ok (.getfield 101, 3) := by decide +kernel
theorem dX6_drop_15 : decode cX6_drop 15 = .ok (.ireturn, 1) := by decide +kernel
set_option maxRecDepth 20000 in
theorem ggX6_setQuiet_X6_questionOf : GoodIn wsX6_setQuiet wsX6_questionOf := goodIn_ca (goodIn_r _ [8, 9, 10, 11, 12, 13, 14, 15, 16, 17, 18, 19, 20, 21, 22, 23, 24, 25, 26, 27, 28, 29, 30, 31, 32, 33, 34, 35, 36, 43, 44, 45, 46, 37, 38, 39, 40, 41, 42, 47, 48, 49] (by decide +kernel) (by decide +kernel)) (goodIn_sub (fun _ h => List.mem_cons_of_mem _ (List.mem_append_right _ h)) (by decide +kernel))
set_option maxRecDepth 20000 in
theorem gX6_setQuiet_X6_questionOf : GoodIn wsX6_setQuiet (wsV RX6 54 RX6 yX6_questionOf wsX6_questionOf) := goodIn_app (goodIn_of _ (by decide +kernel)) ggX6_setQuiet_X6_questionOf
theorem dX6_setQuiet_0 : decode cX6_setQuiet 0 = .ok (.aload_n 0, 1) := by decide +kernel
theorem dX6_setQuiet_1 : decode cX6_setQuiet 1 = .ok (.iload_n 1, 1) := by decide +kernel
theorem dX6_setQuiet_2 : decode cX6_setQuiet 2 = .ok (.invokevirtual 54, 3) := by decide +kernel
theorem dX6_setQuiet_5 : decode cX6_setQuiet 5 = .ok (.astore_n 3, 1) := by decide +kernel
theorem dX6_setQuiet_6 : decode cX6_setQuiet 6 = .ok (.iload_n 2, 1) := by decide +kernel
theorem dX6_setQuiet_7 : decode cX6_setQuiet 7 = .ok (.ifCond .lt 10, 3) := by decide +kernel
theorem dX6_setQuiet_10 : decode cX6_setQuiet 10 = .ok (.iload_n 2, 1) := by decide +kernel
theorem dX6_setQuiet_11 : decode cX6_setQuiet 11 = .ok (.sipush 1000, 3) := by decide +kernel
theorem dX6_setQuiet_14 : decode cX6_setQuiet 14 = .ok (.if_icmp .le 13, 3) := by decide +kernel
theorem dX6_setQuiet_17 : decode cX6_setQuiet 17 = .ok (.new 104, 3) := by decide +kernel
theorem dX6_setQuiet_20 : decode cX6_setQuiet 20 = .ok (.dup, 1) := by decide +kernel
theorem dX6_setQuiet_21 : decode cX6_setQuiet 21 = .ok (.ldc 106, 2) := by decide +kernel
theorem dX6_setQuiet_23 : decode cX6_setQuiet 23 = .ok (.invokespecial 108, 3) := by decide +kernel
theorem dX6_setQuiet_26 : decode cX6_setQuiet 26 = .ok (.athrow, 1) := by decide +kernel
theorem dX6_setQuiet_27 : decode cX6_setQuiet 27 = .ok (.aload_n 3, 1) := by decide +kernel
theorem dX6_setQuiet_28 : decode cX6_setQuiet 28 = .ok (.getfield 109, 3) := by decide +kernel
theorem dX6_setQuiet_31 : decode cX6_setQuiet 31 = .ok (.istore 4, 2) := by decide +kernel
theorem dX6_setQuiet_33 : decode cX6_setQuiet 33 = .ok (.aload_n 3, 1) := by decide +kernel
theorem dX6_setQuiet_34 : decode cX6_setQuiet 34 = .ok (.iload_n 2, 1) := by decide +kernel
theorem dX6_setQuiet_35 : decode cX6_setQuiet 35 = .ok (.putfield 109, 3) := by decide +kernel
theorem dX6_setQuiet_38 : decode cX6_setQuiet 38 = .ok (.iload 4, 2) := by decide +kernel
theorem dX6_setQuiet_40 : decode cX6_setQuiet 40 = .ok (.ireturn, 1) := by decide +kernel
set_option maxRecDepth 20000 in
theorem ggX6_set_X6_refuseNoName : GoodIn wsX6_set wsX6_refuseNoName := goodIn_ca (goodIn_r _ [7, 8, 9] (by decide +kernel) (by decide +kernel)) (goodIn_sub (fun _ h => List.mem_cons_of_mem _ (List.mem_append_right _ h)) (by decide +kernel))
set_option maxRecDepth 20000 in
theorem gX6_set_X6_refuseNoName : GoodIn wsX6_set (va_wsS RX6 66 yX6_refuseNoName wsX6_refuseNoName) := goodIn_app (goodIn_of _ (by decide +kernel)) ggX6_set_X6_refuseNoName
set_option maxRecDepth 20000 in
theorem ggX6_set_X6_isValue : GoodIn wsX6_set wsX6_isValue := goodIn_r _ [12] (by decide +kernel) (by decide +kernel)
set_option maxRecDepth 20000 in
theorem gX6_set_X6_isValue : GoodIn wsX6_set (va_wsS RX6 112 yX6_isValue wsX6_isValue) := goodIn_app (goodIn_of _ (by decide +kernel)) ggX6_set_X6_isValue
set_option maxRecDepth 20000 in
theorem ggX6_set_X0_replace : GoodIn wsX6_set wsX0_replace := goodIn_r _ [17, 18, 19, 20, 21, 16, 22, 27] (by decide +kernel) (by decide +kernel)
set_option maxRecDepth 20000 in
theorem gX6_set_X0_replace : GoodIn wsX6_set (wsV RX6 118 RX0 yX0_replace wsX0_replace) := goodIn_app (goodIn_of _ (by decide +kernel)) ggX6_set_X0_replace
theorem dX6_set_0 : decode cX6_set 0 = .ok (.iload_n 1, 1) := by decide +kernel
theorem dX6_set_1 : decode cX6_set 1 = .ok (.invokestatic 66, 3) := by decide +kernel
theorem dX6_set_4 : decode cX6_set 4 = .ok (.iload_n 2, 1) := by decide +kernel
theorem dX6_set_5 : decode cX6_set 5 = .ok (.iconst (-1), 1) := by decide +kernel
theorem dX6_set_6 : decode cX6_set 6 = .ok (.if_icmp .eq 20, 3) := by decide +kernel
theorem dX6_set_9 : decode cX6_set 9 = .ok (.iload_n 2, 1) := by decide +kernel
theorem dX6_set_10 : decode cX6_set 10 = .ok (.invokestatic 112, 3) := by decide +kernel
theorem dX6_set_13 : decode cX6_set 13 = .ok (.ifCond .ne 13, 3) := by decide +kernel
theorem dX6_set_16 : decode cX6_set 16 = .ok (.new 104, 3) := by decide +kernel
theorem dX6_set_19 : decode cX6_set 19 = .ok (.dup, 1) := by decide +kernel
theorem dX6_set_20 : decode cX6_set 20 = .ok (.ldc 116, 2) := by decide +kernel
theorem dX6_set_22 : decode cX6_set 22 = .ok (.invokespecial 108, 3) := by decide +kernel
theorem dX6_set_25 : decode cX6_set 25 = .ok (.athrow, 1) := by decide +kernel
theorem dX6_set_26 : decode cX6_set 26 = .ok (.aload_n 0, 1) := by decide +kernel
theorem dX6_set_27 : decode cX6_set 27 = .ok (.getfield 19, 3) := by decide +kernel
theorem dX6_set_30 : decode cX6_set 30 = .ok (.iload_n 1, 1) := by decide +kernel
theorem dX6_set_31 : decode cX6_set 31 = .ok (.iload_n 2, 1) := by decide +kernel
theorem dX6_set_32 : decode cX6_set 32 = .ok (.invokevirtual 118, 3) := by decide +kernel
theorem dX6_set_35 : decode cX6_set 35 = .ok (.ireturn, 1) := by decide +kernel
set_option maxRecDepth 20000 in
theorem ggX6_come_Jx4a65c_size_8abf5 : GoodIn wsX6_come wsJx4a65c_size_8abf5 := goodIn_r _ [9, 10, 82, 83, 84] (by decide +kernel) (by decide +kernel)
set_option maxRecDepth 20000 in
theorem gX6_come_Jx4a65c_size_8abf5_f34Jx4a65c : GoodIn wsX6_come (va_wsF RX6 34 RJx4a65c ⟨"java/util/List", "size", "()I"⟩ yJx4a65c_size_8abf5 wsJx4a65c_size_8abf5) := goodIn_app (goodIn_of _ (by decide +kernel)) ggX6_come_Jx4a65c_size_8abf5
set_option maxRecDepth 20000 in
theorem ggX6_come_Jx4a65c_get_915e3 : GoodIn wsX6_come wsJx4a65c_get_915e3 := goodIn_r _ [14, 10, 15, 16, 17, 18, 19, 20, 21, 22, 23, 24, 25, 8, 26, 27, 82, 83, 84] (by decide +kernel) (by decide +kernel)
set_option maxRecDepth 20000 in
theorem gX6_come_Jx4a65c_get_915e3_f122Jx4a65c : GoodIn wsX6_come (va_wsF RX6 122 RJx4a65c ⟨"java/util/List", "get", "(I)Ljava/lang/Object;"⟩ yJx4a65c_get_915e3 wsJx4a65c_get_915e3) := goodIn_app (goodIn_of _ (by decide +kernel)) ggX6_come_Jx4a65c_get_915e3
set_option maxRecDepth 20000 in
theorem ggX6_come_X4_isSatisfied : GoodIn wsX6_come wsX4_isSatisfied := goodIn_r _ [32, 33, 34, 35, 36, 6, 7, 8, 9, 10, 37, 12, 13, 14, 15, 16, 17, 18, 19, 20, 21, 22, 23, 24, 25, 26, 27, 38, 39, 40, 41, 42, 43, 44, 45, 46, 47, 48, 49, 50, 51, 52, 53, 54, 55, 56, 57, 58, 59, 60, 61, 85, 86, 87, 88, 89, 90, 82, 83, 84, 91, 92, 93, 94, 95, 96, 97, 98] (by decide +kernel) (by decide +kernel)
set_option maxRecDepth 20000 in
theorem gX6_come_X4_isSatisfied : GoodIn wsX6_come (wsV RX6 126 RX4 yX4_isSatisfied wsX4_isSatisfied) := goodIn_app (goodIn_of _ (by decide +kernel)) ggX6_come_X4_isSatisfied
set_option maxRecDepth 20000 in
theorem ggX6_come_X4_takeDocument : GoodIn wsX6_come wsX4_takeDocument := goodIn_r _ [65, 66, 67, 68, 69, 31, 70, 71, 72, 73, 74, 75, 76, 77, 85, 86, 87, 88, 89, 90] (by decide +kernel) (by decide +kernel)
set_option maxRecDepth 20000 in
theorem gX6_come_X4_takeDocument : GoodIn wsX6_come (wsV RX6 130 RX4 yX4_takeDocument wsX4_takeDocument) := goodIn_app (goodIn_of _ (by decide +kernel)) ggX6_come_X4_takeDocument
theorem dX6_come_0 : decode cX6_come 0 = .ok (.iconst 0, 1) := by decide +kernel
theorem dX6_come_1 : decode cX6_come 1 = .ok (.istore_n 1, 1) := by decide +kernel
theorem dX6_come_2 : decode cX6_come 2 = .ok (.iconst 0, 1) := by decide +kernel
theorem dX6_come_3 : decode cX6_come 3 = .ok (.istore_n 2, 1) := by decide +kernel
theorem dX6_come_4 : decode cX6_come 4 = .ok (.iload_n 2, 1) := by decide +kernel
theorem dX6_come_5 : decode cX6_come 5 = .ok (.aload_n 0, 1) := by decide +kernel
theorem dX6_come_6 : decode cX6_come 6 = .ok (.getfield 10, 3) := by decide +kernel
theorem dX6_come_9 : decode cX6_come 9 = .ok (.invokeinterface 34 1, 5) := by decide +kernel
theorem dX6_come_14 : decode cX6_come 14 = .ok (.if_icmp .ge 51, 3) := by decide +kernel
theorem dX6_come_17 : decode cX6_come 17 = .ok (.aload_n 0, 1) := by decide +kernel
theorem dX6_come_18 : decode cX6_come 18 = .ok (.getfield 10, 3) := by decide +kernel
theorem dX6_come_21 : decode cX6_come 21 = .ok (.iload_n 2, 1) := by decide +kernel
theorem dX6_come_22 : decode cX6_come 22 = .ok (.invokeinterface 122 2, 5) := by decide +kernel
theorem dX6_come_27 : decode cX6_come 27 = .ok (.checkcast 47, 3) := by decide +kernel
theorem dX6_come_30 : decode cX6_come 30 = .ok (.astore_n 3, 1) := by decide +kernel
theorem dX6_come_31 : decode cX6_come 31 = .ok (.aload_n 3, 1) := by decide +kernel
theorem dX6_come_32 : decode cX6_come 32 = .ok (.aload_n 0, 1) := by decide +kernel
theorem dX6_come_33 : decode cX6_come 33 = .ok (.getfield 19, 3) := by decide +kernel
theorem dX6_come_36 : decode cX6_come 36 = .ok (.invokevirtual 126, 3) := by decide +kernel
theorem dX6_come_39 : decode cX6_come 39 = .ok (.ifCond .eq 20, 3) := by decide +kernel
theorem dX6_come_42 : decode cX6_come 42 = .ok (.aload_n 3, 1) := by decide +kernel
theorem dX6_come_43 : decode cX6_come 43 = .ok (.aload_n 0, 1) := by decide +kernel
theorem dX6_come_44 : decode cX6_come 44 = .ok (.getfield 30, 3) := by decide +kernel
theorem dX6_come_47 : decode cX6_come 47 = .ok (.invokevirtual 130, 3) := by decide +kernel
theorem dX6_come_50 : decode cX6_come 50 = .ok (.ifCond .eq 9, 3) := by decide +kernel
theorem dX6_come_53 : decode cX6_come 53 = .ok (.iload_n 1, 1) := by decide +kernel
theorem dX6_come_54 : decode cX6_come 54 = .ok (.iconst 1, 1) := by decide +kernel
theorem dX6_come_55 : decode cX6_come 55 = .ok (.iload_n 2, 1) := by decide +kernel
theorem dX6_come_56 : decode cX6_come 56 = .ok (.ishl, 1) := by decide +kernel
theorem dX6_come_57 : decode cX6_come 57 = .ok (.ior, 1) := by decide +kernel
theorem dX6_come_58 : decode cX6_come 58 = .ok (.istore_n 1, 1) := by decide +kernel
theorem dX6_come_59 : decode cX6_come 59 = .ok (.iinc 2 1, 3) := by decide +kernel
theorem dX6_come_62 : decode cX6_come 62 = .ok (.goto (-58), 3) := by decide +kernel
theorem dX6_come_65 : decode cX6_come 65 = .ok (.iload_n 1, 1) := by decide +kernel
theorem dX6_come_66 : decode cX6_come 66 = .ok (.ireturn, 1) := by decide +kernel
set_option maxRecDepth 20000 in
theorem ggX6_advance_Jx4a65c_size_8abf5 : GoodIn wsX6_advance wsJx4a65c_size_8abf5 := goodIn_r _ [13, 14, 54, 55, 56] (by decide +kernel) (by decide +kernel)
set_option maxRecDepth 20000 in
theorem gX6_advance_Jx4a65c_size_8abf5_f34Jx4a65c : GoodIn wsX6_advance (va_wsF RX6 34 RJx4a65c ⟨"java/util/List", "size", "()I"⟩ yJx4a65c_size_8abf5 wsJx4a65c_size_8abf5) := goodIn_app (goodIn_of _ (by decide +kernel)) ggX6_advance_Jx4a65c_size_8abf5
set_option maxRecDepth 20000 in
theorem ggX6_advance_Jx4a65c_get_915e3 : GoodIn wsX6_advance wsJx4a65c_get_915e3 := goodIn_r _ [18, 14, 19, 20, 21, 22, 23, 24, 25, 26, 27, 28, 29, 12, 30, 31, 54, 55, 56] (by decide +kernel) (by decide +kernel)
set_option maxRecDepth 20000 in
theorem gX6_advance_Jx4a65c_get_915e3_f122Jx4a65c : GoodIn wsX6_advance (va_wsF RX6 122 RJx4a65c ⟨"java/util/List", "get", "(I)Ljava/lang/Object;"⟩ yJx4a65c_get_915e3 wsJx4a65c_get_915e3) := goodIn_app (goodIn_of _ (by decide +kernel)) ggX6_advance_Jx4a65c_get_915e3
set_option maxRecDepth 20000 in
theorem ggX6_advance_X4_sendBatch : GoodIn wsX6_advance wsX4_sendBatch := goodIn_r _ [36, 37, 38, 39, 40, 41, 42, 35, 43, 44, 45, 46, 47, 48, 49, 57, 58, 59, 60, 61, 62] (by decide +kernel) (by decide +kernel)
set_option maxRecDepth 20000 in
theorem gX6_advance_X4_sendBatch : GoodIn wsX6_advance (wsV RX6 138 RX4 yX4_sendBatch wsX4_sendBatch) := goodIn_app (goodIn_of _ (by decide +kernel)) ggX6_advance_X4_sendBatch
theorem dX6_advance_0 : decode cX6_advance 0 = .ok (.iload_n 1, 1) := by decide +kernel
theorem dX6_advance_1 : decode cX6_advance 1 = .ok (.iconst 1, 1) := by decide +kernel
theorem dX6_advance_2 : decode cX6_advance 2 = .ok (.if_icmp .lt 10, 3) := by decide +kernel
theorem dX6_advance_5 : decode cX6_advance 5 = .ok (.iload_n 1, 1) := by decide +kernel
theorem dX6_advance_6 : decode cX6_advance 6 = .ok (.sipush 1000, 3) := by decide +kernel
theorem dX6_advance_9 : decode cX6_advance 9 = .ok (.if_icmp .le 13, 3) := by decide +kernel
theorem dX6_advance_12 : decode cX6_advance 12 = .ok (.new 104, 3) := by decide +kernel
theorem dX6_advance_15 : decode cX6_advance 15 = .ok (.dup, 1) := by decide +kernel
theorem dX6_advance_16 : decode cX6_advance 16 = .ok (.ldc 133, 2) := by decide +kernel
theorem dX6_advance_18 : decode cX6_advance 18 = .ok (.invokespecial 108, 3) := by decide +kernel
theorem dX6_advance_21 : decode cX6_advance 21 = .ok (.athrow, 1) := by decide +kernel
theorem dX6_advance_22 : decode cX6_advance 22 = .ok (.iload_n 1, 1) := by decide +kernel
theorem dX6_advance_23 : decode cX6_advance 23 = .ok (.ldc 135, 2) := by decide +kernel
theorem dX6_advance_25 : decode cX6_advance 25 = .ok (.aload_n 0, 1) := by decide +kernel
theorem dX6_advance_26 : decode cX6_advance 26 = .ok (.getfield 30, 3) := by decide +kernel
theorem dX6_advance_29 : decode cX6_advance 29 = .ok (.isub, 1) := by decide +kernel
theorem dX6_advance_30 : decode cX6_advance 30 = .ok (.if_icmp .le 13, 3) := by decide +kernel
theorem dX6_advance_33 : decode cX6_advance 33 = .ok (.new 40, 3) := by decide +kernel
theorem dX6_advance_36 : decode cX6_advance 36 = .ok (.dup, 1) := by decide +kernel
theorem dX6_advance_37 : decode cX6_advance 37 = .ok (.ldc 136, 2) := by decide +kernel
theorem dX6_advance_39 : decode cX6_advance 39 = .ok (.invokespecial 44, 3) := by decide +kernel
theorem dX6_advance_42 : decode cX6_advance 42 = .ok (.athrow, 1) := by decide +kernel
theorem dX6_advance_43 : decode cX6_advance 43 = .ok (.aload_n 0, 1) := by decide +kernel
theorem dX6_advance_44 : decode cX6_advance 44 = .ok (.dup, 1) := by decide +kernel
theorem dX6_advance_45 : decode cX6_advance 45 = .ok (.getfield 30, 3) := by decide +kernel
theorem dX6_advance_48 : decode cX6_advance 48 = .ok (.iload_n 1, 1) := by decide +kernel
theorem dX6_advance_49 : decode cX6_advance 49 = .ok (.iadd, 1) := by decide +kernel
theorem dX6_advance_50 : decode cX6_advance 50 = .ok (.putfield 30, 3) := by decide +kernel
theorem dX6_advance_53 : decode cX6_advance 53 = .ok (.iconst 0, 1) := by decide +kernel
theorem dX6_advance_54 : decode cX6_advance 54 = .ok (.istore_n 2, 1) := by decide +kernel
theorem dX6_advance_55 : decode cX6_advance 55 = .ok (.iconst 0, 1) := by decide +kernel
theorem dX6_advance_56 : decode cX6_advance 56 = .ok (.istore_n 3, 1) := by decide +kernel
theorem dX6_advance_57 : decode cX6_advance 57 = .ok (.iload_n 3, 1) := by decide +kernel
theorem dX6_advance_58 : decode cX6_advance 58 = .ok (.aload_n 0, 1) := by decide +kernel
theorem dX6_advance_59 : decode cX6_advance 59 = .ok (.getfield 10, 3) := by decide +kernel
theorem dX6_advance_62 : decode cX6_advance 62 = .ok (.invokeinterface 34 1, 5) := by decide +kernel
theorem dX6_advance_67 : decode cX6_advance 67 = .ok (.if_icmp .ge 35, 3) := by decide +kernel
theorem dX6_advance_70 : decode cX6_advance 70 = .ok (.aload_n 0, 1) := by decide +kernel
theorem dX6_advance_71 : decode cX6_advance 71 = .ok (.getfield 10, 3) := by decide +kernel
theorem dX6_advance_74 : decode cX6_advance 74 = .ok (.iload_n 3, 1) := by decide +kernel
theorem dX6_advance_75 : decode cX6_advance 75 = .ok (.invokeinterface 122 2, 5) := by decide +kernel
theorem dX6_advance_80 : decode cX6_advance 80 = .ok (.checkcast 47, 3) := by decide +kernel
theorem dX6_advance_83 : decode cX6_advance 83 = .ok (.aload_n 0, 1) := by decide +kernel
theorem dX6_advance_84 : decode cX6_advance 84 = .ok (.getfield 30, 3) := by decide +kernel
theorem dX6_advance_87 : decode cX6_advance 87 = .ok (.invokevirtual 138, 3) := by decide +kernel
theorem dX6_advance_90 : decode cX6_advance 90 = .ok (.ifCond .eq 6, 3) := by decide +kernel
theorem dX6_advance_93 : decode cX6_advance 93 = .ok (.iinc 2 1, 3) := by decide +kernel
theorem dX6_advance_96 : decode cX6_advance 96 = .ok (.iinc 3 1, 3) := by decide +kernel
theorem dX6_advance_99 : decode cX6_advance 99 = .ok (.goto (-42), 3) := by decide +kernel
theorem dX6_advance_102 : decode cX6_advance 102 = .ok (.iload_n 2, 1) := by decide +kernel
theorem dX6_advance_103 : decode cX6_advance 103 = .ok (.ireturn, 1) := by decide +kernel
set_option maxRecDepth 20000 in
theorem ggX6_satisfies_X6_questionOf : GoodIn wsX6_satisfies wsX6_questionOf := goodIn_ca (goodIn_r _ [6, 7, 8, 9, 10, 11, 12, 13, 14, 15, 16, 17, 18, 19, 20, 21, 22, 23, 24, 25, 26, 27, 28, 29, 30, 31, 32, 33, 34, 69, 70, 71, 72, 73, 74, 75, 76, 77, 78, 79, 80, 81] (by decide +kernel) (by decide +kernel)) (goodIn_sub (fun _ h => List.mem_cons_of_mem _ (List.mem_append_right _ h)) (by decide +kernel))
set_option maxRecDepth 20000 in
theorem gX6_satisfies_X6_questionOf : GoodIn wsX6_satisfies (wsV RX6 54 RX6 yX6_questionOf wsX6_questionOf) := goodIn_app (goodIn_of _ (by decide +kernel)) ggX6_satisfies_X6_questionOf
set_option maxRecDepth 20000 in
theorem ggX6_satisfies_X4_isSatisfied : GoodIn wsX6_satisfies wsX4_isSatisfied := goodIn_r _ [39, 40, 41, 42, 43, 13, 14, 15, 16, 17, 44, 19, 20, 21, 22, 23, 24, 25, 26, 27, 28, 29, 30, 31, 32, 33, 34, 45, 46, 47, 48, 49, 50, 51, 52, 53, 54, 55, 56, 57, 58, 59, 60, 61, 62, 63, 64, 65, 66, 67, 68, 73, 74, 75, 76, 77, 78, 79, 80, 81, 82, 83, 84, 85, 86, 87, 88, 89] (by decide +kernel) (by decide +kernel)
set_option maxRecDepth 20000 in
theorem gX6_satisfies_X4_isSatisfied : GoodIn wsX6_satisfies (wsV RX6 126 RX4 yX4_isSatisfied wsX4_isSatisfied) := goodIn_app (goodIn_of _ (by decide +kernel)) ggX6_satisfies_X4_isSatisfied
theorem dX6_satisfies_0 : decode cX6_satisfies 0 = .ok (.aload_n 0, 1) := by decide +kernel
theorem dX6_satisfies_1 : decode cX6_satisfies 1 = .ok (.iload_n 1, 1) := by decide +kernel
theorem dX6_satisfies_2 : decode cX6_satisfies 2 = .ok (.invokevirtual 54, 3) := by decide +kernel
theorem dX6_satisfies_5 : decode cX6_satisfies 5 = .ok (.aload_n 0, 1) := by decide +kernel
theorem dX6_satisfies_6 : decode cX6_satisfies 6 = .ok (.getfield 19, 3) := by decide +kernel
theorem dX6_satisfies_9 : decode cX6_satisfies 9 = .ok (.invokevirtual 126, 3) := by decide +kernel
theorem dX6_satisfies_12 : decode cX6_satisfies 12 = .ok (.ireturn, 1) := by decide +kernel
set_option maxRecDepth 20000 in
theorem ggX6_matching_Jx4a65c_size_8abf5 : GoodIn wsX6_matching wsJx4a65c_size_8abf5 := goodIn_r _ [8, 9, 65, 66, 67] (by decide +kernel) (by decide +kernel)
set_option maxRecDepth 20000 in
theorem gX6_matching_Jx4a65c_size_8abf5_f34Jx4a65c : GoodIn wsX6_matching (va_wsF RX6 34 RJx4a65c ⟨"java/util/List", "size", "()I"⟩ yJx4a65c_size_8abf5 wsJx4a65c_size_8abf5) := goodIn_app (goodIn_of _ (by decide +kernel)) ggX6_matching_Jx4a65c_size_8abf5
set_option maxRecDepth 20000 in
theorem ggX6_matching_Jx4a65c_get_915e3 : GoodIn wsX6_matching wsJx4a65c_get_915e3 := goodIn_r _ [13, 9, 14, 15, 16, 17, 18, 19, 20, 21, 22, 23, 24, 7, 25, 26, 65, 66, 67] (by decide +kernel) (by decide +kernel)
set_option maxRecDepth 20000 in
theorem gX6_matching_Jx4a65c_get_915e3_f122Jx4a65c : GoodIn wsX6_matching (va_wsF RX6 122 RJx4a65c ⟨"java/util/List", "get", "(I)Ljava/lang/Object;"⟩ yJx4a65c_get_915e3 wsJx4a65c_get_915e3) := goodIn_app (goodIn_of _ (by decide +kernel)) ggX6_matching_Jx4a65c_get_915e3
set_option maxRecDepth 20000 in
theorem ggX6_matching_X4_isSatisfied : GoodIn wsX6_matching wsX4_isSatisfied := goodIn_r _ [31, 32, 33, 34, 35, 5, 6, 7, 8, 9, 36, 11, 12, 13, 14, 15, 16, 17, 18, 19, 20, 21, 22, 23, 24, 25, 26, 37, 38, 39, 40, 41, 42, 43, 44, 45, 46, 47, 48, 49, 50, 51, 52, 53, 54, 55, 56, 57, 58, 59, 60, 68, 69, 70, 71, 72, 73, 65, 66, 67, 74, 75, 76, 77, 78, 79, 80, 81] (by decide +kernel) (by decide +kernel)
set_option maxRecDepth 20000 in
theorem gX6_matching_X4_isSatisfied : GoodIn wsX6_matching (wsV RX6 126 RX4 yX4_isSatisfied wsX4_isSatisfied) := goodIn_app (goodIn_of _ (by decide +kernel)) ggX6_matching_X4_isSatisfied
theorem dX6_matching_0 : decode cX6_matching 0 = .ok (.iconst 0, 1) := by decide +kernel
theorem dX6_matching_1 : decode cX6_matching 1 = .ok (.istore_n 1, 1) := by decide +kernel
theorem dX6_matching_2 : decode cX6_matching 2 = .ok (.iconst 0, 1) := by decide +kernel
theorem dX6_matching_3 : decode cX6_matching 3 = .ok (.istore_n 2, 1) := by decide +kernel
theorem dX6_matching_4 : decode cX6_matching 4 = .ok (.iload_n 2, 1) := by decide +kernel
theorem dX6_matching_5 : decode cX6_matching 5 = .ok (.aload_n 0, 1) := by decide +kernel
theorem dX6_matching_6 : decode cX6_matching 6 = .ok (.getfield 10, 3) := by decide +kernel
theorem dX6_matching_9 : decode cX6_matching 9 = .ok (.invokeinterface 34 1, 5) := by decide +kernel
theorem dX6_matching_14 : decode cX6_matching 14 = .ok (.if_icmp .ge 38, 3) := by decide +kernel
theorem dX6_matching_17 : decode cX6_matching 17 = .ok (.aload_n 0, 1) := by decide +kernel
theorem dX6_matching_18 : decode cX6_matching 18 = .ok (.getfield 10, 3) := by decide +kernel
theorem dX6_matching_21 : decode cX6_matching 21 = .ok (.iload_n 2, 1) := by decide +kernel
theorem dX6_matching_22 : decode cX6_matching 22 = .ok (.invokeinterface 122 2, 5) := by decide +kernel
theorem dX6_matching_27 : decode cX6_matching 27 = .ok (.checkcast 47, 3) := by decide +kernel
theorem dX6_matching_30 : decode cX6_matching 30 = .ok (.aload_n 0, 1) := by decide +kernel
theorem dX6_matching_31 : decode cX6_matching 31 = .ok (.getfield 19, 3) := by decide +kernel
theorem dX6_matching_34 : decode cX6_matching 34 = .ok (.invokevirtual 126, 3) := by decide +kernel
theorem dX6_matching_37 : decode cX6_matching 37 = .ok (.ifCond .eq 9, 3) := by decide +kernel
theorem dX6_matching_40 : decode cX6_matching 40 = .ok (.iload_n 1, 1) := by decide +kernel
theorem dX6_matching_41 : decode cX6_matching 41 = .ok (.iconst 1, 1) := by decide +kernel
theorem dX6_matching_42 : decode cX6_matching 42 = .ok (.iload_n 2, 1) := by decide +kernel
theorem dX6_matching_43 : decode cX6_matching 43 = .ok (.ishl, 1) := by decide +kernel
theorem dX6_matching_44 : decode cX6_matching 44 = .ok (.ior, 1) := by decide +kernel
theorem dX6_matching_45 : decode cX6_matching 45 = .ok (.istore_n 1, 1) := by decide +kernel
theorem dX6_matching_46 : decode cX6_matching 46 = .ok (.iinc 2 1, 3) := by decide +kernel
theorem dX6_matching_49 : decode cX6_matching 49 = .ok (.goto (-45), 3) := by decide +kernel
theorem dX6_matching_52 : decode cX6_matching 52 = .ok (.iload_n 1, 1) := by decide +kernel
theorem dX6_matching_53 : decode cX6_matching 53 = .ok (.ireturn, 1) := by decide +kernel
set_option maxRecDepth 20000 in
theorem ggX6_matchingByIndex_Jx4a65c_size_8abf5 : GoodIn wsX6_matchingByIndex wsJx4a65c_size_8abf5 := goodIn_r _ [9, 10, 95, 96, 97] (by decide +kernel) (by decide +kernel)
set_option maxRecDepth 20000 in
theorem gX6_matchingByIndex_Jx4a65c_size_8abf5_f34Jx4a65c : GoodIn wsX6_matchingByIndex (va_wsF RX6 34 RJx4a65c ⟨"java/util/List", "size", "()I"⟩ yJx4a65c_size_8abf5 wsJx4a65c_size_8abf5) := goodIn_app (goodIn_of _ (by decide +kernel)) ggX6_matchingByIndex_Jx4a65c_size_8abf5
set_option maxRecDepth 20000 in
theorem ggX6_matchingByIndex_Jx4a65c_get_915e3 : GoodIn wsX6_matchingByIndex wsJx4a65c_get_915e3 := goodIn_r _ [14, 10, 15, 16, 17, 18, 19, 20, 21, 22, 23, 24, 25, 8, 26, 27, 95, 96, 97] (by decide +kernel) (by decide +kernel)
set_option maxRecDepth 20000 in
theorem gX6_matchingByIndex_Jx4a65c_get_915e3_f122Jx4a65c : GoodIn wsX6_matchingByIndex (va_wsF RX6 122 RJx4a65c ⟨"java/util/List", "get", "(I)Ljava/lang/Object;"⟩ yJx4a65c_get_915e3 wsJx4a65c_get_915e3) := goodIn_app (goodIn_of _ (by decide +kernel)) ggX6_matchingByIndex_Jx4a65c_get_915e3
set_option maxRecDepth 20000 in
theorem ggX6_matchingByIndex_X4_forgetHits : GoodIn wsX6_matchingByIndex wsX4_forgetHits := goodIn_r _ [32, 33, 34, 35, 36, 6, 7, 8, 9, 10, 37, 12, 13, 14, 15, 16, 17, 18, 19, 20, 21, 22, 23, 24, 25, 26, 27, 98, 99, 100, 101, 102, 103, 104, 105, 106, 95, 96, 97] (by decide +kernel) (by decide +kernel)
set_option maxRecDepth 20000 in
theorem gX6_matchingByIndex_X4_forgetHits : GoodIn wsX6_matchingByIndex (wsV RX6 141 RX4 yX4_forgetHits wsX4_forgetHits) := goodIn_app (goodIn_of _ (by decide +kernel)) ggX6_matchingByIndex_X4_forgetHits
set_option maxRecDepth 20000 in
theorem ggX6_matchingByIndex_X1_countHits : GoodIn wsX6_matchingByIndex wsX1_countHits := goodIn_r _ [42, 43, 44, 45, 46, 47, 48, 49, 50, 51, 52, 53, 54, 41, 55, 56, 57, 58, 59, 60, 61, 62, 63, 107, 108, 109, 104, 105, 106, 110] (by decide +kernel) (by decide +kernel)
set_option maxRecDepth 20000 in
theorem gX6_matchingByIndex_X1_countHits : GoodIn wsX6_matchingByIndex (wsV RX6 144 RX1 yX1_countHits wsX1_countHits) := goodIn_app (goodIn_of _ (by decide +kernel)) ggX6_matchingByIndex_X1_countHits
set_option maxRecDepth 20000 in
theorem ggX6_matchingByIndex_X4_isSatisfiedByHits : GoodIn wsX6_matchingByIndex wsX4_isSatisfiedByHits := goodIn_r _ [67, 68, 33, 34, 36, 6, 7, 8, 9, 10, 37, 12, 13, 14, 15, 16, 17, 18, 19, 20, 21, 22, 23, 24, 25, 26, 27, 69, 70, 71, 72, 73, 74, 75, 76, 77, 78, 79, 80, 81, 82, 83, 84, 85, 86, 87, 88, 89, 90, 44, 45, 46, 47, 48, 98, 99, 100, 101, 102, 103, 95, 96, 97, 104, 105, 106, 111, 112, 113, 114, 107] (by decide +kernel) (by decide +kernel)
set_option maxRecDepth 20000 in
theorem gX6_matchingByIndex_X4_isSatisfiedByHits : GoodIn wsX6_matchingByIndex (wsV RX6 148 RX4 yX4_isSatisfiedByHits wsX4_isSatisfiedByHits) := goodIn_app (goodIn_of _ (by decide +kernel)) ggX6_matchingByIndex_X4_isSatisfiedByHits
theorem dX6_matchingByIndex_0 : decode cX6_matchingByIndex 0 = .ok (.iconst 0, 1) := by decide +kernel
theorem dX6_matchingByIndex_1 : decode cX6_matchingByIndex 1 = .ok (.istore_n 1, 1) := by decide +kernel
theorem dX6_matchingByIndex_2 : decode cX6_matchingByIndex 2 = .ok (.iload_n 1, 1) := by decide +kernel
theorem dX6_matchingByIndex_3 : decode cX6_matchingByIndex 3 = .ok (.aload_n 0, 1) := by decide +kernel
theorem dX6_matchingByIndex_4 : decode cX6_matchingByIndex 4 = .ok (.getfield 10, 3) := by decide +kernel
theorem dX6_matchingByIndex_7 : decode cX6_matchingByIndex 7 = .ok (.invokeinterface 34 1, 5) := by decide +kernel
theorem dX6_matchingByIndex_12 : decode cX6_matchingByIndex 12 = .ok (.if_icmp .ge 25, 3) := by decide +kernel
theorem dX6_matchingByIndex_15 : decode cX6_matchingByIndex 15 = .ok (.aload_n 0, 1) := by decide +kernel
theorem dX6_matchingByIndex_16 : decode cX6_matchingByIndex 16 = .ok (.getfield 10, 3) := by decide +kernel
theorem dX6_matchingByIndex_19 : decode cX6_matchingByIndex 19 = .ok (.iload_n 1, 1) := by decide +kernel
theorem dX6_matchingByIndex_20 : decode cX6_matchingByIndex 20 = .ok (.invokeinterface 122 2, 5) := by decide +kernel
theorem dX6_matchingByIndex_25 : decode cX6_matchingByIndex 25 = .ok (.checkcast 47, 3) := by decide +kernel
theorem dX6_matchingByIndex_28 : decode cX6_matchingByIndex 28 = .ok (.invokevirtual 141, 3) := by decide +kernel
theorem dX6_matchingByIndex_31 : decode cX6_matchingByIndex 31 = .ok (.iinc 1 1, 3) := by decide +kernel
theorem dX6_matchingByIndex_34 : decode cX6_matchingByIndex 34 = .ok (.goto (-32), 3) := by decide +kernel
theorem dX6_matchingByIndex_37 : decode cX6_matchingByIndex 37 = .ok (.aload_n 0, 1) := by decide +kernel
theorem dX6_matchingByIndex_38 : decode cX6_matchingByIndex 38 = .ok (.getfield 26, 3) := by decide +kernel
theorem dX6_matchingByIndex_41 : decode cX6_matchingByIndex 41 = .ok (.aload_n 0, 1) := by decide +kernel
theorem dX6_matchingByIndex_42 : decode cX6_matchingByIndex 42 = .ok (.getfield 19, 3) := by decide +kernel
theorem dX6_matchingByIndex_45 : decode cX6_matchingByIndex 45 = .ok (.invokevirtual 144, 3) := by decide +kernel
theorem dX6_matchingByIndex_48 : decode cX6_matchingByIndex 48 = .ok (.iconst 0, 1) := by decide +kernel
theorem dX6_matchingByIndex_49 : decode cX6_matchingByIndex 49 = .ok (.istore_n 1, 1) := by decide +kernel
theorem dX6_matchingByIndex_50 : decode cX6_matchingByIndex 50 = .ok (.iconst 0, 1) := by decide +kernel
theorem dX6_matchingByIndex_51 : decode cX6_matchingByIndex 51 = .ok (.istore_n 2, 1) := by decide +kernel
theorem dX6_matchingByIndex_52 : decode cX6_matchingByIndex 52 = .ok (.iload_n 2, 1) := by decide +kernel
theorem dX6_matchingByIndex_53 : decode cX6_matchingByIndex 53 = .ok (.aload_n 0, 1) := by decide +kernel
theorem dX6_matchingByIndex_54 : decode cX6_matchingByIndex 54 = .ok (.getfield 10, 3) := by decide +kernel
theorem dX6_matchingByIndex_57 : decode cX6_matchingByIndex 57 = .ok (.invokeinterface 34 1, 5) := by decide +kernel
theorem dX6_matchingByIndex_62 : decode cX6_matchingByIndex 62 = .ok (.if_icmp .ge 38, 3) := by decide +kernel
theorem dX6_matchingByIndex_65 : decode cX6_matchingByIndex 65 = .ok (.aload_n 0, 1) := by decide +kernel
theorem dX6_matchingByIndex_66 : decode cX6_matchingByIndex 66 = .ok (.getfield 10, 3) := by decide +kernel
theorem dX6_matchingByIndex_69 : decode cX6_matchingByIndex 69 = .ok (.iload_n 2, 1) := by decide +kernel
theorem dX6_matchingByIndex_70 : decode cX6_matchingByIndex 70 = .ok (.invokeinterface 122 2, 5) := by decide +kernel
theorem dX6_matchingByIndex_75 : decode cX6_matchingByIndex 75 = .ok (.checkcast 47, 3) := by decide +kernel
theorem dX6_matchingByIndex_78 : decode cX6_matchingByIndex 78 = .ok (.aload_n 0, 1) := by decide +kernel
theorem dX6_matchingByIndex_79 : decode cX6_matchingByIndex 79 = .ok (.getfield 19, 3) := by decide +kernel
theorem dX6_matchingByIndex_82 : decode cX6_matchingByIndex 82 = .ok (.invokevirtual 148, 3) := by decide +kernel
theorem dX6_matchingByIndex_85 : decode cX6_matchingByIndex 85 = .ok (.ifCond .eq 9, 3) := by decide +kernel
theorem dX6_matchingByIndex_88 : decode cX6_matchingByIndex 88 = .ok (.iload_n 1, 1) := by decide +kernel
theorem dX6_matchingByIndex_89 : decode cX6_matchingByIndex 89 = .ok (.iconst 1, 1) := by decide +kernel
theorem dX6_matchingByIndex_90 : decode cX6_matchingByIndex 90 = .ok (.iload_n 2, 1) := by decide +kernel
theorem dX6_matchingByIndex_91 : decode cX6_matchingByIndex 91 = .ok (.ishl, 1) := by decide +kernel
theorem dX6_matchingByIndex_92 : decode cX6_matchingByIndex 92 = .ok (.ior, 1) := by decide +kernel
theorem dX6_matchingByIndex_93 : decode cX6_matchingByIndex 93 = .ok (.istore_n 1, 1) := by decide +kernel
theorem dX6_matchingByIndex_94 : decode cX6_matchingByIndex 94 = .ok (.iinc 2 1, 3) := by decide +kernel
theorem dX6_matchingByIndex_97 : decode cX6_matchingByIndex 97 = .ok (.goto (-45), 3) := by decide +kernel
theorem dX6_matchingByIndex_100 : decode cX6_matchingByIndex 100 = .ok (.iload_n 1, 1) := by decide +kernel
theorem dX6_matchingByIndex_101 : decode cX6_matchingByIndex 101 = .ok (.ireturn, 1) := by decide +kernel
set_option maxRecDepth 20000 in
theorem ggX6_sizeOf_X6_questionOf : GoodIn wsX6_sizeOf wsX6_questionOf := goodIn_ca (goodIn_r _ [5, 6, 7, 8, 9, 10, 11, 12, 13, 14, 15, 16, 17, 18, 19, 20, 21, 22, 23, 24, 25, 26, 27, 28, 29, 30, 31, 32, 33, 52, 53, 54, 55, 56, 57, 58, 59, 60, 61, 62, 63, 64] (by decide +kernel) (by decide +kernel)) (goodIn_sub (fun _ h => List.mem_cons_of_mem _ (List.mem_append_right _ h)) (by decide +kernel))
set_option maxRecDepth 20000 in
theorem gX6_sizeOf_X6_questionOf : GoodIn wsX6_sizeOf (wsV RX6 54 RX6 yX6_questionOf wsX6_questionOf) := goodIn_app (goodIn_of _ (by decide +kernel)) ggX6_sizeOf_X6_questionOf
set_option maxRecDepth 20000 in
theorem ggX6_sizeOf_X4_leastSize : GoodIn wsX6_sizeOf wsX4_leastSize := goodIn_r _ [38, 39, 40, 41, 42, 43, 44, 45, 46, 12, 13, 14, 15, 16, 47, 18, 19, 20, 21, 22, 23, 24, 25, 26, 27, 28, 29, 30, 31, 32, 33, 48, 49, 50, 51, 56, 57, 58, 59, 60, 61, 65, 66, 67, 62, 63, 64] (by decide +kernel) (by decide +kernel)
set_option maxRecDepth 20000 in
theorem gX6_sizeOf_X4_leastSize : GoodIn wsX6_sizeOf (wsV RX6 151 RX4 yX4_leastSize wsX4_leastSize) := goodIn_app (goodIn_of _ (by decide +kernel)) ggX6_sizeOf_X4_leastSize
theorem dX6_sizeOf_0 : decode cX6_sizeOf 0 = .ok (.aload_n 0, 1) := by decide +kernel
theorem dX6_sizeOf_1 : decode cX6_sizeOf 1 = .ok (.iload_n 1, 1) := by decide +kernel
theorem dX6_sizeOf_2 : decode cX6_sizeOf 2 = .ok (.invokevirtual 54, 3) := by decide +kernel
theorem dX6_sizeOf_5 : decode cX6_sizeOf 5 = .ok (.invokevirtual 151, 3) := by decide +kernel
theorem dX6_sizeOf_8 : decode cX6_sizeOf 8 = .ok (.ireturn, 1) := by decide +kernel
set_option maxRecDepth 20000 in
theorem ggX6_withSize_Jx4a65c_size_8abf5 : GoodIn wsX6_withSize wsJx4a65c_size_8abf5 := goodIn_r _ [8, 9, 55, 56, 57] (by decide +kernel) (by decide +kernel)
set_option maxRecDepth 20000 in
theorem gX6_withSize_Jx4a65c_size_8abf5_f34Jx4a65c : GoodIn wsX6_withSize (va_wsF RX6 34 RJx4a65c ⟨"java/util/List", "size", "()I"⟩ yJx4a65c_size_8abf5 wsJx4a65c_size_8abf5) := goodIn_app (goodIn_of _ (by decide +kernel)) ggX6_withSize_Jx4a65c_size_8abf5
set_option maxRecDepth 20000 in
theorem ggX6_withSize_Jx4a65c_get_915e3 : GoodIn wsX6_withSize wsJx4a65c_get_915e3 := goodIn_r _ [13, 9, 14, 15, 16, 17, 18, 19, 20, 21, 22, 23, 24, 7, 25, 26, 55, 56, 57] (by decide +kernel) (by decide +kernel)
set_option maxRecDepth 20000 in
theorem gX6_withSize_Jx4a65c_get_915e3_f122Jx4a65c : GoodIn wsX6_withSize (va_wsF RX6 122 RJx4a65c ⟨"java/util/List", "get", "(I)Ljava/lang/Object;"⟩ yJx4a65c_get_915e3 wsJx4a65c_get_915e3) := goodIn_app (goodIn_of _ (by decide +kernel)) ggX6_withSize_Jx4a65c_get_915e3
set_option maxRecDepth 20000 in
theorem ggX6_withSize_X4_leastSize : GoodIn wsX6_withSize wsX4_leastSize := goodIn_r _ [31, 32, 33, 34, 35, 36, 37, 38, 39, 5, 6, 7, 8, 9, 40, 11, 12, 13, 14, 15, 16, 17, 18, 19, 20, 21, 22, 23, 24, 25, 26, 41, 42, 43, 44, 49, 50, 51, 52, 53, 54, 58, 59, 60, 55, 56, 57] (by decide +kernel) (by decide +kernel)
set_option maxRecDepth 20000 in
theorem gX6_withSize_X4_leastSize : GoodIn wsX6_withSize (wsV RX6 151 RX4 yX4_leastSize wsX4_leastSize) := goodIn_app (goodIn_of _ (by decide +kernel)) ggX6_withSize_X4_leastSize
theorem dX6_withSize_0 : decode cX6_withSize 0 = .ok (.iconst 0, 1) := by decide +kernel
theorem dX6_withSize_1 : decode cX6_withSize 1 = .ok (.istore_n 2, 1) := by decide +kernel
theorem dX6_withSize_2 : decode cX6_withSize 2 = .ok (.iconst 0, 1) := by decide +kernel
theorem dX6_withSize_3 : decode cX6_withSize 3 = .ok (.istore_n 3, 1) := by decide +kernel
theorem dX6_withSize_4 : decode cX6_withSize 4 = .ok (.iload_n 3, 1) := by decide +kernel
theorem dX6_withSize_5 : decode cX6_withSize 5 = .ok (.aload_n 0, 1) := by decide +kernel
theorem dX6_withSize_6 : decode cX6_withSize 6 = .ok (.getfield 10, 3) := by decide +kernel
theorem dX6_withSize_9 : decode cX6_withSize 9 = .ok (.invokeinterface 34 1, 5) := by decide +kernel
theorem dX6_withSize_14 : decode cX6_withSize 14 = .ok (.if_icmp .ge 44, 3) := by decide +kernel
theorem dX6_withSize_17 : decode cX6_withSize 17 = .ok (.aload_n 0, 1) := by decide +kernel
theorem dX6_withSize_18 : decode cX6_withSize 18 = .ok (.getfield 10, 3) := by decide +kernel
theorem dX6_withSize_21 : decode cX6_withSize 21 = .ok (.iload_n 3, 1) := by decide +kernel
theorem dX6_withSize_22 : decode cX6_withSize 22 = .ok (.invokeinterface 122 2, 5) := by decide +kernel
theorem dX6_withSize_27 : decode cX6_withSize 27 = .ok (.checkcast 47, 3) := by decide +kernel
theorem dX6_withSize_30 : decode cX6_withSize 30 = .ok (.astore 4, 2) := by decide +kernel
theorem dX6_withSize_32 : decode cX6_withSize 32 = .ok (.aload 4, 2) := by decide +kernel
theorem dX6_withSize_34 : decode cX6_withSize 34 = .ok (.getfield 97, 3) := by decide +kernel
theorem dX6_withSize_37 : decode cX6_withSize 37 = .ok (.ifCond .ne 15, 3) := by decide +kernel
theorem dX6_withSize_40 : decode cX6_withSize 40 = .ok (.aload 4, 2) := by decide +kernel
theorem dX6_withSize_42 : decode cX6_withSize 42 = .ok (.invokevirtual 151, 3) := by decide +kernel
theorem dX6_withSize_45 : decode cX6_withSize 45 = .ok (.iload_n 1, 1) := by decide +kernel
theorem dX6_withSize_46 : decode cX6_withSize 46 = .ok (.if_icmp .ne 6, 3) := by decide +kernel
theorem dX6_withSize_49 : decode cX6_withSize 49 = .ok (.iinc 2 1, 3) := by decide +kernel
theorem dX6_withSize_52 : decode cX6_withSize 52 = .ok (.iinc 3 1, 3) := by decide +kernel
theorem dX6_withSize_55 : decode cX6_withSize 55 = .ok (.goto (-51), 3) := by decide +kernel
theorem dX6_withSize_58 : decode cX6_withSize 58 = .ok (.iload_n 2, 1) := by decide +kernel
theorem dX6_withSize_59 : decode cX6_withSize 59 = .ok (.ireturn, 1) := by decide +kernel
set_option maxRecDepth 20000 in
theorem ggX6_pieces_X6_refuseNoRange : GoodIn wsX6_pieces wsX6_refuseNoRange := goodIn_ca (goodIn_r _ [4, 5, 6, 7, 8, 3, 9] (by decide +kernel) (by decide +kernel)) (goodIn_sub (fun _ h => List.mem_cons_of_mem _ (List.mem_append_right _ h)) (by decide +kernel))
set_option maxRecDepth 20000 in
theorem gX6_pieces_X6_refuseNoRange : GoodIn wsX6_pieces (va_wsS RX6 70 yX6_refuseNoRange wsX6_refuseNoRange) := goodIn_app (goodIn_of _ (by decide +kernel)) ggX6_pieces_X6_refuseNoRange
set_option maxRecDepth 20000 in
theorem ggX6_pieces_X6_levelOfPiece : GoodIn wsX6_pieces wsX6_levelOfPiece := goodIn_r _ [12] (by decide +kernel) (by decide +kernel)
set_option maxRecDepth 20000 in
theorem gX6_pieces_X6_levelOfPiece : GoodIn wsX6_pieces (va_wsS RX6 154 yX6_levelOfPiece wsX6_levelOfPiece) := goodIn_app (goodIn_of _ (by decide +kernel)) ggX6_pieces_X6_levelOfPiece
theorem dX6_pieces_0 : decode cX6_pieces 0 = .ok (.iload_n 1, 1) := by decide +kernel
theorem dX6_pieces_1 : decode cX6_pieces 1 = .ok (.iload_n 2, 1) := by decide +kernel
theorem dX6_pieces_2 : decode cX6_pieces 2 = .ok (.invokestatic 70, 3) := by decide +kernel
theorem dX6_pieces_5 : decode cX6_pieces 5 = .ok (.iload_n 1, 1) := by decide +kernel
theorem dX6_pieces_6 : decode cX6_pieces 6 = .ok (.istore_n 3, 1) := by decide +kernel
theorem dX6_pieces_7 : decode cX6_pieces 7 = .ok (.iconst 0, 1) := by decide +kernel
theorem dX6_pieces_8 : decode cX6_pieces 8 = .ok (.istore 4, 2) := by decide +kernel
theorem dX6_pieces_10 : decode cX6_pieces 10 = .ok (.iload_n 3, 1) := by decide +kernel
theorem dX6_pieces_11 : decode cX6_pieces 11 = .ok (.iload_n 2, 1) := by decide +kernel
theorem dX6_pieces_12 : decode cX6_pieces 12 = .ok (.if_icmp .gt 26, 3) := by decide +kernel
theorem dX6_pieces_15 : decode cX6_pieces 15 = .ok (.iload 4, 2) := by decide +kernel
theorem dX6_pieces_17 : decode cX6_pieces 17 = .ok (.bipush 64, 2) := by decide +kernel
theorem dX6_pieces_19 : decode cX6_pieces 19 = .ok (.if_icmp .ge 19, 3) := by decide +kernel
theorem dX6_pieces_22 : decode cX6_pieces 22 = .ok (.iload_n 3, 1) := by decide +kernel
theorem dX6_pieces_23 : decode cX6_pieces 23 = .ok (.iconst 1, 1) := by decide +kernel
theorem dX6_pieces_24 : decode cX6_pieces 24 = .ok (.iload_n 3, 1) := by decide +kernel
theorem dX6_pieces_25 : decode cX6_pieces 25 = .ok (.iload_n 2, 1) := by decide +kernel
theorem dX6_pieces_26 : decode cX6_pieces 26 = .ok (.invokestatic 154, 3) := by decide +kernel
theorem dX6_pieces_29 : decode cX6_pieces 29 = .ok (.ishl, 1) := by decide +kernel
theorem dX6_pieces_30 : decode cX6_pieces 30 = .ok (.iadd, 1) := by decide +kernel
theorem dX6_pieces_31 : decode cX6_pieces 31 = .ok (.istore_n 3, 1) := by decide +kernel
theorem dX6_pieces_32 : decode cX6_pieces 32 = .ok (.iinc 4 1, 3) := by decide +kernel
theorem dX6_pieces_35 : decode cX6_pieces 35 = .ok (.goto (-25), 3) := by decide +kernel
theorem dX6_pieces_38 : decode cX6_pieces 38 = .ok (.iload 4, 2) := by decide +kernel
theorem dX6_pieces_40 : decode cX6_pieces 40 = .ok (.ireturn, 1) := by decide +kernel
set_option maxRecDepth 20000 in
theorem ggX6_pieceAt_X6_refuseNoRange : GoodIn wsX6_pieceAt wsX6_refuseNoRange := goodIn_ca (goodIn_r _ [6, 7, 8, 9, 10, 5, 11] (by decide +kernel) (by decide +kernel)) (goodIn_sub (fun _ h => List.mem_cons_of_mem _ (List.mem_append_right _ h)) (by decide +kernel))
set_option maxRecDepth 20000 in
theorem gX6_pieceAt_X6_refuseNoRange : GoodIn wsX6_pieceAt (va_wsS RX6 70 yX6_refuseNoRange wsX6_refuseNoRange) := goodIn_app (goodIn_of _ (by decide +kernel)) ggX6_pieceAt_X6_refuseNoRange
set_option maxRecDepth 20000 in
theorem ggX6_pieceAt_X6_levelOfPiece : GoodIn wsX6_pieceAt wsX6_levelOfPiece := goodIn_r _ [14] (by decide +kernel) (by decide +kernel)
set_option maxRecDepth 20000 in
theorem gX6_pieceAt_X6_levelOfPiece : GoodIn wsX6_pieceAt (va_wsS RX6 154 yX6_levelOfPiece wsX6_levelOfPiece) := goodIn_app (goodIn_of _ (by decide +kernel)) ggX6_pieceAt_X6_levelOfPiece
theorem dX6_pieceAt_0 : decode cX6_pieceAt 0 = .ok (.iload_n 3, 1) := by decide +kernel
theorem dX6_pieceAt_1 : decode cX6_pieceAt 1 = .ok (.ifCond .ge 13, 3) := by decide +kernel
theorem dX6_pieceAt_4 : decode cX6_pieceAt 4 = .ok (.new 157, 3) := by decide +kernel
theorem dX6_pieceAt_7 : decode cX6_pieceAt 7 = .ok (.dup, 1) := by decide +kernel
theorem dX6_pieceAt_8 : decode cX6_pieceAt 8 = .ok (.ldc 159, 2) := by decide +kernel
theorem dX6_pieceAt_10 : decode cX6_pieceAt 10 = .ok (.invokespecial 161, 3) := by decide +kernel
theorem dX6_pieceAt_13 : decode cX6_pieceAt 13 = .ok (.athrow, 1) := by decide +kernel
theorem dX6_pieceAt_14 : decode cX6_pieceAt 14 = .ok (.iload_n 1, 1) := by decide +kernel
theorem dX6_pieceAt_15 : decode cX6_pieceAt 15 = .ok (.iload_n 2, 1) := by decide +kernel
theorem dX6_pieceAt_16 : decode cX6_pieceAt 16 = .ok (.invokestatic 70, 3) := by decide +kernel
theorem dX6_pieceAt_19 : decode cX6_pieceAt 19 = .ok (.iload_n 1, 1) := by decide +kernel
theorem dX6_pieceAt_20 : decode cX6_pieceAt 20 = .ok (.istore 4, 2) := by decide +kernel
theorem dX6_pieceAt_22 : decode cX6_pieceAt 22 = .ok (.iconst 0, 1) := by decide +kernel
theorem dX6_pieceAt_23 : decode cX6_pieceAt 23 = .ok (.istore 5, 2) := by decide +kernel
theorem dX6_pieceAt_25 : decode cX6_pieceAt 25 = .ok (.iload 5, 2) := by decide +kernel
theorem dX6_pieceAt_27 : decode cX6_pieceAt 27 = .ok (.iload_n 3, 1) := by decide +kernel
theorem dX6_pieceAt_28 : decode cX6_pieceAt 28 = .ok (.if_icmp .ge 35, 3) := by decide +kernel
theorem dX6_pieceAt_31 : decode cX6_pieceAt 31 = .ok (.iload 5, 2) := by decide +kernel
theorem dX6_pieceAt_33 : decode cX6_pieceAt 33 = .ok (.bipush 64, 2) := by decide +kernel
theorem dX6_pieceAt_35 : decode cX6_pieceAt 35 = .ok (.if_icmp .ge 28, 3) := by decide +kernel
theorem dX6_pieceAt_38 : decode cX6_pieceAt 38 = .ok (.iload 4, 2) := by decide +kernel
theorem dX6_pieceAt_40 : decode cX6_pieceAt 40 = .ok (.iload_n 2, 1) := by decide +kernel
theorem dX6_pieceAt_41 : decode cX6_pieceAt 41 = .ok (.if_icmp .gt 22, 3) := by decide +kernel
theorem dX6_pieceAt_44 : decode cX6_pieceAt 44 = .ok (.iload 4, 2) := by decide +kernel
theorem dX6_pieceAt_46 : decode cX6_pieceAt 46 = .ok (.iconst 1, 1) := by decide +kernel
theorem dX6_pieceAt_47 : decode cX6_pieceAt 47 = .ok (.iload 4, 2) := by decide +kernel
theorem dX6_pieceAt_49 : decode cX6_pieceAt 49 = .ok (.iload_n 2, 1) := by decide +kernel
theorem dX6_pieceAt_50 : decode cX6_pieceAt 50 = .ok (.invokestatic 154, 3) := by decide +kernel
theorem dX6_pieceAt_53 : decode cX6_pieceAt 53 = .ok (.ishl, 1) := by decide +kernel
theorem dX6_pieceAt_54 : decode cX6_pieceAt 54 = .ok (.iadd, 1) := by decide +kernel
theorem dX6_pieceAt_55 : decode cX6_pieceAt 55 = .ok (.istore 4, 2) := by decide +kernel
theorem dX6_pieceAt_57 : decode cX6_pieceAt 57 = .ok (.iinc 5 1, 3) := by decide +kernel
theorem dX6_pieceAt_60 : decode cX6_pieceAt 60 = .ok (.goto (-35), 3) := by decide +kernel
theorem dX6_pieceAt_63 : decode cX6_pieceAt 63 = .ok (.iload 4, 2) := by decide +kernel
theorem dX6_pieceAt_65 : decode cX6_pieceAt 65 = .ok (.iload_n 2, 1) := by decide +kernel
theorem dX6_pieceAt_66 : decode cX6_pieceAt 66 = .ok (.if_icmp .le 5, 3) := by decide +kernel
theorem dX6_pieceAt_69 : decode cX6_pieceAt 69 = .ok (.iconst (-1), 1) := by decide +kernel
theorem dX6_pieceAt_70 : decode cX6_pieceAt 70 = .ok (.ireturn, 1) := by decide +kernel
theorem dX6_pieceAt_71 : decode cX6_pieceAt 71 = .ok (.bipush 100, 2) := by decide +kernel
theorem dX6_pieceAt_73 : decode cX6_pieceAt 73 = .ok (.iload 4, 2) := by decide +kernel
theorem dX6_pieceAt_75 : decode cX6_pieceAt 75 = .ok (.imul, 1) := by decide +kernel
theorem dX6_pieceAt_76 : decode cX6_pieceAt 76 = .ok (.iconst 1, 1) := by decide +kernel
theorem dX6_pieceAt_77 : decode cX6_pieceAt 77 = .ok (.iload 4, 2) := by decide +kernel
theorem dX6_pieceAt_79 : decode cX6_pieceAt 79 = .ok (.iload_n 2, 1) := by decide +kernel
theorem dX6_pieceAt_80 : decode cX6_pieceAt 80 = .ok (.invokestatic 154, 3) := by decide +kernel
theorem dX6_pieceAt_83 : decode cX6_pieceAt 83 = .ok (.ishl, 1) := by decide +kernel
theorem dX6_pieceAt_84 : decode cX6_pieceAt 84 = .ok (.iadd, 1) := by decide +kernel
theorem dX6_pieceAt_85 : decode cX6_pieceAt 85 = .ok (.ireturn, 1) := by decide +kernel
theorem dX6_minute_0 : decode cX6_minute 0 = .ok (.aload_n 0, 1) := by decide +kernel
theorem dX6_minute_1 : decode cX6_minute 1 = .ok (.getfield 30, 3) := by decide +kernel
theorem dX6_minute_4 : decode cX6_minute 4 = .ok (.ireturn, 1) := by decide +kernel
set_option maxRecDepth 20000 in
theorem ggX6_isQuiet_X6_questionOf : GoodIn wsX6_isQuiet wsX6_questionOf := goodIn_ca (goodIn_r _ [6, 7, 8, 9, 10, 11, 12, 13, 14, 15, 16, 17, 18, 19, 20, 21, 22, 23, 24, 25, 26, 27, 28, 29, 30, 31, 32, 33, 34, 41, 42, 43, 44, 45, 46, 47, 48, 49, 50, 51, 52, 53] (by decide +kernel) (by decide +kernel)) (goodIn_sub (fun _ h => List.mem_cons_of_mem _ (List.mem_append_right _ h)) (by decide +kernel))
set_option maxRecDepth 20000 in
theorem gX6_isQuiet_X6_questionOf : GoodIn wsX6_isQuiet (wsV RX6 54 RX6 yX6_questionOf wsX6_questionOf) := goodIn_app (goodIn_of _ (by decide +kernel)) ggX6_isQuiet_X6_questionOf
set_option maxRecDepth 20000 in
theorem ggX6_isQuiet_X4_isQuietAt : GoodIn wsX6_isQuiet wsX4_isQuietAt := goodIn_r _ [39, 40, 45, 46, 47, 48, 49, 50] (by decide +kernel) (by decide +kernel)
set_option maxRecDepth 20000 in
theorem gX6_isQuiet_X4_isQuietAt : GoodIn wsX6_isQuiet (wsV RX6 162 RX4 yX4_isQuietAt wsX4_isQuietAt) := goodIn_app (goodIn_of _ (by decide +kernel)) ggX6_isQuiet_X4_isQuietAt
theorem dX6_isQuiet_0 : decode cX6_isQuiet 0 = .ok (.aload_n 0, 1) := by decide +kernel
theorem dX6_isQuiet_1 : decode cX6_isQuiet 1 = .ok (.iload_n 1, 1) := by decide +kernel
theorem dX6_isQuiet_2 : decode cX6_isQuiet 2 = .ok (.invokevirtual 54, 3) := by decide +kernel
theorem dX6_isQuiet_5 : decode cX6_isQuiet 5 = .ok (.aload_n 0, 1) := by decide +kernel
theorem dX6_isQuiet_6 : decode cX6_isQuiet 6 = .ok (.getfield 30, 3) := by decide +kernel
theorem dX6_isQuiet_9 : decode cX6_isQuiet 9 = .ok (.invokevirtual 162, 3) := by decide +kernel
theorem dX6_isQuiet_12 : decode cX6_isQuiet 12 = .ok (.ireturn, 1) := by decide +kernel
set_option maxRecDepth 20000 in
theorem ggX6_alerts_X6_questionOf : GoodIn wsX6_alerts wsX6_questionOf := goodIn_ca (goodIn_r _ [6, 7, 8, 9, 10, 11, 12, 13, 14, 15, 16, 17, 18, 19, 20, 21, 22, 23, 24, 25, 26, 27, 28, 29, 30, 31, 32, 33, 34, 41, 42, 43, 44, 35, 36, 37, 38, 39, 40, 45, 46, 47] (by decide +kernel) (by decide +kernel)) (goodIn_sub (fun _ h => List.mem_cons_of_mem _ (List.mem_append_right _ h)) (by decide +kernel))
set_option maxRecDepth 20000 in
theorem gX6_alerts_X6_questionOf : GoodIn wsX6_alerts (wsV RX6 54 RX6 yX6_questionOf wsX6_questionOf) := goodIn_app (goodIn_of _ (by decide +kernel)) ggX6_alerts_X6_questionOf
theorem dX6_alerts_0 : decode cX6_alerts 0 = .ok (.aload_n 0, 1) := by decide +kernel
theorem dX6_alerts_1 : decode cX6_alerts 1 = .ok (.iload_n 1, 1) := by decide +kernel
theorem dX6_alerts_2 : decode cX6_alerts 2 = .ok (.invokevirtual 54, 3) := by decide +kernel
theorem dX6_alerts_5 : decode cX6_alerts 5 = .ok (.getfield 165, 3) := by decide +kernel
theorem dX6_alerts_8 : decode cX6_alerts 8 = .ok (.ireturn, 1) := by decide +kernel
set_option maxRecDepth 20000 in
theorem ggX6_batch_X6_questionOf : GoodIn wsX6_batch wsX6_questionOf := goodIn_ca (goodIn_r _ [6, 7, 8, 9, 10, 11, 12, 13, 14, 15, 16, 17, 18, 19, 20, 21, 22, 23, 24, 25, 26, 27, 28, 29, 30, 31, 32, 33, 34, 41, 42, 43, 44, 35, 36, 37, 38, 39, 40, 45, 46, 47] (by decide +kernel) (by decide +kernel)) (goodIn_sub (fun _ h => List.mem_cons_of_mem _ (List.mem_append_right _ h)) (by decide +kernel))
set_option maxRecDepth 20000 in
theorem gX6_batch_X6_questionOf : GoodIn wsX6_batch (wsV RX6 54 RX6 yX6_questionOf wsX6_questionOf) := goodIn_app (goodIn_of _ (by decide +kernel)) ggX6_batch_X6_questionOf
theorem dX6_batch_0 : decode cX6_batch 0 = .ok (.aload_n 0, 1) := by decide +kernel
theorem dX6_batch_1 : decode cX6_batch 1 = .ok (.iload_n 1, 1) := by decide +kernel
theorem dX6_batch_2 : decode cX6_batch 2 = .ok (.invokevirtual 54, 3) := by decide +kernel
theorem dX6_batch_5 : decode cX6_batch 5 = .ok (.getfield 101, 3) := by decide +kernel
theorem dX6_batch_8 : decode cX6_batch 8 = .ok (.ireturn, 1) := by decide +kernel
set_option maxRecDepth 20000 in
theorem ggX6_questionOf_Jx4a65c_size_8abf5 : GoodIn wsX6_questionOf wsJx4a65c_size_8abf5 := goodIn_r _ [10, 11, 39, 40, 41] (by decide +kernel) (by decide +kernel)
set_option maxRecDepth 20000 in
theorem gX6_questionOf_Jx4a65c_size_8abf5_f34Jx4a65c : GoodIn wsX6_questionOf (va_wsF RX6 34 RJx4a65c ⟨"java/util/List", "size", "()I"⟩ yJx4a65c_size_8abf5 wsJx4a65c_size_8abf5) := goodIn_app (goodIn_of _ (by decide +kernel)) ggX6_questionOf_Jx4a65c_size_8abf5
set_option maxRecDepth 20000 in
theorem ggX6_questionOf_Jx4a65c_get_915e3 : GoodIn wsX6_questionOf wsJx4a65c_get_915e3 := goodIn_r _ [15, 11, 16, 17, 18, 19, 20, 21, 22, 23, 24, 25, 26, 9, 27, 28, 39, 40, 41] (by decide +kernel) (by decide +kernel)
set_option maxRecDepth 20000 in
theorem gX6_questionOf_Jx4a65c_get_915e3_f122Jx4a65c : GoodIn wsX6_questionOf (va_wsF RX6 122 RJx4a65c ⟨"java/util/List", "get", "(I)Ljava/lang/Object;"⟩ yJx4a65c_get_915e3 wsJx4a65c_get_915e3) := goodIn_app (goodIn_of _ (by decide +kernel)) ggX6_questionOf_Jx4a65c_get_915e3
theorem dX6_questionOf_0 : decode cX6_questionOf 0 = .ok (.iload_n 1, 1) := by decide +kernel
theorem dX6_questionOf_1 : decode cX6_questionOf 1 = .ok (.ifCond .lt 16, 3) := by decide +kernel
theorem dX6_questionOf_4 : decode cX6_questionOf 4 = .ok (.iload_n 1, 1) := by decide +kernel
theorem dX6_questionOf_5 : decode cX6_questionOf 5 = .ok (.aload_n 0, 1) := by decide +kernel
theorem dX6_questionOf_6 : decode cX6_questionOf 6 = .ok (.getfield 10, 3) := by decide +kernel
theorem dX6_questionOf_9 : decode cX6_questionOf 9 = .ok (.invokeinterface 34 1, 5) := by decide +kernel
theorem dX6_questionOf_14 : decode cX6_questionOf 14 = .ok (.if_icmp .lt 13, 3) := by decide +kernel
theorem dX6_questionOf_17 : decode cX6_questionOf 17 = .ok (.new 157, 3) := by decide +kernel
theorem dX6_questionOf_20 : decode cX6_questionOf 20 = .ok (.dup, 1) := by decide +kernel
theorem dX6_questionOf_21 : decode cX6_questionOf 21 = .ok (.ldc 168, 2) := by decide +kernel
theorem dX6_questionOf_23 : decode cX6_questionOf 23 = .ok (.invokespecial 161, 3) := by decide +kernel
theorem dX6_questionOf_26 : decode cX6_questionOf 26 = .ok (.athrow, 1) := by decide +kernel
theorem dX6_questionOf_27 : decode cX6_questionOf 27 = .ok (.aload_n 0, 1) := by decide +kernel
theorem dX6_questionOf_28 : decode cX6_questionOf 28 = .ok (.getfield 10, 3) := by decide +kernel
theorem dX6_questionOf_31 : decode cX6_questionOf 31 = .ok (.iload_n 1, 1) := by decide +kernel
theorem dX6_questionOf_32 : decode cX6_questionOf 32 = .ok (.invokeinterface 122 2, 5) := by decide +kernel
theorem dX6_questionOf_37 : decode cX6_questionOf 37 = .ok (.checkcast 47, 3) := by decide +kernel
theorem dX6_questionOf_40 : decode cX6_questionOf 40 = .ok (.astore_n 2, 1) := by decide +kernel
theorem dX6_questionOf_41 : decode cX6_questionOf 41 = .ok (.aload_n 2, 1) := by decide +kernel
theorem dX6_questionOf_42 : decode cX6_questionOf 42 = .ok (.getfield 97, 3) := by decide +kernel
theorem dX6_questionOf_45 : decode cX6_questionOf 45 = .ok (.ifCond .eq 13, 3) := by decide +kernel
theorem dX6_questionOf_48 : decode cX6_questionOf 48 = .ok (.new 157, 3) := by decide +kernel
theorem dX6_questionOf_51 : decode cX6_questionOf 51 = .ok (.dup, 1) := by decide +kernel
theorem dX6_questionOf_52 : decode cX6_questionOf 52 = .ok (.ldc 170, 2) := by decide +kernel
theorem dX6_questionOf_54 : decode cX6_questionOf 54 = .ok (.invokespecial 161, 3) := by decide +kernel
theorem dX6_questionOf_57 : decode cX6_questionOf 57 = .ok (.athrow, 1) := by decide +kernel
theorem dX6_questionOf_58 : decode cX6_questionOf 58 = .ok (.aload_n 2, 1) := by decide +kernel
theorem dX6_questionOf_59 : decode cX6_questionOf 59 = .ok (.areturn, 1) := by decide +kernel
theorem dX6_refuseNoName_0 : decode cX6_refuseNoName 0 = .ok (.iload_n 0, 1) := by decide +kernel
theorem dX6_refuseNoName_1 : decode cX6_refuseNoName 1 = .ok (.ifCond .lt 9, 3) := by decide +kernel
theorem dX6_refuseNoName_4 : decode cX6_refuseNoName 4 = .ok (.iload_n 0, 1) := by decide +kernel
theorem dX6_refuseNoName_5 : decode cX6_refuseNoName 5 = .ok (.bipush 6, 2) := by decide +kernel
theorem dX6_refuseNoName_7 : decode cX6_refuseNoName 7 = .ok (.if_icmp .lt 13, 3) := by decide +kernel
theorem dX6_refuseNoName_10 : decode cX6_refuseNoName 10 = .ok (.new 157, 3) := by decide +kernel
theorem dX6_refuseNoName_13 : decode cX6_refuseNoName 13 = .ok (.dup, 1) := by decide +kernel
theorem dX6_refuseNoName_14 : decode cX6_refuseNoName 14 = .ok (.ldc 172, 2) := by decide +kernel
theorem dX6_refuseNoName_16 : decode cX6_refuseNoName 16 = .ok (.invokespecial 161, 3) := by decide +kernel
theorem dX6_refuseNoName_19 : decode cX6_refuseNoName 19 = .ok (.athrow, 1) := by decide +kernel
theorem dX6_refuseNoName_20 : decode cX6_refuseNoName 20 = .ok (.return_, 1) := by decide +kernel
set_option maxRecDepth 20000 in
theorem ggX6_refuseNoRange_X6_isValue : GoodIn wsX6_refuseNoRange wsX6_isValue := goodIn_r _ [6] (by decide +kernel) (by decide +kernel)
set_option maxRecDepth 20000 in
theorem gX6_refuseNoRange_X6_isValue : GoodIn wsX6_refuseNoRange (va_wsS RX6 112 yX6_isValue wsX6_isValue) := goodIn_app (goodIn_of _ (by decide +kernel)) ggX6_refuseNoRange_X6_isValue
theorem dX6_refuseNoRange_0 : decode cX6_refuseNoRange 0 = .ok (.iload_n 0, 1) := by decide +kernel
theorem dX6_refuseNoRange_1 : decode cX6_refuseNoRange 1 = .ok (.invokestatic 112, 3) := by decide +kernel
theorem dX6_refuseNoRange_4 : decode cX6_refuseNoRange 4 = .ok (.ifCond .eq 15, 3) := by decide +kernel
theorem dX6_refuseNoRange_7 : decode cX6_refuseNoRange 7 = .ok (.iload_n 1, 1) := by decide +kernel
theorem dX6_refuseNoRange_8 : decode cX6_refuseNoRange 8 = .ok (.invokestatic 112, 3) := by decide +kernel
theorem dX6_refuseNoRange_11 : decode cX6_refuseNoRange 11 = .ok (.ifCond .eq 8, 3) := by decide +kernel
theorem dX6_refuseNoRange_14 : decode cX6_refuseNoRange 14 = .ok (.iload_n 0, 1) := by decide +kernel
theorem dX6_refuseNoRange_15 : decode cX6_refuseNoRange 15 = .ok (.iload_n 1, 1) := by decide +kernel
theorem dX6_refuseNoRange_16 : decode cX6_refuseNoRange 16 = .ok (.if_icmp .le 13, 3) := by decide +kernel
theorem dX6_refuseNoRange_19 : decode cX6_refuseNoRange 19 = .ok (.new 104, 3) := by decide +kernel
theorem dX6_refuseNoRange_22 : decode cX6_refuseNoRange 22 = .ok (.dup, 1) := by decide +kernel
theorem dX6_refuseNoRange_23 : decode cX6_refuseNoRange 23 = .ok (.ldc 174, 2) := by decide +kernel
theorem dX6_refuseNoRange_25 : decode cX6_refuseNoRange 25 = .ok (.invokespecial 108, 3) := by decide +kernel
theorem dX6_refuseNoRange_28 : decode cX6_refuseNoRange 28 = .ok (.athrow, 1) := by decide +kernel
theorem dX6_refuseNoRange_29 : decode cX6_refuseNoRange 29 = .ok (.return_, 1) := by decide +kernel
theorem dX6_isValue_0 : decode cX6_isValue 0 = .ok (.iload_n 0, 1) := by decide +kernel
theorem dX6_isValue_1 : decode cX6_isValue 1 = .ok (.ifCond .lt 13, 3) := by decide +kernel
theorem dX6_isValue_4 : decode cX6_isValue 4 = .ok (.iload_n 0, 1) := by decide +kernel
theorem dX6_isValue_5 : decode cX6_isValue 5 = .ok (.bipush 64, 2) := by decide +kernel
theorem dX6_isValue_7 : decode cX6_isValue 7 = .ok (.if_icmp .ge 7, 3) := by decide +kernel
theorem dX6_isValue_10 : decode cX6_isValue 10 = .ok (.iconst 1, 1) := by decide +kernel
theorem dX6_isValue_11 : decode cX6_isValue 11 = .ok (.goto 4, 3) := by decide +kernel
theorem dX6_isValue_14 : decode cX6_isValue 14 = .ok (.iconst 0, 1) := by decide +kernel
theorem dX6_isValue_15 : decode cX6_isValue 15 = .ok (.ireturn, 1) := by decide +kernel
theorem dX6_levelOfPiece_0 : decode cX6_levelOfPiece 0 = .ok (.iconst 0, 1) := by decide +kernel
theorem dX6_levelOfPiece_1 : decode cX6_levelOfPiece 1 = .ok (.istore_n 2, 1) := by decide +kernel
theorem dX6_levelOfPiece_2 : decode cX6_levelOfPiece 2 = .ok (.iconst 2, 1) := by decide +kernel
theorem dX6_levelOfPiece_3 : decode cX6_levelOfPiece 3 = .ok (.istore_n 3, 1) := by decide +kernel
theorem dX6_levelOfPiece_4 : decode cX6_levelOfPiece 4 = .ok (.iload_n 3, 1) := by decide +kernel
theorem dX6_levelOfPiece_5 : decode cX6_levelOfPiece 5 = .ok (.bipush 64, 2) := by decide +kernel
theorem dX6_levelOfPiece_7 : decode cX6_levelOfPiece 7 = .ok (.if_icmp .gt 33, 3) := by decide +kernel
theorem dX6_levelOfPiece_10 : decode cX6_levelOfPiece 10 = .ok (.iload_n 0, 1) := by decide +kernel
theorem dX6_levelOfPiece_11 : decode cX6_levelOfPiece 11 = .ok (.iload_n 3, 1) := by decide +kernel
theorem dX6_levelOfPiece_12 : decode cX6_levelOfPiece 12 = .ok (.iconst 1, 1) := by decide +kernel
theorem dX6_levelOfPiece_13 : decode cX6_levelOfPiece 13 = .ok (.isub, 1) := by decide +kernel
theorem dX6_levelOfPiece_14 : decode cX6_levelOfPiece 14 = .ok (.iand, 1) := by decide +kernel
theorem dX6_levelOfPiece_15 : decode cX6_levelOfPiece 15 = .ok (.ifCond .ne 25, 3) := by decide +kernel
theorem dX6_levelOfPiece_18 : decode cX6_levelOfPiece 18 = .ok (.iload_n 0, 1) := by decide +kernel
theorem dX6_levelOfPiece_19 : decode cX6_levelOfPiece 19 = .ok (.iload_n 3, 1) := by decide +kernel
theorem dX6_levelOfPiece_20 : decode cX6_levelOfPiece 20 = .ok (.iadd, 1) := by decide +kernel
theorem dX6_levelOfPiece_21 : decode cX6_levelOfPiece 21 = .ok (.iconst 1, 1) := by decide +kernel
theorem dX6_levelOfPiece_22 : decode cX6_levelOfPiece 22 = .ok (.isub, 1) := by decide +kernel
theorem dX6_levelOfPiece_23 : decode cX6_levelOfPiece 23 = .ok (.iload_n 1, 1) := by decide +kernel
theorem dX6_levelOfPiece_24 : decode cX6_levelOfPiece 24 = .ok (.if_icmp .le 6, 3) := by decide +kernel
theorem dX6_levelOfPiece_27 : decode cX6_levelOfPiece 27 = .ok (.goto 13, 3) := by decide +kernel
theorem dX6_levelOfPiece_30 : decode cX6_levelOfPiece 30 = .ok (.iinc 2 1, 3) := by decide +kernel
theorem dX6_levelOfPiece_33 : decode cX6_levelOfPiece 33 = .ok (.iload_n 3, 1) := by decide +kernel
theorem dX6_levelOfPiece_34 : decode cX6_levelOfPiece 34 = .ok (.iconst 2, 1) := by decide +kernel
theorem dX6_levelOfPiece_35 : decode cX6_levelOfPiece 35 = .ok (.imul, 1) := by decide +kernel
theorem dX6_levelOfPiece_36 : decode cX6_levelOfPiece 36 = .ok (.istore_n 3, 1) := by decide +kernel
theorem dX6_levelOfPiece_37 : decode cX6_levelOfPiece 37 = .ok (.goto (-33), 3) := by decide +kernel
theorem dX6_levelOfPiece_40 : decode cX6_levelOfPiece 40 = .ok (.iload_n 2, 1) := by decide +kernel
theorem dX6_levelOfPiece_41 : decode cX6_levelOfPiece 41 = .ok (.ireturn, 1) := by decide +kernel
end
section
theorem dX7_init_0 : decode cX7_init 0 = .ok (.aload_n 0, 1) := by decide +kernel
theorem dX7_init_1 : decode cX7_init 1 = .ok (.invokespecial 1, 3) := by decide +kernel
theorem dX7_init_4 : decode cX7_init 4 = .ok (.aload_n 0, 1) := by decide +kernel
theorem dX7_init_5 : decode cX7_init 5 = .ok (.bipush 6, 2) := by decide +kernel
theorem dX7_init_7 : decode cX7_init 7 = .ok (.newarray .int, 2) := by decide +kernel
theorem dX7_init_9 : decode cX7_init 9 = .ok (.putfield 7, 3) := by decide +kernel
theorem dX7_init_12 : decode cX7_init 12 = .ok (.aload_n 0, 1) := by decide +kernel
theorem dX7_init_13 : decode cX7_init 13 = .ok (.bipush 20, 2) := by decide +kernel
theorem dX7_init_15 : decode cX7_init 15 = .ok (.newarray .boolean, 2) := by decide +kernel
theorem dX7_init_17 : decode cX7_init 17 = .ok (.putfield 13, 3) := by decide +kernel
theorem dX7_init_20 : decode cX7_init 20 = .ok (.aload_n 0, 1) := by decide +kernel
theorem dX7_init_21 : decode cX7_init 21 = .ok (.bipush 20, 2) := by decide +kernel
theorem dX7_init_23 : decode cX7_init 23 = .ok (.newarray .int, 2) := by decide +kernel
theorem dX7_init_25 : decode cX7_init 25 = .ok (.putfield 17, 3) := by decide +kernel
theorem dX7_init_28 : decode cX7_init 28 = .ok (.aload_n 0, 1) := by decide +kernel
theorem dX7_init_29 : decode cX7_init 29 = .ok (.bipush 20, 2) := by decide +kernel
theorem dX7_init_31 : decode cX7_init 31 = .ok (.newarray .int, 2) := by decide +kernel
theorem dX7_init_33 : decode cX7_init 33 = .ok (.putfield 20, 3) := by decide +kernel
theorem dX7_init_36 : decode cX7_init 36 = .ok (.aload_n 0, 1) := by decide +kernel
theorem dX7_init_37 : decode cX7_init 37 = .ok (.bipush 20, 2) := by decide +kernel
theorem dX7_init_39 : decode cX7_init 39 = .ok (.newarray .int, 2) := by decide +kernel
theorem dX7_init_41 : decode cX7_init 41 = .ok (.putfield 23, 3) := by decide +kernel
theorem dX7_init_44 : decode cX7_init 44 = .ok (.aload_n 0, 1) := by decide +kernel
theorem dX7_init_45 : decode cX7_init 45 = .ok (.bipush 20, 2) := by decide +kernel
theorem dX7_init_47 : decode cX7_init 47 = .ok (.newarray .int, 2) := by decide +kernel
theorem dX7_init_49 : decode cX7_init 49 = .ok (.putfield 26, 3) := by decide +kernel
theorem dX7_init_52 : decode cX7_init 52 = .ok (.aload_n 0, 1) := by decide +kernel
theorem dX7_init_53 : decode cX7_init 53 = .ok (.bipush 20, 2) := by decide +kernel
theorem dX7_init_55 : decode cX7_init 55 = .ok (.newarray .int, 2) := by decide +kernel
theorem dX7_init_57 : decode cX7_init 57 = .ok (.putfield 29, 3) := by decide +kernel
theorem dX7_init_60 : decode cX7_init 60 = .ok (.aload_n 0, 1) := by decide +kernel
theorem dX7_init_61 : decode cX7_init 61 = .ok (.bipush 60, 2) := by decide +kernel
theorem dX7_init_63 : decode cX7_init 63 = .ok (.newarray .int, 2) := by decide +kernel
theorem dX7_init_65 : decode cX7_init 65 = .ok (.putfield 32, 3) := by decide +kernel
theorem dX7_init_68 : decode cX7_init 68 = .ok (.aload_n 0, 1) := by decide +kernel
theorem dX7_init_69 : decode cX7_init 69 = .ok (.sipush 240, 3) := by decide +kernel
theorem dX7_init_72 : decode cX7_init 72 = .ok (.newarray .int, 2) := by decide +kernel
theorem dX7_init_74 : decode cX7_init 74 = .ok (.putfield 35, 3) := by decide +kernel
theorem dX7_init_77 : decode cX7_init 77 = .ok (.aload_n 0, 1) := by decide +kernel
theorem dX7_init_78 : decode cX7_init 78 = .ok (.sipush 240, 3) := by decide +kernel
theorem dX7_init_81 : decode cX7_init 81 = .ok (.newarray .int, 2) := by decide +kernel
theorem dX7_init_83 : decode cX7_init 83 = .ok (.putfield 38, 3) := by decide +kernel
theorem dX7_init_86 : decode cX7_init 86 = .ok (.aload_n 0, 1) := by decide +kernel
theorem dX7_init_87 : decode cX7_init 87 = .ok (.sipush 240, 3) := by decide +kernel
theorem dX7_init_90 : decode cX7_init 90 = .ok (.newarray .int, 2) := by decide +kernel
theorem dX7_init_92 : decode cX7_init 92 = .ok (.putfield 41, 3) := by decide +kernel
theorem dX7_init_95 : decode cX7_init 95 = .ok (.aload_n 0, 1) := by decide +kernel
theorem dX7_init_96 : decode cX7_init 96 = .ok (.sipush 240, 3) := by decide +kernel
theorem dX7_init_99 : decode cX7_init 99 = .ok (.newarray .boolean, 2) := by decide +kernel
theorem dX7_init_101 : decode cX7_init 101 = .ok (.putfield 44, 3) := by decide +kernel
theorem dX7_init_104 : decode cX7_init 104 = .ok (.iconst 0, 1) := by decide +kernel
theorem dX7_init_105 : decode cX7_init 105 = .ok (.istore_n 1, 1) := by decide +kernel
theorem dX7_init_106 : decode cX7_init 106 = .ok (.iload_n 1, 1) := by decide +kernel
theorem dX7_init_107 : decode cX7_init 107 = .ok (.bipush 6, 2) := by decide +kernel
theorem dX7_init_109 : decode cX7_init 109 = .ok (.if_icmp .ge 16, 3) := by decide +kernel
theorem dX7_init_112 : decode cX7_init 112 = .ok (.aload_n 0, 1) := by decide +kernel
theorem dX7_init_113 : decode cX7_init 113 = .ok (.getfield 7, 3) := by decide +kernel
theorem dX7_init_116 : decode cX7_init 116 = .ok (.iload_n 1, 1) := by decide +kernel
theorem dX7_init_117 : decode cX7_init 117 = .ok (.iconst (-1), 1) := by decide +kernel
theorem dX7_init_118 : decode cX7_init 118 = .ok (.iastore, 1) := by decide +kernel
theorem dX7_init_119 : decode cX7_init 119 = .ok (.iinc 1 1, 3) := by decide +kernel
theorem dX7_init_122 : decode cX7_init 122 = .ok (.goto (-16), 3) := by decide +kernel
theorem dX7_init_125 : decode cX7_init 125 = .ok (.return_, 1) := by decide +kernel
theorem dX7_thrown_0 : decode cX7_thrown 0 = .ok (.aload_n 0, 1) := by decide +kernel
theorem dX7_thrown_1 : decode cX7_thrown 1 = .ok (.getfield 47, 3) := by decide +kernel
theorem dX7_thrown_4 : decode cX7_thrown 4 = .ok (.ireturn, 1) := by decide +kernel
theorem dX7_holds_0 : decode cX7_holds 0 = .ok (.aload_n 0, 1) := by decide +kernel
theorem dX7_holds_1 : decode cX7_holds 1 = .ok (.iload_n 1, 1) := by decide +kernel
theorem dX7_holds_2 : decode cX7_holds 2 = .ok (.putfield 47, 3) := by decide +kernel
theorem dX7_holds_5 : decode cX7_holds 5 = .ok (.iload_n 1, 1) := by decide +kernel
theorem dX7_holds_6 : decode cX7_holds 6 = .ok (.ifCond .ne 7, 3) := by decide +kernel
theorem dX7_holds_9 : decode cX7_holds 9 = .ok (.iconst 1, 1) := by decide +kernel
theorem dX7_holds_10 : decode cX7_holds 10 = .ok (.goto 4, 3) := by decide +kernel
theorem dX7_holds_13 : decode cX7_holds 13 = .ok (.iconst 0, 1) := by decide +kernel
theorem dX7_holds_14 : decode cX7_holds 14 = .ok (.ireturn, 1) := by decide +kernel
theorem dX7_isIn_0 : decode cX7_isIn 0 = .ok (.iload_n 0, 1) := by decide +kernel
theorem dX7_isIn_1 : decode cX7_isIn 1 = .ok (.iload_n 1, 1) := by decide +kernel
theorem dX7_isIn_2 : decode cX7_isIn 2 = .ok (.if_icmp .lt 12, 3) := by decide +kernel
theorem dX7_isIn_5 : decode cX7_isIn 5 = .ok (.iload_n 0, 1) := by decide +kernel
theorem dX7_isIn_6 : decode cX7_isIn 6 = .ok (.iload_n 2, 1) := by decide +kernel
theorem dX7_isIn_7 : decode cX7_isIn 7 = .ok (.if_icmp .gt 7, 3) := by decide +kernel
theorem dX7_isIn_10 : decode cX7_isIn 10 = .ok (.iconst 1, 1) := by decide +kernel
theorem dX7_isIn_11 : decode cX7_isIn 11 = .ok (.goto 4, 3) := by decide +kernel
theorem dX7_isIn_14 : decode cX7_isIn 14 = .ok (.iconst 0, 1) := by decide +kernel
theorem dX7_isIn_15 : decode cX7_isIn 15 = .ok (.ireturn, 1) := by decide +kernel
set_option maxRecDepth 20000 in
theorem ggX7_isQuestion_X7_isIn : GoodIn wsX7_isQuestion wsX7_isIn := goodIn_r _ [6] (by decide +kernel) (by decide +kernel)
set_option maxRecDepth 20000 in
theorem gX7_isQuestion_X7_isIn : GoodIn wsX7_isQuestion (va_wsS RX7 54 yX7_isIn wsX7_isIn) := goodIn_app (goodIn_of _ (by decide +kernel)) ggX7_isQuestion_X7_isIn
theorem dX7_isQuestion_0 : decode cX7_isQuestion 0 = .ok (.iload_n 1, 1) := by decide +kernel
theorem dX7_isQuestion_1 : decode cX7_isQuestion 1 = .ok (.iconst 0, 1) := by decide +kernel
theorem dX7_isQuestion_2 : decode cX7_isQuestion 2 = .ok (.aload_n 0, 1) := by decide +kernel
theorem dX7_isQuestion_3 : decode cX7_isQuestion 3 = .ok (.getfield 51, 3) := by decide +kernel
theorem dX7_isQuestion_6 : decode cX7_isQuestion 6 = .ok (.iconst 1, 1) := by decide +kernel
theorem dX7_isQuestion_7 : decode cX7_isQuestion 7 = .ok (.isub, 1) := by decide +kernel
theorem dX7_isQuestion_8 : decode cX7_isQuestion 8 = .ok (.invokestatic 54, 3) := by decide +kernel
theorem dX7_isQuestion_11 : decode cX7_isQuestion 11 = .ok (.ifCond .eq 16, 3) := by decide +kernel
theorem dX7_isQuestion_14 : decode cX7_isQuestion 14 = .ok (.aload_n 0, 1) := by decide +kernel
theorem dX7_isQuestion_15 : decode cX7_isQuestion 15 = .ok (.getfield 13, 3) := by decide +kernel
theorem dX7_isQuestion_18 : decode cX7_isQuestion 18 = .ok (.iload_n 1, 1) := by decide +kernel
theorem dX7_isQuestion_19 : decode cX7_isQuestion 19 = .ok (.baload, 1) := by decide +kernel
theorem dX7_isQuestion_20 : decode cX7_isQuestion 20 = .ok (.ifCond .ne 7, 3) := by decide +kernel
theorem dX7_isQuestion_23 : decode cX7_isQuestion 23 = .ok (.iconst 1, 1) := by decide +kernel
theorem dX7_isQuestion_24 : decode cX7_isQuestion 24 = .ok (.goto 4, 3) := by decide +kernel
theorem dX7_isQuestion_27 : decode cX7_isQuestion 27 = .ok (.iconst 0, 1) := by decide +kernel
theorem dX7_isQuestion_28 : decode cX7_isQuestion 28 = .ok (.ireturn, 1) := by decide +kernel
set_option maxRecDepth 20000 in
theorem ggX7_isName_X7_isIn : GoodIn wsX7_isName wsX7_isIn := goodIn_r _ [4] (by decide +kernel) (by decide +kernel)
set_option maxRecDepth 20000 in
theorem gX7_isName_X7_isIn : GoodIn wsX7_isName (va_wsS RX7 54 yX7_isIn wsX7_isIn) := goodIn_app (goodIn_of _ (by decide +kernel)) ggX7_isName_X7_isIn
theorem dX7_isName_0 : decode cX7_isName 0 = .ok (.iload_n 0, 1) := by decide +kernel
theorem dX7_isName_1 : decode cX7_isName 1 = .ok (.iconst 0, 1) := by decide +kernel
theorem dX7_isName_2 : decode cX7_isName 2 = .ok (.iconst 5, 1) := by decide +kernel
theorem dX7_isName_3 : decode cX7_isName 3 = .ok (.invokestatic 54, 3) := by decide +kernel
theorem dX7_isName_6 : decode cX7_isName 6 = .ok (.ireturn, 1) := by decide +kernel
set_option maxRecDepth 20000 in
theorem ggX7_isRange_X7_isIn : GoodIn wsX7_isRange wsX7_isIn := goodIn_r _ [4] (by decide +kernel) (by decide +kernel)
set_option maxRecDepth 20000 in
theorem gX7_isRange_X7_isIn : GoodIn wsX7_isRange (va_wsS RX7 54 yX7_isIn wsX7_isIn) := goodIn_app (goodIn_of _ (by decide +kernel)) ggX7_isRange_X7_isIn
theorem dX7_isRange_0 : decode cX7_isRange 0 = .ok (.iload_n 0, 1) := by decide +kernel
theorem dX7_isRange_1 : decode cX7_isRange 1 = .ok (.iconst 0, 1) := by decide +kernel
theorem dX7_isRange_2 : decode cX7_isRange 2 = .ok (.bipush 63, 2) := by decide +kernel
theorem dX7_isRange_4 : decode cX7_isRange 4 = .ok (.invokestatic 54, 3) := by decide +kernel
theorem dX7_isRange_7 : decode cX7_isRange 7 = .ok (.ifCond .eq 17, 3) := by decide +kernel
theorem dX7_isRange_10 : decode cX7_isRange 10 = .ok (.iload_n 1, 1) := by decide +kernel
theorem dX7_isRange_11 : decode cX7_isRange 11 = .ok (.iload_n 0, 1) := by decide +kernel
theorem dX7_isRange_12 : decode cX7_isRange 12 = .ok (.bipush 63, 2) := by decide +kernel
theorem dX7_isRange_14 : decode cX7_isRange 14 = .ok (.invokestatic 54, 3) := by decide +kernel
theorem dX7_isRange_17 : decode cX7_isRange 17 = .ok (.ifCond .eq 7, 3) := by decide +kernel
theorem dX7_isRange_20 : decode cX7_isRange 20 = .ok (.iconst 1, 1) := by decide +kernel
theorem dX7_isRange_21 : decode cX7_isRange 21 = .ok (.goto 4, 3) := by decide +kernel
theorem dX7_isRange_24 : decode cX7_isRange 24 = .ok (.iconst 0, 1) := by decide +kernel
theorem dX7_isRange_25 : decode cX7_isRange 25 = .ok (.ireturn, 1) := by decide +kernel
set_option maxRecDepth 20000 in
theorem ggX7_question_X7_holds : GoodIn wsX7_question wsX7_holds := goodIn_r _ [6, 7, 8, 9, 10, 11, 12, 13, 14, 15, 16, 17, 18, 19, 20, 21, 22] (by decide +kernel) (by decide +kernel)
set_option maxRecDepth 20000 in
theorem gX7_question_X7_holds : GoodIn wsX7_question (wsV RX7 58 RX7 yX7_holds wsX7_holds) := goodIn_app (goodIn_of _ (by decide +kernel)) ggX7_question_X7_holds
theorem dX7_question_0 : decode cX7_question 0 = .ok (.aload_n 0, 1) := by decide +kernel
theorem dX7_question_1 : decode cX7_question 1 = .ok (.aload_n 0, 1) := by decide +kernel
theorem dX7_question_2 : decode cX7_question 2 = .ok (.getfield 51, 3) := by decide +kernel
theorem dX7_question_5 : decode cX7_question 5 = .ok (.bipush 20, 2) := by decide +kernel
theorem dX7_question_7 : decode cX7_question 7 = .ok (.if_icmp .ne 7, 3) := by decide +kernel
theorem dX7_question_10 : decode cX7_question 10 = .ok (.iconst 1, 1) := by decide +kernel
theorem dX7_question_11 : decode cX7_question 11 = .ok (.goto 4, 3) := by decide +kernel
theorem dX7_question_14 : decode cX7_question 14 = .ok (.iconst 0, 1) := by decide +kernel
theorem dX7_question_15 : decode cX7_question 15 = .ok (.invokevirtual 58, 3) := by decide +kernel
theorem dX7_question_18 : decode cX7_question 18 = .ok (.ifCond .ne 5, 3) := by decide +kernel
theorem dX7_question_21 : decode cX7_question 21 = .ok (.iconst 0, 1) := by decide +kernel
theorem dX7_question_22 : decode cX7_question 22 = .ok (.ireturn, 1) := by decide +kernel
theorem dX7_question_23 : decode cX7_question 23 = .ok (.aload_n 0, 1) := by decide +kernel
theorem dX7_question_24 : decode cX7_question 24 = .ok (.dup, 1) := by decide +kernel
theorem dX7_question_25 : decode cX7_question 25 = .ok (.getfield 51, 3) := by decide +kernel
theorem dX7_question_28 : decode cX7_question 28 = .ok (.iconst 1, 1) := by decide +kernel
theorem dX7_question_29 : decode cX7_question 29 = .ok (.iadd, 1) := by decide +kernel
theorem dX7_question_30 : decode cX7_question 30 = .ok (.putfield 51, 3) := by decide +kernel
theorem dX7_question_33 : decode cX7_question 33 = .ok (.aload_n 0, 1) := by decide +kernel
theorem dX7_question_34 : decode cX7_question 34 = .ok (.getfield 51, 3) := by decide +kernel
theorem dX7_question_37 : decode cX7_question 37 = .ok (.iconst 1, 1) := by decide +kernel
theorem dX7_question_38 : decode cX7_question 38 = .ok (.isub, 1) := by decide +kernel
theorem dX7_question_39 : decode cX7_question 39 = .ok (.ireturn, 1) := by decide +kernel
set_option maxRecDepth 20000 in
theorem ggX7_product_X7_isQuestion : GoodIn wsX7_product wsX7_isQuestion := goodIn_r _ [6, 7, 8, 9, 10, 5, 11, 17, 18, 19, 20, 21, 22, 23, 24, 25, 26, 27, 28, 29, 30, 31] (by decide +kernel) (by decide +kernel)
set_option maxRecDepth 20000 in
theorem gX7_product_X7_isQuestion : GoodIn wsX7_product (wsV RX7 62 RX7 yX7_isQuestion wsX7_isQuestion) := goodIn_app (goodIn_of _ (by decide +kernel)) ggX7_product_X7_isQuestion
set_option maxRecDepth 20000 in
theorem ggX7_product_X7_holds : GoodIn wsX7_product wsX7_holds := goodIn_r _ [15, 16, 17, 18, 19, 20, 21, 22, 23, 24, 25, 26, 27, 28, 29, 30, 31] (by decide +kernel) (by decide +kernel)
set_option maxRecDepth 20000 in
theorem gX7_product_X7_holds : GoodIn wsX7_product (wsV RX7 58 RX7 yX7_holds wsX7_holds) := goodIn_app (goodIn_of _ (by decide +kernel)) ggX7_product_X7_holds
theorem dX7_product_0 : decode cX7_product 0 = .ok (.aload_n 0, 1) := by decide +kernel
theorem dX7_product_1 : decode cX7_product 1 = .ok (.iload_n 1, 1) := by decide +kernel
theorem dX7_product_2 : decode cX7_product 2 = .ok (.invokevirtual 62, 3) := by decide +kernel
theorem dX7_product_5 : decode cX7_product 5 = .ok (.istore_n 2, 1) := by decide +kernel
theorem dX7_product_6 : decode cX7_product 6 = .ok (.aload_n 0, 1) := by decide +kernel
theorem dX7_product_7 : decode cX7_product 7 = .ok (.iload_n 2, 1) := by decide +kernel
theorem dX7_product_8 : decode cX7_product 8 = .ok (.ifCond .ne 7, 3) := by decide +kernel
theorem dX7_product_11 : decode cX7_product 11 = .ok (.iconst 1, 1) := by decide +kernel
theorem dX7_product_12 : decode cX7_product 12 = .ok (.goto 18, 3) := by decide +kernel
theorem dX7_product_15 : decode cX7_product 15 = .ok (.aload_n 0, 1) := by decide +kernel
theorem dX7_product_16 : decode cX7_product 16 = .ok (.getfield 17, 3) := by decide +kernel
theorem dX7_product_19 : decode cX7_product 19 = .ok (.iload_n 1, 1) := by decide +kernel
theorem dX7_product_20 : decode cX7_product 20 = .ok (.iaload, 1) := by decide +kernel
theorem dX7_product_21 : decode cX7_product 21 = .ok (.iconst 3, 1) := by decide +kernel
theorem dX7_product_22 : decode cX7_product 22 = .ok (.if_icmp .ne 7, 3) := by decide +kernel
theorem dX7_product_25 : decode cX7_product 25 = .ok (.iconst 2, 1) := by decide +kernel
theorem dX7_product_26 : decode cX7_product 26 = .ok (.goto 4, 3) := by decide +kernel
theorem dX7_product_29 : decode cX7_product 29 = .ok (.iconst 0, 1) := by decide +kernel
theorem dX7_product_30 : decode cX7_product 30 = .ok (.invokevirtual 58, 3) := by decide +kernel
theorem dX7_product_33 : decode cX7_product 33 = .ok (.ifCond .ne 5, 3) := by decide +kernel
theorem dX7_product_36 : decode cX7_product 36 = .ok (.iconst 0, 1) := by decide +kernel
theorem dX7_product_37 : decode cX7_product 37 = .ok (.ireturn, 1) := by decide +kernel
theorem dX7_product_38 : decode cX7_product 38 = .ok (.aload_n 0, 1) := by decide +kernel
theorem dX7_product_39 : decode cX7_product 39 = .ok (.getfield 17, 3) := by decide +kernel
theorem dX7_product_42 : decode cX7_product 42 = .ok (.iload_n 1, 1) := by decide +kernel
theorem dX7_product_43 : decode cX7_product 43 = .ok (.dup2, 1) := by decide +kernel
theorem dX7_product_44 : decode cX7_product 44 = .ok (.iaload, 1) := by decide +kernel
theorem dX7_product_45 : decode cX7_product 45 = .ok (.iconst 1, 1) := by decide +kernel
theorem dX7_product_46 : decode cX7_product 46 = .ok (.iadd, 1) := by decide +kernel
theorem dX7_product_47 : decode cX7_product 47 = .ok (.iastore, 1) := by decide +kernel
theorem dX7_product_48 : decode cX7_product 48 = .ok (.aload_n 0, 1) := by decide +kernel
theorem dX7_product_49 : decode cX7_product 49 = .ok (.getfield 17, 3) := by decide +kernel
theorem dX7_product_52 : decode cX7_product 52 = .ok (.iload_n 1, 1) := by decide +kernel
theorem dX7_product_53 : decode cX7_product 53 = .ok (.iaload, 1) := by decide +kernel
theorem dX7_product_54 : decode cX7_product 54 = .ok (.ireturn, 1) := by decide +kernel
set_option maxRecDepth 20000 in
theorem ggX7_test_X7_isQuestion : GoodIn wsX7_test wsX7_isQuestion := goodIn_r _ [11, 12, 13, 14, 15, 10, 16, 28, 29, 30, 31, 32, 33, 34, 35, 36, 37, 38, 39, 40, 41, 42] (by decide +kernel) (by decide +kernel)
set_option maxRecDepth 20000 in
theorem gX7_test_X7_isQuestion : GoodIn wsX7_test (wsV RX7 62 RX7 yX7_isQuestion wsX7_isQuestion) := goodIn_app (goodIn_of _ (by decide +kernel)) ggX7_test_X7_isQuestion
set_option maxRecDepth 20000 in
theorem ggX7_test_X7_isName : GoodIn wsX7_test wsX7_isName := goodIn_r _ [19, 14, 15, 10, 16] (by decide +kernel) (by decide +kernel)
set_option maxRecDepth 20000 in
theorem gX7_test_X7_isName : GoodIn wsX7_test (va_wsS RX7 65 yX7_isName wsX7_isName) := goodIn_app (goodIn_of _ (by decide +kernel)) ggX7_test_X7_isName
set_option maxRecDepth 20000 in
theorem ggX7_test_X7_isRange : GoodIn wsX7_test wsX7_isRange := goodIn_r _ [22, 14, 15, 10, 16] (by decide +kernel) (by decide +kernel)
set_option maxRecDepth 20000 in
theorem gX7_test_X7_isRange : GoodIn wsX7_test (va_wsS RX7 68 yX7_isRange wsX7_isRange) := goodIn_app (goodIn_of _ (by decide +kernel)) ggX7_test_X7_isRange
set_option maxRecDepth 20000 in
theorem ggX7_test_X7_holds : GoodIn wsX7_test wsX7_holds := goodIn_r _ [26, 27, 28, 29, 30, 31, 32, 33, 34, 35, 36, 37, 38, 39, 40, 41, 42] (by decide +kernel) (by decide +kernel)
set_option maxRecDepth 20000 in
theorem gX7_test_X7_holds : GoodIn wsX7_test (wsV RX7 58 RX7 yX7_holds wsX7_holds) := goodIn_app (goodIn_of _ (by decide +kernel)) ggX7_test_X7_holds
theorem dX7_test_0 : decode cX7_test 0 = .ok (.aload_n 0, 1) := by decide +kernel
theorem dX7_test_1 : decode cX7_test 1 = .ok (.iload_n 1, 1) := by decide +kernel
theorem dX7_test_2 : decode cX7_test 2 = .ok (.invokevirtual 62, 3) := by decide +kernel
theorem dX7_test_5 : decode cX7_test 5 = .ok (.ifCond .eq 14, 3) := by decide +kernel
theorem dX7_test_8 : decode cX7_test 8 = .ok (.iload_n 2, 1) := by decide +kernel
theorem dX7_test_9 : decode cX7_test 9 = .ok (.invokestatic 65, 3) := by decide +kernel
theorem dX7_test_12 : decode cX7_test 12 = .ok (.ifCond .eq 7, 3) := by decide +kernel
theorem dX7_test_15 : decode cX7_test 15 = .ok (.iconst 1, 1) := by decide +kernel
theorem dX7_test_16 : decode cX7_test 16 = .ok (.goto 4, 3) := by decide +kernel
theorem dX7_test_19 : decode cX7_test 19 = .ok (.iconst 0, 1) := by decide +kernel
theorem dX7_test_20 : decode cX7_test 20 = .ok (.istore 6, 2) := by decide +kernel
theorem dX7_test_22 : decode cX7_test 22 = .ok (.iload 6, 2) := by decide +kernel
theorem dX7_test_24 : decode cX7_test 24 = .ok (.ifCond .eq 18, 3) := by decide +kernel
theorem dX7_test_27 : decode cX7_test 27 = .ok (.iconst 3, 1) := by decide +kernel
theorem dX7_test_28 : decode cX7_test 28 = .ok (.iload_n 1, 1) := by decide +kernel
theorem dX7_test_29 : decode cX7_test 29 = .ok (.imul, 1) := by decide +kernel
theorem dX7_test_30 : decode cX7_test 30 = .ok (.aload_n 0, 1) := by decide +kernel
theorem dX7_test_31 : decode cX7_test 31 = .ok (.getfield 17, 3) := by decide +kernel
theorem dX7_test_34 : decode cX7_test 34 = .ok (.iload_n 1, 1) := by decide +kernel
theorem dX7_test_35 : decode cX7_test 35 = .ok (.iaload, 1) := by decide +kernel
theorem dX7_test_36 : decode cX7_test 36 = .ok (.iadd, 1) := by decide +kernel
theorem dX7_test_37 : decode cX7_test 37 = .ok (.iconst 1, 1) := by decide +kernel
theorem dX7_test_38 : decode cX7_test 38 = .ok (.isub, 1) := by decide +kernel
theorem dX7_test_39 : decode cX7_test 39 = .ok (.goto 4, 3) := by decide +kernel
theorem dX7_test_42 : decode cX7_test 42 = .ok (.iconst 0, 1) := by decide +kernel
theorem dX7_test_43 : decode cX7_test 43 = .ok (.istore 7, 2) := by decide +kernel
theorem dX7_test_45 : decode cX7_test 45 = .ok (.iload 6, 2) := by decide +kernel
theorem dX7_test_47 : decode cX7_test 47 = .ok (.ifCond .eq 27, 3) := by decide +kernel
theorem dX7_test_50 : decode cX7_test 50 = .ok (.aload_n 0, 1) := by decide +kernel
theorem dX7_test_51 : decode cX7_test 51 = .ok (.getfield 17, 3) := by decide +kernel
theorem dX7_test_54 : decode cX7_test 54 = .ok (.iload_n 1, 1) := by decide +kernel
theorem dX7_test_55 : decode cX7_test 55 = .ok (.iaload, 1) := by decide +kernel
theorem dX7_test_56 : decode cX7_test 56 = .ok (.ifCond .le 18, 3) := by decide +kernel
theorem dX7_test_59 : decode cX7_test 59 = .ok (.aload_n 0, 1) := by decide +kernel
theorem dX7_test_60 : decode cX7_test 60 = .ok (.getfield 32, 3) := by decide +kernel
theorem dX7_test_63 : decode cX7_test 63 = .ok (.iload 7, 2) := by decide +kernel
theorem dX7_test_65 : decode cX7_test 65 = .ok (.iaload, 1) := by decide +kernel
theorem dX7_test_66 : decode cX7_test 66 = .ok (.iconst 4, 1) := by decide +kernel
theorem dX7_test_67 : decode cX7_test 67 = .ok (.if_icmp .ge 7, 3) := by decide +kernel
theorem dX7_test_70 : decode cX7_test 70 = .ok (.iconst 1, 1) := by decide +kernel
theorem dX7_test_71 : decode cX7_test 71 = .ok (.goto 4, 3) := by decide +kernel
theorem dX7_test_74 : decode cX7_test 74 = .ok (.iconst 0, 1) := by decide +kernel
theorem dX7_test_75 : decode cX7_test 75 = .ok (.istore 8, 2) := by decide +kernel
theorem dX7_test_77 : decode cX7_test 77 = .ok (.aload_n 0, 1) := by decide +kernel
theorem dX7_test_78 : decode cX7_test 78 = .ok (.iload 6, 2) := by decide +kernel
theorem dX7_test_80 : decode cX7_test 80 = .ok (.ifCond .ne 7, 3) := by decide +kernel
theorem dX7_test_83 : decode cX7_test 83 = .ok (.iconst 1, 1) := by decide +kernel
theorem dX7_test_84 : decode cX7_test 84 = .ok (.goto 26, 3) := by decide +kernel
theorem dX7_test_87 : decode cX7_test 87 = .ok (.iload_n 3, 1) := by decide +kernel
theorem dX7_test_88 : decode cX7_test 88 = .ok (.iload 4, 2) := by decide +kernel
theorem dX7_test_90 : decode cX7_test 90 = .ok (.invokestatic 68, 3) := by decide +kernel
theorem dX7_test_93 : decode cX7_test 93 = .ok (.ifCond .ne 7, 3) := by decide +kernel
theorem dX7_test_96 : decode cX7_test 96 = .ok (.iconst 2, 1) := by decide +kernel
theorem dX7_test_97 : decode cX7_test 97 = .ok (.goto 13, 3) := by decide +kernel
theorem dX7_test_100 : decode cX7_test 100 = .ok (.iload 8, 2) := by decide +kernel
theorem dX7_test_102 : decode cX7_test 102 = .ok (.ifCond .eq 7, 3) := by decide +kernel
theorem dX7_test_105 : decode cX7_test 105 = .ok (.iconst 0, 1) := by decide +kernel
theorem dX7_test_106 : decode cX7_test 106 = .ok (.goto 4, 3) := by decide +kernel
theorem dX7_test_109 : decode cX7_test 109 = .ok (.iconst 3, 1) := by decide +kernel
theorem dX7_test_110 : decode cX7_test 110 = .ok (.invokevirtual 58, 3) := by decide +kernel
theorem dX7_test_113 : decode cX7_test 113 = .ok (.ifCond .ne 5, 3) := by decide +kernel
theorem dX7_test_116 : decode cX7_test 116 = .ok (.iconst 0, 1) := by decide +kernel
theorem dX7_test_117 : decode cX7_test 117 = .ok (.ireturn, 1) := by decide +kernel
theorem dX7_test_118 : decode cX7_test 118 = .ok (.iconst 4, 1) := by decide +kernel
theorem dX7_test_119 : decode cX7_test 119 = .ok (.iload 7, 2) := by decide +kernel
theorem dX7_test_121 : decode cX7_test 121 = .ok (.imul, 1) := by decide +kernel
theorem dX7_test_122 : decode cX7_test 122 = .ok (.aload_n 0, 1) := by decide +kernel
theorem dX7_test_123 : decode cX7_test 123 = .ok (.getfield 32, 3) := by decide +kernel
theorem dX7_test_126 : decode cX7_test 126 = .ok (.iload 7, 2) := by decide +kernel
theorem dX7_test_128 : decode cX7_test 128 = .ok (.iaload, 1) := by decide +kernel
theorem dX7_test_129 : decode cX7_test 129 = .ok (.iadd, 1) := by decide +kernel
theorem dX7_test_130 : decode cX7_test 130 = .ok (.istore 9, 2) := by decide +kernel
theorem dX7_test_132 : decode cX7_test 132 = .ok (.aload_n 0, 1) := by decide +kernel
theorem dX7_test_133 : decode cX7_test 133 = .ok (.getfield 35, 3) := by decide +kernel
theorem dX7_test_136 : decode cX7_test 136 = .ok (.iload 9, 2) := by decide +kernel
theorem dX7_test_138 : decode cX7_test 138 = .ok (.iload_n 2, 1) := by decide +kernel
theorem dX7_test_139 : decode cX7_test 139 = .ok (.iastore, 1) := by decide +kernel
theorem dX7_test_140 : decode cX7_test 140 = .ok (.aload_n 0, 1) := by decide +kernel
theorem dX7_test_141 : decode cX7_test 141 = .ok (.getfield 38, 3) := by decide +kernel
theorem dX7_test_144 : decode cX7_test 144 = .ok (.iload 9, 2) := by decide +kernel
theorem dX7_test_146 : decode cX7_test 146 = .ok (.iload_n 3, 1) := by decide +kernel
theorem dX7_test_147 : decode cX7_test 147 = .ok (.iastore, 1) := by decide +kernel
theorem dX7_test_148 : decode cX7_test 148 = .ok (.aload_n 0, 1) := by decide +kernel
theorem dX7_test_149 : decode cX7_test 149 = .ok (.getfield 41, 3) := by decide +kernel
theorem dX7_test_152 : decode cX7_test 152 = .ok (.iload 9, 2) := by decide +kernel
theorem dX7_test_154 : decode cX7_test 154 = .ok (.iload 4, 2) := by decide +kernel
theorem dX7_test_156 : decode cX7_test 156 = .ok (.iastore, 1) := by decide +kernel
theorem dX7_test_157 : decode cX7_test 157 = .ok (.aload_n 0, 1) := by decide +kernel
theorem dX7_test_158 : decode cX7_test 158 = .ok (.getfield 44, 3) := by decide +kernel
theorem dX7_test_161 : decode cX7_test 161 = .ok (.iload 9, 2) := by decide +kernel
theorem dX7_test_163 : decode cX7_test 163 = .ok (.iload 5, 2) := by decide +kernel
theorem dX7_test_165 : decode cX7_test 165 = .ok (.bastore, 1) := by decide +kernel
theorem dX7_test_166 : decode cX7_test 166 = .ok (.aload_n 0, 1) := by decide +kernel
theorem dX7_test_167 : decode cX7_test 167 = .ok (.getfield 32, 3) := by decide +kernel
theorem dX7_test_170 : decode cX7_test 170 = .ok (.iload 7, 2) := by decide +kernel
theorem dX7_test_172 : decode cX7_test 172 = .ok (.dup2, 1) := by decide +kernel
theorem dX7_test_173 : decode cX7_test 173 = .ok (.iaload, 1) := by decide +kernel
theorem dX7_test_174 : decode cX7_test 174 = .ok (.iconst 1, 1) := by decide +kernel
theorem dX7_test_175 : decode cX7_test 175 = .ok (.iadd, 1) := by decide +kernel
theorem dX7_test_176 : decode cX7_test 176 = .ok (.iastore, 1) := by decide +kernel
theorem dX7_test_177 : decode cX7_test 177 = .ok (.aload_n 0, 1) := by decide +kernel
theorem dX7_test_178 : decode cX7_test 178 = .ok (.getfield 32, 3) := by decide +kernel
theorem dX7_test_181 : decode cX7_test 181 = .ok (.iload 7, 2) := by decide +kernel
theorem dX7_test_183 : decode cX7_test 183 = .ok (.iaload, 1) := by decide +kernel
theorem dX7_test_184 : decode cX7_test 184 = .ok (.ireturn, 1) := by decide +kernel
set_option maxRecDepth 20000 in
theorem ggX7_drop_X7_isQuestion : GoodIn wsX7_drop wsX7_isQuestion := goodIn_r _ [7, 8, 1, 9, 10, 6, 11, 17, 18, 19, 20, 21, 22, 23, 24, 25, 26, 27, 28, 29, 30, 31] (by decide +kernel) (by decide +kernel)
set_option maxRecDepth 20000 in
theorem gX7_drop_X7_isQuestion : GoodIn wsX7_drop (wsV RX7 62 RX7 yX7_isQuestion wsX7_isQuestion) := goodIn_app (goodIn_of _ (by decide +kernel)) ggX7_drop_X7_isQuestion
set_option maxRecDepth 20000 in
theorem ggX7_drop_X7_holds : GoodIn wsX7_drop wsX7_holds := goodIn_r _ [15, 16, 17, 18, 19, 20, 21, 22, 23, 24, 25, 26, 27, 28, 29, 30, 31] (by decide +kernel) (by decide +kernel)
set_option maxRecDepth 20000 in
theorem gX7_drop_X7_holds : GoodIn wsX7_drop (wsV RX7 58 RX7 yX7_holds wsX7_holds) := goodIn_app (goodIn_of _ (by decide +kernel)) ggX7_drop_X7_holds
theorem dX7_drop_0 : decode cX7_drop 0 = .ok (.aload_n 0, 1) := by decide +kernel
theorem dX7_drop_1 : decode cX7_drop 1 = .ok (.aload_n 0, 1) := by decide +kernel
theorem dX7_drop_2 : decode cX7_drop 2 = .ok (.iload_n 1, 1) := by decide +kernel
theorem dX7_drop_3 : decode cX7_drop 3 = .ok (.invokevirtual 62, 3) := by decide +kernel
theorem dX7_drop_6 : decode cX7_drop 6 = .ok (.ifCond .eq 7, 3) := by decide +kernel
theorem dX7_drop_9 : decode cX7_drop 9 = .ok (.iconst 0, 1) := by decide +kernel
theorem dX7_drop_10 : decode cX7_drop 10 = .ok (.goto 4, 3) := by decide +kernel
theorem dX7_drop_13 : decode cX7_drop 13 = .ok (.iconst 1, 1) := by decide +kernel
theorem dX7_drop_14 : decode cX7_drop 14 = .ok (.invokevirtual 58, 3) := by decide +kernel
theorem dX7_drop_17 : decode cX7_drop 17 = .ok (.ifCond .ne 5, 3) := by decide +kernel
theorem dX7_drop_20 : decode cX7_drop 20 = .ok (.iconst 0, 1) := by decide +kernel
theorem dX7_drop_21 : decode cX7_drop 21 = .ok (.ireturn, 1) := by decide +kernel
theorem dX7_drop_22 : decode cX7_drop 22 = .ok (.aload_n 0, 1) := by decide +kernel
theorem dX7_drop_23 : decode cX7_drop 23 = .ok (.getfield 13, 3) := by decide +kernel
theorem dX7_drop_26 : decode cX7_drop 26 = .ok (.iload_n 1, 1) := by decide +kernel
theorem dX7_drop_27 : decode cX7_drop 27 = .ok (.iconst 1, 1) := by decide +kernel
theorem dX7_drop_28 : decode cX7_drop 28 = .ok (.bastore, 1) := by decide +kernel
theorem dX7_drop_29 : decode cX7_drop 29 = .ok (.aload_n 0, 1) := by decide +kernel
theorem dX7_drop_30 : decode cX7_drop 30 = .ok (.getfield 29, 3) := by decide +kernel
theorem dX7_drop_33 : decode cX7_drop 33 = .ok (.iload_n 1, 1) := by decide +kernel
theorem dX7_drop_34 : decode cX7_drop 34 = .ok (.iaload, 1) := by decide +kernel
theorem dX7_drop_35 : decode cX7_drop 35 = .ok (.ireturn, 1) := by decide +kernel
set_option maxRecDepth 20000 in
theorem ggX7_setQuiet_X7_isQuestion : GoodIn wsX7_setQuiet wsX7_isQuestion := goodIn_r _ [6, 7, 8, 9, 10, 5, 11, 17, 18, 19, 20, 21, 22, 23, 24, 25, 26, 27, 28, 29, 30, 31] (by decide +kernel) (by decide +kernel)
set_option maxRecDepth 20000 in
theorem gX7_setQuiet_X7_isQuestion : GoodIn wsX7_setQuiet (wsV RX7 62 RX7 yX7_isQuestion wsX7_isQuestion) := goodIn_app (goodIn_of _ (by decide +kernel)) ggX7_setQuiet_X7_isQuestion
set_option maxRecDepth 20000 in
theorem ggX7_setQuiet_X7_isIn : GoodIn wsX7_setQuiet wsX7_isIn := goodIn_r _ [11] (by decide +kernel) (by decide +kernel)
set_option maxRecDepth 20000 in
theorem gX7_setQuiet_X7_isIn : GoodIn wsX7_setQuiet (va_wsS RX7 54 yX7_isIn wsX7_isIn) := goodIn_app (goodIn_of _ (by decide +kernel)) ggX7_setQuiet_X7_isIn
set_option maxRecDepth 20000 in
theorem ggX7_setQuiet_X7_holds : GoodIn wsX7_setQuiet wsX7_holds := goodIn_r _ [15, 16, 17, 18, 19, 20, 21, 22, 23, 24, 25, 26, 27, 28, 29, 30, 31] (by decide +kernel) (by decide +kernel)
set_option maxRecDepth 20000 in
theorem gX7_setQuiet_X7_holds : GoodIn wsX7_setQuiet (wsV RX7 58 RX7 yX7_holds wsX7_holds) := goodIn_app (goodIn_of _ (by decide +kernel)) ggX7_setQuiet_X7_holds
theorem dX7_setQuiet_0 : decode cX7_setQuiet 0 = .ok (.aload_n 0, 1) := by decide +kernel
theorem dX7_setQuiet_1 : decode cX7_setQuiet 1 = .ok (.iload_n 1, 1) := by decide +kernel
theorem dX7_setQuiet_2 : decode cX7_setQuiet 2 = .ok (.invokevirtual 62, 3) := by decide +kernel
theorem dX7_setQuiet_5 : decode cX7_setQuiet 5 = .ok (.istore_n 3, 1) := by decide +kernel
theorem dX7_setQuiet_6 : decode cX7_setQuiet 6 = .ok (.aload_n 0, 1) := by decide +kernel
theorem dX7_setQuiet_7 : decode cX7_setQuiet 7 = .ok (.iload_n 3, 1) := by decide +kernel
theorem dX7_setQuiet_8 : decode cX7_setQuiet 8 = .ok (.ifCond .ne 7, 3) := by decide +kernel
theorem dX7_setQuiet_11 : decode cX7_setQuiet 11 = .ok (.iconst 1, 1) := by decide +kernel
theorem dX7_setQuiet_12 : decode cX7_setQuiet 12 = .ok (.goto 19, 3) := by decide +kernel
theorem dX7_setQuiet_15 : decode cX7_setQuiet 15 = .ok (.iload_n 2, 1) := by decide +kernel
theorem dX7_setQuiet_16 : decode cX7_setQuiet 16 = .ok (.iconst 0, 1) := by decide +kernel
theorem dX7_setQuiet_17 : decode cX7_setQuiet 17 = .ok (.sipush 1000, 3) := by decide +kernel
theorem dX7_setQuiet_20 : decode cX7_setQuiet 20 = .ok (.invokestatic 54, 3) := by decide +kernel
theorem dX7_setQuiet_23 : decode cX7_setQuiet 23 = .ok (.ifCond .eq 7, 3) := by decide +kernel
theorem dX7_setQuiet_26 : decode cX7_setQuiet 26 = .ok (.iconst 0, 1) := by decide +kernel
theorem dX7_setQuiet_27 : decode cX7_setQuiet 27 = .ok (.goto 4, 3) := by decide +kernel
theorem dX7_setQuiet_30 : decode cX7_setQuiet 30 = .ok (.iconst 2, 1) := by decide +kernel
theorem dX7_setQuiet_31 : decode cX7_setQuiet 31 = .ok (.invokevirtual 58, 3) := by decide +kernel
theorem dX7_setQuiet_34 : decode cX7_setQuiet 34 = .ok (.ifCond .ne 5, 3) := by decide +kernel
theorem dX7_setQuiet_37 : decode cX7_setQuiet 37 = .ok (.iconst 0, 1) := by decide +kernel
theorem dX7_setQuiet_38 : decode cX7_setQuiet 38 = .ok (.ireturn, 1) := by decide +kernel
theorem dX7_setQuiet_39 : decode cX7_setQuiet 39 = .ok (.aload_n 0, 1) := by decide +kernel
theorem dX7_setQuiet_40 : decode cX7_setQuiet 40 = .ok (.getfield 20, 3) := by decide +kernel
theorem dX7_setQuiet_43 : decode cX7_setQuiet 43 = .ok (.iload_n 1, 1) := by decide +kernel
theorem dX7_setQuiet_44 : decode cX7_setQuiet 44 = .ok (.iaload, 1) := by decide +kernel
theorem dX7_setQuiet_45 : decode cX7_setQuiet 45 = .ok (.istore 4, 2) := by decide +kernel
theorem dX7_setQuiet_47 : decode cX7_setQuiet 47 = .ok (.aload_n 0, 1) := by decide +kernel
theorem dX7_setQuiet_48 : decode cX7_setQuiet 48 = .ok (.getfield 20, 3) := by decide +kernel
theorem dX7_setQuiet_51 : decode cX7_setQuiet 51 = .ok (.iload_n 1, 1) := by decide +kernel
theorem dX7_setQuiet_52 : decode cX7_setQuiet 52 = .ok (.iload_n 2, 1) := by decide +kernel
theorem dX7_setQuiet_53 : decode cX7_setQuiet 53 = .ok (.iastore, 1) := by decide +kernel
theorem dX7_setQuiet_54 : decode cX7_setQuiet 54 = .ok (.iload 4, 2) := by decide +kernel
theorem dX7_setQuiet_56 : decode cX7_setQuiet 56 = .ok (.ireturn, 1) := by decide +kernel
set_option maxRecDepth 20000 in
theorem ggX7_set_X7_isName : GoodIn wsX7_set wsX7_isName := goodIn_r _ [5, 6, 7, 4, 8] (by decide +kernel) (by decide +kernel)
set_option maxRecDepth 20000 in
theorem gX7_set_X7_isName : GoodIn wsX7_set (va_wsS RX7 65 yX7_isName wsX7_isName) := goodIn_app (goodIn_of _ (by decide +kernel)) ggX7_set_X7_isName
set_option maxRecDepth 20000 in
theorem ggX7_set_X7_isIn : GoodIn wsX7_set wsX7_isIn := goodIn_r _ [8] (by decide +kernel) (by decide +kernel)
set_option maxRecDepth 20000 in
theorem gX7_set_X7_isIn : GoodIn wsX7_set (va_wsS RX7 54 yX7_isIn wsX7_isIn) := goodIn_app (goodIn_of _ (by decide +kernel)) ggX7_set_X7_isIn
set_option maxRecDepth 20000 in
theorem ggX7_set_X7_holds : GoodIn wsX7_set wsX7_holds := goodIn_r _ [12, 13, 14, 15, 16, 17, 18, 19, 20, 21, 22, 23, 24, 25, 26, 27, 28] (by decide +kernel) (by decide +kernel)
set_option maxRecDepth 20000 in
theorem gX7_set_X7_holds : GoodIn wsX7_set (wsV RX7 58 RX7 yX7_holds wsX7_holds) := goodIn_app (goodIn_of _ (by decide +kernel)) ggX7_set_X7_holds
theorem dX7_set_0 : decode cX7_set 0 = .ok (.aload_n 0, 1) := by decide +kernel
theorem dX7_set_1 : decode cX7_set 1 = .ok (.iload_n 1, 1) := by decide +kernel
theorem dX7_set_2 : decode cX7_set 2 = .ok (.invokestatic 65, 3) := by decide +kernel
theorem dX7_set_5 : decode cX7_set 5 = .ok (.ifCond .ne 7, 3) := by decide +kernel
theorem dX7_set_8 : decode cX7_set 8 = .ok (.iconst 1, 1) := by decide +kernel
theorem dX7_set_9 : decode cX7_set 9 = .ok (.goto 18, 3) := by decide +kernel
theorem dX7_set_12 : decode cX7_set 12 = .ok (.iload_n 2, 1) := by decide +kernel
theorem dX7_set_13 : decode cX7_set 13 = .ok (.iconst (-1), 1) := by decide +kernel
theorem dX7_set_14 : decode cX7_set 14 = .ok (.bipush 63, 2) := by decide +kernel
theorem dX7_set_16 : decode cX7_set 16 = .ok (.invokestatic 54, 3) := by decide +kernel
theorem dX7_set_19 : decode cX7_set 19 = .ok (.ifCond .eq 7, 3) := by decide +kernel
theorem dX7_set_22 : decode cX7_set 22 = .ok (.iconst 0, 1) := by decide +kernel
theorem dX7_set_23 : decode cX7_set 23 = .ok (.goto 4, 3) := by decide +kernel
theorem dX7_set_26 : decode cX7_set 26 = .ok (.iconst 2, 1) := by decide +kernel
theorem dX7_set_27 : decode cX7_set 27 = .ok (.invokevirtual 58, 3) := by decide +kernel
theorem dX7_set_30 : decode cX7_set 30 = .ok (.ifCond .ne 5, 3) := by decide +kernel
theorem dX7_set_33 : decode cX7_set 33 = .ok (.iconst 0, 1) := by decide +kernel
theorem dX7_set_34 : decode cX7_set 34 = .ok (.ireturn, 1) := by decide +kernel
theorem dX7_set_35 : decode cX7_set 35 = .ok (.aload_n 0, 1) := by decide +kernel
theorem dX7_set_36 : decode cX7_set 36 = .ok (.getfield 7, 3) := by decide +kernel
theorem dX7_set_39 : decode cX7_set 39 = .ok (.iload_n 1, 1) := by decide +kernel
theorem dX7_set_40 : decode cX7_set 40 = .ok (.iaload, 1) := by decide +kernel
theorem dX7_set_41 : decode cX7_set 41 = .ok (.istore_n 3, 1) := by decide +kernel
theorem dX7_set_42 : decode cX7_set 42 = .ok (.aload_n 0, 1) := by decide +kernel
theorem dX7_set_43 : decode cX7_set 43 = .ok (.getfield 7, 3) := by decide +kernel
theorem dX7_set_46 : decode cX7_set 46 = .ok (.iload_n 1, 1) := by decide +kernel
theorem dX7_set_47 : decode cX7_set 47 = .ok (.iload_n 2, 1) := by decide +kernel
theorem dX7_set_48 : decode cX7_set 48 = .ok (.iastore, 1) := by decide +kernel
theorem dX7_set_49 : decode cX7_set 49 = .ok (.iload_n 3, 1) := by decide +kernel
theorem dX7_set_50 : decode cX7_set 50 = .ok (.ireturn, 1) := by decide +kernel
theorem dX7_isTrue_0 : decode cX7_isTrue 0 = .ok (.aload_n 0, 1) := by decide +kernel
theorem dX7_isTrue_1 : decode cX7_isTrue 1 = .ok (.getfield 7, 3) := by decide +kernel
theorem dX7_isTrue_4 : decode cX7_isTrue 4 = .ok (.aload_n 0, 1) := by decide +kernel
theorem dX7_isTrue_5 : decode cX7_isTrue 5 = .ok (.getfield 35, 3) := by decide +kernel
theorem dX7_isTrue_8 : decode cX7_isTrue 8 = .ok (.iload_n 1, 1) := by decide +kernel
theorem dX7_isTrue_9 : decode cX7_isTrue 9 = .ok (.iaload, 1) := by decide +kernel
theorem dX7_isTrue_10 : decode cX7_isTrue 10 = .ok (.iaload, 1) := by decide +kernel
theorem dX7_isTrue_11 : decode cX7_isTrue 11 = .ok (.istore_n 2, 1) := by decide +kernel
theorem dX7_isTrue_12 : decode cX7_isTrue 12 = .ok (.iload_n 2, 1) := by decide +kernel
theorem dX7_isTrue_13 : decode cX7_isTrue 13 = .ok (.iconst (-1), 1) := by decide +kernel
theorem dX7_isTrue_14 : decode cX7_isTrue 14 = .ok (.if_icmp .eq 27, 3) := by decide +kernel
theorem dX7_isTrue_17 : decode cX7_isTrue 17 = .ok (.iload_n 2, 1) := by decide +kernel
theorem dX7_isTrue_18 : decode cX7_isTrue 18 = .ok (.aload_n 0, 1) := by decide +kernel
theorem dX7_isTrue_19 : decode cX7_isTrue 19 = .ok (.getfield 38, 3) := by decide +kernel
theorem dX7_isTrue_22 : decode cX7_isTrue 22 = .ok (.iload_n 1, 1) := by decide +kernel
theorem dX7_isTrue_23 : decode cX7_isTrue 23 = .ok (.iaload, 1) := by decide +kernel
theorem dX7_isTrue_24 : decode cX7_isTrue 24 = .ok (.if_icmp .lt 17, 3) := by decide +kernel
theorem dX7_isTrue_27 : decode cX7_isTrue 27 = .ok (.iload_n 2, 1) := by decide +kernel
theorem dX7_isTrue_28 : decode cX7_isTrue 28 = .ok (.aload_n 0, 1) := by decide +kernel
theorem dX7_isTrue_29 : decode cX7_isTrue 29 = .ok (.getfield 41, 3) := by decide +kernel
theorem dX7_isTrue_32 : decode cX7_isTrue 32 = .ok (.iload_n 1, 1) := by decide +kernel
theorem dX7_isTrue_33 : decode cX7_isTrue 33 = .ok (.iaload, 1) := by decide +kernel
theorem dX7_isTrue_34 : decode cX7_isTrue 34 = .ok (.if_icmp .gt 7, 3) := by decide +kernel
theorem dX7_isTrue_37 : decode cX7_isTrue 37 = .ok (.iconst 1, 1) := by decide +kernel
theorem dX7_isTrue_38 : decode cX7_isTrue 38 = .ok (.goto 4, 3) := by decide +kernel
theorem dX7_isTrue_41 : decode cX7_isTrue 41 = .ok (.iconst 0, 1) := by decide +kernel
theorem dX7_isTrue_42 : decode cX7_isTrue 42 = .ok (.istore_n 3, 1) := by decide +kernel
theorem dX7_isTrue_43 : decode cX7_isTrue 43 = .ok (.iload_n 3, 1) := by decide +kernel
theorem dX7_isTrue_44 : decode cX7_isTrue 44 = .ok (.aload_n 0, 1) := by decide +kernel
theorem dX7_isTrue_45 : decode cX7_isTrue 45 = .ok (.getfield 44, 3) := by decide +kernel
theorem dX7_isTrue_48 : decode cX7_isTrue 48 = .ok (.iload_n 1, 1) := by decide +kernel
theorem dX7_isTrue_49 : decode cX7_isTrue 49 = .ok (.baload, 1) := by decide +kernel
theorem dX7_isTrue_50 : decode cX7_isTrue 50 = .ok (.if_icmp .eq 7, 3) := by decide +kernel
theorem dX7_isTrue_53 : decode cX7_isTrue 53 = .ok (.iconst 1, 1) := by decide +kernel
theorem dX7_isTrue_54 : decode cX7_isTrue 54 = .ok (.goto 4, 3) := by decide +kernel
theorem dX7_isTrue_57 : decode cX7_isTrue 57 = .ok (.iconst 0, 1) := by decide +kernel
theorem dX7_isTrue_58 : decode cX7_isTrue 58 = .ok (.ireturn, 1) := by decide +kernel
set_option maxRecDepth 20000 in
theorem ggX7_does_X7_isTrue : GoodIn wsX7_does wsX7_isTrue := goodIn_r _ [7, 8, 9, 10, 11, 12, 13, 14, 15, 16, 17, 18, 19, 20, 21, 22, 23, 24, 25, 26, 27] (by decide +kernel) (by decide +kernel)
set_option maxRecDepth 20000 in
theorem gX7_does_X7_isTrue : GoodIn wsX7_does (wsV RX7 72 RX7 yX7_isTrue wsX7_isTrue) := goodIn_app (goodIn_of _ (by decide +kernel)) ggX7_does_X7_isTrue
theorem dX7_does_0 : decode cX7_does 0 = .ok (.iconst 0, 1) := by decide +kernel
theorem dX7_does_1 : decode cX7_does 1 = .ok (.istore_n 2, 1) := by decide +kernel
theorem dX7_does_2 : decode cX7_does 2 = .ok (.iconst 3, 1) := by decide +kernel
theorem dX7_does_3 : decode cX7_does 3 = .ok (.iload_n 1, 1) := by decide +kernel
theorem dX7_does_4 : decode cX7_does 4 = .ok (.imul, 1) := by decide +kernel
theorem dX7_does_5 : decode cX7_does 5 = .ok (.istore_n 3, 1) := by decide +kernel
theorem dX7_does_6 : decode cX7_does 6 = .ok (.iload_n 3, 1) := by decide +kernel
theorem dX7_does_7 : decode cX7_does 7 = .ok (.iconst 3, 1) := by decide +kernel
theorem dX7_does_8 : decode cX7_does 8 = .ok (.iload_n 1, 1) := by decide +kernel
theorem dX7_does_9 : decode cX7_does 9 = .ok (.imul, 1) := by decide +kernel
theorem dX7_does_10 : decode cX7_does 10 = .ok (.aload_n 0, 1) := by decide +kernel
theorem dX7_does_11 : decode cX7_does 11 = .ok (.getfield 17, 3) := by decide +kernel
theorem dX7_does_14 : decode cX7_does 14 = .ok (.iload_n 1, 1) := by decide +kernel
theorem dX7_does_15 : decode cX7_does 15 = .ok (.iaload, 1) := by decide +kernel
theorem dX7_does_16 : decode cX7_does 16 = .ok (.iadd, 1) := by decide +kernel
theorem dX7_does_17 : decode cX7_does 17 = .ok (.if_icmp .ge 74, 3) := by decide +kernel
theorem dX7_does_20 : decode cX7_does 20 = .ok (.iconst 1, 1) := by decide +kernel
theorem dX7_does_21 : decode cX7_does 21 = .ok (.istore 4, 2) := by decide +kernel
theorem dX7_does_23 : decode cX7_does 23 = .ok (.iconst 4, 1) := by decide +kernel
theorem dX7_does_24 : decode cX7_does 24 = .ok (.iload_n 3, 1) := by decide +kernel
theorem dX7_does_25 : decode cX7_does 25 = .ok (.imul, 1) := by decide +kernel
theorem dX7_does_26 : decode cX7_does 26 = .ok (.istore 5, 2) := by decide +kernel
theorem dX7_does_28 : decode cX7_does 28 = .ok (.iload 5, 2) := by decide +kernel
theorem dX7_does_30 : decode cX7_does 30 = .ok (.iconst 4, 1) := by decide +kernel
theorem dX7_does_31 : decode cX7_does 31 = .ok (.iload_n 3, 1) := by decide +kernel
theorem dX7_does_32 : decode cX7_does 32 = .ok (.imul, 1) := by decide +kernel
theorem dX7_does_33 : decode cX7_does 33 = .ok (.aload_n 0, 1) := by decide +kernel
theorem dX7_does_34 : decode cX7_does 34 = .ok (.getfield 32, 3) := by decide +kernel
theorem dX7_does_37 : decode cX7_does 37 = .ok (.iload_n 3, 1) := by decide +kernel
theorem dX7_does_38 : decode cX7_does 38 = .ok (.iaload, 1) := by decide +kernel
theorem dX7_does_39 : decode cX7_does 39 = .ok (.iadd, 1) := by decide +kernel
theorem dX7_does_40 : decode cX7_does 40 = .ok (.if_icmp .ge 30, 3) := by decide +kernel
theorem dX7_does_43 : decode cX7_does 43 = .ok (.iload 4, 2) := by decide +kernel
theorem dX7_does_45 : decode cX7_does 45 = .ok (.ifCond .eq 16, 3) := by decide +kernel
theorem dX7_does_48 : decode cX7_does 48 = .ok (.aload_n 0, 1) := by decide +kernel
theorem dX7_does_49 : decode cX7_does 49 = .ok (.iload 5, 2) := by decide +kernel
theorem dX7_does_51 : decode cX7_does 51 = .ok (.invokevirtual 72, 3) := by decide +kernel
theorem dX7_does_54 : decode cX7_does 54 = .ok (.ifCond .eq 7, 3) := by decide +kernel
theorem dX7_does_57 : decode cX7_does 57 = .ok (.iconst 1, 1) := by decide +kernel
theorem dX7_does_58 : decode cX7_does 58 = .ok (.goto 4, 3) := by decide +kernel
theorem dX7_does_61 : decode cX7_does 61 = .ok (.iconst 0, 1) := by decide +kernel
theorem dX7_does_62 : decode cX7_does 62 = .ok (.istore 4, 2) := by decide +kernel
theorem dX7_does_64 : decode cX7_does 64 = .ok (.iinc 5 1, 3) := by decide +kernel
theorem dX7_does_67 : decode cX7_does 67 = .ok (.goto (-39), 3) := by decide +kernel
theorem dX7_does_70 : decode cX7_does 70 = .ok (.iload_n 2, 1) := by decide +kernel
theorem dX7_does_71 : decode cX7_does 71 = .ok (.ifCond .ne 8, 3) := by decide +kernel
theorem dX7_does_74 : decode cX7_does 74 = .ok (.iload 4, 2) := by decide +kernel
theorem dX7_does_76 : decode cX7_does 76 = .ok (.ifCond .eq 7, 3) := by decide +kernel
theorem dX7_does_79 : decode cX7_does 79 = .ok (.iconst 1, 1) := by decide +kernel
theorem dX7_does_80 : decode cX7_does 80 = .ok (.goto 4, 3) := by decide +kernel
theorem dX7_does_83 : decode cX7_does 83 = .ok (.iconst 0, 1) := by decide +kernel
theorem dX7_does_84 : decode cX7_does 84 = .ok (.istore_n 2, 1) := by decide +kernel
theorem dX7_does_85 : decode cX7_does 85 = .ok (.iinc 3 1, 3) := by decide +kernel
theorem dX7_does_88 : decode cX7_does 88 = .ok (.goto (-82), 3) := by decide +kernel
theorem dX7_does_91 : decode cX7_does 91 = .ok (.iload_n 2, 1) := by decide +kernel
theorem dX7_does_92 : decode cX7_does 92 = .ok (.ireturn, 1) := by decide +kernel
theorem dX7_quietNow_0 : decode cX7_quietNow 0 = .ok (.aload_n 0, 1) := by decide +kernel
theorem dX7_quietNow_1 : decode cX7_quietNow 1 = .ok (.getfield 75, 3) := by decide +kernel
theorem dX7_quietNow_4 : decode cX7_quietNow 4 = .ok (.aload_n 0, 1) := by decide +kernel
theorem dX7_quietNow_5 : decode cX7_quietNow 5 = .ok (.getfield 23, 3) := by decide +kernel
theorem dX7_quietNow_8 : decode cX7_quietNow 8 = .ok (.iload_n 1, 1) := by decide +kernel
theorem dX7_quietNow_9 : decode cX7_quietNow 9 = .ok (.iaload, 1) := by decide +kernel
theorem dX7_quietNow_10 : decode cX7_quietNow 10 = .ok (.if_icmp .ge 7, 3) := by decide +kernel
theorem dX7_quietNow_13 : decode cX7_quietNow 13 = .ok (.iconst 1, 1) := by decide +kernel
theorem dX7_quietNow_14 : decode cX7_quietNow 14 = .ok (.goto 4, 3) := by decide +kernel
theorem dX7_quietNow_17 : decode cX7_quietNow 17 = .ok (.iconst 0, 1) := by decide +kernel
theorem dX7_quietNow_18 : decode cX7_quietNow 18 = .ok (.ireturn, 1) := by decide +kernel
theorem dX7_raises_0 : decode cX7_raises 0 = .ok (.aload_n 0, 1) := by decide +kernel
theorem dX7_raises_1 : decode cX7_raises 1 = .ok (.getfield 26, 3) := by decide +kernel
theorem dX7_raises_4 : decode cX7_raises 4 = .ok (.iload_n 1, 1) := by decide +kernel
theorem dX7_raises_5 : decode cX7_raises 5 = .ok (.dup2, 1) := by decide +kernel
theorem dX7_raises_6 : decode cX7_raises 6 = .ok (.iaload, 1) := by decide +kernel
theorem dX7_raises_7 : decode cX7_raises 7 = .ok (.iconst 1, 1) := by decide +kernel
theorem dX7_raises_8 : decode cX7_raises 8 = .ok (.iadd, 1) := by decide +kernel
theorem dX7_raises_9 : decode cX7_raises 9 = .ok (.iastore, 1) := by decide +kernel
theorem dX7_raises_10 : decode cX7_raises 10 = .ok (.aload_n 0, 1) := by decide +kernel
theorem dX7_raises_11 : decode cX7_raises 11 = .ok (.getfield 23, 3) := by decide +kernel
theorem dX7_raises_14 : decode cX7_raises 14 = .ok (.iload_n 1, 1) := by decide +kernel
theorem dX7_raises_15 : decode cX7_raises 15 = .ok (.aload_n 0, 1) := by decide +kernel
theorem dX7_raises_16 : decode cX7_raises 16 = .ok (.getfield 75, 3) := by decide +kernel
theorem dX7_raises_19 : decode cX7_raises 19 = .ok (.aload_n 0, 1) := by decide +kernel
theorem dX7_raises_20 : decode cX7_raises 20 = .ok (.getfield 20, 3) := by decide +kernel
theorem dX7_raises_23 : decode cX7_raises 23 = .ok (.iload_n 1, 1) := by decide +kernel
theorem dX7_raises_24 : decode cX7_raises 24 = .ok (.iaload, 1) := by decide +kernel
theorem dX7_raises_25 : decode cX7_raises 25 = .ok (.iadd, 1) := by decide +kernel
theorem dX7_raises_26 : decode cX7_raises 26 = .ok (.iastore, 1) := by decide +kernel
theorem dX7_raises_27 : decode cX7_raises 27 = .ok (.return_, 1) := by decide +kernel
set_option maxRecDepth 20000 in
theorem ggX7_come_X7_isQuestion : GoodIn wsX7_come wsX7_isQuestion := goodIn_r _ [8, 2, 9, 10, 11, 7, 12, 40, 41, 42, 43, 44, 45, 46, 47, 48, 49, 50, 51, 52, 53, 54] (by decide +kernel) (by decide +kernel)
set_option maxRecDepth 20000 in
theorem gX7_come_X7_isQuestion : GoodIn wsX7_come (wsV RX7 62 RX7 yX7_isQuestion wsX7_isQuestion) := goodIn_app (goodIn_of _ (by decide +kernel)) ggX7_come_X7_isQuestion
set_option maxRecDepth 20000 in
theorem ggX7_come_X7_does : GoodIn wsX7_come wsX7_does := goodIn_r _ [16, 17, 18, 19, 20, 21, 7, 22, 23, 24, 25, 26, 27, 40, 41, 42, 43, 44, 45, 46, 47, 48, 49, 50, 51, 52, 53, 54] (by decide +kernel) (by decide +kernel)
set_option maxRecDepth 20000 in
theorem gX7_come_X7_does : GoodIn wsX7_come (wsV RX7 78 RX7 yX7_does wsX7_does) := goodIn_app (goodIn_of _ (by decide +kernel)) ggX7_come_X7_does
set_option maxRecDepth 20000 in
theorem ggX7_come_X7_quietNow : GoodIn wsX7_come wsX7_quietNow := goodIn_r _ [31, 32, 33, 40, 41, 42, 43, 44, 45, 46, 47, 48, 49, 50, 51, 52, 53, 54] (by decide +kernel) (by decide +kernel)
set_option maxRecDepth 20000 in
theorem gX7_come_X7_quietNow : GoodIn wsX7_come (wsV RX7 81 RX7 yX7_quietNow wsX7_quietNow) := goodIn_app (goodIn_of _ (by decide +kernel)) ggX7_come_X7_quietNow
set_option maxRecDepth 20000 in
theorem ggX7_come_X7_raises : GoodIn wsX7_come wsX7_raises := goodIn_r _ [37, 38, 33, 32, 39, 40, 41, 42, 43, 44, 45, 46, 47, 48, 49, 50, 51, 52, 53, 54] (by decide +kernel) (by decide +kernel)
set_option maxRecDepth 20000 in
theorem gX7_come_X7_raises : GoodIn wsX7_come (wsV RX7 84 RX7 yX7_raises wsX7_raises) := goodIn_app (goodIn_of _ (by decide +kernel)) ggX7_come_X7_raises
theorem dX7_come_0 : decode cX7_come 0 = .ok (.aload_n 0, 1) := by decide +kernel
theorem dX7_come_1 : decode cX7_come 1 = .ok (.iconst 0, 1) := by decide +kernel
theorem dX7_come_2 : decode cX7_come 2 = .ok (.putfield 47, 3) := by decide +kernel
theorem dX7_come_5 : decode cX7_come 5 = .ok (.iconst 0, 1) := by decide +kernel
theorem dX7_come_6 : decode cX7_come 6 = .ok (.istore_n 1, 1) := by decide +kernel
theorem dX7_come_7 : decode cX7_come 7 = .ok (.iconst 0, 1) := by decide +kernel
theorem dX7_come_8 : decode cX7_come 8 = .ok (.istore_n 2, 1) := by decide +kernel
theorem dX7_come_9 : decode cX7_come 9 = .ok (.iload_n 2, 1) := by decide +kernel
theorem dX7_come_10 : decode cX7_come 10 = .ok (.aload_n 0, 1) := by decide +kernel
theorem dX7_come_11 : decode cX7_come 11 = .ok (.getfield 51, 3) := by decide +kernel
theorem dX7_come_14 : decode cX7_come 14 = .ok (.if_icmp .ge 57, 3) := by decide +kernel
theorem dX7_come_17 : decode cX7_come 17 = .ok (.aload_n 0, 1) := by decide +kernel
theorem dX7_come_18 : decode cX7_come 18 = .ok (.iload_n 2, 1) := by decide +kernel
theorem dX7_come_19 : decode cX7_come 19 = .ok (.invokevirtual 62, 3) := by decide +kernel
theorem dX7_come_22 : decode cX7_come 22 = .ok (.ifCond .eq 43, 3) := by decide +kernel
theorem dX7_come_25 : decode cX7_come 25 = .ok (.aload_n 0, 1) := by decide +kernel
theorem dX7_come_26 : decode cX7_come 26 = .ok (.iload_n 2, 1) := by decide +kernel
theorem dX7_come_27 : decode cX7_come 27 = .ok (.invokevirtual 78, 3) := by decide +kernel
theorem dX7_come_30 : decode cX7_come 30 = .ok (.ifCond .eq 35, 3) := by decide +kernel
theorem dX7_come_33 : decode cX7_come 33 = .ok (.aload_n 0, 1) := by decide +kernel
theorem dX7_come_34 : decode cX7_come 34 = .ok (.iload_n 2, 1) := by decide +kernel
theorem dX7_come_35 : decode cX7_come 35 = .ok (.invokevirtual 81, 3) := by decide +kernel
theorem dX7_come_38 : decode cX7_come 38 = .ok (.ifCond .eq 16, 3) := by decide +kernel
theorem dX7_come_41 : decode cX7_come 41 = .ok (.aload_n 0, 1) := by decide +kernel
theorem dX7_come_42 : decode cX7_come 42 = .ok (.getfield 29, 3) := by decide +kernel
theorem dX7_come_45 : decode cX7_come 45 = .ok (.iload_n 2, 1) := by decide +kernel
theorem dX7_come_46 : decode cX7_come 46 = .ok (.dup2, 1) := by decide +kernel
theorem dX7_come_47 : decode cX7_come 47 = .ok (.iaload, 1) := by decide +kernel
theorem dX7_come_48 : decode cX7_come 48 = .ok (.iconst 1, 1) := by decide +kernel
theorem dX7_come_49 : decode cX7_come 49 = .ok (.iadd, 1) := by decide +kernel
theorem dX7_come_50 : decode cX7_come 50 = .ok (.iastore, 1) := by decide +kernel
theorem dX7_come_51 : decode cX7_come 51 = .ok (.goto 14, 3) := by decide +kernel
theorem dX7_come_54 : decode cX7_come 54 = .ok (.aload_n 0, 1) := by decide +kernel
theorem dX7_come_55 : decode cX7_come 55 = .ok (.iload_n 2, 1) := by decide +kernel
theorem dX7_come_56 : decode cX7_come 56 = .ok (.invokevirtual 84, 3) := by decide +kernel
theorem dX7_come_59 : decode cX7_come 59 = .ok (.iload_n 1, 1) := by decide +kernel
theorem dX7_come_60 : decode cX7_come 60 = .ok (.iconst 1, 1) := by decide +kernel
theorem dX7_come_61 : decode cX7_come 61 = .ok (.iload_n 2, 1) := by decide +kernel
theorem dX7_come_62 : decode cX7_come 62 = .ok (.ishl, 1) := by decide +kernel
theorem dX7_come_63 : decode cX7_come 63 = .ok (.ior, 1) := by decide +kernel
theorem dX7_come_64 : decode cX7_come 64 = .ok (.istore_n 1, 1) := by decide +kernel
theorem dX7_come_65 : decode cX7_come 65 = .ok (.iinc 2 1, 3) := by decide +kernel
theorem dX7_come_68 : decode cX7_come 68 = .ok (.goto (-59), 3) := by decide +kernel
theorem dX7_come_71 : decode cX7_come 71 = .ok (.iload_n 1, 1) := by decide +kernel
theorem dX7_come_72 : decode cX7_come 72 = .ok (.ireturn, 1) := by decide +kernel
set_option maxRecDepth 20000 in
theorem ggX7_advance_X7_isIn : GoodIn wsX7_advance wsX7_isIn := goodIn_r _ [9] (by decide +kernel) (by decide +kernel)
set_option maxRecDepth 20000 in
theorem gX7_advance_X7_isIn : GoodIn wsX7_advance (va_wsS RX7 54 yX7_isIn wsX7_isIn) := goodIn_app (goodIn_of _ (by decide +kernel)) ggX7_advance_X7_isIn
set_option maxRecDepth 20000 in
theorem ggX7_advance_X7_holds : GoodIn wsX7_advance wsX7_holds := goodIn_r _ [13, 14, 26, 27, 28, 29, 30, 31, 32, 33, 34, 35, 36, 37, 38, 39, 40] (by decide +kernel) (by decide +kernel)
set_option maxRecDepth 20000 in
theorem gX7_advance_X7_holds : GoodIn wsX7_advance (wsV RX7 58 RX7 yX7_holds wsX7_holds) := goodIn_app (goodIn_of _ (by decide +kernel)) ggX7_advance_X7_holds
set_option maxRecDepth 20000 in
theorem ggX7_advance_X7_isQuestion : GoodIn wsX7_advance wsX7_isQuestion := goodIn_r _ [18, 3, 19, 6, 7, 8, 9, 26, 27, 28, 29, 30, 31, 32, 33, 34, 35, 36, 37, 38, 39, 40] (by decide +kernel) (by decide +kernel)
set_option maxRecDepth 20000 in
theorem gX7_advance_X7_isQuestion : GoodIn wsX7_advance (wsV RX7 62 RX7 yX7_isQuestion wsX7_isQuestion) := goodIn_app (goodIn_of _ (by decide +kernel)) ggX7_advance_X7_isQuestion
set_option maxRecDepth 20000 in
theorem ggX7_advance_X7_raises : GoodIn wsX7_advance wsX7_raises := goodIn_r _ [23, 24, 4, 1, 25, 26, 27, 28, 29, 30, 31, 32, 33, 34, 35, 36, 37, 38, 39, 40] (by decide +kernel) (by decide +kernel)
set_option maxRecDepth 20000 in
theorem gX7_advance_X7_raises : GoodIn wsX7_advance (wsV RX7 84 RX7 yX7_raises wsX7_raises) := goodIn_app (goodIn_of _ (by decide +kernel)) ggX7_advance_X7_raises
theorem dX7_advance_0 : decode cX7_advance 0 = .ok (.aload_n 0, 1) := by decide +kernel
theorem dX7_advance_1 : decode cX7_advance 1 = .ok (.iload_n 1, 1) := by decide +kernel
theorem dX7_advance_2 : decode cX7_advance 2 = .ok (.iconst 1, 1) := by decide +kernel
theorem dX7_advance_3 : decode cX7_advance 3 = .ok (.sipush 1000, 3) := by decide +kernel
theorem dX7_advance_6 : decode cX7_advance 6 = .ok (.invokestatic 54, 3) := by decide +kernel
theorem dX7_advance_9 : decode cX7_advance 9 = .ok (.ifCond .ne 7, 3) := by decide +kernel
theorem dX7_advance_12 : decode cX7_advance 12 = .ok (.iconst 1, 1) := by decide +kernel
theorem dX7_advance_13 : decode cX7_advance 13 = .ok (.goto 19, 3) := by decide +kernel
theorem dX7_advance_16 : decode cX7_advance 16 = .ok (.aload_n 0, 1) := by decide +kernel
theorem dX7_advance_17 : decode cX7_advance 17 = .ok (.getfield 75, 3) := by decide +kernel
theorem dX7_advance_20 : decode cX7_advance 20 = .ok (.iload_n 1, 1) := by decide +kernel
theorem dX7_advance_21 : decode cX7_advance 21 = .ok (.iadd, 1) := by decide +kernel
theorem dX7_advance_22 : decode cX7_advance 22 = .ok (.ldc 88, 2) := by decide +kernel
theorem dX7_advance_24 : decode cX7_advance 24 = .ok (.if_icmp .le 7, 3) := by decide +kernel
theorem dX7_advance_27 : decode cX7_advance 27 = .ok (.iconst 2, 1) := by decide +kernel
theorem dX7_advance_28 : decode cX7_advance 28 = .ok (.goto 4, 3) := by decide +kernel
theorem dX7_advance_31 : decode cX7_advance 31 = .ok (.iconst 0, 1) := by decide +kernel
theorem dX7_advance_32 : decode cX7_advance 32 = .ok (.invokevirtual 58, 3) := by decide +kernel
theorem dX7_advance_35 : decode cX7_advance 35 = .ok (.ifCond .ne 5, 3) := by decide +kernel
theorem dX7_advance_38 : decode cX7_advance 38 = .ok (.iconst 0, 1) := by decide +kernel
theorem dX7_advance_39 : decode cX7_advance 39 = .ok (.ireturn, 1) := by decide +kernel
theorem dX7_advance_40 : decode cX7_advance 40 = .ok (.iconst 0, 1) := by decide +kernel
theorem dX7_advance_41 : decode cX7_advance 41 = .ok (.istore_n 2, 1) := by decide +kernel
theorem dX7_advance_42 : decode cX7_advance 42 = .ok (.iconst 0, 1) := by decide +kernel
theorem dX7_advance_43 : decode cX7_advance 43 = .ok (.istore_n 3, 1) := by decide +kernel
theorem dX7_advance_44 : decode cX7_advance 44 = .ok (.iload_n 3, 1) := by decide +kernel
theorem dX7_advance_45 : decode cX7_advance 45 = .ok (.iload_n 1, 1) := by decide +kernel
theorem dX7_advance_46 : decode cX7_advance 46 = .ok (.if_icmp .ge 87, 3) := by decide +kernel
theorem dX7_advance_49 : decode cX7_advance 49 = .ok (.aload_n 0, 1) := by decide +kernel
theorem dX7_advance_50 : decode cX7_advance 50 = .ok (.dup, 1) := by decide +kernel
theorem dX7_advance_51 : decode cX7_advance 51 = .ok (.getfield 75, 3) := by decide +kernel
theorem dX7_advance_54 : decode cX7_advance 54 = .ok (.iconst 1, 1) := by decide +kernel
theorem dX7_advance_55 : decode cX7_advance 55 = .ok (.iadd, 1) := by decide +kernel
theorem dX7_advance_56 : decode cX7_advance 56 = .ok (.putfield 75, 3) := by decide +kernel
theorem dX7_advance_59 : decode cX7_advance 59 = .ok (.iconst 0, 1) := by decide +kernel
theorem dX7_advance_60 : decode cX7_advance 60 = .ok (.istore 4, 2) := by decide +kernel
theorem dX7_advance_62 : decode cX7_advance 62 = .ok (.iload 4, 2) := by decide +kernel
theorem dX7_advance_64 : decode cX7_advance 64 = .ok (.aload_n 0, 1) := by decide +kernel
theorem dX7_advance_65 : decode cX7_advance 65 = .ok (.getfield 51, 3) := by decide +kernel
theorem dX7_advance_68 : decode cX7_advance 68 = .ok (.if_icmp .ge 59, 3) := by decide +kernel
theorem dX7_advance_71 : decode cX7_advance 71 = .ok (.aload_n 0, 1) := by decide +kernel
theorem dX7_advance_72 : decode cX7_advance 72 = .ok (.iload 4, 2) := by decide +kernel
theorem dX7_advance_74 : decode cX7_advance 74 = .ok (.invokevirtual 62, 3) := by decide +kernel
theorem dX7_advance_77 : decode cX7_advance 77 = .ok (.ifCond .eq 44, 3) := by decide +kernel
theorem dX7_advance_80 : decode cX7_advance 80 = .ok (.aload_n 0, 1) := by decide +kernel
theorem dX7_advance_81 : decode cX7_advance 81 = .ok (.getfield 75, 3) := by decide +kernel
theorem dX7_advance_84 : decode cX7_advance 84 = .ok (.aload_n 0, 1) := by decide +kernel
theorem dX7_advance_85 : decode cX7_advance 85 = .ok (.getfield 23, 3) := by decide +kernel
theorem dX7_advance_88 : decode cX7_advance 88 = .ok (.iload 4, 2) := by decide +kernel
theorem dX7_advance_90 : decode cX7_advance 90 = .ok (.iaload, 1) := by decide +kernel
theorem dX7_advance_91 : decode cX7_advance 91 = .ok (.if_icmp .ne 30, 3) := by decide +kernel
theorem dX7_advance_94 : decode cX7_advance 94 = .ok (.aload_n 0, 1) := by decide +kernel
theorem dX7_advance_95 : decode cX7_advance 95 = .ok (.getfield 29, 3) := by decide +kernel
theorem dX7_advance_98 : decode cX7_advance 98 = .ok (.iload 4, 2) := by decide +kernel
theorem dX7_advance_100 : decode cX7_advance 100 = .ok (.iaload, 1) := by decide +kernel
theorem dX7_advance_101 : decode cX7_advance 101 = .ok (.ifCond .le 20, 3) := by decide +kernel
theorem dX7_advance_104 : decode cX7_advance 104 = .ok (.aload_n 0, 1) := by decide +kernel
theorem dX7_advance_105 : decode cX7_advance 105 = .ok (.getfield 29, 3) := by decide +kernel
theorem dX7_advance_108 : decode cX7_advance 108 = .ok (.iload 4, 2) := by decide +kernel
theorem dX7_advance_110 : decode cX7_advance 110 = .ok (.iconst 0, 1) := by decide +kernel
theorem dX7_advance_111 : decode cX7_advance 111 = .ok (.iastore, 1) := by decide +kernel
theorem dX7_advance_112 : decode cX7_advance 112 = .ok (.aload_n 0, 1) := by decide +kernel
theorem dX7_advance_113 : decode cX7_advance 113 = .ok (.iload 4, 2) := by decide +kernel
theorem dX7_advance_115 : decode cX7_advance 115 = .ok (.invokevirtual 84, 3) := by decide +kernel
theorem dX7_advance_118 : decode cX7_advance 118 = .ok (.iinc 2 1, 3) := by decide +kernel
theorem dX7_advance_121 : decode cX7_advance 121 = .ok (.iinc 4 1, 3) := by decide +kernel
theorem dX7_advance_124 : decode cX7_advance 124 = .ok (.goto (-62), 3) := by decide +kernel
theorem dX7_advance_127 : decode cX7_advance 127 = .ok (.iinc 3 1, 3) := by decide +kernel
theorem dX7_advance_130 : decode cX7_advance 130 = .ok (.goto (-86), 3) := by decide +kernel
theorem dX7_advance_133 : decode cX7_advance 133 = .ok (.iload_n 2, 1) := by decide +kernel
theorem dX7_advance_134 : decode cX7_advance 134 = .ok (.ireturn, 1) := by decide +kernel
set_option maxRecDepth 20000 in
theorem ggX7_satisfies_X7_isQuestion : GoodIn wsX7_satisfies wsX7_isQuestion := goodIn_r _ [5, 6, 7, 8, 9, 4, 10, 31, 32, 33, 34, 35, 36, 37, 38, 39, 40, 41, 42, 43, 44, 45] (by decide +kernel) (by decide +kernel)
set_option maxRecDepth 20000 in
theorem gX7_satisfies_X7_isQuestion : GoodIn wsX7_satisfies (wsV RX7 62 RX7 yX7_isQuestion wsX7_isQuestion) := goodIn_app (goodIn_of _ (by decide +kernel)) ggX7_satisfies_X7_isQuestion
set_option maxRecDepth 20000 in
theorem ggX7_satisfies_X7_holds : GoodIn wsX7_satisfies wsX7_holds := goodIn_r _ [14, 15, 31, 32, 33, 34, 35, 36, 37, 38, 39, 40, 41, 42, 43, 44, 45] (by decide +kernel) (by decide +kernel)
set_option maxRecDepth 20000 in
theorem gX7_satisfies_X7_holds : GoodIn wsX7_satisfies (wsV RX7 58 RX7 yX7_holds wsX7_holds) := goodIn_app (goodIn_of _ (by decide +kernel)) ggX7_satisfies_X7_holds
set_option maxRecDepth 20000 in
theorem ggX7_satisfies_X7_does : GoodIn wsX7_satisfies wsX7_does := goodIn_r _ [19, 20, 21, 22, 23, 24, 4, 25, 26, 27, 28, 29, 30, 31, 32, 33, 34, 35, 36, 37, 38, 39, 40, 41, 42, 43, 44, 45] (by decide +kernel) (by decide +kernel)
set_option maxRecDepth 20000 in
theorem gX7_satisfies_X7_does : GoodIn wsX7_satisfies (wsV RX7 78 RX7 yX7_does wsX7_does) := goodIn_app (goodIn_of _ (by decide +kernel)) ggX7_satisfies_X7_does
theorem dX7_satisfies_0 : decode cX7_satisfies 0 = .ok (.aload_n 0, 1) := by decide +kernel
theorem dX7_satisfies_1 : decode cX7_satisfies 1 = .ok (.aload_n 0, 1) := by decide +kernel
theorem dX7_satisfies_2 : decode cX7_satisfies 2 = .ok (.iload_n 1, 1) := by decide +kernel
theorem dX7_satisfies_3 : decode cX7_satisfies 3 = .ok (.invokevirtual 62, 3) := by decide +kernel
theorem dX7_satisfies_6 : decode cX7_satisfies 6 = .ok (.ifCond .eq 7, 3) := by decide +kernel
theorem dX7_satisfies_9 : decode cX7_satisfies 9 = .ok (.iconst 0, 1) := by decide +kernel
theorem dX7_satisfies_10 : decode cX7_satisfies 10 = .ok (.goto 4, 3) := by decide +kernel
theorem dX7_satisfies_13 : decode cX7_satisfies 13 = .ok (.iconst 1, 1) := by decide +kernel
theorem dX7_satisfies_14 : decode cX7_satisfies 14 = .ok (.invokevirtual 58, 3) := by decide +kernel
theorem dX7_satisfies_17 : decode cX7_satisfies 17 = .ok (.ifCond .eq 15, 3) := by decide +kernel
theorem dX7_satisfies_20 : decode cX7_satisfies 20 = .ok (.aload_n 0, 1) := by decide +kernel
theorem dX7_satisfies_21 : decode cX7_satisfies 21 = .ok (.iload_n 1, 1) := by decide +kernel
theorem dX7_satisfies_22 : decode cX7_satisfies 22 = .ok (.invokevirtual 78, 3) := by decide +kernel
theorem dX7_satisfies_25 : decode cX7_satisfies 25 = .ok (.ifCond .eq 7, 3) := by decide +kernel
theorem dX7_satisfies_28 : decode cX7_satisfies 28 = .ok (.iconst 1, 1) := by decide +kernel
theorem dX7_satisfies_29 : decode cX7_satisfies 29 = .ok (.goto 4, 3) := by decide +kernel
theorem dX7_satisfies_32 : decode cX7_satisfies 32 = .ok (.iconst 0, 1) := by decide +kernel
theorem dX7_satisfies_33 : decode cX7_satisfies 33 = .ok (.ireturn, 1) := by decide +kernel
set_option maxRecDepth 20000 in
theorem ggX7_found_X7_isQuestion : GoodIn wsX7_found wsX7_isQuestion := goodIn_r _ [6, 1, 7, 8, 9, 5, 10, 26, 27, 28, 29, 30, 31, 32, 33, 34, 35, 36, 37, 38, 39, 40] (by decide +kernel) (by decide +kernel)
set_option maxRecDepth 20000 in
theorem gX7_found_X7_isQuestion : GoodIn wsX7_found (wsV RX7 62 RX7 yX7_isQuestion wsX7_isQuestion) := goodIn_app (goodIn_of _ (by decide +kernel)) ggX7_found_X7_isQuestion
set_option maxRecDepth 20000 in
theorem ggX7_found_X7_does : GoodIn wsX7_found wsX7_does := goodIn_r _ [14, 15, 16, 17, 18, 19, 5, 20, 21, 22, 23, 24, 25, 26, 27, 28, 29, 30, 31, 32, 33, 34, 35, 36, 37, 38, 39, 40] (by decide +kernel) (by decide +kernel)
set_option maxRecDepth 20000 in
theorem gX7_found_X7_does : GoodIn wsX7_found (wsV RX7 78 RX7 yX7_does wsX7_does) := goodIn_app (goodIn_of _ (by decide +kernel)) ggX7_found_X7_does
theorem dX7_found_0 : decode cX7_found 0 = .ok (.iconst 0, 1) := by decide +kernel
theorem dX7_found_1 : decode cX7_found 1 = .ok (.istore_n 1, 1) := by decide +kernel
theorem dX7_found_2 : decode cX7_found 2 = .ok (.iconst 0, 1) := by decide +kernel
theorem dX7_found_3 : decode cX7_found 3 = .ok (.istore_n 2, 1) := by decide +kernel
theorem dX7_found_4 : decode cX7_found 4 = .ok (.iload_n 2, 1) := by decide +kernel
theorem dX7_found_5 : decode cX7_found 5 = .ok (.aload_n 0, 1) := by decide +kernel
theorem dX7_found_6 : decode cX7_found 6 = .ok (.getfield 51, 3) := by decide +kernel
theorem dX7_found_9 : decode cX7_found 9 = .ok (.if_icmp .ge 35, 3) := by decide +kernel
theorem dX7_found_12 : decode cX7_found 12 = .ok (.iload_n 1, 1) := by decide +kernel
theorem dX7_found_13 : decode cX7_found 13 = .ok (.aload_n 0, 1) := by decide +kernel
theorem dX7_found_14 : decode cX7_found 14 = .ok (.iload_n 2, 1) := by decide +kernel
theorem dX7_found_15 : decode cX7_found 15 = .ok (.invokevirtual 62, 3) := by decide +kernel
theorem dX7_found_18 : decode cX7_found 18 = .ok (.ifCond .eq 17, 3) := by decide +kernel
theorem dX7_found_21 : decode cX7_found 21 = .ok (.aload_n 0, 1) := by decide +kernel
theorem dX7_found_22 : decode cX7_found 22 = .ok (.iload_n 2, 1) := by decide +kernel
theorem dX7_found_23 : decode cX7_found 23 = .ok (.invokevirtual 78, 3) := by decide +kernel
theorem dX7_found_26 : decode cX7_found 26 = .ok (.ifCond .eq 9, 3) := by decide +kernel
theorem dX7_found_29 : decode cX7_found 29 = .ok (.iconst 1, 1) := by decide +kernel
theorem dX7_found_30 : decode cX7_found 30 = .ok (.iload_n 2, 1) := by decide +kernel
theorem dX7_found_31 : decode cX7_found 31 = .ok (.ishl, 1) := by decide +kernel
theorem dX7_found_32 : decode cX7_found 32 = .ok (.goto 4, 3) := by decide +kernel
theorem dX7_found_35 : decode cX7_found 35 = .ok (.iconst 0, 1) := by decide +kernel
theorem dX7_found_36 : decode cX7_found 36 = .ok (.ior, 1) := by decide +kernel
theorem dX7_found_37 : decode cX7_found 37 = .ok (.istore_n 1, 1) := by decide +kernel
theorem dX7_found_38 : decode cX7_found 38 = .ok (.iinc 2 1, 3) := by decide +kernel
theorem dX7_found_41 : decode cX7_found 41 = .ok (.goto (-37), 3) := by decide +kernel
theorem dX7_found_44 : decode cX7_found 44 = .ok (.iload_n 1, 1) := by decide +kernel
theorem dX7_found_45 : decode cX7_found 45 = .ok (.ireturn, 1) := by decide +kernel
set_option maxRecDepth 20000 in
theorem ggX7_matching_X7_found : GoodIn wsX7_matching wsX7_found := goodIn_r _ [6, 7, 8, 9, 10, 5, 11, 12, 13, 14, 15, 16, 17, 18, 19, 20, 21, 22, 23, 24, 25, 26, 27, 28, 29, 30, 31, 32, 33, 34, 35, 36, 37, 38, 39, 40, 41, 42, 43, 44, 45] (by decide +kernel) (by decide +kernel)
set_option maxRecDepth 20000 in
theorem gX7_matching_X7_found : GoodIn wsX7_matching (wsV RX7 89 RX7 yX7_found wsX7_found) := goodIn_app (goodIn_of _ (by decide +kernel)) ggX7_matching_X7_found
theorem dX7_matching_0 : decode cX7_matching 0 = .ok (.aload_n 0, 1) := by decide +kernel
theorem dX7_matching_1 : decode cX7_matching 1 = .ok (.iconst 0, 1) := by decide +kernel
theorem dX7_matching_2 : decode cX7_matching 2 = .ok (.putfield 47, 3) := by decide +kernel
theorem dX7_matching_5 : decode cX7_matching 5 = .ok (.aload_n 0, 1) := by decide +kernel
theorem dX7_matching_6 : decode cX7_matching 6 = .ok (.invokevirtual 89, 3) := by decide +kernel
theorem dX7_matching_9 : decode cX7_matching 9 = .ok (.ireturn, 1) := by decide +kernel
set_option maxRecDepth 20000 in
theorem ggX7_matchingByIndex_X7_found : GoodIn wsX7_matchingByIndex wsX7_found := goodIn_r _ [6, 7, 8, 9, 10, 5, 11, 12, 13, 14, 15, 16, 17, 18, 19, 20, 21, 22, 23, 24, 25, 26, 27, 28, 29, 30, 31, 32, 33, 34, 35, 36, 37, 38, 39, 40, 41, 42, 43, 44, 45] (by decide +kernel) (by decide +kernel)
set_option maxRecDepth 20000 in
theorem gX7_matchingByIndex_X7_found : GoodIn wsX7_matchingByIndex (wsV RX7 89 RX7 yX7_found wsX7_found) := goodIn_app (goodIn_of _ (by decide +kernel)) ggX7_matchingByIndex_X7_found
theorem dX7_matchingByIndex_0 : decode cX7_matchingByIndex 0 = .ok (.aload_n 0, 1) := by decide +kernel
theorem dX7_matchingByIndex_1 : decode cX7_matchingByIndex 1 = .ok (.iconst 0, 1) := by decide +kernel
theorem dX7_matchingByIndex_2 : decode cX7_matchingByIndex 2 = .ok (.putfield 47, 3) := by decide +kernel
theorem dX7_matchingByIndex_5 : decode cX7_matchingByIndex 5 = .ok (.aload_n 0, 1) := by decide +kernel
theorem dX7_matchingByIndex_6 : decode cX7_matchingByIndex 6 = .ok (.invokevirtual 89, 3) := by decide +kernel
theorem dX7_matchingByIndex_9 : decode cX7_matchingByIndex 9 = .ok (.ireturn, 1) := by decide +kernel
theorem dX7_size_0 : decode cX7_size 0 = .ok (.aload_n 0, 1) := by decide +kernel
theorem dX7_size_1 : decode cX7_size 1 = .ok (.getfield 17, 3) := by decide +kernel
theorem dX7_size_4 : decode cX7_size 4 = .ok (.iload_n 1, 1) := by decide +kernel
theorem dX7_size_5 : decode cX7_size 5 = .ok (.iaload, 1) := by decide +kernel
theorem dX7_size_6 : decode cX7_size 6 = .ok (.ifCond .ne 7, 3) := by decide +kernel
theorem dX7_size_9 : decode cX7_size 9 = .ok (.iconst 0, 1) := by decide +kernel
theorem dX7_size_10 : decode cX7_size 10 = .ok (.goto 4, 3) := by decide +kernel
theorem dX7_size_13 : decode cX7_size 13 = .ok (.iconst 4, 1) := by decide +kernel
theorem dX7_size_14 : decode cX7_size 14 = .ok (.istore_n 2, 1) := by decide +kernel
theorem dX7_size_15 : decode cX7_size 15 = .ok (.iconst 3, 1) := by decide +kernel
theorem dX7_size_16 : decode cX7_size 16 = .ok (.iload_n 1, 1) := by decide +kernel
theorem dX7_size_17 : decode cX7_size 17 = .ok (.imul, 1) := by decide +kernel
theorem dX7_size_18 : decode cX7_size 18 = .ok (.istore_n 3, 1) := by decide +kernel
theorem dX7_size_19 : decode cX7_size 19 = .ok (.iload_n 3, 1) := by decide +kernel
theorem dX7_size_20 : decode cX7_size 20 = .ok (.iconst 3, 1) := by decide +kernel
theorem dX7_size_21 : decode cX7_size 21 = .ok (.iload_n 1, 1) := by decide +kernel
theorem dX7_size_22 : decode cX7_size 22 = .ok (.imul, 1) := by decide +kernel
theorem dX7_size_23 : decode cX7_size 23 = .ok (.aload_n 0, 1) := by decide +kernel
theorem dX7_size_24 : decode cX7_size 24 = .ok (.getfield 17, 3) := by decide +kernel
theorem dX7_size_27 : decode cX7_size 27 = .ok (.iload_n 1, 1) := by decide +kernel
theorem dX7_size_28 : decode cX7_size 28 = .ok (.iaload, 1) := by decide +kernel
theorem dX7_size_29 : decode cX7_size 29 = .ok (.iadd, 1) := by decide +kernel
theorem dX7_size_30 : decode cX7_size 30 = .ok (.if_icmp .ge 71, 3) := by decide +kernel
theorem dX7_size_33 : decode cX7_size 33 = .ok (.iconst 0, 1) := by decide +kernel
theorem dX7_size_34 : decode cX7_size 34 = .ok (.istore 4, 2) := by decide +kernel
theorem dX7_size_36 : decode cX7_size 36 = .ok (.iconst 4, 1) := by decide +kernel
theorem dX7_size_37 : decode cX7_size 37 = .ok (.iload_n 3, 1) := by decide +kernel
theorem dX7_size_38 : decode cX7_size 38 = .ok (.imul, 1) := by decide +kernel
theorem dX7_size_39 : decode cX7_size 39 = .ok (.istore 5, 2) := by decide +kernel
theorem dX7_size_41 : decode cX7_size 41 = .ok (.iload 5, 2) := by decide +kernel
theorem dX7_size_43 : decode cX7_size 43 = .ok (.iconst 4, 1) := by decide +kernel
theorem dX7_size_44 : decode cX7_size 44 = .ok (.iload_n 3, 1) := by decide +kernel
theorem dX7_size_45 : decode cX7_size 45 = .ok (.imul, 1) := by decide +kernel
theorem dX7_size_46 : decode cX7_size 46 = .ok (.aload_n 0, 1) := by decide +kernel
theorem dX7_size_47 : decode cX7_size 47 = .ok (.getfield 32, 3) := by decide +kernel
theorem dX7_size_50 : decode cX7_size 50 = .ok (.iload_n 3, 1) := by decide +kernel
theorem dX7_size_51 : decode cX7_size 51 = .ok (.iaload, 1) := by decide +kernel
theorem dX7_size_52 : decode cX7_size 52 = .ok (.iadd, 1) := by decide +kernel
theorem dX7_size_53 : decode cX7_size 53 = .ok (.if_icmp .ge 29, 3) := by decide +kernel
theorem dX7_size_56 : decode cX7_size 56 = .ok (.iload 4, 2) := by decide +kernel
theorem dX7_size_58 : decode cX7_size 58 = .ok (.aload_n 0, 1) := by decide +kernel
theorem dX7_size_59 : decode cX7_size 59 = .ok (.getfield 44, 3) := by decide +kernel
theorem dX7_size_62 : decode cX7_size 62 = .ok (.iload 5, 2) := by decide +kernel
theorem dX7_size_64 : decode cX7_size 64 = .ok (.baload, 1) := by decide +kernel
theorem dX7_size_65 : decode cX7_size 65 = .ok (.ifCond .eq 7, 3) := by decide +kernel
theorem dX7_size_68 : decode cX7_size 68 = .ok (.iconst 0, 1) := by decide +kernel
theorem dX7_size_69 : decode cX7_size 69 = .ok (.goto 4, 3) := by decide +kernel
theorem dX7_size_72 : decode cX7_size 72 = .ok (.iconst 1, 1) := by decide +kernel
theorem dX7_size_73 : decode cX7_size 73 = .ok (.iadd, 1) := by decide +kernel
theorem dX7_size_74 : decode cX7_size 74 = .ok (.istore 4, 2) := by decide +kernel
theorem dX7_size_76 : decode cX7_size 76 = .ok (.iinc 5 1, 3) := by decide +kernel
theorem dX7_size_79 : decode cX7_size 79 = .ok (.goto (-38), 3) := by decide +kernel
theorem dX7_size_82 : decode cX7_size 82 = .ok (.iload 4, 2) := by decide +kernel
theorem dX7_size_84 : decode cX7_size 84 = .ok (.iload_n 2, 1) := by decide +kernel
theorem dX7_size_85 : decode cX7_size 85 = .ok (.if_icmp .ge 8, 3) := by decide +kernel
theorem dX7_size_88 : decode cX7_size 88 = .ok (.iload 4, 2) := by decide +kernel
theorem dX7_size_90 : decode cX7_size 90 = .ok (.goto 4, 3) := by decide +kernel
theorem dX7_size_93 : decode cX7_size 93 = .ok (.iload_n 2, 1) := by decide +kernel
theorem dX7_size_94 : decode cX7_size 94 = .ok (.istore_n 2, 1) := by decide +kernel
theorem dX7_size_95 : decode cX7_size 95 = .ok (.iinc 3 1, 3) := by decide +kernel
theorem dX7_size_98 : decode cX7_size 98 = .ok (.goto (-79), 3) := by decide +kernel
theorem dX7_size_101 : decode cX7_size 101 = .ok (.iload_n 2, 1) := by decide +kernel
theorem dX7_size_102 : decode cX7_size 102 = .ok (.ireturn, 1) := by decide +kernel
set_option maxRecDepth 20000 in
theorem ggX7_sizeOf_X7_isQuestion : GoodIn wsX7_sizeOf wsX7_isQuestion := goodIn_r _ [5, 6, 7, 8, 9, 4, 10, 23, 24, 25, 26, 27, 28, 29, 30, 31, 32, 33, 34, 35, 36, 37] (by decide +kernel) (by decide +kernel)
set_option maxRecDepth 20000 in
theorem gX7_sizeOf_X7_isQuestion : GoodIn wsX7_sizeOf (wsV RX7 62 RX7 yX7_isQuestion wsX7_isQuestion) := goodIn_app (goodIn_of _ (by decide +kernel)) ggX7_sizeOf_X7_isQuestion
set_option maxRecDepth 20000 in
theorem ggX7_sizeOf_X7_holds : GoodIn wsX7_sizeOf wsX7_holds := goodIn_r _ [14, 15, 23, 24, 25, 26, 27, 28, 29, 30, 31, 32, 33, 34, 35, 36, 37] (by decide +kernel) (by decide +kernel)
set_option maxRecDepth 20000 in
theorem gX7_sizeOf_X7_holds : GoodIn wsX7_sizeOf (wsV RX7 58 RX7 yX7_holds wsX7_holds) := goodIn_app (goodIn_of _ (by decide +kernel)) ggX7_sizeOf_X7_holds
set_option maxRecDepth 20000 in
theorem ggX7_sizeOf_X7_size : GoodIn wsX7_sizeOf wsX7_size := goodIn_r _ [19, 20, 21, 22, 23, 24, 25, 26, 27, 28, 29, 30, 31, 32, 33, 34, 35, 36, 37] (by decide +kernel) (by decide +kernel)
set_option maxRecDepth 20000 in
theorem gX7_sizeOf_X7_size : GoodIn wsX7_sizeOf (wsV RX7 93 RX7 yX7_size wsX7_size) := goodIn_app (goodIn_of _ (by decide +kernel)) ggX7_sizeOf_X7_size
theorem dX7_sizeOf_0 : decode cX7_sizeOf 0 = .ok (.aload_n 0, 1) := by decide +kernel
theorem dX7_sizeOf_1 : decode cX7_sizeOf 1 = .ok (.aload_n 0, 1) := by decide +kernel
theorem dX7_sizeOf_2 : decode cX7_sizeOf 2 = .ok (.iload_n 1, 1) := by decide +kernel
theorem dX7_sizeOf_3 : decode cX7_sizeOf 3 = .ok (.invokevirtual 62, 3) := by decide +kernel
theorem dX7_sizeOf_6 : decode cX7_sizeOf 6 = .ok (.ifCond .eq 7, 3) := by decide +kernel
theorem dX7_sizeOf_9 : decode cX7_sizeOf 9 = .ok (.iconst 0, 1) := by decide +kernel
theorem dX7_sizeOf_10 : decode cX7_sizeOf 10 = .ok (.goto 4, 3) := by decide +kernel
theorem dX7_sizeOf_13 : decode cX7_sizeOf 13 = .ok (.iconst 1, 1) := by decide +kernel
theorem dX7_sizeOf_14 : decode cX7_sizeOf 14 = .ok (.invokevirtual 58, 3) := by decide +kernel
theorem dX7_sizeOf_17 : decode cX7_sizeOf 17 = .ok (.ifCond .eq 11, 3) := by decide +kernel
theorem dX7_sizeOf_20 : decode cX7_sizeOf 20 = .ok (.aload_n 0, 1) := by decide +kernel
theorem dX7_sizeOf_21 : decode cX7_sizeOf 21 = .ok (.iload_n 1, 1) := by decide +kernel
theorem dX7_sizeOf_22 : decode cX7_sizeOf 22 = .ok (.invokevirtual 93, 3) := by decide +kernel
theorem dX7_sizeOf_25 : decode cX7_sizeOf 25 = .ok (.goto 4, 3) := by decide +kernel
theorem dX7_sizeOf_28 : decode cX7_sizeOf 28 = .ok (.iconst 0, 1) := by decide +kernel
theorem dX7_sizeOf_29 : decode cX7_sizeOf 29 = .ok (.ireturn, 1) := by decide +kernel
set_option maxRecDepth 20000 in
theorem ggX7_withSize_X7_isQuestion : GoodIn wsX7_withSize wsX7_isQuestion := goodIn_r _ [7, 2, 8, 9, 10, 6, 11, 19, 20, 21, 22, 23, 24, 25, 26, 27, 28, 29, 30, 31, 32, 33] (by decide +kernel) (by decide +kernel)
set_option maxRecDepth 20000 in
theorem gX7_withSize_X7_isQuestion : GoodIn wsX7_withSize (wsV RX7 62 RX7 yX7_isQuestion wsX7_isQuestion) := goodIn_app (goodIn_of _ (by decide +kernel)) ggX7_withSize_X7_isQuestion
set_option maxRecDepth 20000 in
theorem ggX7_withSize_X7_size : GoodIn wsX7_withSize wsX7_size := goodIn_r _ [15, 16, 17, 18, 19, 20, 21, 22, 23, 24, 25, 26, 27, 28, 29, 30, 31, 32, 33] (by decide +kernel) (by decide +kernel)
set_option maxRecDepth 20000 in
theorem gX7_withSize_X7_size : GoodIn wsX7_withSize (wsV RX7 93 RX7 yX7_size wsX7_size) := goodIn_app (goodIn_of _ (by decide +kernel)) ggX7_withSize_X7_size
theorem dX7_withSize_0 : decode cX7_withSize 0 = .ok (.aload_n 0, 1) := by decide +kernel
theorem dX7_withSize_1 : decode cX7_withSize 1 = .ok (.iconst 0, 1) := by decide +kernel
theorem dX7_withSize_2 : decode cX7_withSize 2 = .ok (.putfield 47, 3) := by decide +kernel
theorem dX7_withSize_5 : decode cX7_withSize 5 = .ok (.iconst 0, 1) := by decide +kernel
theorem dX7_withSize_6 : decode cX7_withSize 6 = .ok (.istore_n 2, 1) := by decide +kernel
theorem dX7_withSize_7 : decode cX7_withSize 7 = .ok (.iconst 0, 1) := by decide +kernel
theorem dX7_withSize_8 : decode cX7_withSize 8 = .ok (.istore_n 3, 1) := by decide +kernel
theorem dX7_withSize_9 : decode cX7_withSize 9 = .ok (.iload_n 3, 1) := by decide +kernel
theorem dX7_withSize_10 : decode cX7_withSize 10 = .ok (.aload_n 0, 1) := by decide +kernel
theorem dX7_withSize_11 : decode cX7_withSize 11 = .ok (.getfield 51, 3) := by decide +kernel
theorem dX7_withSize_14 : decode cX7_withSize 14 = .ok (.if_icmp .ge 34, 3) := by decide +kernel
theorem dX7_withSize_17 : decode cX7_withSize 17 = .ok (.iload_n 2, 1) := by decide +kernel
theorem dX7_withSize_18 : decode cX7_withSize 18 = .ok (.aload_n 0, 1) := by decide +kernel
theorem dX7_withSize_19 : decode cX7_withSize 19 = .ok (.iload_n 3, 1) := by decide +kernel
theorem dX7_withSize_20 : decode cX7_withSize 20 = .ok (.invokevirtual 62, 3) := by decide +kernel
theorem dX7_withSize_23 : decode cX7_withSize 23 = .ok (.ifCond .eq 16, 3) := by decide +kernel
theorem dX7_withSize_26 : decode cX7_withSize 26 = .ok (.aload_n 0, 1) := by decide +kernel
theorem dX7_withSize_27 : decode cX7_withSize 27 = .ok (.iload_n 3, 1) := by decide +kernel
theorem dX7_withSize_28 : decode cX7_withSize 28 = .ok (.invokevirtual 93, 3) := by decide +kernel
theorem dX7_withSize_31 : decode cX7_withSize 31 = .ok (.iload_n 1, 1) := by decide +kernel
theorem dX7_withSize_32 : decode cX7_withSize 32 = .ok (.if_icmp .ne 7, 3) := by decide +kernel
theorem dX7_withSize_35 : decode cX7_withSize 35 = .ok (.iconst 1, 1) := by decide +kernel
theorem dX7_withSize_36 : decode cX7_withSize 36 = .ok (.goto 4, 3) := by decide +kernel
theorem dX7_withSize_39 : decode cX7_withSize 39 = .ok (.iconst 0, 1) := by decide +kernel
theorem dX7_withSize_40 : decode cX7_withSize 40 = .ok (.iadd, 1) := by decide +kernel
theorem dX7_withSize_41 : decode cX7_withSize 41 = .ok (.istore_n 2, 1) := by decide +kernel
theorem dX7_withSize_42 : decode cX7_withSize 42 = .ok (.iinc 3 1, 3) := by decide +kernel
theorem dX7_withSize_45 : decode cX7_withSize 45 = .ok (.goto (-36), 3) := by decide +kernel
theorem dX7_withSize_48 : decode cX7_withSize 48 = .ok (.iload_n 2, 1) := by decide +kernel
theorem dX7_withSize_49 : decode cX7_withSize 49 = .ok (.ireturn, 1) := by decide +kernel
theorem dX7_piece_0 : decode cX7_piece 0 = .ok (.iconst 1, 1) := by decide +kernel
theorem dX7_piece_1 : decode cX7_piece 1 = .ok (.istore_n 2, 1) := by decide +kernel
theorem dX7_piece_2 : decode cX7_piece 2 = .ok (.iconst 2, 1) := by decide +kernel
theorem dX7_piece_3 : decode cX7_piece 3 = .ok (.istore_n 3, 1) := by decide +kernel
theorem dX7_piece_4 : decode cX7_piece 4 = .ok (.iload_n 3, 1) := by decide +kernel
theorem dX7_piece_5 : decode cX7_piece 5 = .ok (.bipush 64, 2) := by decide +kernel
theorem dX7_piece_7 : decode cX7_piece 7 = .ok (.if_icmp .gt 31, 3) := by decide +kernel
theorem dX7_piece_10 : decode cX7_piece 10 = .ok (.iload_n 0, 1) := by decide +kernel
theorem dX7_piece_11 : decode cX7_piece 11 = .ok (.iload_n 3, 1) := by decide +kernel
theorem dX7_piece_12 : decode cX7_piece 12 = .ok (.irem, 1) := by decide +kernel
theorem dX7_piece_13 : decode cX7_piece 13 = .ok (.ifCond .ne 16, 3) := by decide +kernel
theorem dX7_piece_16 : decode cX7_piece 16 = .ok (.iload_n 0, 1) := by decide +kernel
theorem dX7_piece_17 : decode cX7_piece 17 = .ok (.iload_n 3, 1) := by decide +kernel
theorem dX7_piece_18 : decode cX7_piece 18 = .ok (.iadd, 1) := by decide +kernel
theorem dX7_piece_19 : decode cX7_piece 19 = .ok (.iconst 1, 1) := by decide +kernel
theorem dX7_piece_20 : decode cX7_piece 20 = .ok (.isub, 1) := by decide +kernel
theorem dX7_piece_21 : decode cX7_piece 21 = .ok (.iload_n 1, 1) := by decide +kernel
theorem dX7_piece_22 : decode cX7_piece 22 = .ok (.if_icmp .gt 7, 3) := by decide +kernel
theorem dX7_piece_25 : decode cX7_piece 25 = .ok (.iload_n 3, 1) := by decide +kernel
theorem dX7_piece_26 : decode cX7_piece 26 = .ok (.goto 4, 3) := by decide +kernel
theorem dX7_piece_29 : decode cX7_piece 29 = .ok (.iload_n 2, 1) := by decide +kernel
theorem dX7_piece_30 : decode cX7_piece 30 = .ok (.istore_n 2, 1) := by decide +kernel
theorem dX7_piece_31 : decode cX7_piece 31 = .ok (.iload_n 3, 1) := by decide +kernel
theorem dX7_piece_32 : decode cX7_piece 32 = .ok (.iload_n 3, 1) := by decide +kernel
theorem dX7_piece_33 : decode cX7_piece 33 = .ok (.iadd, 1) := by decide +kernel
theorem dX7_piece_34 : decode cX7_piece 34 = .ok (.istore_n 3, 1) := by decide +kernel
theorem dX7_piece_35 : decode cX7_piece 35 = .ok (.goto (-31), 3) := by decide +kernel
theorem dX7_piece_38 : decode cX7_piece 38 = .ok (.iload_n 2, 1) := by decide +kernel
theorem dX7_piece_39 : decode cX7_piece 39 = .ok (.ireturn, 1) := by decide +kernel
set_option maxRecDepth 20000 in
theorem ggX7_pieces_X7_isRange : GoodIn wsX7_pieces wsX7_isRange := goodIn_r _ [4, 5, 6, 3, 7] (by decide +kernel) (by decide +kernel)
set_option maxRecDepth 20000 in
theorem gX7_pieces_X7_isRange : GoodIn wsX7_pieces (va_wsS RX7 68 yX7_isRange wsX7_isRange) := goodIn_app (goodIn_of _ (by decide +kernel)) ggX7_pieces_X7_isRange
set_option maxRecDepth 20000 in
theorem ggX7_pieces_X7_holds : GoodIn wsX7_pieces wsX7_holds := goodIn_r _ [11, 12, 16, 17, 18, 19, 20, 21, 22, 23, 24, 25, 26, 27, 28, 29, 30] (by decide +kernel) (by decide +kernel)
set_option maxRecDepth 20000 in
theorem gX7_pieces_X7_holds : GoodIn wsX7_pieces (wsV RX7 58 RX7 yX7_holds wsX7_holds) := goodIn_app (goodIn_of _ (by decide +kernel)) ggX7_pieces_X7_holds
set_option maxRecDepth 20000 in
theorem ggX7_pieces_X7_piece : GoodIn wsX7_pieces wsX7_piece := goodIn_r _ [15] (by decide +kernel) (by decide +kernel)
set_option maxRecDepth 20000 in
theorem gX7_pieces_X7_piece : GoodIn wsX7_pieces (va_wsS RX7 97 yX7_piece wsX7_piece) := goodIn_app (goodIn_of _ (by decide +kernel)) ggX7_pieces_X7_piece
theorem dX7_pieces_0 : decode cX7_pieces 0 = .ok (.aload_n 0, 1) := by decide +kernel
theorem dX7_pieces_1 : decode cX7_pieces 1 = .ok (.iload_n 1, 1) := by decide +kernel
theorem dX7_pieces_2 : decode cX7_pieces 2 = .ok (.iload_n 2, 1) := by decide +kernel
theorem dX7_pieces_3 : decode cX7_pieces 3 = .ok (.invokestatic 68, 3) := by decide +kernel
theorem dX7_pieces_6 : decode cX7_pieces 6 = .ok (.ifCond .eq 7, 3) := by decide +kernel
theorem dX7_pieces_9 : decode cX7_pieces 9 = .ok (.iconst 0, 1) := by decide +kernel
theorem dX7_pieces_10 : decode cX7_pieces 10 = .ok (.goto 4, 3) := by decide +kernel
theorem dX7_pieces_13 : decode cX7_pieces 13 = .ok (.iconst 1, 1) := by decide +kernel
theorem dX7_pieces_14 : decode cX7_pieces 14 = .ok (.invokevirtual 58, 3) := by decide +kernel
theorem dX7_pieces_17 : decode cX7_pieces 17 = .ok (.ifCond .ne 5, 3) := by decide +kernel
theorem dX7_pieces_20 : decode cX7_pieces 20 = .ok (.iconst 0, 1) := by decide +kernel
theorem dX7_pieces_21 : decode cX7_pieces 21 = .ok (.ireturn, 1) := by decide +kernel
theorem dX7_pieces_22 : decode cX7_pieces 22 = .ok (.iconst 0, 1) := by decide +kernel
theorem dX7_pieces_23 : decode cX7_pieces 23 = .ok (.istore_n 3, 1) := by decide +kernel
theorem dX7_pieces_24 : decode cX7_pieces 24 = .ok (.iload_n 1, 1) := by decide +kernel
theorem dX7_pieces_25 : decode cX7_pieces 25 = .ok (.istore 4, 2) := by decide +kernel
theorem dX7_pieces_27 : decode cX7_pieces 27 = .ok (.iload 4, 2) := by decide +kernel
theorem dX7_pieces_29 : decode cX7_pieces 29 = .ok (.iload_n 2, 1) := by decide +kernel
theorem dX7_pieces_30 : decode cX7_pieces 30 = .ok (.if_icmp .gt 20, 3) := by decide +kernel
theorem dX7_pieces_33 : decode cX7_pieces 33 = .ok (.iinc 3 1, 3) := by decide +kernel
theorem dX7_pieces_36 : decode cX7_pieces 36 = .ok (.iload 4, 2) := by decide +kernel
theorem dX7_pieces_38 : decode cX7_pieces 38 = .ok (.iload 4, 2) := by decide +kernel
theorem dX7_pieces_40 : decode cX7_pieces 40 = .ok (.iload_n 2, 1) := by decide +kernel
theorem dX7_pieces_41 : decode cX7_pieces 41 = .ok (.invokestatic 97, 3) := by decide +kernel
theorem dX7_pieces_44 : decode cX7_pieces 44 = .ok (.iadd, 1) := by decide +kernel
theorem dX7_pieces_45 : decode cX7_pieces 45 = .ok (.istore 4, 2) := by decide +kernel
theorem dX7_pieces_47 : decode cX7_pieces 47 = .ok (.goto (-20), 3) := by decide +kernel
theorem dX7_pieces_50 : decode cX7_pieces 50 = .ok (.iload_n 3, 1) := by decide +kernel
theorem dX7_pieces_51 : decode cX7_pieces 51 = .ok (.ireturn, 1) := by decide +kernel
set_option maxRecDepth 20000 in
theorem ggX7_pieceAt_X7_isRange : GoodIn wsX7_pieceAt wsX7_isRange := goodIn_r _ [4, 5, 6, 3, 7] (by decide +kernel) (by decide +kernel)
set_option maxRecDepth 20000 in
theorem gX7_pieceAt_X7_isRange : GoodIn wsX7_pieceAt (va_wsS RX7 68 yX7_isRange wsX7_isRange) := goodIn_app (goodIn_of _ (by decide +kernel)) ggX7_pieceAt_X7_isRange
set_option maxRecDepth 20000 in
theorem ggX7_pieceAt_X7_holds : GoodIn wsX7_pieceAt wsX7_holds := goodIn_r _ [11, 12, 16, 17, 18, 19, 20, 21, 22, 23, 24, 25, 26, 27, 28, 29, 30] (by decide +kernel) (by decide +kernel)
set_option maxRecDepth 20000 in
theorem gX7_pieceAt_X7_holds : GoodIn wsX7_pieceAt (wsV RX7 58 RX7 yX7_holds wsX7_holds) := goodIn_app (goodIn_of _ (by decide +kernel)) ggX7_pieceAt_X7_holds
set_option maxRecDepth 20000 in
theorem ggX7_pieceAt_X7_piece : GoodIn wsX7_pieceAt wsX7_piece := goodIn_r _ [15] (by decide +kernel) (by decide +kernel)
set_option maxRecDepth 20000 in
theorem gX7_pieceAt_X7_piece : GoodIn wsX7_pieceAt (va_wsS RX7 97 yX7_piece wsX7_piece) := goodIn_app (goodIn_of _ (by decide +kernel)) ggX7_pieceAt_X7_piece
theorem dX7_pieceAt_0 : decode cX7_pieceAt 0 = .ok (.aload_n 0, 1) := by decide +kernel
theorem dX7_pieceAt_1 : decode cX7_pieceAt 1 = .ok (.iload_n 3, 1) := by decide +kernel
theorem dX7_pieceAt_2 : decode cX7_pieceAt 2 = .ok (.ifCond .ge 7, 3) := by decide +kernel
theorem dX7_pieceAt_5 : decode cX7_pieceAt 5 = .ok (.iconst 1, 1) := by decide +kernel
theorem dX7_pieceAt_6 : decode cX7_pieceAt 6 = .ok (.goto 16, 3) := by decide +kernel
theorem dX7_pieceAt_9 : decode cX7_pieceAt 9 = .ok (.iload_n 1, 1) := by decide +kernel
theorem dX7_pieceAt_10 : decode cX7_pieceAt 10 = .ok (.iload_n 2, 1) := by decide +kernel
theorem dX7_pieceAt_11 : decode cX7_pieceAt 11 = .ok (.invokestatic 68, 3) := by decide +kernel
theorem dX7_pieceAt_14 : decode cX7_pieceAt 14 = .ok (.ifCond .eq 7, 3) := by decide +kernel
theorem dX7_pieceAt_17 : decode cX7_pieceAt 17 = .ok (.iconst 0, 1) := by decide +kernel
theorem dX7_pieceAt_18 : decode cX7_pieceAt 18 = .ok (.goto 4, 3) := by decide +kernel
theorem dX7_pieceAt_21 : decode cX7_pieceAt 21 = .ok (.iconst 2, 1) := by decide +kernel
theorem dX7_pieceAt_22 : decode cX7_pieceAt 22 = .ok (.invokevirtual 58, 3) := by decide +kernel
theorem dX7_pieceAt_25 : decode cX7_pieceAt 25 = .ok (.ifCond .ne 5, 3) := by decide +kernel
theorem dX7_pieceAt_28 : decode cX7_pieceAt 28 = .ok (.iconst 0, 1) := by decide +kernel
theorem dX7_pieceAt_29 : decode cX7_pieceAt 29 = .ok (.ireturn, 1) := by decide +kernel
theorem dX7_pieceAt_30 : decode cX7_pieceAt 30 = .ok (.iconst 0, 1) := by decide +kernel
theorem dX7_pieceAt_31 : decode cX7_pieceAt 31 = .ok (.istore 4, 2) := by decide +kernel
theorem dX7_pieceAt_33 : decode cX7_pieceAt 33 = .ok (.iload_n 1, 1) := by decide +kernel
theorem dX7_pieceAt_34 : decode cX7_pieceAt 34 = .ok (.istore 5, 2) := by decide +kernel
theorem dX7_pieceAt_36 : decode cX7_pieceAt 36 = .ok (.iload 5, 2) := by decide +kernel
theorem dX7_pieceAt_38 : decode cX7_pieceAt 38 = .ok (.iload_n 2, 1) := by decide +kernel
theorem dX7_pieceAt_39 : decode cX7_pieceAt 39 = .ok (.if_icmp .gt 39, 3) := by decide +kernel
theorem dX7_pieceAt_42 : decode cX7_pieceAt 42 = .ok (.iload 4, 2) := by decide +kernel
theorem dX7_pieceAt_44 : decode cX7_pieceAt 44 = .ok (.iload_n 3, 1) := by decide +kernel
theorem dX7_pieceAt_45 : decode cX7_pieceAt 45 = .ok (.if_icmp .ne 16, 3) := by decide +kernel
theorem dX7_pieceAt_48 : decode cX7_pieceAt 48 = .ok (.bipush 100, 2) := by decide +kernel
theorem dX7_pieceAt_50 : decode cX7_pieceAt 50 = .ok (.iload 5, 2) := by decide +kernel
theorem dX7_pieceAt_52 : decode cX7_pieceAt 52 = .ok (.imul, 1) := by decide +kernel
theorem dX7_pieceAt_53 : decode cX7_pieceAt 53 = .ok (.iload 5, 2) := by decide +kernel
theorem dX7_pieceAt_55 : decode cX7_pieceAt 55 = .ok (.iload_n 2, 1) := by decide +kernel
theorem dX7_pieceAt_56 : decode cX7_pieceAt 56 = .ok (.invokestatic 97, 3) := by decide +kernel
theorem dX7_pieceAt_59 : decode cX7_pieceAt 59 = .ok (.iadd, 1) := by decide +kernel
theorem dX7_pieceAt_60 : decode cX7_pieceAt 60 = .ok (.ireturn, 1) := by decide +kernel
theorem dX7_pieceAt_61 : decode cX7_pieceAt 61 = .ok (.iinc 4 1, 3) := by decide +kernel
theorem dX7_pieceAt_64 : decode cX7_pieceAt 64 = .ok (.iload 5, 2) := by decide +kernel
theorem dX7_pieceAt_66 : decode cX7_pieceAt 66 = .ok (.iload 5, 2) := by decide +kernel
theorem dX7_pieceAt_68 : decode cX7_pieceAt 68 = .ok (.iload_n 2, 1) := by decide +kernel
theorem dX7_pieceAt_69 : decode cX7_pieceAt 69 = .ok (.invokestatic 97, 3) := by decide +kernel
theorem dX7_pieceAt_72 : decode cX7_pieceAt 72 = .ok (.iadd, 1) := by decide +kernel
theorem dX7_pieceAt_73 : decode cX7_pieceAt 73 = .ok (.istore 5, 2) := by decide +kernel
theorem dX7_pieceAt_75 : decode cX7_pieceAt 75 = .ok (.goto (-39), 3) := by decide +kernel
theorem dX7_pieceAt_78 : decode cX7_pieceAt 78 = .ok (.iconst (-1), 1) := by decide +kernel
theorem dX7_pieceAt_79 : decode cX7_pieceAt 79 = .ok (.ireturn, 1) := by decide +kernel
theorem dX7_minute_0 : decode cX7_minute 0 = .ok (.aload_n 0, 1) := by decide +kernel
theorem dX7_minute_1 : decode cX7_minute 1 = .ok (.iconst 0, 1) := by decide +kernel
theorem dX7_minute_2 : decode cX7_minute 2 = .ok (.putfield 47, 3) := by decide +kernel
theorem dX7_minute_5 : decode cX7_minute 5 = .ok (.aload_n 0, 1) := by decide +kernel
theorem dX7_minute_6 : decode cX7_minute 6 = .ok (.getfield 75, 3) := by decide +kernel
theorem dX7_minute_9 : decode cX7_minute 9 = .ok (.ireturn, 1) := by decide +kernel
set_option maxRecDepth 20000 in
theorem ggX7_isQuiet_X7_isQuestion : GoodIn wsX7_isQuiet wsX7_isQuestion := goodIn_r _ [5, 6, 7, 8, 9, 4, 10, 22, 23, 24, 25, 26, 27, 28, 29, 30, 31, 32, 33, 34, 35, 36] (by decide +kernel) (by decide +kernel)
set_option maxRecDepth 20000 in
theorem gX7_isQuiet_X7_isQuestion : GoodIn wsX7_isQuiet (wsV RX7 62 RX7 yX7_isQuestion wsX7_isQuestion) := goodIn_app (goodIn_of _ (by decide +kernel)) ggX7_isQuiet_X7_isQuestion
set_option maxRecDepth 20000 in
theorem ggX7_isQuiet_X7_holds : GoodIn wsX7_isQuiet wsX7_holds := goodIn_r _ [14, 15, 22, 23, 24, 25, 26, 27, 28, 29, 30, 31, 32, 33, 34, 35, 36] (by decide +kernel) (by decide +kernel)
set_option maxRecDepth 20000 in
theorem gX7_isQuiet_X7_holds : GoodIn wsX7_isQuiet (wsV RX7 58 RX7 yX7_holds wsX7_holds) := goodIn_app (goodIn_of _ (by decide +kernel)) ggX7_isQuiet_X7_holds
set_option maxRecDepth 20000 in
theorem ggX7_isQuiet_X7_quietNow : GoodIn wsX7_isQuiet wsX7_quietNow := goodIn_r _ [19, 20, 21, 22, 23, 24, 25, 26, 27, 28, 29, 30, 31, 32, 33, 34, 35, 36] (by decide +kernel) (by decide +kernel)
set_option maxRecDepth 20000 in
theorem gX7_isQuiet_X7_quietNow : GoodIn wsX7_isQuiet (wsV RX7 81 RX7 yX7_quietNow wsX7_quietNow) := goodIn_app (goodIn_of _ (by decide +kernel)) ggX7_isQuiet_X7_quietNow
theorem dX7_isQuiet_0 : decode cX7_isQuiet 0 = .ok (.aload_n 0, 1) := by decide +kernel
theorem dX7_isQuiet_1 : decode cX7_isQuiet 1 = .ok (.aload_n 0, 1) := by decide +kernel
theorem dX7_isQuiet_2 : decode cX7_isQuiet 2 = .ok (.iload_n 1, 1) := by decide +kernel
theorem dX7_isQuiet_3 : decode cX7_isQuiet 3 = .ok (.invokevirtual 62, 3) := by decide +kernel
theorem dX7_isQuiet_6 : decode cX7_isQuiet 6 = .ok (.ifCond .eq 7, 3) := by decide +kernel
theorem dX7_isQuiet_9 : decode cX7_isQuiet 9 = .ok (.iconst 0, 1) := by decide +kernel
theorem dX7_isQuiet_10 : decode cX7_isQuiet 10 = .ok (.goto 4, 3) := by decide +kernel
theorem dX7_isQuiet_13 : decode cX7_isQuiet 13 = .ok (.iconst 1, 1) := by decide +kernel
theorem dX7_isQuiet_14 : decode cX7_isQuiet 14 = .ok (.invokevirtual 58, 3) := by decide +kernel
theorem dX7_isQuiet_17 : decode cX7_isQuiet 17 = .ok (.ifCond .eq 15, 3) := by decide +kernel
theorem dX7_isQuiet_20 : decode cX7_isQuiet 20 = .ok (.aload_n 0, 1) := by decide +kernel
theorem dX7_isQuiet_21 : decode cX7_isQuiet 21 = .ok (.iload_n 1, 1) := by decide +kernel
theorem dX7_isQuiet_22 : decode cX7_isQuiet 22 = .ok (.invokevirtual 81, 3) := by decide +kernel
theorem dX7_isQuiet_25 : decode cX7_isQuiet 25 = .ok (.ifCond .eq 7, 3) := by decide +kernel
theorem dX7_isQuiet_28 : decode cX7_isQuiet 28 = .ok (.iconst 1, 1) := by decide +kernel
theorem dX7_isQuiet_29 : decode cX7_isQuiet 29 = .ok (.goto 4, 3) := by decide +kernel
theorem dX7_isQuiet_32 : decode cX7_isQuiet 32 = .ok (.iconst 0, 1) := by decide +kernel
theorem dX7_isQuiet_33 : decode cX7_isQuiet 33 = .ok (.ireturn, 1) := by decide +kernel
set_option maxRecDepth 20000 in
theorem ggX7_alerts_X7_isQuestion : GoodIn wsX7_alerts wsX7_isQuestion := goodIn_r _ [6, 7, 8, 9, 10, 5, 11, 17, 18, 19, 20, 21, 22, 23, 24, 25, 26, 27, 28, 29, 30, 31] (by decide +kernel) (by decide +kernel)
set_option maxRecDepth 20000 in
theorem gX7_alerts_X7_isQuestion : GoodIn wsX7_alerts (wsV RX7 62 RX7 yX7_isQuestion wsX7_isQuestion) := goodIn_app (goodIn_of _ (by decide +kernel)) ggX7_alerts_X7_isQuestion
set_option maxRecDepth 20000 in
theorem ggX7_alerts_X7_holds : GoodIn wsX7_alerts wsX7_holds := goodIn_r _ [15, 16, 17, 18, 19, 20, 21, 22, 23, 24, 25, 26, 27, 28, 29, 30, 31] (by decide +kernel) (by decide +kernel)
set_option maxRecDepth 20000 in
theorem gX7_alerts_X7_holds : GoodIn wsX7_alerts (wsV RX7 58 RX7 yX7_holds wsX7_holds) := goodIn_app (goodIn_of _ (by decide +kernel)) ggX7_alerts_X7_holds
theorem dX7_alerts_0 : decode cX7_alerts 0 = .ok (.aload_n 0, 1) := by decide +kernel
theorem dX7_alerts_1 : decode cX7_alerts 1 = .ok (.aload_n 0, 1) := by decide +kernel
theorem dX7_alerts_2 : decode cX7_alerts 2 = .ok (.iload_n 1, 1) := by decide +kernel
theorem dX7_alerts_3 : decode cX7_alerts 3 = .ok (.invokevirtual 62, 3) := by decide +kernel
theorem dX7_alerts_6 : decode cX7_alerts 6 = .ok (.ifCond .eq 7, 3) := by decide +kernel
theorem dX7_alerts_9 : decode cX7_alerts 9 = .ok (.iconst 0, 1) := by decide +kernel
theorem dX7_alerts_10 : decode cX7_alerts 10 = .ok (.goto 4, 3) := by decide +kernel
theorem dX7_alerts_13 : decode cX7_alerts 13 = .ok (.iconst 1, 1) := by decide +kernel
theorem dX7_alerts_14 : decode cX7_alerts 14 = .ok (.invokevirtual 58, 3) := by decide +kernel
theorem dX7_alerts_17 : decode cX7_alerts 17 = .ok (.ifCond .eq 12, 3) := by decide +kernel
theorem dX7_alerts_20 : decode cX7_alerts 20 = .ok (.aload_n 0, 1) := by decide +kernel
theorem dX7_alerts_21 : decode cX7_alerts 21 = .ok (.getfield 26, 3) := by decide +kernel
theorem dX7_alerts_24 : decode cX7_alerts 24 = .ok (.iload_n 1, 1) := by decide +kernel
theorem dX7_alerts_25 : decode cX7_alerts 25 = .ok (.iaload, 1) := by decide +kernel
theorem dX7_alerts_26 : decode cX7_alerts 26 = .ok (.goto 4, 3) := by decide +kernel
theorem dX7_alerts_29 : decode cX7_alerts 29 = .ok (.iconst 0, 1) := by decide +kernel
theorem dX7_alerts_30 : decode cX7_alerts 30 = .ok (.ireturn, 1) := by decide +kernel
set_option maxRecDepth 20000 in
theorem ggX7_batch_X7_isQuestion : GoodIn wsX7_batch wsX7_isQuestion := goodIn_r _ [6, 7, 8, 9, 10, 5, 11, 17, 18, 19, 20, 21, 22, 23, 24, 25, 26, 27, 28, 29, 30, 31] (by decide +kernel) (by decide +kernel)
set_option maxRecDepth 20000 in
theorem gX7_batch_X7_isQuestion : GoodIn wsX7_batch (wsV RX7 62 RX7 yX7_isQuestion wsX7_isQuestion) := goodIn_app (goodIn_of _ (by decide +kernel)) ggX7_batch_X7_isQuestion
set_option maxRecDepth 20000 in
theorem ggX7_batch_X7_holds : GoodIn wsX7_batch wsX7_holds := goodIn_r _ [15, 16, 17, 18, 19, 20, 21, 22, 23, 24, 25, 26, 27, 28, 29, 30, 31] (by decide +kernel) (by decide +kernel)
set_option maxRecDepth 20000 in
theorem gX7_batch_X7_holds : GoodIn wsX7_batch (wsV RX7 58 RX7 yX7_holds wsX7_holds) := goodIn_app (goodIn_of _ (by decide +kernel)) ggX7_batch_X7_holds
theorem dX7_batch_0 : decode cX7_batch 0 = .ok (.aload_n 0, 1) := by decide +kernel
theorem dX7_batch_1 : decode cX7_batch 1 = .ok (.aload_n 0, 1) := by decide +kernel
theorem dX7_batch_2 : decode cX7_batch 2 = .ok (.iload_n 1, 1) := by decide +kernel
theorem dX7_batch_3 : decode cX7_batch 3 = .ok (.invokevirtual 62, 3) := by decide +kernel
theorem dX7_batch_6 : decode cX7_batch 6 = .ok (.ifCond .eq 7, 3) := by decide +kernel
theorem dX7_batch_9 : decode cX7_batch 9 = .ok (.iconst 0, 1) := by decide +kernel
theorem dX7_batch_10 : decode cX7_batch 10 = .ok (.goto 4, 3) := by decide +kernel
theorem dX7_batch_13 : decode cX7_batch 13 = .ok (.iconst 1, 1) := by decide +kernel
theorem dX7_batch_14 : decode cX7_batch 14 = .ok (.invokevirtual 58, 3) := by decide +kernel
theorem dX7_batch_17 : decode cX7_batch 17 = .ok (.ifCond .eq 12, 3) := by decide +kernel
theorem dX7_batch_20 : decode cX7_batch 20 = .ok (.aload_n 0, 1) := by decide +kernel
theorem dX7_batch_21 : decode cX7_batch 21 = .ok (.getfield 29, 3) := by decide +kernel
theorem dX7_batch_24 : decode cX7_batch 24 = .ok (.iload_n 1, 1) := by decide +kernel
theorem dX7_batch_25 : decode cX7_batch 25 = .ok (.iaload, 1) := by decide +kernel
theorem dX7_batch_26 : decode cX7_batch 26 = .ok (.goto 4, 3) := by decide +kernel
theorem dX7_batch_29 : decode cX7_batch 29 = .ok (.iconst 0, 1) := by decide +kernel
theorem dX7_batch_30 : decode cX7_batch 30 = .ok (.ireturn, 1) := by decide +kernel
end
section
theorem dL_question_0 : decode cL_question 0 = .ok (.aload_n 1, 1) := by decide +kernel
theorem dL_question_1 : decode cL_question 1 = .ok (.iconst 0, 1) := by decide +kernel
theorem dL_question_2 : decode cL_question 2 = .ok (.aload_n 0, 1) := by decide +kernel
theorem dL_question_3 : decode cL_question 3 = .ok (.invokevirtual 7, 3) := by decide +kernel
theorem dL_question_6 : decode cL_question 6 = .ok (.i2l, 1) := by decide +kernel
theorem dL_question_7 : decode cL_question 7 = .ok (.lastore, 1) := by decide +kernel
theorem dL_question_8 : decode cL_question 8 = .ok (.goto 6, 3) := by decide +kernel
theorem dL_question_11 : decode cL_question 11 = .ok (.astore_n 2, 1) := by decide +kernel
theorem dL_question_12 : decode cL_question 12 = .ok (.iconst 1, 1) := by decide +kernel
theorem dL_question_13 : decode cL_question 13 = .ok (.ireturn, 1) := by decide +kernel
theorem dL_question_14 : decode cL_question 14 = .ok (.iconst 0, 1) := by decide +kernel
theorem dL_question_15 : decode cL_question 15 = .ok (.ireturn, 1) := by decide +kernel
set_option maxRecDepth 20000 in
theorem ggL_product_X6_product : GoodIn wsL_product wsX6_product := goodIn_ca (goodIn_ca (goodIn_r _ [7, 8, 9, 10, 11, 12, 13, 14, 15, 16, 6, 17, 18, 19, 20, 21, 22, 23, 24, 25, 26, 27, 28, 29, 30, 31, 32, 33, 34, 35, 36, 37, 38, 39, 40, 41, 42, 43, 44, 45, 46, 47, 48, 49, 50, 51, 52, 53, 54, 55, 56, 57, 58, 59, 60, 61, 62, 63, 64, 65, 66, 67, 68, 69, 70, 71, 72, 73, 74, 75, 76, 77, 78, 79, 80, 81, 82, 83, 84, 85, 86, 87, 88, 89, 90, 91, 92, 93, 94, 95, 96, 97, 98, 99, 100, 101, 102, 103, 104, 105, 106, 107, 108, 109, 110, 111, 112, 113, 114, 115, 116, 117, 118, 119, 120, 121, 122, 123, 124, 125, 126, 127, 128, 129, 130, 131, 132, 133, 134, 135, 136, 137, 138] (by decide +kernel) (by decide +kernel)) (goodIn_sub (fun _ h => List.mem_cons_of_mem _ (List.mem_append_left _ (List.mem_append_right _ h))) (by decide +kernel))) (goodIn_sub (fun _ h => List.mem_cons_of_mem _ (List.mem_append_right _ h)) (by decide +kernel))
set_option maxRecDepth 20000 in
theorem gL_product_X6_product : GoodIn wsL_product (wsV RL 15 RX6 yX6_product wsX6_product) := goodIn_app (goodIn_of _ (by decide +kernel)) ggL_product_X6_product
theorem dL_product_0 : decode cL_product 0 = .ok (.aload_n 2, 1) := by decide +kernel
theorem dL_product_1 : decode cL_product 1 = .ok (.iconst 0, 1) := by decide +kernel
theorem dL_product_2 : decode cL_product 2 = .ok (.aload_n 0, 1) := by decide +kernel
theorem dL_product_3 : decode cL_product 3 = .ok (.iload_n 1, 1) := by decide +kernel
theorem dL_product_4 : decode cL_product 4 = .ok (.invokevirtual 15, 3) := by decide +kernel
theorem dL_product_7 : decode cL_product 7 = .ok (.i2l, 1) := by decide +kernel
theorem dL_product_8 : decode cL_product 8 = .ok (.lastore, 1) := by decide +kernel
theorem dL_product_9 : decode cL_product 9 = .ok (.goto 9, 3) := by decide +kernel
theorem dL_product_12 : decode cL_product 12 = .ok (.astore_n 3, 1) := by decide +kernel
theorem dL_product_13 : decode cL_product 13 = .ok (.iconst 1, 1) := by decide +kernel
theorem dL_product_14 : decode cL_product 14 = .ok (.ireturn, 1) := by decide +kernel
theorem dL_product_15 : decode cL_product 15 = .ok (.astore_n 3, 1) := by decide +kernel
theorem dL_product_16 : decode cL_product 16 = .ok (.iconst 2, 1) := by decide +kernel
theorem dL_product_17 : decode cL_product 17 = .ok (.ireturn, 1) := by decide +kernel
theorem dL_product_18 : decode cL_product 18 = .ok (.iconst 0, 1) := by decide +kernel
theorem dL_product_19 : decode cL_product 19 = .ok (.ireturn, 1) := by decide +kernel
set_option maxRecDepth 20000 in
theorem ggL_test_X6_test : GoodIn wsL_test wsX6_test := goodIn_ca (goodIn_ca (goodIn_ca (goodIn_r _ [8, 9, 10, 11, 12, 13, 14, 15, 16, 17, 18, 19, 7, 20, 21, 22, 23, 24, 25, 26, 27, 28, 29, 30, 31, 32, 33, 34, 35, 36, 37, 38, 39, 40, 41, 42, 43, 44, 45, 46, 47, 48, 49, 50, 51, 52, 53, 54, 55, 56, 57, 58, 59, 60, 61, 62, 63, 64, 65, 66, 67, 68, 69, 70, 71, 72, 73, 74, 75, 76, 77, 78, 79, 80, 81, 82, 83, 84, 85, 86, 87, 88, 89, 90, 91, 92, 93, 94, 95, 96, 97, 98, 99, 100, 101, 102, 103, 104, 105, 106, 107, 108, 109, 110, 111, 112, 113, 114, 115, 116, 117, 118, 119, 120, 121, 122, 123, 124, 125, 126, 127, 128, 129, 130, 131, 132, 133, 134, 135, 136, 137, 138, 139, 140, 141, 142, 143, 144, 145, 146, 147, 148, 149, 150, 151, 152, 153, 154, 155, 156, 157, 158, 159, 160, 161, 162, 163, 164, 165, 166, 167, 168, 169, 170, 171, 172, 173, 174, 175] (by decide +kernel) (by decide +kernel)) (goodIn_sub (fun _ h => List.mem_cons_of_mem _ (List.mem_append_left _ (List.mem_append_left _ (List.mem_append_right _ h)))) (by decide +kernel))) (goodIn_sub (fun _ h => List.mem_cons_of_mem _ (List.mem_append_left _ (List.mem_append_right _ h))) (by decide +kernel))) (goodIn_sub (fun _ h => List.mem_cons_of_mem _ (List.mem_append_right _ h)) (by decide +kernel))
set_option maxRecDepth 20000 in
theorem gL_test_X6_test : GoodIn wsL_test (wsV RL 21 RX6 yX6_test wsX6_test) := goodIn_app (goodIn_of _ (by decide +kernel)) ggL_test_X6_test
theorem dL_test_0 : decode cL_test 0 = .ok (.aload 6, 2) := by decide +kernel
theorem dL_test_2 : decode cL_test 2 = .ok (.iconst 0, 1) := by decide +kernel
theorem dL_test_3 : decode cL_test 3 = .ok (.aload_n 0, 1) := by decide +kernel
theorem dL_test_4 : decode cL_test 4 = .ok (.iload_n 1, 1) := by decide +kernel
theorem dL_test_5 : decode cL_test 5 = .ok (.iload_n 2, 1) := by decide +kernel
theorem dL_test_6 : decode cL_test 6 = .ok (.iload_n 3, 1) := by decide +kernel
theorem dL_test_7 : decode cL_test 7 = .ok (.iload 4, 2) := by decide +kernel
theorem dL_test_9 : decode cL_test 9 = .ok (.iload 5, 2) := by decide +kernel
theorem dL_test_11 : decode cL_test 11 = .ok (.invokevirtual 21, 3) := by decide +kernel
theorem dL_test_14 : decode cL_test 14 = .ok (.i2l, 1) := by decide +kernel
theorem dL_test_15 : decode cL_test 15 = .ok (.lastore, 1) := by decide +kernel
theorem dL_test_16 : decode cL_test 16 = .ok (.goto 15, 3) := by decide +kernel
theorem dL_test_19 : decode cL_test 19 = .ok (.astore 7, 2) := by decide +kernel
theorem dL_test_21 : decode cL_test 21 = .ok (.iconst 1, 1) := by decide +kernel
theorem dL_test_22 : decode cL_test 22 = .ok (.ireturn, 1) := by decide +kernel
theorem dL_test_23 : decode cL_test 23 = .ok (.astore 7, 2) := by decide +kernel
theorem dL_test_25 : decode cL_test 25 = .ok (.iconst 2, 1) := by decide +kernel
theorem dL_test_26 : decode cL_test 26 = .ok (.ireturn, 1) := by decide +kernel
theorem dL_test_27 : decode cL_test 27 = .ok (.astore 7, 2) := by decide +kernel
theorem dL_test_29 : decode cL_test 29 = .ok (.iconst 3, 1) := by decide +kernel
theorem dL_test_30 : decode cL_test 30 = .ok (.ireturn, 1) := by decide +kernel
theorem dL_test_31 : decode cL_test 31 = .ok (.iconst 0, 1) := by decide +kernel
theorem dL_test_32 : decode cL_test 32 = .ok (.ireturn, 1) := by decide +kernel
set_option maxRecDepth 20000 in
theorem ggL_drop_X6_drop : GoodIn wsL_drop wsX6_drop := goodIn_ca (goodIn_r _ [6, 7, 8, 9, 10, 11, 5, 12, 13, 14, 15, 16, 17, 18, 19, 20, 21, 22, 23, 24, 25, 26, 27, 28, 29, 30, 31, 32, 33, 34, 35, 36, 37, 38, 39, 40, 41, 42, 43, 44, 45, 46, 47, 48, 49, 50, 51, 52] (by decide +kernel) (by decide +kernel)) (goodIn_sub (fun _ h => List.mem_cons_of_mem _ (List.mem_append_right _ h)) (by decide +kernel))
set_option maxRecDepth 20000 in
theorem gL_drop_X6_drop : GoodIn wsL_drop (wsV RL 27 RX6 yX6_drop wsX6_drop) := goodIn_app (goodIn_of _ (by decide +kernel)) ggL_drop_X6_drop
theorem dL_drop_0 : decode cL_drop 0 = .ok (.aload_n 2, 1) := by decide +kernel
theorem dL_drop_1 : decode cL_drop 1 = .ok (.iconst 0, 1) := by decide +kernel
theorem dL_drop_2 : decode cL_drop 2 = .ok (.aload_n 0, 1) := by decide +kernel
theorem dL_drop_3 : decode cL_drop 3 = .ok (.iload_n 1, 1) := by decide +kernel
theorem dL_drop_4 : decode cL_drop 4 = .ok (.invokevirtual 27, 3) := by decide +kernel
theorem dL_drop_7 : decode cL_drop 7 = .ok (.i2l, 1) := by decide +kernel
theorem dL_drop_8 : decode cL_drop 8 = .ok (.lastore, 1) := by decide +kernel
theorem dL_drop_9 : decode cL_drop 9 = .ok (.goto 6, 3) := by decide +kernel
theorem dL_drop_12 : decode cL_drop 12 = .ok (.astore_n 3, 1) := by decide +kernel
theorem dL_drop_13 : decode cL_drop 13 = .ok (.iconst 1, 1) := by decide +kernel
theorem dL_drop_14 : decode cL_drop 14 = .ok (.ireturn, 1) := by decide +kernel
theorem dL_drop_15 : decode cL_drop 15 = .ok (.iconst 0, 1) := by decide +kernel
theorem dL_drop_16 : decode cL_drop 16 = .ok (.ireturn, 1) := by decide +kernel
set_option maxRecDepth 20000 in
theorem ggL_setQuiet_X6_setQuiet : GoodIn wsL_setQuiet wsX6_setQuiet := goodIn_ca (goodIn_ca (goodIn_r _ [7, 8, 9, 10, 11, 12, 13, 6, 14, 15, 16, 17, 18, 19, 20, 21, 22, 23, 24, 25, 26, 27, 28, 29, 30, 31, 32, 33, 34, 35, 36, 37, 38, 39, 40, 41, 42, 43, 44, 45, 46, 47, 48, 49, 50, 51, 52, 53, 54, 55] (by decide +kernel) (by decide +kernel)) (goodIn_sub (fun _ h => List.mem_cons_of_mem _ (List.mem_append_left _ (List.mem_append_right _ h))) (by decide +kernel))) (goodIn_sub (fun _ h => List.mem_cons_of_mem _ (List.mem_append_right _ h)) (by decide +kernel))
set_option maxRecDepth 20000 in
theorem gL_setQuiet_X6_setQuiet : GoodIn wsL_setQuiet (wsV RL 30 RX6 yX6_setQuiet wsX6_setQuiet) := goodIn_app (goodIn_of _ (by decide +kernel)) ggL_setQuiet_X6_setQuiet
theorem dL_setQuiet_0 : decode cL_setQuiet 0 = .ok (.aload_n 3, 1) := by decide +kernel
theorem dL_setQuiet_1 : decode cL_setQuiet 1 = .ok (.iconst 0, 1) := by decide +kernel
theorem dL_setQuiet_2 : decode cL_setQuiet 2 = .ok (.aload_n 0, 1) := by decide +kernel
theorem dL_setQuiet_3 : decode cL_setQuiet 3 = .ok (.iload_n 1, 1) := by decide +kernel
theorem dL_setQuiet_4 : decode cL_setQuiet 4 = .ok (.iload_n 2, 1) := by decide +kernel
theorem dL_setQuiet_5 : decode cL_setQuiet 5 = .ok (.invokevirtual 30, 3) := by decide +kernel
theorem dL_setQuiet_8 : decode cL_setQuiet 8 = .ok (.i2l, 1) := by decide +kernel
theorem dL_setQuiet_9 : decode cL_setQuiet 9 = .ok (.lastore, 1) := by decide +kernel
theorem dL_setQuiet_10 : decode cL_setQuiet 10 = .ok (.goto 11, 3) := by decide +kernel
theorem dL_setQuiet_13 : decode cL_setQuiet 13 = .ok (.astore 4, 2) := by decide +kernel
theorem dL_setQuiet_15 : decode cL_setQuiet 15 = .ok (.iconst 1, 1) := by decide +kernel
theorem dL_setQuiet_16 : decode cL_setQuiet 16 = .ok (.ireturn, 1) := by decide +kernel
theorem dL_setQuiet_17 : decode cL_setQuiet 17 = .ok (.astore 4, 2) := by decide +kernel
theorem dL_setQuiet_19 : decode cL_setQuiet 19 = .ok (.iconst 2, 1) := by decide +kernel
theorem dL_setQuiet_20 : decode cL_setQuiet 20 = .ok (.ireturn, 1) := by decide +kernel
theorem dL_setQuiet_21 : decode cL_setQuiet 21 = .ok (.iconst 0, 1) := by decide +kernel
theorem dL_setQuiet_22 : decode cL_setQuiet 22 = .ok (.ireturn, 1) := by decide +kernel
set_option maxRecDepth 20000 in
theorem ggL_set_X6_set : GoodIn wsL_set wsX6_set := goodIn_ca (goodIn_ca (goodIn_r _ [7, 8, 9, 10, 11, 12, 6, 13, 14, 15, 16, 17, 18, 19, 20, 21, 22, 23, 24, 25, 26, 27, 28, 29, 30, 31, 32, 33] (by decide +kernel) (by decide +kernel)) (goodIn_sub (fun _ h => List.mem_cons_of_mem _ (List.mem_append_left _ (List.mem_append_right _ h))) (by decide +kernel))) (goodIn_sub (fun _ h => List.mem_cons_of_mem _ (List.mem_append_right _ h)) (by decide +kernel))
set_option maxRecDepth 20000 in
theorem gL_set_X6_set : GoodIn wsL_set (wsV RL 34 RX6 yX6_set wsX6_set) := goodIn_app (goodIn_of _ (by decide +kernel)) ggL_set_X6_set
theorem dL_set_0 : decode cL_set 0 = .ok (.aload_n 3, 1) := by decide +kernel
theorem dL_set_1 : decode cL_set 1 = .ok (.iconst 0, 1) := by decide +kernel
theorem dL_set_2 : decode cL_set 2 = .ok (.aload_n 0, 1) := by decide +kernel
theorem dL_set_3 : decode cL_set 3 = .ok (.iload_n 1, 1) := by decide +kernel
theorem dL_set_4 : decode cL_set 4 = .ok (.iload_n 2, 1) := by decide +kernel
theorem dL_set_5 : decode cL_set 5 = .ok (.invokevirtual 34, 3) := by decide +kernel
theorem dL_set_8 : decode cL_set 8 = .ok (.i2l, 1) := by decide +kernel
theorem dL_set_9 : decode cL_set 9 = .ok (.lastore, 1) := by decide +kernel
theorem dL_set_10 : decode cL_set 10 = .ok (.goto 11, 3) := by decide +kernel
theorem dL_set_13 : decode cL_set 13 = .ok (.astore 4, 2) := by decide +kernel
theorem dL_set_15 : decode cL_set 15 = .ok (.iconst 1, 1) := by decide +kernel
theorem dL_set_16 : decode cL_set 16 = .ok (.ireturn, 1) := by decide +kernel
theorem dL_set_17 : decode cL_set 17 = .ok (.astore 4, 2) := by decide +kernel
theorem dL_set_19 : decode cL_set 19 = .ok (.iconst 2, 1) := by decide +kernel
theorem dL_set_20 : decode cL_set 20 = .ok (.ireturn, 1) := by decide +kernel
theorem dL_set_21 : decode cL_set 21 = .ok (.iconst 0, 1) := by decide +kernel
theorem dL_set_22 : decode cL_set 22 = .ok (.ireturn, 1) := by decide +kernel
set_option maxRecDepth 20000 in
theorem ggL_advance_X6_advance : GoodIn wsL_advance wsX6_advance := goodIn_ca (goodIn_ca (goodIn_r _ [7, 8, 9, 10, 11, 12, 13, 14, 15, 16, 17, 18, 19, 20, 21, 22, 23, 24, 25, 26, 27, 28, 29, 30, 31, 32, 33, 34, 35, 36, 37, 38, 39, 40, 41, 42, 43, 44, 45, 46, 47, 48, 49, 50, 51, 52, 53, 54, 55, 56, 57, 58, 59, 60, 61, 62, 63, 64, 65, 66, 67, 68, 69] (by decide +kernel) (by decide +kernel)) (goodIn_sub (fun _ h => List.mem_cons_of_mem _ (List.mem_append_left _ (List.mem_append_right _ h))) (by decide +kernel))) (goodIn_sub (fun _ h => List.mem_cons_of_mem _ (List.mem_append_right _ h)) (by decide +kernel))
set_option maxRecDepth 20000 in
theorem gL_advance_X6_advance : GoodIn wsL_advance (wsV RL 37 RX6 yX6_advance wsX6_advance) := goodIn_app (goodIn_of _ (by decide +kernel)) ggL_advance_X6_advance
theorem dL_advance_0 : decode cL_advance 0 = .ok (.aload_n 2, 1) := by decide +kernel
theorem dL_advance_1 : decode cL_advance 1 = .ok (.iconst 0, 1) := by decide +kernel
theorem dL_advance_2 : decode cL_advance 2 = .ok (.aload_n 0, 1) := by decide +kernel
theorem dL_advance_3 : decode cL_advance 3 = .ok (.iload_n 1, 1) := by decide +kernel
theorem dL_advance_4 : decode cL_advance 4 = .ok (.invokevirtual 37, 3) := by decide +kernel
theorem dL_advance_7 : decode cL_advance 7 = .ok (.i2l, 1) := by decide +kernel
theorem dL_advance_8 : decode cL_advance 8 = .ok (.lastore, 1) := by decide +kernel
theorem dL_advance_9 : decode cL_advance 9 = .ok (.goto 9, 3) := by decide +kernel
theorem dL_advance_12 : decode cL_advance 12 = .ok (.astore_n 3, 1) := by decide +kernel
theorem dL_advance_13 : decode cL_advance 13 = .ok (.iconst 1, 1) := by decide +kernel
theorem dL_advance_14 : decode cL_advance 14 = .ok (.ireturn, 1) := by decide +kernel
theorem dL_advance_15 : decode cL_advance 15 = .ok (.astore_n 3, 1) := by decide +kernel
theorem dL_advance_16 : decode cL_advance 16 = .ok (.iconst 2, 1) := by decide +kernel
theorem dL_advance_17 : decode cL_advance 17 = .ok (.ireturn, 1) := by decide +kernel
theorem dL_advance_18 : decode cL_advance 18 = .ok (.iconst 0, 1) := by decide +kernel
theorem dL_advance_19 : decode cL_advance 19 = .ok (.ireturn, 1) := by decide +kernel
set_option maxRecDepth 20000 in
theorem ggL_satisfies_X6_satisfies : GoodIn wsL_satisfies wsX6_satisfies := goodIn_ca (goodIn_r _ [6, 7, 8, 9, 10, 5, 11, 12, 13, 14, 15, 16, 17, 18, 19, 20, 21, 22, 23, 24, 25, 26, 27, 28, 29, 30, 31, 32, 33, 34, 35, 36, 37, 38, 39, 40, 41, 42, 43, 44, 45, 46, 47, 48, 49, 50, 51, 52, 53, 54, 55, 56, 57, 58, 59, 60, 61, 62, 63, 64, 65, 66, 67, 68, 69, 70, 71, 72, 73, 74, 75, 76, 77, 78, 79, 80, 81, 82, 83, 84, 85, 86, 87, 88, 89, 90, 91, 92, 93, 94] (by decide +kernel) (by decide +kernel)) (goodIn_sub (fun _ h => List.mem_cons_of_mem _ (List.mem_append_right _ h)) (by decide +kernel))
set_option maxRecDepth 20000 in
theorem gL_satisfies_X6_satisfies : GoodIn wsL_satisfies (wsV RL 40 RX6 yX6_satisfies wsX6_satisfies) := goodIn_app (goodIn_of _ (by decide +kernel)) ggL_satisfies_X6_satisfies
theorem dL_satisfies_0 : decode cL_satisfies 0 = .ok (.aload_n 2, 1) := by decide +kernel
theorem dL_satisfies_1 : decode cL_satisfies 1 = .ok (.iconst 0, 1) := by decide +kernel
theorem dL_satisfies_2 : decode cL_satisfies 2 = .ok (.aload_n 0, 1) := by decide +kernel
theorem dL_satisfies_3 : decode cL_satisfies 3 = .ok (.iload_n 1, 1) := by decide +kernel
theorem dL_satisfies_4 : decode cL_satisfies 4 = .ok (.invokevirtual 40, 3) := by decide +kernel
theorem dL_satisfies_7 : decode cL_satisfies 7 = .ok (.ifCond .eq 7, 3) := by decide +kernel
theorem dL_satisfies_10 : decode cL_satisfies 10 = .ok (.lconst 1, 1) := by decide +kernel
theorem dL_satisfies_11 : decode cL_satisfies 11 = .ok (.goto 4, 3) := by decide +kernel
theorem dL_satisfies_14 : decode cL_satisfies 14 = .ok (.lconst 0, 1) := by decide +kernel
theorem dL_satisfies_15 : decode cL_satisfies 15 = .ok (.lastore, 1) := by decide +kernel
theorem dL_satisfies_16 : decode cL_satisfies 16 = .ok (.goto 6, 3) := by decide +kernel
theorem dL_satisfies_19 : decode cL_satisfies 19 = .ok (.astore_n 3, 1) := by decide +kernel
theorem dL_satisfies_20 : decode cL_satisfies 20 = .ok (.iconst 1, 1) := by decide +kernel
theorem dL_satisfies_21 : decode cL_satisfies 21 = .ok (.ireturn, 1) := by decide +kernel
theorem dL_satisfies_22 : decode cL_satisfies 22 = .ok (.iconst 0, 1) := by decide +kernel
theorem dL_satisfies_23 : decode cL_satisfies 23 = .ok (.ireturn, 1) := by decide +kernel
set_option maxRecDepth 20000 in
theorem ggL_sizeOf_X6_sizeOf : GoodIn wsL_sizeOf wsX6_sizeOf := goodIn_ca (goodIn_r _ [6, 7, 8, 9, 5, 10, 11, 12, 13, 14, 15, 16, 17, 18, 19, 20, 21, 22, 23, 24, 25, 26, 27, 28, 29, 30, 31, 32, 33, 34, 35, 36, 37, 38, 39, 40, 41, 42, 43, 44, 45, 46, 47, 48, 49, 50, 51, 52, 53, 54, 55, 56, 57, 58, 59, 60, 61, 62, 63, 64, 65, 66, 67, 68, 69, 70, 71, 72] (by decide +kernel) (by decide +kernel)) (goodIn_sub (fun _ h => List.mem_cons_of_mem _ (List.mem_append_right _ h)) (by decide +kernel))
set_option maxRecDepth 20000 in
theorem gL_sizeOf_X6_sizeOf : GoodIn wsL_sizeOf (wsV RL 44 RX6 yX6_sizeOf wsX6_sizeOf) := goodIn_app (goodIn_of _ (by decide +kernel)) ggL_sizeOf_X6_sizeOf
theorem dL_sizeOf_0 : decode cL_sizeOf 0 = .ok (.aload_n 2, 1) := by decide +kernel
theorem dL_sizeOf_1 : decode cL_sizeOf 1 = .ok (.iconst 0, 1) := by decide +kernel
theorem dL_sizeOf_2 : decode cL_sizeOf 2 = .ok (.aload_n 0, 1) := by decide +kernel
theorem dL_sizeOf_3 : decode cL_sizeOf 3 = .ok (.iload_n 1, 1) := by decide +kernel
theorem dL_sizeOf_4 : decode cL_sizeOf 4 = .ok (.invokevirtual 44, 3) := by decide +kernel
theorem dL_sizeOf_7 : decode cL_sizeOf 7 = .ok (.i2l, 1) := by decide +kernel
theorem dL_sizeOf_8 : decode cL_sizeOf 8 = .ok (.lastore, 1) := by decide +kernel
theorem dL_sizeOf_9 : decode cL_sizeOf 9 = .ok (.goto 6, 3) := by decide +kernel
theorem dL_sizeOf_12 : decode cL_sizeOf 12 = .ok (.astore_n 3, 1) := by decide +kernel
theorem dL_sizeOf_13 : decode cL_sizeOf 13 = .ok (.iconst 1, 1) := by decide +kernel
theorem dL_sizeOf_14 : decode cL_sizeOf 14 = .ok (.ireturn, 1) := by decide +kernel
theorem dL_sizeOf_15 : decode cL_sizeOf 15 = .ok (.iconst 0, 1) := by decide +kernel
theorem dL_sizeOf_16 : decode cL_sizeOf 16 = .ok (.ireturn, 1) := by decide +kernel
set_option maxRecDepth 20000 in
theorem ggL_pieces_X6_pieces : GoodIn wsL_pieces wsX6_pieces := goodIn_ca (goodIn_r _ [6, 7, 8, 5, 9, 10, 11, 12, 13, 14, 15, 16, 17] (by decide +kernel) (by decide +kernel)) (goodIn_sub (fun _ h => List.mem_cons_of_mem _ (List.mem_append_right _ h)) (by decide +kernel))
set_option maxRecDepth 20000 in
theorem gL_pieces_X6_pieces : GoodIn wsL_pieces (wsV RL 47 RX6 yX6_pieces wsX6_pieces) := goodIn_app (goodIn_of _ (by decide +kernel)) ggL_pieces_X6_pieces
theorem dL_pieces_0 : decode cL_pieces 0 = .ok (.aload_n 3, 1) := by decide +kernel
theorem dL_pieces_1 : decode cL_pieces 1 = .ok (.iconst 0, 1) := by decide +kernel
theorem dL_pieces_2 : decode cL_pieces 2 = .ok (.aload_n 0, 1) := by decide +kernel
theorem dL_pieces_3 : decode cL_pieces 3 = .ok (.iload_n 1, 1) := by decide +kernel
theorem dL_pieces_4 : decode cL_pieces 4 = .ok (.iload_n 2, 1) := by decide +kernel
theorem dL_pieces_5 : decode cL_pieces 5 = .ok (.invokevirtual 47, 3) := by decide +kernel
theorem dL_pieces_8 : decode cL_pieces 8 = .ok (.i2l, 1) := by decide +kernel
theorem dL_pieces_9 : decode cL_pieces 9 = .ok (.lastore, 1) := by decide +kernel
theorem dL_pieces_10 : decode cL_pieces 10 = .ok (.goto 7, 3) := by decide +kernel
theorem dL_pieces_13 : decode cL_pieces 13 = .ok (.astore 4, 2) := by decide +kernel
theorem dL_pieces_15 : decode cL_pieces 15 = .ok (.iconst 1, 1) := by decide +kernel
theorem dL_pieces_16 : decode cL_pieces 16 = .ok (.ireturn, 1) := by decide +kernel
theorem dL_pieces_17 : decode cL_pieces 17 = .ok (.iconst 0, 1) := by decide +kernel
theorem dL_pieces_18 : decode cL_pieces 18 = .ok (.ireturn, 1) := by decide +kernel
set_option maxRecDepth 20000 in
theorem ggL_pieceAt_X6_pieceAt : GoodIn wsL_pieceAt wsX6_pieceAt := goodIn_ca (goodIn_ca (goodIn_r _ [7, 8, 9, 10, 11, 6, 12, 13, 14, 15, 16, 17, 18, 19, 20] (by decide +kernel) (by decide +kernel)) (goodIn_sub (fun _ h => List.mem_cons_of_mem _ (List.mem_append_left _ (List.mem_append_right _ h))) (by decide +kernel))) (goodIn_sub (fun _ h => List.mem_cons_of_mem _ (List.mem_append_right _ h)) (by decide +kernel))
set_option maxRecDepth 20000 in
theorem gL_pieceAt_X6_pieceAt : GoodIn wsL_pieceAt (wsV RL 50 RX6 yX6_pieceAt wsX6_pieceAt) := goodIn_app (goodIn_of _ (by decide +kernel)) ggL_pieceAt_X6_pieceAt
theorem dL_pieceAt_0 : decode cL_pieceAt 0 = .ok (.aload 4, 2) := by decide +kernel
theorem dL_pieceAt_2 : decode cL_pieceAt 2 = .ok (.iconst 0, 1) := by decide +kernel
theorem dL_pieceAt_3 : decode cL_pieceAt 3 = .ok (.aload_n 0, 1) := by decide +kernel
theorem dL_pieceAt_4 : decode cL_pieceAt 4 = .ok (.iload_n 1, 1) := by decide +kernel
theorem dL_pieceAt_5 : decode cL_pieceAt 5 = .ok (.iload_n 2, 1) := by decide +kernel
theorem dL_pieceAt_6 : decode cL_pieceAt 6 = .ok (.iload_n 3, 1) := by decide +kernel
theorem dL_pieceAt_7 : decode cL_pieceAt 7 = .ok (.invokevirtual 50, 3) := by decide +kernel
theorem dL_pieceAt_10 : decode cL_pieceAt 10 = .ok (.i2l, 1) := by decide +kernel
theorem dL_pieceAt_11 : decode cL_pieceAt 11 = .ok (.lastore, 1) := by decide +kernel
theorem dL_pieceAt_12 : decode cL_pieceAt 12 = .ok (.goto 11, 3) := by decide +kernel
theorem dL_pieceAt_15 : decode cL_pieceAt 15 = .ok (.astore 5, 2) := by decide +kernel
theorem dL_pieceAt_17 : decode cL_pieceAt 17 = .ok (.iconst 1, 1) := by decide +kernel
theorem dL_pieceAt_18 : decode cL_pieceAt 18 = .ok (.ireturn, 1) := by decide +kernel
theorem dL_pieceAt_19 : decode cL_pieceAt 19 = .ok (.astore 5, 2) := by decide +kernel
theorem dL_pieceAt_21 : decode cL_pieceAt 21 = .ok (.iconst 2, 1) := by decide +kernel
theorem dL_pieceAt_22 : decode cL_pieceAt 22 = .ok (.ireturn, 1) := by decide +kernel
theorem dL_pieceAt_23 : decode cL_pieceAt 23 = .ok (.iconst 0, 1) := by decide +kernel
theorem dL_pieceAt_24 : decode cL_pieceAt 24 = .ok (.ireturn, 1) := by decide +kernel
set_option maxRecDepth 20000 in
theorem ggL_isQuiet_X6_isQuiet : GoodIn wsL_isQuiet wsX6_isQuiet := goodIn_ca (goodIn_r _ [6, 7, 8, 9, 10, 5, 11, 12, 13, 14, 15, 16, 17, 18, 19, 20, 21, 22, 23, 24, 25, 26, 27, 28, 29, 30, 31, 32, 33, 34, 35, 36, 37, 38, 39, 40, 41, 42, 43, 44, 45, 46, 47, 48, 49, 50, 51, 52, 53, 54, 55, 56, 57, 58] (by decide +kernel) (by decide +kernel)) (goodIn_sub (fun _ h => List.mem_cons_of_mem _ (List.mem_append_right _ h)) (by decide +kernel))
set_option maxRecDepth 20000 in
theorem gL_isQuiet_X6_isQuiet : GoodIn wsL_isQuiet (wsV RL 54 RX6 yX6_isQuiet wsX6_isQuiet) := goodIn_app (goodIn_of _ (by decide +kernel)) ggL_isQuiet_X6_isQuiet
theorem dL_isQuiet_0 : decode cL_isQuiet 0 = .ok (.aload_n 2, 1) := by decide +kernel
theorem dL_isQuiet_1 : decode cL_isQuiet 1 = .ok (.iconst 0, 1) := by decide +kernel
theorem dL_isQuiet_2 : decode cL_isQuiet 2 = .ok (.aload_n 0, 1) := by decide +kernel
theorem dL_isQuiet_3 : decode cL_isQuiet 3 = .ok (.iload_n 1, 1) := by decide +kernel
theorem dL_isQuiet_4 : decode cL_isQuiet 4 = .ok (.invokevirtual 54, 3) := by decide +kernel
theorem dL_isQuiet_7 : decode cL_isQuiet 7 = .ok (.ifCond .eq 7, 3) := by decide +kernel
theorem dL_isQuiet_10 : decode cL_isQuiet 10 = .ok (.lconst 1, 1) := by decide +kernel
theorem dL_isQuiet_11 : decode cL_isQuiet 11 = .ok (.goto 4, 3) := by decide +kernel
theorem dL_isQuiet_14 : decode cL_isQuiet 14 = .ok (.lconst 0, 1) := by decide +kernel
theorem dL_isQuiet_15 : decode cL_isQuiet 15 = .ok (.lastore, 1) := by decide +kernel
theorem dL_isQuiet_16 : decode cL_isQuiet 16 = .ok (.goto 6, 3) := by decide +kernel
theorem dL_isQuiet_19 : decode cL_isQuiet 19 = .ok (.astore_n 3, 1) := by decide +kernel
theorem dL_isQuiet_20 : decode cL_isQuiet 20 = .ok (.iconst 1, 1) := by decide +kernel
theorem dL_isQuiet_21 : decode cL_isQuiet 21 = .ok (.ireturn, 1) := by decide +kernel
theorem dL_isQuiet_22 : decode cL_isQuiet 22 = .ok (.iconst 0, 1) := by decide +kernel
theorem dL_isQuiet_23 : decode cL_isQuiet 23 = .ok (.ireturn, 1) := by decide +kernel
set_option maxRecDepth 20000 in
theorem ggL_alerts_X6_alerts : GoodIn wsL_alerts wsX6_alerts := goodIn_ca (goodIn_r _ [6, 7, 8, 9, 10, 5, 11, 12, 13, 14, 15, 16, 17, 18, 19, 20, 21, 22, 23, 24, 25, 26, 27, 28, 29, 30, 31, 32, 33, 34, 35, 36, 37, 38, 39, 40, 41, 42, 43, 44, 45, 46, 47, 48, 49, 50, 51, 52] (by decide +kernel) (by decide +kernel)) (goodIn_sub (fun _ h => List.mem_cons_of_mem _ (List.mem_append_right _ h)) (by decide +kernel))
set_option maxRecDepth 20000 in
theorem gL_alerts_X6_alerts : GoodIn wsL_alerts (wsV RL 57 RX6 yX6_alerts wsX6_alerts) := goodIn_app (goodIn_of _ (by decide +kernel)) ggL_alerts_X6_alerts
theorem dL_alerts_0 : decode cL_alerts 0 = .ok (.aload_n 2, 1) := by decide +kernel
theorem dL_alerts_1 : decode cL_alerts 1 = .ok (.iconst 0, 1) := by decide +kernel
theorem dL_alerts_2 : decode cL_alerts 2 = .ok (.aload_n 0, 1) := by decide +kernel
theorem dL_alerts_3 : decode cL_alerts 3 = .ok (.iload_n 1, 1) := by decide +kernel
theorem dL_alerts_4 : decode cL_alerts 4 = .ok (.invokevirtual 57, 3) := by decide +kernel
theorem dL_alerts_7 : decode cL_alerts 7 = .ok (.i2l, 1) := by decide +kernel
theorem dL_alerts_8 : decode cL_alerts 8 = .ok (.lastore, 1) := by decide +kernel
theorem dL_alerts_9 : decode cL_alerts 9 = .ok (.goto 6, 3) := by decide +kernel
theorem dL_alerts_12 : decode cL_alerts 12 = .ok (.astore_n 3, 1) := by decide +kernel
theorem dL_alerts_13 : decode cL_alerts 13 = .ok (.iconst 1, 1) := by decide +kernel
theorem dL_alerts_14 : decode cL_alerts 14 = .ok (.ireturn, 1) := by decide +kernel
theorem dL_alerts_15 : decode cL_alerts 15 = .ok (.iconst 0, 1) := by decide +kernel
theorem dL_alerts_16 : decode cL_alerts 16 = .ok (.ireturn, 1) := by decide +kernel
set_option maxRecDepth 20000 in
theorem ggL_batch_X6_batch : GoodIn wsL_batch wsX6_batch := goodIn_ca (goodIn_r _ [6, 7, 8, 9, 10, 5, 11, 12, 13, 14, 15, 16, 17, 18, 19, 20, 21, 22, 23, 24, 25, 26, 27, 28, 29, 30, 31, 32, 33, 34, 35, 36, 37, 38, 39, 40, 41, 42, 43, 44, 45, 46, 47, 48, 49, 50, 51, 52] (by decide +kernel) (by decide +kernel)) (goodIn_sub (fun _ h => List.mem_cons_of_mem _ (List.mem_append_right _ h)) (by decide +kernel))
set_option maxRecDepth 20000 in
theorem gL_batch_X6_batch : GoodIn wsL_batch (wsV RL 60 RX6 yX6_batch wsX6_batch) := goodIn_app (goodIn_of _ (by decide +kernel)) ggL_batch_X6_batch
theorem dL_batch_0 : decode cL_batch 0 = .ok (.aload_n 2, 1) := by decide +kernel
theorem dL_batch_1 : decode cL_batch 1 = .ok (.iconst 0, 1) := by decide +kernel
theorem dL_batch_2 : decode cL_batch 2 = .ok (.aload_n 0, 1) := by decide +kernel
theorem dL_batch_3 : decode cL_batch 3 = .ok (.iload_n 1, 1) := by decide +kernel
theorem dL_batch_4 : decode cL_batch 4 = .ok (.invokevirtual 60, 3) := by decide +kernel
theorem dL_batch_7 : decode cL_batch 7 = .ok (.i2l, 1) := by decide +kernel
theorem dL_batch_8 : decode cL_batch 8 = .ok (.lastore, 1) := by decide +kernel
theorem dL_batch_9 : decode cL_batch 9 = .ok (.goto 6, 3) := by decide +kernel
theorem dL_batch_12 : decode cL_batch 12 = .ok (.astore_n 3, 1) := by decide +kernel
theorem dL_batch_13 : decode cL_batch 13 = .ok (.iconst 1, 1) := by decide +kernel
theorem dL_batch_14 : decode cL_batch 14 = .ok (.ireturn, 1) := by decide +kernel
theorem dL_batch_15 : decode cL_batch 15 = .ok (.iconst 0, 1) := by decide +kernel
theorem dL_batch_16 : decode cL_batch 16 = .ok (.ireturn, 1) := by decide +kernel
set_option maxRecDepth 20000 in
theorem ggL_law_X6_init : GoodIn wsL_law wsX6_init := goodIn_r _ [9, 10, 11, 12, 13, 14, 15, 16, 17, 18, 19, 20, 21, 22, 23, 24, 25, 26, 27, 28, 29, 30, 31, 32, 33, 34, 35, 36, 37, 38, 39, 40, 41, 42, 43, 44, 45, 46, 47, 48, 49, 50, 51, 52, 53, 54, 55, 56, 588, 589, 590, 569, 570, 571, 572, 591, 592] (by decide +kernel) (by decide +kernel)
set_option maxRecDepth 20000 in
theorem gL_law_X6_init : GoodIn wsL_law (wsX6_init) := ggL_law_X6_init
set_option maxRecDepth 20000 in
theorem ggL_law_X7_init : GoodIn wsL_law wsX7_init := goodIn_r _ [59, 60, 11, 12, 45, 61, 62, 63, 64, 65, 66, 67, 68, 69, 70, 71, 72, 73, 573, 574, 575, 576, 577, 578, 579, 580, 581, 582, 583, 584, 585, 586, 587] (by decide +kernel) (by decide +kernel)
set_option maxRecDepth 20000 in
theorem gL_law_X7_init : GoodIn wsL_law (wsX7_init) := ggL_law_X7_init
set_option maxRecDepth 20000 in
theorem ggL_law_L_question : GoodIn wsL_law wsL_question := goodIn_ca (goodIn_r _ [77, 78, 79, 80, 81, 2, 82, 83, 84, 16, 85, 86, 87, 88, 89, 90, 15, 91, 92, 93, 94, 95, 96, 11, 12, 97, 14, 98, 99, 100, 101, 102, 103, 104, 27, 28, 29, 30, 31, 32, 33, 34, 35, 36, 37, 38, 39, 40, 105, 106, 107, 108, 109, 110, 111, 112, 113, 114, 115, 116, 117, 118, 119, 120, 121, 122, 123, 124, 125, 126, 127, 128, 129, 130, 131, 132, 133, 134, 135, 136, 137, 138, 49, 139, 140, 141, 142, 143, 144, 145, 146, 147, 148, 149, 150, 151, 152, 153, 154, 155, 569, 570, 571, 572, 593, 594, 595, 596, 597, 598, 588, 589, 590] (by decide +kernel) (by decide +kernel)) (goodIn_sub (fun _ h => List.mem_append_left _ (List.mem_append_left _ (List.mem_append_right _ h))) (by decide +kernel))
set_option maxRecDepth 20000 in
theorem gL_law_L_question : GoodIn wsL_law (va_wsS RL 67 yL_question wsL_question) := goodIn_app (goodIn_of _ (by decide +kernel)) ggL_law_L_question
set_option maxRecDepth 20000 in
theorem ggL_law_X7_question : GoodIn wsL_law wsX7_question := goodIn_r _ [159, 160, 161, 162, 163, 5, 164, 165, 573, 574, 575, 576, 577, 578, 579, 580, 581, 582, 583, 584, 585, 586, 587] (by decide +kernel) (by decide +kernel)
set_option maxRecDepth 20000 in
theorem gL_law_X7_question : GoodIn wsL_law (wsV RL 72 RX7 yX7_question wsX7_question) := goodIn_app (goodIn_of _ (by decide +kernel)) ggL_law_X7_question
set_option maxRecDepth 20000 in
theorem ggL_law_X7_thrown : GoodIn wsL_law wsX7_thrown := goodIn_r _ [169, 165, 573, 574, 575, 576, 577, 578, 579, 580, 581, 582, 583, 584, 585, 586, 587] (by decide +kernel) (by decide +kernel)
set_option maxRecDepth 20000 in
theorem gL_law_X7_thrown : GoodIn wsL_law (wsV RL 73 RX7 yX7_thrown wsX7_thrown) := goodIn_app (goodIn_of _ (by decide +kernel)) ggL_law_X7_thrown
set_option maxRecDepth 20000 in
theorem ggL_law_L_product : GoodIn wsL_law wsL_product := goodIn_ca (goodIn_ca (goodIn_r _ [172, 173, 78, 174, 175, 176, 2, 177, 83, 84, 178, 179, 180, 181, 182, 183, 184, 185, 186, 187, 16, 188, 189, 88, 89, 90, 15, 91, 92, 190, 191, 192, 193, 194, 195, 196, 197, 198, 199, 200, 201, 202, 203, 204, 205, 30, 206, 207, 208, 209, 11, 12, 210, 14, 211, 212, 213, 214, 27, 28, 29, 31, 32, 33, 34, 35, 36, 37, 38, 39, 40, 105, 106, 107, 108, 109, 110, 111, 112, 113, 114, 115, 116, 117, 118, 119, 120, 121, 122, 123, 124, 125, 126, 127, 128, 129, 130, 131, 132, 133, 134, 135, 136, 137, 138, 49, 139, 140, 141, 142, 143, 144, 145, 146, 147, 148, 149, 150, 151, 152, 153, 154, 155, 593, 594, 595, 596, 597, 598, 599, 600, 601, 569, 570, 571, 572, 588, 589, 590] (by decide +kernel) (by decide +kernel)) (goodIn_sub (fun _ h => List.mem_append_left _ (List.mem_append_left _ (List.mem_append_right _ h))) (by decide +kernel))) (goodIn_sub (fun _ h => List.mem_append_left _ (List.mem_append_right _ h)) (by decide +kernel))
set_option maxRecDepth 20000 in
theorem gL_law_L_product : GoodIn wsL_law (va_wsS RL 76 yL_product wsL_product) := goodIn_app (goodIn_of _ (by decide +kernel)) ggL_law_L_product
set_option maxRecDepth 20000 in
theorem ggL_law_X7_product : GoodIn wsL_law wsX7_product := goodIn_r _ [218, 64, 219, 220, 221, 5, 222, 160, 63, 223, 224, 225, 161, 162, 163, 164, 165, 573, 574, 575, 576, 577, 578, 579, 580, 581, 582, 583, 584, 585, 586, 587] (by decide +kernel) (by decide +kernel)
set_option maxRecDepth 20000 in
theorem gL_law_X7_product : GoodIn wsL_law (wsV RL 79 RX7 yX7_product wsX7_product) := goodIn_app (goodIn_of _ (by decide +kernel)) ggL_law_X7_product
set_option maxRecDepth 20000 in
theorem ggL_law_L_test : GoodIn wsL_law wsL_test := goodIn_ca (goodIn_ca (goodIn_ca (goodIn_r _ [228, 173, 229, 78, 230, 231, 232, 2, 233, 83, 84, 234, 235, 236, 237, 238, 24, 182, 183, 184, 185, 186, 187, 16, 188, 189, 88, 89, 90, 15, 91, 92, 190, 191, 192, 193, 194, 195, 196, 197, 198, 199, 200, 201, 202, 203, 204, 205, 30, 239, 240, 241, 242, 243, 244, 245, 246, 247, 248, 249, 250, 251, 252, 87, 253, 98, 254, 255, 256, 257, 258, 259, 260, 11, 12, 261, 262, 263, 264, 105, 106, 107, 108, 109, 110, 111, 112, 113, 114, 115, 116, 117, 118, 119, 120, 121, 122, 29, 123, 124, 125, 126, 127, 128, 129, 130, 131, 132, 133, 134, 135, 136, 137, 138, 49, 139, 140, 141, 142, 143, 144, 145, 146, 147, 148, 149, 150, 151, 152, 153, 154, 155, 265, 266, 267, 23, 268, 269, 270, 271, 272, 273, 274, 56, 55, 275, 276, 277, 278, 279, 280, 281, 282, 599, 600, 601, 602, 603, 604, 605, 569, 570, 571, 572, 593, 594, 595, 596, 597, 598, 588, 589, 590, 592, 606, 607] (by decide +kernel) (by decide +kernel)) (goodIn_sub (fun _ h => List.mem_append_left _ (List.mem_append_left _ (List.mem_append_right _ h))) (by decide +kernel))) (goodIn_sub (fun _ h => List.mem_append_left _ (List.mem_append_right _ h)) (by decide +kernel))) (goodIn_sub (fun _ h => List.mem_append_right _ h) (by decide +kernel))
set_option maxRecDepth 20000 in
theorem gL_law_L_test : GoodIn wsL_law (va_wsS RL 80 yL_test wsL_test) := goodIn_app (goodIn_of _ (by decide +kernel)) ggL_law_L_test
set_option maxRecDepth 20000 in
theorem ggL_law_X7_test : GoodIn wsL_law wsX7_test := goodIn_r _ [286, 64, 69, 70, 71, 72, 73, 219, 220, 221, 5, 222, 160, 63, 223, 224, 225, 287, 288, 289, 290, 291, 292, 161, 162, 163, 164, 165, 573, 574, 575, 576, 577, 578, 579, 580, 581, 582, 583, 584, 585, 586, 587] (by decide +kernel) (by decide +kernel)
set_option maxRecDepth 20000 in
theorem gL_law_X7_test : GoodIn wsL_law (wsV RL 83 RX7 yX7_test wsX7_test) := goodIn_app (goodIn_of _ (by decide +kernel)) ggL_law_X7_test
set_option maxRecDepth 20000 in
theorem ggL_law_L_drop : GoodIn wsL_law wsL_drop := goodIn_ca (goodIn_r _ [295, 173, 296, 297, 298, 2, 299, 189, 300, 182, 183, 184, 185, 186, 187, 16, 188, 88, 89, 90, 15, 91, 92, 190, 191, 192, 193, 194, 195, 196, 197, 198, 199, 200, 201, 202, 203, 204, 205, 30, 593, 594, 595, 596, 597, 598, 569, 570, 571, 572, 588, 589, 590] (by decide +kernel) (by decide +kernel)) (goodIn_sub (fun _ h => List.mem_append_left _ (List.mem_append_right _ h)) (by decide +kernel))
set_option maxRecDepth 20000 in
theorem gL_law_L_drop : GoodIn wsL_law (va_wsS RL 84 yL_drop wsL_drop) := goodIn_app (goodIn_of _ (by decide +kernel)) ggL_law_L_drop
set_option maxRecDepth 20000 in
theorem ggL_law_X7_drop : GoodIn wsL_law wsX7_drop := goodIn_r _ [304, 63, 68, 219, 220, 221, 5, 222, 160, 223, 224, 225, 161, 162, 163, 164, 165, 573, 574, 575, 576, 577, 578, 579, 580, 581, 582, 583, 584, 585, 586, 587] (by decide +kernel) (by decide +kernel)
set_option maxRecDepth 20000 in
theorem gL_law_X7_drop : GoodIn wsL_law (wsV RL 86 RX7 yX7_drop wsX7_drop) := goodIn_app (goodIn_of _ (by decide +kernel)) ggL_law_X7_drop
set_option maxRecDepth 20000 in
theorem ggL_law_L_setQuiet : GoodIn wsL_law wsL_setQuiet := goodIn_ca (goodIn_ca (goodIn_r _ [307, 173, 229, 308, 309, 310, 2, 311, 245, 246, 312, 182, 183, 184, 185, 186, 187, 16, 188, 189, 88, 89, 90, 15, 91, 92, 190, 191, 192, 193, 194, 195, 196, 197, 198, 199, 200, 201, 202, 203, 204, 205, 30, 593, 594, 595, 596, 597, 598, 569, 570, 571, 572, 588, 589, 590] (by decide +kernel) (by decide +kernel)) (goodIn_sub (fun _ h => List.mem_append_right _ h) (by decide +kernel))) (goodIn_sub (fun _ h => List.mem_append_left _ (List.mem_append_right _ h)) (by decide +kernel))
set_option maxRecDepth 20000 in
theorem gL_law_L_setQuiet : GoodIn wsL_law (va_wsS RL 87 yL_setQuiet wsL_setQuiet) := goodIn_app (goodIn_of _ (by decide +kernel)) ggL_law_L_setQuiet
set_option maxRecDepth 20000 in
theorem ggL_law_X7_setQuiet : GoodIn wsL_law wsX7_setQuiet := goodIn_r _ [316, 65, 219, 220, 221, 5, 222, 160, 63, 223, 224, 225, 161, 162, 163, 164, 165, 573, 574, 575, 576, 577, 578, 579, 580, 581, 582, 583, 584, 585, 586, 587] (by decide +kernel) (by decide +kernel)
set_option maxRecDepth 20000 in
theorem gL_law_X7_setQuiet : GoodIn wsL_law (wsV RL 90 RX7 yX7_setQuiet wsX7_setQuiet) := goodIn_app (goodIn_of _ (by decide +kernel)) ggL_law_X7_setQuiet
set_option maxRecDepth 20000 in
theorem ggL_law_L_set : GoodIn wsL_law wsL_set := goodIn_ca (goodIn_ca (goodIn_r _ [319, 173, 229, 320, 321, 322, 2, 323, 245, 246, 20, 239, 240, 241, 186, 187, 247, 248, 249, 324, 325, 326, 19, 327, 46, 328, 329, 330, 331, 569, 570, 571, 572, 591] (by decide +kernel) (by decide +kernel)) (goodIn_sub (fun _ h => List.mem_append_right _ h) (by decide +kernel))) (goodIn_sub (fun _ h => List.mem_append_left _ (List.mem_append_right _ h)) (by decide +kernel))
set_option maxRecDepth 20000 in
theorem gL_law_L_set : GoodIn wsL_law (va_wsS RL 91 yL_set wsL_set) := goodIn_app (goodIn_of _ (by decide +kernel)) ggL_law_L_set
set_option maxRecDepth 20000 in
theorem ggL_law_X7_set : GoodIn wsL_law wsX7_set := goodIn_r _ [335, 61, 287, 288, 5, 289, 223, 224, 225, 161, 162, 163, 164, 165, 573, 574, 575, 576, 577, 578, 579, 580, 581, 582, 583, 584, 585, 586, 587] (by decide +kernel) (by decide +kernel)
set_option maxRecDepth 20000 in
theorem gL_law_X7_set : GoodIn wsL_law (wsV RL 93 RX7 yX7_set wsX7_set) := goodIn_app (goodIn_of _ (by decide +kernel)) ggL_law_X7_set
set_option maxRecDepth 20000 in
theorem ggL_law_X6_come : GoodIn wsL_law wsX6_come := goodIn_r _ [339, 16, 188, 20, 25, 88, 89, 90, 15, 91, 92, 190, 191, 192, 193, 194, 195, 196, 197, 198, 199, 200, 201, 202, 203, 204, 205, 30, 340, 341, 342, 87, 343, 99, 98, 254, 255, 256, 344, 345, 346, 181, 347, 211, 348, 349, 350, 351, 352, 353, 237, 354, 261, 262, 263, 264, 355, 329, 330, 19, 331, 46, 356, 357, 358, 359, 103, 360, 361, 362, 363, 101, 364, 365, 366, 367, 102, 100, 569, 570, 571, 572, 588, 589, 590, 593, 594, 595, 596, 597, 598, 599, 600, 601, 602, 603, 604, 605, 591] (by decide +kernel) (by decide +kernel)
set_option maxRecDepth 20000 in
theorem gL_law_X6_come : GoodIn wsL_law (wsV RL 94 RX6 yX6_come wsX6_come) := goodIn_app (goodIn_of _ (by decide +kernel)) ggL_law_X6_come
set_option maxRecDepth 20000 in
theorem ggL_law_X7_come : GoodIn wsL_law wsX7_come := goodIn_r _ [371, 165, 160, 68, 219, 220, 221, 5, 222, 63, 223, 224, 225, 372, 373, 374, 375, 64, 69, 376, 377, 378, 379, 61, 70, 71, 72, 73, 380, 381, 382, 383, 384, 66, 385, 386, 387, 388, 67, 65, 573, 574, 575, 576, 577, 578, 579, 580, 581, 582, 583, 584, 585, 586, 587] (by decide +kernel) (by decide +kernel)
set_option maxRecDepth 20000 in
theorem gL_law_X7_come : GoodIn wsL_law (wsV RL 97 RX7 yX7_come wsX7_come) := goodIn_app (goodIn_of _ (by decide +kernel)) ggL_law_X7_come
set_option maxRecDepth 20000 in
theorem ggL_law_L_advance : GoodIn wsL_law wsL_advance := goodIn_ca (goodIn_ca (goodIn_r _ [391, 229, 78, 392, 393, 394, 2, 395, 245, 246, 83, 84, 396, 25, 16, 188, 88, 89, 90, 15, 91, 92, 190, 191, 192, 193, 194, 195, 196, 197, 198, 199, 200, 201, 202, 203, 204, 205, 30, 397, 398, 399, 87, 400, 99, 103, 101, 360, 361, 362, 363, 364, 365, 366, 367, 102, 100, 569, 570, 571, 572, 588, 589, 590, 593, 594, 595, 596, 597, 598] (by decide +kernel) (by decide +kernel)) (goodIn_sub (fun _ h => List.mem_append_right _ h) (by decide +kernel))) (goodIn_sub (fun _ h => List.mem_append_left _ (List.mem_append_left _ (List.mem_append_right _ h))) (by decide +kernel))
set_option maxRecDepth 20000 in
theorem gL_law_L_advance : GoodIn wsL_law (va_wsS RL 98 yL_advance wsL_advance) := goodIn_app (goodIn_of _ (by decide +kernel)) ggL_law_L_advance
set_option maxRecDepth 20000 in
theorem ggL_law_X7_advance : GoodIn wsL_law wsX7_advance := goodIn_r _ [404, 384, 405, 160, 66, 68, 223, 224, 5, 225, 161, 162, 163, 164, 165, 219, 220, 221, 222, 63, 385, 386, 387, 388, 67, 65, 573, 574, 575, 576, 577, 578, 579, 580, 581, 582, 583, 584, 585, 586, 587] (by decide +kernel) (by decide +kernel)
set_option maxRecDepth 20000 in
theorem gL_law_X7_advance : GoodIn wsL_law (wsV RL 100 RX7 yX7_advance wsX7_advance) := goodIn_app (goodIn_of _ (by decide +kernel)) ggL_law_X7_advance
set_option maxRecDepth 20000 in
theorem ggL_law_L_satisfies : GoodIn wsL_law wsL_satisfies := goodIn_ca (goodIn_r _ [408, 173, 409, 410, 411, 2, 412, 20, 182, 183, 184, 185, 186, 187, 16, 188, 189, 88, 89, 90, 15, 91, 92, 190, 191, 192, 193, 194, 195, 196, 197, 198, 199, 200, 201, 202, 203, 204, 205, 30, 340, 341, 342, 87, 343, 99, 98, 254, 255, 256, 344, 345, 346, 181, 347, 211, 348, 349, 350, 351, 352, 353, 237, 354, 261, 262, 263, 264, 355, 329, 330, 19, 331, 46, 569, 570, 571, 572, 593, 594, 595, 596, 597, 598, 588, 589, 590, 599, 600, 601, 602, 603, 604, 605, 591] (by decide +kernel) (by decide +kernel)) (goodIn_sub (fun _ h => List.mem_append_left _ (List.mem_append_right _ h)) (by decide +kernel))
set_option maxRecDepth 20000 in
theorem gL_law_L_satisfies : GoodIn wsL_law (va_wsS RL 101 yL_satisfies wsL_satisfies) := goodIn_app (goodIn_of _ (by decide +kernel)) ggL_law_L_satisfies
set_option maxRecDepth 20000 in
theorem ggL_law_X7_satisfies : GoodIn wsL_law wsX7_satisfies := goodIn_r _ [416, 219, 220, 221, 5, 222, 160, 63, 223, 224, 225, 161, 162, 163, 164, 165, 372, 373, 374, 375, 64, 69, 376, 377, 378, 379, 61, 70, 71, 72, 73, 573, 574, 575, 576, 577, 578, 579, 580, 581, 582, 583, 584, 585, 586, 587] (by decide +kernel) (by decide +kernel)
set_option maxRecDepth 20000 in
theorem gL_law_X7_satisfies : GoodIn wsL_law (wsV RL 103 RX7 yX7_satisfies wsX7_satisfies) := goodIn_app (goodIn_of _ (by decide +kernel)) ggL_law_X7_satisfies
set_option maxRecDepth 20000 in
theorem ggL_law_X6_matching : GoodIn wsL_law wsX6_matching := goodIn_r _ [420, 16, 188, 20, 88, 89, 90, 15, 91, 92, 190, 191, 192, 193, 194, 195, 196, 197, 198, 199, 200, 201, 202, 203, 204, 205, 30, 340, 341, 342, 87, 343, 99, 98, 254, 255, 256, 344, 345, 346, 181, 347, 211, 348, 349, 350, 351, 352, 353, 237, 354, 261, 262, 263, 264, 355, 329, 330, 19, 331, 46, 569, 570, 571, 572, 588, 589, 590, 593, 594, 595, 596, 597, 598, 599, 600, 601, 602, 603, 604, 605, 591] (by decide +kernel) (by decide +kernel)
set_option maxRecDepth 20000 in
theorem gL_law_X6_matching : GoodIn wsL_law (wsV RL 104 RX6 yX6_matching wsX6_matching) := goodIn_app (goodIn_of _ (by decide +kernel)) ggL_law_X6_matching
set_option maxRecDepth 20000 in
theorem ggL_law_X7_matching : GoodIn wsL_law wsX7_matching := goodIn_r _ [424, 165, 425, 426, 427, 5, 428, 160, 219, 220, 221, 222, 63, 223, 224, 225, 372, 373, 374, 375, 64, 69, 376, 377, 378, 379, 61, 70, 71, 72, 73, 573, 574, 575, 576, 577, 578, 579, 580, 581, 582, 583, 584, 585, 586, 587] (by decide +kernel) (by decide +kernel)
set_option maxRecDepth 20000 in
theorem gL_law_X7_matching : GoodIn wsL_law (wsV RL 107 RX7 yX7_matching wsX7_matching) := goodIn_app (goodIn_of _ (by decide +kernel)) ggL_law_X7_matching
set_option maxRecDepth 20000 in
theorem ggL_law_X6_matchingByIndex : GoodIn wsL_law wsX6_matchingByIndex := goodIn_r _ [432, 16, 188, 24, 20, 88, 89, 90, 15, 91, 92, 190, 191, 192, 193, 194, 195, 196, 197, 198, 199, 200, 201, 202, 203, 204, 205, 30, 433, 434, 435, 87, 436, 98, 254, 437, 255, 256, 438, 439, 440, 23, 441, 442, 329, 330, 19, 331, 46, 248, 2, 249, 443, 444, 445, 446, 447, 448, 449, 450, 451, 452, 453, 56, 454, 455, 456, 457, 99, 458, 459, 460, 181, 461, 213, 212, 211, 348, 462, 349, 350, 351, 352, 353, 237, 354, 261, 262, 263, 264, 355, 569, 570, 571, 572, 588, 589, 590, 593, 594, 595, 596, 597, 598, 599, 600, 601, 591, 606, 607, 592, 602, 603, 604, 605] (by decide +kernel) (by decide +kernel)
set_option maxRecDepth 20000 in
theorem gL_law_X6_matchingByIndex : GoodIn wsL_law (wsV RL 108 RX6 yX6_matchingByIndex wsX6_matchingByIndex) := goodIn_app (goodIn_of _ (by decide +kernel)) ggL_law_X6_matchingByIndex
set_option maxRecDepth 20000 in
theorem ggL_law_X7_matchingByIndex : GoodIn wsL_law wsX7_matchingByIndex := goodIn_r _ [466, 165, 425, 426, 427, 5, 428, 160, 219, 220, 221, 222, 63, 223, 224, 225, 372, 373, 374, 375, 64, 69, 376, 377, 378, 379, 61, 70, 71, 72, 73, 573, 574, 575, 576, 577, 578, 579, 580, 581, 582, 583, 584, 585, 586, 587] (by decide +kernel) (by decide +kernel)
set_option maxRecDepth 20000 in
theorem gL_law_X7_matchingByIndex : GoodIn wsL_law (wsV RL 111 RX7 yX7_matchingByIndex wsX7_matchingByIndex) := goodIn_app (goodIn_of _ (by decide +kernel)) ggL_law_X7_matchingByIndex
set_option maxRecDepth 20000 in
theorem ggL_law_L_sizeOf : GoodIn wsL_law wsL_sizeOf := goodIn_ca (goodIn_r _ [469, 173, 470, 471, 472, 2, 473, 182, 183, 184, 185, 186, 187, 16, 188, 189, 88, 89, 90, 15, 91, 92, 190, 191, 192, 193, 194, 195, 196, 197, 198, 199, 200, 201, 202, 203, 204, 205, 30, 474, 475, 476, 87, 477, 98, 254, 478, 479, 150, 125, 151, 255, 256, 480, 481, 482, 483, 569, 570, 571, 572, 593, 594, 595, 596, 597, 598, 588, 589, 590, 599, 600, 601] (by decide +kernel) (by decide +kernel)) (goodIn_sub (fun _ h => List.mem_append_left _ (List.mem_append_right _ h)) (by decide +kernel))
set_option maxRecDepth 20000 in
theorem gL_law_L_sizeOf : GoodIn wsL_law (va_wsS RL 112 yL_sizeOf wsL_sizeOf) := goodIn_app (goodIn_of _ (by decide +kernel)) ggL_law_L_sizeOf
set_option maxRecDepth 20000 in
theorem ggL_law_X7_sizeOf : GoodIn wsL_law wsX7_sizeOf := goodIn_r _ [487, 219, 220, 221, 5, 222, 160, 63, 223, 224, 225, 161, 162, 163, 164, 165, 488, 489, 490, 491, 64, 69, 73, 573, 574, 575, 576, 577, 578, 579, 580, 581, 582, 583, 584, 585, 586, 587] (by decide +kernel) (by decide +kernel)
set_option maxRecDepth 20000 in
theorem gL_law_X7_sizeOf : GoodIn wsL_law (wsV RL 114 RX7 yX7_sizeOf wsX7_sizeOf) := goodIn_app (goodIn_of _ (by decide +kernel)) ggL_law_X7_sizeOf
set_option maxRecDepth 20000 in
theorem ggL_law_X6_withSize : GoodIn wsL_law wsX6_withSize := goodIn_r _ [495, 16, 188, 189, 88, 89, 90, 15, 91, 92, 190, 191, 192, 193, 194, 195, 196, 197, 198, 199, 200, 201, 202, 203, 204, 205, 30, 474, 475, 476, 87, 477, 98, 254, 478, 479, 150, 125, 151, 255, 256, 480, 481, 482, 483, 569, 570, 571, 572, 593, 594, 595, 596, 597, 598, 588, 589, 590, 599, 600, 601] (by decide +kernel) (by decide +kernel)
set_option maxRecDepth 20000 in
theorem gL_law_X6_withSize : GoodIn wsL_law (wsV RL 115 RX6 yX6_withSize wsX6_withSize) := goodIn_app (goodIn_of _ (by decide +kernel)) ggL_law_X6_withSize
set_option maxRecDepth 20000 in
theorem ggL_law_X7_withSize : GoodIn wsL_law wsX7_withSize := goodIn_r _ [499, 165, 160, 219, 220, 221, 5, 222, 63, 223, 224, 225, 488, 489, 490, 491, 64, 69, 73, 573, 574, 575, 576, 577, 578, 579, 580, 581, 582, 583, 584, 585, 586, 587] (by decide +kernel) (by decide +kernel)
set_option maxRecDepth 20000 in
theorem gL_law_X7_withSize : GoodIn wsL_law (wsV RL 118 RX7 yX7_withSize wsX7_withSize) := goodIn_app (goodIn_of _ (by decide +kernel)) ggL_law_X7_withSize
set_option maxRecDepth 20000 in
theorem ggL_law_L_pieces : GoodIn wsL_law wsL_pieces := goodIn_ca (goodIn_r _ [502, 229, 503, 504, 505, 2, 506, 242, 243, 244, 245, 246, 247, 248, 249, 507, 269, 270] (by decide +kernel) (by decide +kernel)) (goodIn_sub (fun _ h => List.mem_append_right _ h) (by decide +kernel))
set_option maxRecDepth 20000 in
theorem gL_law_L_pieces : GoodIn wsL_law (va_wsS RL 119 yL_pieces wsL_pieces) := goodIn_app (goodIn_of _ (by decide +kernel)) ggL_law_L_pieces
set_option maxRecDepth 20000 in
theorem ggL_law_X7_pieces : GoodIn wsL_law wsX7_pieces := goodIn_r _ [511, 290, 291, 5, 292, 223, 224, 225, 161, 162, 163, 164, 165, 512, 513, 514, 573, 574, 575, 576, 577, 578, 579, 580, 581, 582, 583, 584, 585, 586, 587] (by decide +kernel) (by decide +kernel)
set_option maxRecDepth 20000 in
theorem gL_law_X7_pieces : GoodIn wsL_law (wsV RL 121 RX7 yX7_pieces wsX7_pieces) := goodIn_app (goodIn_of _ (by decide +kernel)) ggL_law_X7_pieces
set_option maxRecDepth 20000 in
theorem ggL_law_L_pieceAt : GoodIn wsL_law wsL_pieceAt := goodIn_ca (goodIn_ca (goodIn_r _ [517, 173, 229, 518, 519, 520, 2, 521, 186, 187, 242, 243, 244, 245, 246, 247, 248, 249, 507, 269, 270] (by decide +kernel) (by decide +kernel)) (goodIn_sub (fun _ h => List.mem_append_left _ (List.mem_append_right _ h)) (by decide +kernel))) (goodIn_sub (fun _ h => List.mem_append_right _ h) (by decide +kernel))
set_option maxRecDepth 20000 in
theorem gL_law_L_pieceAt : GoodIn wsL_law (va_wsS RL 122 yL_pieceAt wsL_pieceAt) := goodIn_app (goodIn_of _ (by decide +kernel)) ggL_law_L_pieceAt
set_option maxRecDepth 20000 in
theorem ggL_law_X7_pieceAt : GoodIn wsL_law wsX7_pieceAt := goodIn_r _ [525, 290, 291, 5, 292, 223, 224, 225, 161, 162, 163, 164, 165, 512, 513, 514, 573, 574, 575, 576, 577, 578, 579, 580, 581, 582, 583, 584, 585, 586, 587] (by decide +kernel) (by decide +kernel)
set_option maxRecDepth 20000 in
theorem gL_law_X7_pieceAt : GoodIn wsL_law (wsV RL 125 RX7 yX7_pieceAt wsX7_pieceAt) := goodIn_app (goodIn_of _ (by decide +kernel)) ggL_law_X7_pieceAt
set_option maxRecDepth 20000 in
theorem ggL_law_X6_minute : GoodIn wsL_law wsX6_minute := goodIn_r _ [529, 25, 569, 570, 571, 572] (by decide +kernel) (by decide +kernel)
set_option maxRecDepth 20000 in
theorem gL_law_X6_minute : GoodIn wsL_law (wsV RL 126 RX6 yX6_minute wsX6_minute) := goodIn_app (goodIn_of _ (by decide +kernel)) ggL_law_X6_minute
set_option maxRecDepth 20000 in
theorem ggL_law_X7_minute : GoodIn wsL_law wsX7_minute := goodIn_r _ [533, 165, 384, 573, 574, 575, 576, 577, 578, 579, 580, 581, 582, 583, 584, 585, 586, 587] (by decide +kernel) (by decide +kernel)
set_option maxRecDepth 20000 in
theorem gL_law_X7_minute : GoodIn wsL_law (wsV RL 129 RX7 yX7_minute wsX7_minute) := goodIn_app (goodIn_of _ (by decide +kernel)) ggL_law_X7_minute
set_option maxRecDepth 20000 in
theorem ggL_law_L_isQuiet : GoodIn wsL_law wsL_isQuiet := goodIn_ca (goodIn_r _ [536, 173, 537, 538, 539, 2, 540, 25, 182, 183, 184, 185, 186, 187, 16, 188, 189, 88, 89, 90, 15, 91, 92, 190, 191, 192, 193, 194, 195, 196, 197, 198, 199, 200, 201, 202, 203, 204, 205, 30, 541, 361, 362, 87, 363, 101, 569, 570, 571, 572, 593, 594, 595, 596, 597, 598, 588, 589, 590] (by decide +kernel) (by decide +kernel)) (goodIn_sub (fun _ h => List.mem_append_left _ (List.mem_append_right _ h)) (by decide +kernel))
set_option maxRecDepth 20000 in
theorem gL_law_L_isQuiet : GoodIn wsL_law (va_wsS RL 130 yL_isQuiet wsL_isQuiet) := goodIn_app (goodIn_of _ (by decide +kernel)) ggL_law_L_isQuiet
set_option maxRecDepth 20000 in
theorem ggL_law_X7_isQuiet : GoodIn wsL_law wsX7_isQuiet := goodIn_r _ [545, 219, 220, 221, 5, 222, 160, 63, 223, 224, 225, 161, 162, 163, 164, 165, 380, 381, 382, 383, 384, 66, 573, 574, 575, 576, 577, 578, 579, 580, 581, 582, 583, 584, 585, 586, 587] (by decide +kernel) (by decide +kernel)
set_option maxRecDepth 20000 in
theorem gL_law_X7_isQuiet : GoodIn wsL_law (wsV RL 132 RX7 yX7_isQuiet wsX7_isQuiet) := goodIn_app (goodIn_of _ (by decide +kernel)) ggL_law_X7_isQuiet
set_option maxRecDepth 20000 in
theorem ggL_law_L_alerts : GoodIn wsL_law wsL_alerts := goodIn_ca (goodIn_r _ [548, 173, 549, 550, 551, 2, 552, 553, 182, 183, 184, 185, 186, 187, 16, 188, 189, 88, 89, 90, 15, 91, 92, 190, 191, 192, 193, 194, 195, 196, 197, 198, 199, 200, 201, 202, 203, 204, 205, 30, 593, 594, 595, 596, 597, 598, 569, 570, 571, 572, 588, 589, 590] (by decide +kernel) (by decide +kernel)) (goodIn_sub (fun _ h => List.mem_append_left _ (List.mem_append_right _ h)) (by decide +kernel))
set_option maxRecDepth 20000 in
theorem gL_law_L_alerts : GoodIn wsL_law (va_wsS RL 133 yL_alerts wsL_alerts) := goodIn_app (goodIn_of _ (by decide +kernel)) ggL_law_L_alerts
set_option maxRecDepth 20000 in
theorem ggL_law_X7_alerts : GoodIn wsL_law wsX7_alerts := goodIn_r _ [557, 67, 219, 220, 221, 5, 222, 160, 63, 223, 224, 225, 161, 162, 163, 164, 165, 573, 574, 575, 576, 577, 578, 579, 580, 581, 582, 583, 584, 585, 586, 587] (by decide +kernel) (by decide +kernel)
set_option maxRecDepth 20000 in
theorem gL_law_X7_alerts : GoodIn wsL_law (wsV RL 135 RX7 yX7_alerts wsX7_alerts) := goodIn_app (goodIn_of _ (by decide +kernel)) ggL_law_X7_alerts
set_option maxRecDepth 20000 in
theorem ggL_law_L_batch : GoodIn wsL_law wsL_batch := goodIn_ca (goodIn_r _ [560, 173, 561, 562, 563, 2, 564, 300, 182, 183, 184, 185, 186, 187, 16, 188, 189, 88, 89, 90, 15, 91, 92, 190, 191, 192, 193, 194, 195, 196, 197, 198, 199, 200, 201, 202, 203, 204, 205, 30, 593, 594, 595, 596, 597, 598, 569, 570, 571, 572, 588, 589, 590] (by decide +kernel) (by decide +kernel)) (goodIn_sub (fun _ h => List.mem_append_left _ (List.mem_append_right _ h)) (by decide +kernel))
set_option maxRecDepth 20000 in
theorem gL_law_L_batch : GoodIn wsL_law (va_wsS RL 136 yL_batch wsL_batch) := goodIn_app (goodIn_of _ (by decide +kernel)) ggL_law_L_batch
set_option maxRecDepth 20000 in
theorem ggL_law_X7_batch : GoodIn wsL_law wsX7_batch := goodIn_r _ [568, 68, 219, 220, 221, 5, 222, 160, 63, 223, 224, 225, 161, 162, 163, 164, 165, 573, 574, 575, 576, 577, 578, 579, 580, 581, 582, 583, 584, 585, 586, 587] (by decide +kernel) (by decide +kernel)
set_option maxRecDepth 20000 in
theorem gL_law_X7_batch : GoodIn wsL_law (wsV RL 138 RX7 yX7_batch wsX7_batch) := goodIn_app (goodIn_of _ (by decide +kernel)) ggL_law_X7_batch
theorem dL_law_0 : decode cL_law 0 = .ok (.new 8, 3) := by decide +kernel
theorem dL_law_3 : decode cL_law 3 = .ok (.dup, 1) := by decide +kernel
theorem dL_law_4 : decode cL_law 4 = .ok (.invokespecial 63, 3) := by decide +kernel
theorem dL_law_7 : decode cL_law 7 = .ok (.astore_n 1, 1) := by decide +kernel
theorem dL_law_8 : decode cL_law 8 = .ok (.new 64, 3) := by decide +kernel
theorem dL_law_11 : decode cL_law 11 = .ok (.dup, 1) := by decide +kernel
theorem dL_law_12 : decode cL_law 12 = .ok (.invokespecial 66, 3) := by decide +kernel
theorem dL_law_15 : decode cL_law 15 = .ok (.astore_n 2, 1) := by decide +kernel
theorem dL_law_16 : decode cL_law 16 = .ok (.iconst 1, 1) := by decide +kernel
theorem dL_law_17 : decode cL_law 17 = .ok (.newarray .long, 2) := by decide +kernel
theorem dL_law_19 : decode cL_law 19 = .ok (.astore_n 3, 1) := by decide +kernel
theorem dL_law_20 : decode cL_law 20 = .ok (.iconst 0, 1) := by decide +kernel
theorem dL_law_21 : decode cL_law 21 = .ok (.istore 4, 2) := by decide +kernel
theorem dL_law_23 : decode cL_law 23 = .ok (.iload 4, 2) := by decide +kernel
theorem dL_law_25 : decode cL_law 25 = .ok (.aload_n 0, 1) := by decide +kernel
theorem dL_law_26 : decode cL_law 26 = .ok (.arraylength, 1) := by decide +kernel
theorem dL_law_27 : decode cL_law 27 = .ok (.bipush 6, 2) := by decide +kernel
theorem dL_law_29 : decode cL_law 29 = .ok (.isub, 1) := by decide +kernel
theorem dL_law_30 : decode cL_law 30 = .ok (.if_icmp .gt 1095, 3) := by decide +kernel
theorem dL_law_33 : decode cL_law 33 = .ok (.aload_n 0, 1) := by decide +kernel
theorem dL_law_34 : decode cL_law 34 = .ok (.iload 4, 2) := by decide +kernel
theorem dL_law_36 : decode cL_law 36 = .ok (.iaload, 1) := by decide +kernel
theorem dL_law_37 : decode cL_law 37 = .ok (.bipush 31, 2) := by decide +kernel
theorem dL_law_39 : decode cL_law 39 = .ok (.iand, 1) := by decide +kernel
theorem dL_law_40 : decode cL_law 40 = .ok (.tableswitch 1079 0 18 #[92, 136, 192, 312, 368, 436, 504, 517, 573, 636, 649, 662, 718, 743, 811, 891, 904, 967, 1023], 92) := by decide +kernel
theorem dL_law_132 : decode cL_law 132 = .ok (.aload_n 1, 1) := by decide +kernel
theorem dL_law_133 : decode cL_law 133 = .ok (.aload_n 3, 1) := by decide +kernel
theorem dL_law_134 : decode cL_law 134 = .ok (.invokestatic 67, 3) := by decide +kernel
theorem dL_law_137 : decode cL_law 137 = .ok (.istore 5, 2) := by decide +kernel
theorem dL_law_139 : decode cL_law 139 = .ok (.aload_n 2, 1) := by decide +kernel
theorem dL_law_140 : decode cL_law 140 = .ok (.invokevirtual 72, 3) := by decide +kernel
theorem dL_law_143 : decode cL_law 143 = .ok (.istore 6, 2) := by decide +kernel
theorem dL_law_145 : decode cL_law 145 = .ok (.aload_n 2, 1) := by decide +kernel
theorem dL_law_146 : decode cL_law 146 = .ok (.invokevirtual 73, 3) := by decide +kernel
theorem dL_law_149 : decode cL_law 149 = .ok (.iload 5, 2) := by decide +kernel
theorem dL_law_151 : decode cL_law 151 = .ok (.if_icmp .eq 5, 3) := by decide +kernel
theorem dL_law_154 : decode cL_law 154 = .ok (.iconst 0, 1) := by decide +kernel
theorem dL_law_155 : decode cL_law 155 = .ok (.ireturn, 1) := by decide +kernel
theorem dL_law_156 : decode cL_law 156 = .ok (.iload 5, 2) := by decide +kernel
theorem dL_law_158 : decode cL_law 158 = .ok (.ifCond .ne 15, 3) := by decide +kernel
theorem dL_law_161 : decode cL_law 161 = .ok (.aload_n 3, 1) := by decide +kernel
theorem dL_law_162 : decode cL_law 162 = .ok (.iconst 0, 1) := by decide +kernel
theorem dL_law_163 : decode cL_law 163 = .ok (.laload, 1) := by decide +kernel
theorem dL_law_164 : decode cL_law 164 = .ok (.iload 6, 2) := by decide +kernel
theorem dL_law_166 : decode cL_law 166 = .ok (.i2l, 1) := by decide +kernel
theorem dL_law_167 : decode cL_law 167 = .ok (.lcmp, 1) := by decide +kernel
theorem dL_law_168 : decode cL_law 168 = .ok (.ifCond .eq 5, 3) := by decide +kernel
theorem dL_law_171 : decode cL_law 171 = .ok (.iconst 0, 1) := by decide +kernel
theorem dL_law_172 : decode cL_law 172 = .ok (.ireturn, 1) := by decide +kernel
theorem dL_law_173 : decode cL_law 173 = .ok (.goto 946, 3) := by decide +kernel
theorem dL_law_176 : decode cL_law 176 = .ok (.aload_n 1, 1) := by decide +kernel
theorem dL_law_177 : decode cL_law 177 = .ok (.aload_n 0, 1) := by decide +kernel
theorem dL_law_178 : decode cL_law 178 = .ok (.iload 4, 2) := by decide +kernel
theorem dL_law_180 : decode cL_law 180 = .ok (.iconst 1, 1) := by decide +kernel
theorem dL_law_181 : decode cL_law 181 = .ok (.iadd, 1) := by decide +kernel
theorem dL_law_182 : decode cL_law 182 = .ok (.iaload, 1) := by decide +kernel
theorem dL_law_183 : decode cL_law 183 = .ok (.aload_n 3, 1) := by decide +kernel
theorem dL_law_184 : decode cL_law 184 = .ok (.invokestatic 76, 3) := by decide +kernel
theorem dL_law_187 : decode cL_law 187 = .ok (.istore 5, 2) := by decide +kernel
theorem dL_law_189 : decode cL_law 189 = .ok (.aload_n 2, 1) := by decide +kernel
theorem dL_law_190 : decode cL_law 190 = .ok (.aload_n 0, 1) := by decide +kernel
theorem dL_law_191 : decode cL_law 191 = .ok (.iload 4, 2) := by decide +kernel
theorem dL_law_193 : decode cL_law 193 = .ok (.iconst 1, 1) := by decide +kernel
theorem dL_law_194 : decode cL_law 194 = .ok (.iadd, 1) := by decide +kernel
theorem dL_law_195 : decode cL_law 195 = .ok (.iaload, 1) := by decide +kernel
theorem dL_law_196 : decode cL_law 196 = .ok (.invokevirtual 79, 3) := by decide +kernel
theorem dL_law_199 : decode cL_law 199 = .ok (.istore 6, 2) := by decide +kernel
theorem dL_law_201 : decode cL_law 201 = .ok (.aload_n 2, 1) := by decide +kernel
theorem dL_law_202 : decode cL_law 202 = .ok (.invokevirtual 73, 3) := by decide +kernel
theorem dL_law_205 : decode cL_law 205 = .ok (.iload 5, 2) := by decide +kernel
theorem dL_law_207 : decode cL_law 207 = .ok (.if_icmp .eq 5, 3) := by decide +kernel
theorem dL_law_210 : decode cL_law 210 = .ok (.iconst 0, 1) := by decide +kernel
theorem dL_law_211 : decode cL_law 211 = .ok (.ireturn, 1) := by decide +kernel
theorem dL_law_212 : decode cL_law 212 = .ok (.iload 5, 2) := by decide +kernel
theorem dL_law_214 : decode cL_law 214 = .ok (.ifCond .ne 15, 3) := by decide +kernel
theorem dL_law_217 : decode cL_law 217 = .ok (.aload_n 3, 1) := by decide +kernel
theorem dL_law_218 : decode cL_law 218 = .ok (.iconst 0, 1) := by decide +kernel
theorem dL_law_219 : decode cL_law 219 = .ok (.laload, 1) := by decide +kernel
theorem dL_law_220 : decode cL_law 220 = .ok (.iload 6, 2) := by decide +kernel
theorem dL_law_222 : decode cL_law 222 = .ok (.i2l, 1) := by decide +kernel
theorem dL_law_223 : decode cL_law 223 = .ok (.lcmp, 1) := by decide +kernel
theorem dL_law_224 : decode cL_law 224 = .ok (.ifCond .eq 5, 3) := by decide +kernel
theorem dL_law_227 : decode cL_law 227 = .ok (.iconst 0, 1) := by decide +kernel
theorem dL_law_228 : decode cL_law 228 = .ok (.ireturn, 1) := by decide +kernel
theorem dL_law_229 : decode cL_law 229 = .ok (.goto 890, 3) := by decide +kernel
theorem dL_law_232 : decode cL_law 232 = .ok (.aload_n 1, 1) := by decide +kernel
theorem dL_law_233 : decode cL_law 233 = .ok (.aload_n 0, 1) := by decide +kernel
theorem dL_law_234 : decode cL_law 234 = .ok (.iload 4, 2) := by decide +kernel
theorem dL_law_236 : decode cL_law 236 = .ok (.iconst 1, 1) := by decide +kernel
theorem dL_law_237 : decode cL_law 237 = .ok (.iadd, 1) := by decide +kernel
theorem dL_law_238 : decode cL_law 238 = .ok (.iaload, 1) := by decide +kernel
theorem dL_law_239 : decode cL_law 239 = .ok (.aload_n 0, 1) := by decide +kernel
theorem dL_law_240 : decode cL_law 240 = .ok (.iload 4, 2) := by decide +kernel
theorem dL_law_242 : decode cL_law 242 = .ok (.iconst 2, 1) := by decide +kernel
theorem dL_law_243 : decode cL_law 243 = .ok (.iadd, 1) := by decide +kernel
theorem dL_law_244 : decode cL_law 244 = .ok (.iaload, 1) := by decide +kernel
theorem dL_law_245 : decode cL_law 245 = .ok (.aload_n 0, 1) := by decide +kernel
theorem dL_law_246 : decode cL_law 246 = .ok (.iload 4, 2) := by decide +kernel
theorem dL_law_248 : decode cL_law 248 = .ok (.iconst 3, 1) := by decide +kernel
theorem dL_law_249 : decode cL_law 249 = .ok (.iadd, 1) := by decide +kernel
theorem dL_law_250 : decode cL_law 250 = .ok (.iaload, 1) := by decide +kernel
theorem dL_law_251 : decode cL_law 251 = .ok (.aload_n 0, 1) := by decide +kernel
theorem dL_law_252 : decode cL_law 252 = .ok (.iload 4, 2) := by decide +kernel
theorem dL_law_254 : decode cL_law 254 = .ok (.iconst 4, 1) := by decide +kernel
theorem dL_law_255 : decode cL_law 255 = .ok (.iadd, 1) := by decide +kernel
theorem dL_law_256 : decode cL_law 256 = .ok (.iaload, 1) := by decide +kernel
theorem dL_law_257 : decode cL_law 257 = .ok (.aload_n 0, 1) := by decide +kernel
theorem dL_law_258 : decode cL_law 258 = .ok (.iload 4, 2) := by decide +kernel
theorem dL_law_260 : decode cL_law 260 = .ok (.iconst 5, 1) := by decide +kernel
theorem dL_law_261 : decode cL_law 261 = .ok (.iadd, 1) := by decide +kernel
theorem dL_law_262 : decode cL_law 262 = .ok (.iaload, 1) := by decide +kernel
theorem dL_law_263 : decode cL_law 263 = .ok (.ifCond .eq 7, 3) := by decide +kernel
theorem dL_law_266 : decode cL_law 266 = .ok (.iconst 1, 1) := by decide +kernel
theorem dL_law_267 : decode cL_law 267 = .ok (.goto 4, 3) := by decide +kernel
theorem dL_law_270 : decode cL_law 270 = .ok (.iconst 0, 1) := by decide +kernel
theorem dL_law_271 : decode cL_law 271 = .ok (.aload_n 3, 1) := by decide +kernel
theorem dL_law_272 : decode cL_law 272 = .ok (.invokestatic 80, 3) := by decide +kernel
theorem dL_law_275 : decode cL_law 275 = .ok (.istore 5, 2) := by decide +kernel
theorem dL_law_277 : decode cL_law 277 = .ok (.aload_n 2, 1) := by decide +kernel
theorem dL_law_278 : decode cL_law 278 = .ok (.aload_n 0, 1) := by decide +kernel
theorem dL_law_279 : decode cL_law 279 = .ok (.iload 4, 2) := by decide +kernel
theorem dL_law_281 : decode cL_law 281 = .ok (.iconst 1, 1) := by decide +kernel
theorem dL_law_282 : decode cL_law 282 = .ok (.iadd, 1) := by decide +kernel
theorem dL_law_283 : decode cL_law 283 = .ok (.iaload, 1) := by decide +kernel
theorem dL_law_284 : decode cL_law 284 = .ok (.aload_n 0, 1) := by decide +kernel
theorem dL_law_285 : decode cL_law 285 = .ok (.iload 4, 2) := by decide +kernel
theorem dL_law_287 : decode cL_law 287 = .ok (.iconst 2, 1) := by decide +kernel
theorem dL_law_288 : decode cL_law 288 = .ok (.iadd, 1) := by decide +kernel
theorem dL_law_289 : decode cL_law 289 = .ok (.iaload, 1) := by decide +kernel
theorem dL_law_290 : decode cL_law 290 = .ok (.aload_n 0, 1) := by decide +kernel
theorem dL_law_291 : decode cL_law 291 = .ok (.iload 4, 2) := by decide +kernel
theorem dL_law_293 : decode cL_law 293 = .ok (.iconst 3, 1) := by decide +kernel
theorem dL_law_294 : decode cL_law 294 = .ok (.iadd, 1) := by decide +kernel
theorem dL_law_295 : decode cL_law 295 = .ok (.iaload, 1) := by decide +kernel
theorem dL_law_296 : decode cL_law 296 = .ok (.aload_n 0, 1) := by decide +kernel
theorem dL_law_297 : decode cL_law 297 = .ok (.iload 4, 2) := by decide +kernel
theorem dL_law_299 : decode cL_law 299 = .ok (.iconst 4, 1) := by decide +kernel
theorem dL_law_300 : decode cL_law 300 = .ok (.iadd, 1) := by decide +kernel
theorem dL_law_301 : decode cL_law 301 = .ok (.iaload, 1) := by decide +kernel
theorem dL_law_302 : decode cL_law 302 = .ok (.aload_n 0, 1) := by decide +kernel
theorem dL_law_303 : decode cL_law 303 = .ok (.iload 4, 2) := by decide +kernel
theorem dL_law_305 : decode cL_law 305 = .ok (.iconst 5, 1) := by decide +kernel
theorem dL_law_306 : decode cL_law 306 = .ok (.iadd, 1) := by decide +kernel
theorem dL_law_307 : decode cL_law 307 = .ok (.iaload, 1) := by decide +kernel
theorem dL_law_308 : decode cL_law 308 = .ok (.ifCond .eq 7, 3) := by decide +kernel
theorem dL_law_311 : decode cL_law 311 = .ok (.iconst 1, 1) := by decide +kernel
theorem dL_law_312 : decode cL_law 312 = .ok (.goto 4, 3) := by decide +kernel
theorem dL_law_315 : decode cL_law 315 = .ok (.iconst 0, 1) := by decide +kernel
theorem dL_law_316 : decode cL_law 316 = .ok (.invokevirtual 83, 3) := by decide +kernel
theorem dL_law_319 : decode cL_law 319 = .ok (.istore 6, 2) := by decide +kernel
theorem dL_law_321 : decode cL_law 321 = .ok (.aload_n 2, 1) := by decide +kernel
theorem dL_law_322 : decode cL_law 322 = .ok (.invokevirtual 73, 3) := by decide +kernel
theorem dL_law_325 : decode cL_law 325 = .ok (.iload 5, 2) := by decide +kernel
theorem dL_law_327 : decode cL_law 327 = .ok (.if_icmp .eq 5, 3) := by decide +kernel
theorem dL_law_330 : decode cL_law 330 = .ok (.iconst 0, 1) := by decide +kernel
theorem dL_law_331 : decode cL_law 331 = .ok (.ireturn, 1) := by decide +kernel
theorem dL_law_332 : decode cL_law 332 = .ok (.iload 5, 2) := by decide +kernel
theorem dL_law_334 : decode cL_law 334 = .ok (.ifCond .ne 15, 3) := by decide +kernel
theorem dL_law_337 : decode cL_law 337 = .ok (.aload_n 3, 1) := by decide +kernel
theorem dL_law_338 : decode cL_law 338 = .ok (.iconst 0, 1) := by decide +kernel
theorem dL_law_339 : decode cL_law 339 = .ok (.laload, 1) := by decide +kernel
theorem dL_law_340 : decode cL_law 340 = .ok (.iload 6, 2) := by decide +kernel
theorem dL_law_342 : decode cL_law 342 = .ok (.i2l, 1) := by decide +kernel
theorem dL_law_343 : decode cL_law 343 = .ok (.lcmp, 1) := by decide +kernel
theorem dL_law_344 : decode cL_law 344 = .ok (.ifCond .eq 5, 3) := by decide +kernel
theorem dL_law_347 : decode cL_law 347 = .ok (.iconst 0, 1) := by decide +kernel
theorem dL_law_348 : decode cL_law 348 = .ok (.ireturn, 1) := by decide +kernel
theorem dL_law_349 : decode cL_law 349 = .ok (.goto 770, 3) := by decide +kernel
theorem dL_law_352 : decode cL_law 352 = .ok (.aload_n 1, 1) := by decide +kernel
theorem dL_law_353 : decode cL_law 353 = .ok (.aload_n 0, 1) := by decide +kernel
theorem dL_law_354 : decode cL_law 354 = .ok (.iload 4, 2) := by decide +kernel
theorem dL_law_356 : decode cL_law 356 = .ok (.iconst 1, 1) := by decide +kernel
theorem dL_law_357 : decode cL_law 357 = .ok (.iadd, 1) := by decide +kernel
theorem dL_law_358 : decode cL_law 358 = .ok (.iaload, 1) := by decide +kernel
theorem dL_law_359 : decode cL_law 359 = .ok (.aload_n 3, 1) := by decide +kernel
theorem dL_law_360 : decode cL_law 360 = .ok (.invokestatic 84, 3) := by decide +kernel
theorem dL_law_363 : decode cL_law 363 = .ok (.istore 5, 2) := by decide +kernel
theorem dL_law_365 : decode cL_law 365 = .ok (.aload_n 2, 1) := by decide +kernel
theorem dL_law_366 : decode cL_law 366 = .ok (.aload_n 0, 1) := by decide +kernel
theorem dL_law_367 : decode cL_law 367 = .ok (.iload 4, 2) := by decide +kernel
theorem dL_law_369 : decode cL_law 369 = .ok (.iconst 1, 1) := by decide +kernel
theorem dL_law_370 : decode cL_law 370 = .ok (.iadd, 1) := by decide +kernel
theorem dL_law_371 : decode cL_law 371 = .ok (.iaload, 1) := by decide +kernel
theorem dL_law_372 : decode cL_law 372 = .ok (.invokevirtual 86, 3) := by decide +kernel
theorem dL_law_375 : decode cL_law 375 = .ok (.istore 6, 2) := by decide +kernel
theorem dL_law_377 : decode cL_law 377 = .ok (.aload_n 2, 1) := by decide +kernel
theorem dL_law_378 : decode cL_law 378 = .ok (.invokevirtual 73, 3) := by decide +kernel
theorem dL_law_381 : decode cL_law 381 = .ok (.iload 5, 2) := by decide +kernel
theorem dL_law_383 : decode cL_law 383 = .ok (.if_icmp .eq 5, 3) := by decide +kernel
theorem dL_law_386 : decode cL_law 386 = .ok (.iconst 0, 1) := by decide +kernel
theorem dL_law_387 : decode cL_law 387 = .ok (.ireturn, 1) := by decide +kernel
theorem dL_law_388 : decode cL_law 388 = .ok (.iload 5, 2) := by decide +kernel
theorem dL_law_390 : decode cL_law 390 = .ok (.ifCond .ne 15, 3) := by decide +kernel
theorem dL_law_393 : decode cL_law 393 = .ok (.aload_n 3, 1) := by decide +kernel
theorem dL_law_394 : decode cL_law 394 = .ok (.iconst 0, 1) := by decide +kernel
theorem dL_law_395 : decode cL_law 395 = .ok (.laload, 1) := by decide +kernel
theorem dL_law_396 : decode cL_law 396 = .ok (.iload 6, 2) := by decide +kernel
theorem dL_law_398 : decode cL_law 398 = .ok (.i2l, 1) := by decide +kernel
theorem dL_law_399 : decode cL_law 399 = .ok (.lcmp, 1) := by decide +kernel
theorem dL_law_400 : decode cL_law 400 = .ok (.ifCond .eq 5, 3) := by decide +kernel
theorem dL_law_403 : decode cL_law 403 = .ok (.iconst 0, 1) := by decide +kernel
theorem dL_law_404 : decode cL_law 404 = .ok (.ireturn, 1) := by decide +kernel
theorem dL_law_405 : decode cL_law 405 = .ok (.goto 714, 3) := by decide +kernel
theorem dL_law_408 : decode cL_law 408 = .ok (.aload_n 1, 1) := by decide +kernel
theorem dL_law_409 : decode cL_law 409 = .ok (.aload_n 0, 1) := by decide +kernel
theorem dL_law_410 : decode cL_law 410 = .ok (.iload 4, 2) := by decide +kernel
theorem dL_law_412 : decode cL_law 412 = .ok (.iconst 1, 1) := by decide +kernel
theorem dL_law_413 : decode cL_law 413 = .ok (.iadd, 1) := by decide +kernel
theorem dL_law_414 : decode cL_law 414 = .ok (.iaload, 1) := by decide +kernel
theorem dL_law_415 : decode cL_law 415 = .ok (.aload_n 0, 1) := by decide +kernel
theorem dL_law_416 : decode cL_law 416 = .ok (.iload 4, 2) := by decide +kernel
theorem dL_law_418 : decode cL_law 418 = .ok (.iconst 2, 1) := by decide +kernel
theorem dL_law_419 : decode cL_law 419 = .ok (.iadd, 1) := by decide +kernel
theorem dL_law_420 : decode cL_law 420 = .ok (.iaload, 1) := by decide +kernel
theorem dL_law_421 : decode cL_law 421 = .ok (.aload_n 3, 1) := by decide +kernel
theorem dL_law_422 : decode cL_law 422 = .ok (.invokestatic 87, 3) := by decide +kernel
theorem dL_law_425 : decode cL_law 425 = .ok (.istore 5, 2) := by decide +kernel
theorem dL_law_427 : decode cL_law 427 = .ok (.aload_n 2, 1) := by decide +kernel
theorem dL_law_428 : decode cL_law 428 = .ok (.aload_n 0, 1) := by decide +kernel
theorem dL_law_429 : decode cL_law 429 = .ok (.iload 4, 2) := by decide +kernel
theorem dL_law_431 : decode cL_law 431 = .ok (.iconst 1, 1) := by decide +kernel
theorem dL_law_432 : decode cL_law 432 = .ok (.iadd, 1) := by decide +kernel
theorem dL_law_433 : decode cL_law 433 = .ok (.iaload, 1) := by decide +kernel
theorem dL_law_434 : decode cL_law 434 = .ok (.aload_n 0, 1) := by decide +kernel
theorem dL_law_435 : decode cL_law 435 = .ok (.iload 4, 2) := by decide +kernel
theorem dL_law_437 : decode cL_law 437 = .ok (.iconst 2, 1) := by decide +kernel
theorem dL_law_438 : decode cL_law 438 = .ok (.iadd, 1) := by decide +kernel
theorem dL_law_439 : decode cL_law 439 = .ok (.iaload, 1) := by decide +kernel
theorem dL_law_440 : decode cL_law 440 = .ok (.invokevirtual 90, 3) := by decide +kernel
theorem dL_law_443 : decode cL_law 443 = .ok (.istore 6, 2) := by decide +kernel
theorem dL_law_445 : decode cL_law 445 = .ok (.aload_n 2, 1) := by decide +kernel
theorem dL_law_446 : decode cL_law 446 = .ok (.invokevirtual 73, 3) := by decide +kernel
theorem dL_law_449 : decode cL_law 449 = .ok (.iload 5, 2) := by decide +kernel
theorem dL_law_451 : decode cL_law 451 = .ok (.if_icmp .eq 5, 3) := by decide +kernel
theorem dL_law_454 : decode cL_law 454 = .ok (.iconst 0, 1) := by decide +kernel
theorem dL_law_455 : decode cL_law 455 = .ok (.ireturn, 1) := by decide +kernel
theorem dL_law_456 : decode cL_law 456 = .ok (.iload 5, 2) := by decide +kernel
theorem dL_law_458 : decode cL_law 458 = .ok (.ifCond .ne 15, 3) := by decide +kernel
theorem dL_law_461 : decode cL_law 461 = .ok (.aload_n 3, 1) := by decide +kernel
theorem dL_law_462 : decode cL_law 462 = .ok (.iconst 0, 1) := by decide +kernel
theorem dL_law_463 : decode cL_law 463 = .ok (.laload, 1) := by decide +kernel
theorem dL_law_464 : decode cL_law 464 = .ok (.iload 6, 2) := by decide +kernel
theorem dL_law_466 : decode cL_law 466 = .ok (.i2l, 1) := by decide +kernel
theorem dL_law_467 : decode cL_law 467 = .ok (.lcmp, 1) := by decide +kernel
theorem dL_law_468 : decode cL_law 468 = .ok (.ifCond .eq 5, 3) := by decide +kernel
theorem dL_law_471 : decode cL_law 471 = .ok (.iconst 0, 1) := by decide +kernel
theorem dL_law_472 : decode cL_law 472 = .ok (.ireturn, 1) := by decide +kernel
theorem dL_law_473 : decode cL_law 473 = .ok (.goto 646, 3) := by decide +kernel
theorem dL_law_476 : decode cL_law 476 = .ok (.aload_n 1, 1) := by decide +kernel
theorem dL_law_477 : decode cL_law 477 = .ok (.aload_n 0, 1) := by decide +kernel
theorem dL_law_478 : decode cL_law 478 = .ok (.iload 4, 2) := by decide +kernel
theorem dL_law_480 : decode cL_law 480 = .ok (.iconst 1, 1) := by decide +kernel
theorem dL_law_481 : decode cL_law 481 = .ok (.iadd, 1) := by decide +kernel
theorem dL_law_482 : decode cL_law 482 = .ok (.iaload, 1) := by decide +kernel
theorem dL_law_483 : decode cL_law 483 = .ok (.aload_n 0, 1) := by decide +kernel
theorem dL_law_484 : decode cL_law 484 = .ok (.iload 4, 2) := by decide +kernel
theorem dL_law_486 : decode cL_law 486 = .ok (.iconst 2, 1) := by decide +kernel
theorem dL_law_487 : decode cL_law 487 = .ok (.iadd, 1) := by decide +kernel
theorem dL_law_488 : decode cL_law 488 = .ok (.iaload, 1) := by decide +kernel
theorem dL_law_489 : decode cL_law 489 = .ok (.aload_n 3, 1) := by decide +kernel
theorem dL_law_490 : decode cL_law 490 = .ok (.invokestatic 91, 3) := by decide +kernel
theorem dL_law_493 : decode cL_law 493 = .ok (.istore 5, 2) := by decide +kernel
theorem dL_law_495 : decode cL_law 495 = .ok (.aload_n 2, 1) := by decide +kernel
theorem dL_law_496 : decode cL_law 496 = .ok (.aload_n 0, 1) := by decide +kernel
theorem dL_law_497 : decode cL_law 497 = .ok (.iload 4, 2) := by decide +kernel
theorem dL_law_499 : decode cL_law 499 = .ok (.iconst 1, 1) := by decide +kernel
theorem dL_law_500 : decode cL_law 500 = .ok (.iadd, 1) := by decide +kernel
theorem dL_law_501 : decode cL_law 501 = .ok (.iaload, 1) := by decide +kernel
theorem dL_law_502 : decode cL_law 502 = .ok (.aload_n 0, 1) := by decide +kernel
theorem dL_law_503 : decode cL_law 503 = .ok (.iload 4, 2) := by decide +kernel
theorem dL_law_505 : decode cL_law 505 = .ok (.iconst 2, 1) := by decide +kernel
theorem dL_law_506 : decode cL_law 506 = .ok (.iadd, 1) := by decide +kernel
theorem dL_law_507 : decode cL_law 507 = .ok (.iaload, 1) := by decide +kernel
theorem dL_law_508 : decode cL_law 508 = .ok (.invokevirtual 93, 3) := by decide +kernel
theorem dL_law_511 : decode cL_law 511 = .ok (.istore 6, 2) := by decide +kernel
theorem dL_law_513 : decode cL_law 513 = .ok (.aload_n 2, 1) := by decide +kernel
theorem dL_law_514 : decode cL_law 514 = .ok (.invokevirtual 73, 3) := by decide +kernel
theorem dL_law_517 : decode cL_law 517 = .ok (.iload 5, 2) := by decide +kernel
theorem dL_law_519 : decode cL_law 519 = .ok (.if_icmp .eq 5, 3) := by decide +kernel
theorem dL_law_522 : decode cL_law 522 = .ok (.iconst 0, 1) := by decide +kernel
theorem dL_law_523 : decode cL_law 523 = .ok (.ireturn, 1) := by decide +kernel
theorem dL_law_524 : decode cL_law 524 = .ok (.iload 5, 2) := by decide +kernel
theorem dL_law_526 : decode cL_law 526 = .ok (.ifCond .ne 15, 3) := by decide +kernel
theorem dL_law_529 : decode cL_law 529 = .ok (.aload_n 3, 1) := by decide +kernel
theorem dL_law_530 : decode cL_law 530 = .ok (.iconst 0, 1) := by decide +kernel
theorem dL_law_531 : decode cL_law 531 = .ok (.laload, 1) := by decide +kernel
theorem dL_law_532 : decode cL_law 532 = .ok (.iload 6, 2) := by decide +kernel
theorem dL_law_534 : decode cL_law 534 = .ok (.i2l, 1) := by decide +kernel
theorem dL_law_535 : decode cL_law 535 = .ok (.lcmp, 1) := by decide +kernel
theorem dL_law_536 : decode cL_law 536 = .ok (.ifCond .eq 5, 3) := by decide +kernel
theorem dL_law_539 : decode cL_law 539 = .ok (.iconst 0, 1) := by decide +kernel
theorem dL_law_540 : decode cL_law 540 = .ok (.ireturn, 1) := by decide +kernel
theorem dL_law_541 : decode cL_law 541 = .ok (.goto 578, 3) := by decide +kernel
theorem dL_law_544 : decode cL_law 544 = .ok (.aload_n 1, 1) := by decide +kernel
theorem dL_law_545 : decode cL_law 545 = .ok (.invokevirtual 94, 3) := by decide +kernel
theorem dL_law_548 : decode cL_law 548 = .ok (.aload_n 2, 1) := by decide +kernel
theorem dL_law_549 : decode cL_law 549 = .ok (.invokevirtual 97, 3) := by decide +kernel
theorem dL_law_552 : decode cL_law 552 = .ok (.if_icmp .eq 567, 3) := by decide +kernel
theorem dL_law_555 : decode cL_law 555 = .ok (.iconst 0, 1) := by decide +kernel
theorem dL_law_556 : decode cL_law 556 = .ok (.ireturn, 1) := by decide +kernel
theorem dL_law_557 : decode cL_law 557 = .ok (.aload_n 1, 1) := by decide +kernel
theorem dL_law_558 : decode cL_law 558 = .ok (.aload_n 0, 1) := by decide +kernel
theorem dL_law_559 : decode cL_law 559 = .ok (.iload 4, 2) := by decide +kernel
theorem dL_law_561 : decode cL_law 561 = .ok (.iconst 1, 1) := by decide +kernel
theorem dL_law_562 : decode cL_law 562 = .ok (.iadd, 1) := by decide +kernel
theorem dL_law_563 : decode cL_law 563 = .ok (.iaload, 1) := by decide +kernel
theorem dL_law_564 : decode cL_law 564 = .ok (.aload_n 3, 1) := by decide +kernel
theorem dL_law_565 : decode cL_law 565 = .ok (.invokestatic 98, 3) := by decide +kernel
theorem dL_law_568 : decode cL_law 568 = .ok (.istore 5, 2) := by decide +kernel
theorem dL_law_570 : decode cL_law 570 = .ok (.aload_n 2, 1) := by decide +kernel
theorem dL_law_571 : decode cL_law 571 = .ok (.aload_n 0, 1) := by decide +kernel
theorem dL_law_572 : decode cL_law 572 = .ok (.iload 4, 2) := by decide +kernel
theorem dL_law_574 : decode cL_law 574 = .ok (.iconst 1, 1) := by decide +kernel
theorem dL_law_575 : decode cL_law 575 = .ok (.iadd, 1) := by decide +kernel
theorem dL_law_576 : decode cL_law 576 = .ok (.iaload, 1) := by decide +kernel
theorem dL_law_577 : decode cL_law 577 = .ok (.invokevirtual 100, 3) := by decide +kernel
theorem dL_law_580 : decode cL_law 580 = .ok (.istore 6, 2) := by decide +kernel
theorem dL_law_582 : decode cL_law 582 = .ok (.aload_n 2, 1) := by decide +kernel
theorem dL_law_583 : decode cL_law 583 = .ok (.invokevirtual 73, 3) := by decide +kernel
theorem dL_law_586 : decode cL_law 586 = .ok (.iload 5, 2) := by decide +kernel
theorem dL_law_588 : decode cL_law 588 = .ok (.if_icmp .eq 5, 3) := by decide +kernel
theorem dL_law_591 : decode cL_law 591 = .ok (.iconst 0, 1) := by decide +kernel
theorem dL_law_592 : decode cL_law 592 = .ok (.ireturn, 1) := by decide +kernel
theorem dL_law_593 : decode cL_law 593 = .ok (.iload 5, 2) := by decide +kernel
theorem dL_law_595 : decode cL_law 595 = .ok (.ifCond .ne 15, 3) := by decide +kernel
theorem dL_law_598 : decode cL_law 598 = .ok (.aload_n 3, 1) := by decide +kernel
theorem dL_law_599 : decode cL_law 599 = .ok (.iconst 0, 1) := by decide +kernel
theorem dL_law_600 : decode cL_law 600 = .ok (.laload, 1) := by decide +kernel
theorem dL_law_601 : decode cL_law 601 = .ok (.iload 6, 2) := by decide +kernel
theorem dL_law_603 : decode cL_law 603 = .ok (.i2l, 1) := by decide +kernel
theorem dL_law_604 : decode cL_law 604 = .ok (.lcmp, 1) := by decide +kernel
theorem dL_law_605 : decode cL_law 605 = .ok (.ifCond .eq 5, 3) := by decide +kernel
theorem dL_law_608 : decode cL_law 608 = .ok (.iconst 0, 1) := by decide +kernel
theorem dL_law_609 : decode cL_law 609 = .ok (.ireturn, 1) := by decide +kernel
theorem dL_law_610 : decode cL_law 610 = .ok (.goto 509, 3) := by decide +kernel
theorem dL_law_613 : decode cL_law 613 = .ok (.aload_n 1, 1) := by decide +kernel
theorem dL_law_614 : decode cL_law 614 = .ok (.aload_n 0, 1) := by decide +kernel
theorem dL_law_615 : decode cL_law 615 = .ok (.iload 4, 2) := by decide +kernel
theorem dL_law_617 : decode cL_law 617 = .ok (.iconst 1, 1) := by decide +kernel
theorem dL_law_618 : decode cL_law 618 = .ok (.iadd, 1) := by decide +kernel
theorem dL_law_619 : decode cL_law 619 = .ok (.iaload, 1) := by decide +kernel
theorem dL_law_620 : decode cL_law 620 = .ok (.aload_n 3, 1) := by decide +kernel
theorem dL_law_621 : decode cL_law 621 = .ok (.invokestatic 101, 3) := by decide +kernel
theorem dL_law_624 : decode cL_law 624 = .ok (.istore 5, 2) := by decide +kernel
theorem dL_law_626 : decode cL_law 626 = .ok (.aload_n 2, 1) := by decide +kernel
theorem dL_law_627 : decode cL_law 627 = .ok (.aload_n 0, 1) := by decide +kernel
theorem dL_law_628 : decode cL_law 628 = .ok (.iload 4, 2) := by decide +kernel
theorem dL_law_630 : decode cL_law 630 = .ok (.iconst 1, 1) := by decide +kernel
theorem dL_law_631 : decode cL_law 631 = .ok (.iadd, 1) := by decide +kernel
theorem dL_law_632 : decode cL_law 632 = .ok (.iaload, 1) := by decide +kernel
theorem dL_law_633 : decode cL_law 633 = .ok (.invokevirtual 103, 3) := by decide +kernel
theorem dL_law_636 : decode cL_law 636 = .ok (.istore 6, 2) := by decide +kernel
theorem dL_law_638 : decode cL_law 638 = .ok (.aload_n 2, 1) := by decide +kernel
theorem dL_law_639 : decode cL_law 639 = .ok (.invokevirtual 73, 3) := by decide +kernel
theorem dL_law_642 : decode cL_law 642 = .ok (.iload 5, 2) := by decide +kernel
theorem dL_law_644 : decode cL_law 644 = .ok (.if_icmp .eq 5, 3) := by decide +kernel
theorem dL_law_647 : decode cL_law 647 = .ok (.iconst 0, 1) := by decide +kernel
theorem dL_law_648 : decode cL_law 648 = .ok (.ireturn, 1) := by decide +kernel
theorem dL_law_649 : decode cL_law 649 = .ok (.iload 5, 2) := by decide +kernel
theorem dL_law_651 : decode cL_law 651 = .ok (.ifCond .ne 22, 3) := by decide +kernel
theorem dL_law_654 : decode cL_law 654 = .ok (.aload_n 3, 1) := by decide +kernel
theorem dL_law_655 : decode cL_law 655 = .ok (.iconst 0, 1) := by decide +kernel
theorem dL_law_656 : decode cL_law 656 = .ok (.laload, 1) := by decide +kernel
theorem dL_law_657 : decode cL_law 657 = .ok (.iload 6, 2) := by decide +kernel
theorem dL_law_659 : decode cL_law 659 = .ok (.ifCond .eq 7, 3) := by decide +kernel
theorem dL_law_662 : decode cL_law 662 = .ok (.lconst 1, 1) := by decide +kernel
theorem dL_law_663 : decode cL_law 663 = .ok (.goto 4, 3) := by decide +kernel
theorem dL_law_666 : decode cL_law 666 = .ok (.lconst 0, 1) := by decide +kernel
theorem dL_law_667 : decode cL_law 667 = .ok (.lcmp, 1) := by decide +kernel
theorem dL_law_668 : decode cL_law 668 = .ok (.ifCond .eq 5, 3) := by decide +kernel
theorem dL_law_671 : decode cL_law 671 = .ok (.iconst 0, 1) := by decide +kernel
theorem dL_law_672 : decode cL_law 672 = .ok (.ireturn, 1) := by decide +kernel
theorem dL_law_673 : decode cL_law 673 = .ok (.goto 446, 3) := by decide +kernel
theorem dL_law_676 : decode cL_law 676 = .ok (.aload_n 1, 1) := by decide +kernel
theorem dL_law_677 : decode cL_law 677 = .ok (.invokevirtual 104, 3) := by decide +kernel
theorem dL_law_680 : decode cL_law 680 = .ok (.aload_n 2, 1) := by decide +kernel
theorem dL_law_681 : decode cL_law 681 = .ok (.invokevirtual 107, 3) := by decide +kernel
theorem dL_law_684 : decode cL_law 684 = .ok (.if_icmp .eq 435, 3) := by decide +kernel
theorem dL_law_687 : decode cL_law 687 = .ok (.iconst 0, 1) := by decide +kernel
theorem dL_law_688 : decode cL_law 688 = .ok (.ireturn, 1) := by decide +kernel
theorem dL_law_689 : decode cL_law 689 = .ok (.aload_n 1, 1) := by decide +kernel
theorem dL_law_690 : decode cL_law 690 = .ok (.invokevirtual 108, 3) := by decide +kernel
theorem dL_law_693 : decode cL_law 693 = .ok (.aload_n 2, 1) := by decide +kernel
theorem dL_law_694 : decode cL_law 694 = .ok (.invokevirtual 111, 3) := by decide +kernel
theorem dL_law_697 : decode cL_law 697 = .ok (.if_icmp .eq 422, 3) := by decide +kernel
theorem dL_law_700 : decode cL_law 700 = .ok (.iconst 0, 1) := by decide +kernel
theorem dL_law_701 : decode cL_law 701 = .ok (.ireturn, 1) := by decide +kernel
theorem dL_law_702 : decode cL_law 702 = .ok (.aload_n 1, 1) := by decide +kernel
theorem dL_law_703 : decode cL_law 703 = .ok (.aload_n 0, 1) := by decide +kernel
theorem dL_law_704 : decode cL_law 704 = .ok (.iload 4, 2) := by decide +kernel
theorem dL_law_706 : decode cL_law 706 = .ok (.iconst 1, 1) := by decide +kernel
theorem dL_law_707 : decode cL_law 707 = .ok (.iadd, 1) := by decide +kernel
theorem dL_law_708 : decode cL_law 708 = .ok (.iaload, 1) := by decide +kernel
theorem dL_law_709 : decode cL_law 709 = .ok (.aload_n 3, 1) := by decide +kernel
theorem dL_law_710 : decode cL_law 710 = .ok (.invokestatic 112, 3) := by decide +kernel
theorem dL_law_713 : decode cL_law 713 = .ok (.istore 5, 2) := by decide +kernel
theorem dL_law_715 : decode cL_law 715 = .ok (.aload_n 2, 1) := by decide +kernel
theorem dL_law_716 : decode cL_law 716 = .ok (.aload_n 0, 1) := by decide +kernel
theorem dL_law_717 : decode cL_law 717 = .ok (.iload 4, 2) := by decide +kernel
theorem dL_law_719 : decode cL_law 719 = .ok (.iconst 1, 1) := by decide +kernel
theorem dL_law_720 : decode cL_law 720 = .ok (.iadd, 1) := by decide +kernel
theorem dL_law_721 : decode cL_law 721 = .ok (.iaload, 1) := by decide +kernel
theorem dL_law_722 : decode cL_law 722 = .ok (.invokevirtual 114, 3) := by decide +kernel
theorem dL_law_725 : decode cL_law 725 = .ok (.istore 6, 2) := by decide +kernel
theorem dL_law_727 : decode cL_law 727 = .ok (.aload_n 2, 1) := by decide +kernel
theorem dL_law_728 : decode cL_law 728 = .ok (.invokevirtual 73, 3) := by decide +kernel
theorem dL_law_731 : decode cL_law 731 = .ok (.iload 5, 2) := by decide +kernel
theorem dL_law_733 : decode cL_law 733 = .ok (.if_icmp .eq 5, 3) := by decide +kernel
theorem dL_law_736 : decode cL_law 736 = .ok (.iconst 0, 1) := by decide +kernel
theorem dL_law_737 : decode cL_law 737 = .ok (.ireturn, 1) := by decide +kernel
theorem dL_law_738 : decode cL_law 738 = .ok (.iload 5, 2) := by decide +kernel
theorem dL_law_740 : decode cL_law 740 = .ok (.ifCond .ne 15, 3) := by decide +kernel
theorem dL_law_743 : decode cL_law 743 = .ok (.aload_n 3, 1) := by decide +kernel
theorem dL_law_744 : decode cL_law 744 = .ok (.iconst 0, 1) := by decide +kernel
theorem dL_law_745 : decode cL_law 745 = .ok (.laload, 1) := by decide +kernel
theorem dL_law_746 : decode cL_law 746 = .ok (.iload 6, 2) := by decide +kernel
theorem dL_law_748 : decode cL_law 748 = .ok (.i2l, 1) := by decide +kernel
theorem dL_law_749 : decode cL_law 749 = .ok (.lcmp, 1) := by decide +kernel
theorem dL_law_750 : decode cL_law 750 = .ok (.ifCond .eq 5, 3) := by decide +kernel
theorem dL_law_753 : decode cL_law 753 = .ok (.iconst 0, 1) := by decide +kernel
theorem dL_law_754 : decode cL_law 754 = .ok (.ireturn, 1) := by decide +kernel
theorem dL_law_755 : decode cL_law 755 = .ok (.goto 364, 3) := by decide +kernel
theorem dL_law_758 : decode cL_law 758 = .ok (.aload_n 1, 1) := by decide +kernel
theorem dL_law_759 : decode cL_law 759 = .ok (.aload_n 0, 1) := by decide +kernel
theorem dL_law_760 : decode cL_law 760 = .ok (.iload 4, 2) := by decide +kernel
theorem dL_law_762 : decode cL_law 762 = .ok (.iconst 1, 1) := by decide +kernel
theorem dL_law_763 : decode cL_law 763 = .ok (.iadd, 1) := by decide +kernel
theorem dL_law_764 : decode cL_law 764 = .ok (.iaload, 1) := by decide +kernel
theorem dL_law_765 : decode cL_law 765 = .ok (.invokevirtual 115, 3) := by decide +kernel
theorem dL_law_768 : decode cL_law 768 = .ok (.aload_n 2, 1) := by decide +kernel
theorem dL_law_769 : decode cL_law 769 = .ok (.aload_n 0, 1) := by decide +kernel
theorem dL_law_770 : decode cL_law 770 = .ok (.iload 4, 2) := by decide +kernel
theorem dL_law_772 : decode cL_law 772 = .ok (.iconst 1, 1) := by decide +kernel
theorem dL_law_773 : decode cL_law 773 = .ok (.iadd, 1) := by decide +kernel
theorem dL_law_774 : decode cL_law 774 = .ok (.iaload, 1) := by decide +kernel
theorem dL_law_775 : decode cL_law 775 = .ok (.invokevirtual 118, 3) := by decide +kernel
theorem dL_law_778 : decode cL_law 778 = .ok (.if_icmp .eq 341, 3) := by decide +kernel
theorem dL_law_781 : decode cL_law 781 = .ok (.iconst 0, 1) := by decide +kernel
theorem dL_law_782 : decode cL_law 782 = .ok (.ireturn, 1) := by decide +kernel
theorem dL_law_783 : decode cL_law 783 = .ok (.aload_n 1, 1) := by decide +kernel
theorem dL_law_784 : decode cL_law 784 = .ok (.aload_n 0, 1) := by decide +kernel
theorem dL_law_785 : decode cL_law 785 = .ok (.iload 4, 2) := by decide +kernel
theorem dL_law_787 : decode cL_law 787 = .ok (.iconst 1, 1) := by decide +kernel
theorem dL_law_788 : decode cL_law 788 = .ok (.iadd, 1) := by decide +kernel
theorem dL_law_789 : decode cL_law 789 = .ok (.iaload, 1) := by decide +kernel
theorem dL_law_790 : decode cL_law 790 = .ok (.aload_n 0, 1) := by decide +kernel
theorem dL_law_791 : decode cL_law 791 = .ok (.iload 4, 2) := by decide +kernel
theorem dL_law_793 : decode cL_law 793 = .ok (.iconst 2, 1) := by decide +kernel
theorem dL_law_794 : decode cL_law 794 = .ok (.iadd, 1) := by decide +kernel
theorem dL_law_795 : decode cL_law 795 = .ok (.iaload, 1) := by decide +kernel
theorem dL_law_796 : decode cL_law 796 = .ok (.aload_n 3, 1) := by decide +kernel
theorem dL_law_797 : decode cL_law 797 = .ok (.invokestatic 119, 3) := by decide +kernel
theorem dL_law_800 : decode cL_law 800 = .ok (.istore 5, 2) := by decide +kernel
theorem dL_law_802 : decode cL_law 802 = .ok (.aload_n 2, 1) := by decide +kernel
theorem dL_law_803 : decode cL_law 803 = .ok (.aload_n 0, 1) := by decide +kernel
theorem dL_law_804 : decode cL_law 804 = .ok (.iload 4, 2) := by decide +kernel
theorem dL_law_806 : decode cL_law 806 = .ok (.iconst 1, 1) := by decide +kernel
theorem dL_law_807 : decode cL_law 807 = .ok (.iadd, 1) := by decide +kernel
theorem dL_law_808 : decode cL_law 808 = .ok (.iaload, 1) := by decide +kernel
theorem dL_law_809 : decode cL_law 809 = .ok (.aload_n 0, 1) := by decide +kernel
theorem dL_law_810 : decode cL_law 810 = .ok (.iload 4, 2) := by decide +kernel
theorem dL_law_812 : decode cL_law 812 = .ok (.iconst 2, 1) := by decide +kernel
theorem dL_law_813 : decode cL_law 813 = .ok (.iadd, 1) := by decide +kernel
theorem dL_law_814 : decode cL_law 814 = .ok (.iaload, 1) := by decide +kernel
theorem dL_law_815 : decode cL_law 815 = .ok (.invokevirtual 121, 3) := by decide +kernel
theorem dL_law_818 : decode cL_law 818 = .ok (.istore 6, 2) := by decide +kernel
theorem dL_law_820 : decode cL_law 820 = .ok (.aload_n 2, 1) := by decide +kernel
theorem dL_law_821 : decode cL_law 821 = .ok (.invokevirtual 73, 3) := by decide +kernel
theorem dL_law_824 : decode cL_law 824 = .ok (.iload 5, 2) := by decide +kernel
theorem dL_law_826 : decode cL_law 826 = .ok (.if_icmp .eq 5, 3) := by decide +kernel
theorem dL_law_829 : decode cL_law 829 = .ok (.iconst 0, 1) := by decide +kernel
theorem dL_law_830 : decode cL_law 830 = .ok (.ireturn, 1) := by decide +kernel
theorem dL_law_831 : decode cL_law 831 = .ok (.iload 5, 2) := by decide +kernel
theorem dL_law_833 : decode cL_law 833 = .ok (.ifCond .ne 15, 3) := by decide +kernel
theorem dL_law_836 : decode cL_law 836 = .ok (.aload_n 3, 1) := by decide +kernel
theorem dL_law_837 : decode cL_law 837 = .ok (.iconst 0, 1) := by decide +kernel
theorem dL_law_838 : decode cL_law 838 = .ok (.laload, 1) := by decide +kernel
theorem dL_law_839 : decode cL_law 839 = .ok (.iload 6, 2) := by decide +kernel
theorem dL_law_841 : decode cL_law 841 = .ok (.i2l, 1) := by decide +kernel
theorem dL_law_842 : decode cL_law 842 = .ok (.lcmp, 1) := by decide +kernel
theorem dL_law_843 : decode cL_law 843 = .ok (.ifCond .eq 5, 3) := by decide +kernel
theorem dL_law_846 : decode cL_law 846 = .ok (.iconst 0, 1) := by decide +kernel
theorem dL_law_847 : decode cL_law 847 = .ok (.ireturn, 1) := by decide +kernel
theorem dL_law_848 : decode cL_law 848 = .ok (.goto 271, 3) := by decide +kernel
theorem dL_law_851 : decode cL_law 851 = .ok (.aload_n 1, 1) := by decide +kernel
theorem dL_law_852 : decode cL_law 852 = .ok (.aload_n 0, 1) := by decide +kernel
theorem dL_law_853 : decode cL_law 853 = .ok (.iload 4, 2) := by decide +kernel
theorem dL_law_855 : decode cL_law 855 = .ok (.iconst 1, 1) := by decide +kernel
theorem dL_law_856 : decode cL_law 856 = .ok (.iadd, 1) := by decide +kernel
theorem dL_law_857 : decode cL_law 857 = .ok (.iaload, 1) := by decide +kernel
theorem dL_law_858 : decode cL_law 858 = .ok (.aload_n 0, 1) := by decide +kernel
theorem dL_law_859 : decode cL_law 859 = .ok (.iload 4, 2) := by decide +kernel
theorem dL_law_861 : decode cL_law 861 = .ok (.iconst 2, 1) := by decide +kernel
theorem dL_law_862 : decode cL_law 862 = .ok (.iadd, 1) := by decide +kernel
theorem dL_law_863 : decode cL_law 863 = .ok (.iaload, 1) := by decide +kernel
theorem dL_law_864 : decode cL_law 864 = .ok (.aload_n 0, 1) := by decide +kernel
theorem dL_law_865 : decode cL_law 865 = .ok (.iload 4, 2) := by decide +kernel
theorem dL_law_867 : decode cL_law 867 = .ok (.iconst 3, 1) := by decide +kernel
theorem dL_law_868 : decode cL_law 868 = .ok (.iadd, 1) := by decide +kernel
theorem dL_law_869 : decode cL_law 869 = .ok (.iaload, 1) := by decide +kernel
theorem dL_law_870 : decode cL_law 870 = .ok (.aload_n 3, 1) := by decide +kernel
theorem dL_law_871 : decode cL_law 871 = .ok (.invokestatic 122, 3) := by decide +kernel
theorem dL_law_874 : decode cL_law 874 = .ok (.istore 5, 2) := by decide +kernel
theorem dL_law_876 : decode cL_law 876 = .ok (.aload_n 2, 1) := by decide +kernel
theorem dL_law_877 : decode cL_law 877 = .ok (.aload_n 0, 1) := by decide +kernel
theorem dL_law_878 : decode cL_law 878 = .ok (.iload 4, 2) := by decide +kernel
theorem dL_law_880 : decode cL_law 880 = .ok (.iconst 1, 1) := by decide +kernel
theorem dL_law_881 : decode cL_law 881 = .ok (.iadd, 1) := by decide +kernel
theorem dL_law_882 : decode cL_law 882 = .ok (.iaload, 1) := by decide +kernel
theorem dL_law_883 : decode cL_law 883 = .ok (.aload_n 0, 1) := by decide +kernel
theorem dL_law_884 : decode cL_law 884 = .ok (.iload 4, 2) := by decide +kernel
theorem dL_law_886 : decode cL_law 886 = .ok (.iconst 2, 1) := by decide +kernel
theorem dL_law_887 : decode cL_law 887 = .ok (.iadd, 1) := by decide +kernel
theorem dL_law_888 : decode cL_law 888 = .ok (.iaload, 1) := by decide +kernel
theorem dL_law_889 : decode cL_law 889 = .ok (.aload_n 0, 1) := by decide +kernel
theorem dL_law_890 : decode cL_law 890 = .ok (.iload 4, 2) := by decide +kernel
theorem dL_law_892 : decode cL_law 892 = .ok (.iconst 3, 1) := by decide +kernel
theorem dL_law_893 : decode cL_law 893 = .ok (.iadd, 1) := by decide +kernel
theorem dL_law_894 : decode cL_law 894 = .ok (.iaload, 1) := by decide +kernel
theorem dL_law_895 : decode cL_law 895 = .ok (.invokevirtual 125, 3) := by decide +kernel
theorem dL_law_898 : decode cL_law 898 = .ok (.istore 6, 2) := by decide +kernel
theorem dL_law_900 : decode cL_law 900 = .ok (.aload_n 2, 1) := by decide +kernel
theorem dL_law_901 : decode cL_law 901 = .ok (.invokevirtual 73, 3) := by decide +kernel
theorem dL_law_904 : decode cL_law 904 = .ok (.iload 5, 2) := by decide +kernel
theorem dL_law_906 : decode cL_law 906 = .ok (.if_icmp .eq 5, 3) := by decide +kernel
theorem dL_law_909 : decode cL_law 909 = .ok (.iconst 0, 1) := by decide +kernel
theorem dL_law_910 : decode cL_law 910 = .ok (.ireturn, 1) := by decide +kernel
theorem dL_law_911 : decode cL_law 911 = .ok (.iload 5, 2) := by decide +kernel
theorem dL_law_913 : decode cL_law 913 = .ok (.ifCond .ne 15, 3) := by decide +kernel
theorem dL_law_916 : decode cL_law 916 = .ok (.aload_n 3, 1) := by decide +kernel
theorem dL_law_917 : decode cL_law 917 = .ok (.iconst 0, 1) := by decide +kernel
theorem dL_law_918 : decode cL_law 918 = .ok (.laload, 1) := by decide +kernel
theorem dL_law_919 : decode cL_law 919 = .ok (.iload 6, 2) := by decide +kernel
theorem dL_law_921 : decode cL_law 921 = .ok (.i2l, 1) := by decide +kernel
theorem dL_law_922 : decode cL_law 922 = .ok (.lcmp, 1) := by decide +kernel
theorem dL_law_923 : decode cL_law 923 = .ok (.ifCond .eq 5, 3) := by decide +kernel
theorem dL_law_926 : decode cL_law 926 = .ok (.iconst 0, 1) := by decide +kernel
theorem dL_law_927 : decode cL_law 927 = .ok (.ireturn, 1) := by decide +kernel
theorem dL_law_928 : decode cL_law 928 = .ok (.goto 191, 3) := by decide +kernel
theorem dL_law_931 : decode cL_law 931 = .ok (.aload_n 1, 1) := by decide +kernel
theorem dL_law_932 : decode cL_law 932 = .ok (.invokevirtual 126, 3) := by decide +kernel
theorem dL_law_935 : decode cL_law 935 = .ok (.aload_n 2, 1) := by decide +kernel
theorem dL_law_936 : decode cL_law 936 = .ok (.invokevirtual 129, 3) := by decide +kernel
theorem dL_law_939 : decode cL_law 939 = .ok (.if_icmp .eq 180, 3) := by decide +kernel
theorem dL_law_942 : decode cL_law 942 = .ok (.iconst 0, 1) := by decide +kernel
theorem dL_law_943 : decode cL_law 943 = .ok (.ireturn, 1) := by decide +kernel
theorem dL_law_944 : decode cL_law 944 = .ok (.aload_n 1, 1) := by decide +kernel
theorem dL_law_945 : decode cL_law 945 = .ok (.aload_n 0, 1) := by decide +kernel
theorem dL_law_946 : decode cL_law 946 = .ok (.iload 4, 2) := by decide +kernel
theorem dL_law_948 : decode cL_law 948 = .ok (.iconst 1, 1) := by decide +kernel
theorem dL_law_949 : decode cL_law 949 = .ok (.iadd, 1) := by decide +kernel
theorem dL_law_950 : decode cL_law 950 = .ok (.iaload, 1) := by decide +kernel
theorem dL_law_951 : decode cL_law 951 = .ok (.aload_n 3, 1) := by decide +kernel
theorem dL_law_952 : decode cL_law 952 = .ok (.invokestatic 130, 3) := by decide +kernel
theorem dL_law_955 : decode cL_law 955 = .ok (.istore 5, 2) := by decide +kernel
theorem dL_law_957 : decode cL_law 957 = .ok (.aload_n 2, 1) := by decide +kernel
theorem dL_law_958 : decode cL_law 958 = .ok (.aload_n 0, 1) := by decide +kernel
theorem dL_law_959 : decode cL_law 959 = .ok (.iload 4, 2) := by decide +kernel
theorem dL_law_961 : decode cL_law 961 = .ok (.iconst 1, 1) := by decide +kernel
theorem dL_law_962 : decode cL_law 962 = .ok (.iadd, 1) := by decide +kernel
theorem dL_law_963 : decode cL_law 963 = .ok (.iaload, 1) := by decide +kernel
theorem dL_law_964 : decode cL_law 964 = .ok (.invokevirtual 132, 3) := by decide +kernel
theorem dL_law_967 : decode cL_law 967 = .ok (.istore 6, 2) := by decide +kernel
theorem dL_law_969 : decode cL_law 969 = .ok (.aload_n 2, 1) := by decide +kernel
theorem dL_law_970 : decode cL_law 970 = .ok (.invokevirtual 73, 3) := by decide +kernel
theorem dL_law_973 : decode cL_law 973 = .ok (.iload 5, 2) := by decide +kernel
theorem dL_law_975 : decode cL_law 975 = .ok (.if_icmp .eq 5, 3) := by decide +kernel
theorem dL_law_978 : decode cL_law 978 = .ok (.iconst 0, 1) := by decide +kernel
theorem dL_law_979 : decode cL_law 979 = .ok (.ireturn, 1) := by decide +kernel
theorem dL_law_980 : decode cL_law 980 = .ok (.iload 5, 2) := by decide +kernel
theorem dL_law_982 : decode cL_law 982 = .ok (.ifCond .ne 22, 3) := by decide +kernel
theorem dL_law_985 : decode cL_law 985 = .ok (.aload_n 3, 1) := by decide +kernel
theorem dL_law_986 : decode cL_law 986 = .ok (.iconst 0, 1) := by decide +kernel
theorem dL_law_987 : decode cL_law 987 = .ok (.laload, 1) := by decide +kernel
theorem dL_law_988 : decode cL_law 988 = .ok (.iload 6, 2) := by decide +kernel
theorem dL_law_990 : decode cL_law 990 = .ok (.ifCond .eq 7, 3) := by decide +kernel
theorem dL_law_993 : decode cL_law 993 = .ok (.lconst 1, 1) := by decide +kernel
theorem dL_law_994 : decode cL_law 994 = .ok (.goto 4, 3) := by decide +kernel
theorem dL_law_997 : decode cL_law 997 = .ok (.lconst 0, 1) := by decide +kernel
theorem dL_law_998 : decode cL_law 998 = .ok (.lcmp, 1) := by decide +kernel
theorem dL_law_999 : decode cL_law 999 = .ok (.ifCond .eq 5, 3) := by decide +kernel
theorem dL_law_1002 : decode cL_law 1002 = .ok (.iconst 0, 1) := by decide +kernel
theorem dL_law_1003 : decode cL_law 1003 = .ok (.ireturn, 1) := by decide +kernel
theorem dL_law_1004 : decode cL_law 1004 = .ok (.goto 115, 3) := by decide +kernel
theorem dL_law_1007 : decode cL_law 1007 = .ok (.aload_n 1, 1) := by decide +kernel
theorem dL_law_1008 : decode cL_law 1008 = .ok (.aload_n 0, 1) := by decide +kernel
theorem dL_law_1009 : decode cL_law 1009 = .ok (.iload 4, 2) := by decide +kernel
theorem dL_law_1011 : decode cL_law 1011 = .ok (.iconst 1, 1) := by decide +kernel
theorem dL_law_1012 : decode cL_law 1012 = .ok (.iadd, 1) := by decide +kernel
theorem dL_law_1013 : decode cL_law 1013 = .ok (.iaload, 1) := by decide +kernel
theorem dL_law_1014 : decode cL_law 1014 = .ok (.aload_n 3, 1) := by decide +kernel
theorem dL_law_1015 : decode cL_law 1015 = .ok (.invokestatic 133, 3) := by decide +kernel
theorem dL_law_1018 : decode cL_law 1018 = .ok (.istore 5, 2) := by decide +kernel
theorem dL_law_1020 : decode cL_law 1020 = .ok (.aload_n 2, 1) := by decide +kernel
theorem dL_law_1021 : decode cL_law 1021 = .ok (.aload_n 0, 1) := by decide +kernel
theorem dL_law_1022 : decode cL_law 1022 = .ok (.iload 4, 2) := by decide +kernel
theorem dL_law_1024 : decode cL_law 1024 = .ok (.iconst 1, 1) := by decide +kernel
theorem dL_law_1025 : decode cL_law 1025 = .ok (.iadd, 1) := by decide +kernel
theorem dL_law_1026 : decode cL_law 1026 = .ok (.iaload, 1) := by decide +kernel
theorem dL_law_1027 : decode cL_law 1027 = .ok (.invokevirtual 135, 3) := by decide +kernel
theorem dL_law_1030 : decode cL_law 1030 = .ok (.istore 6, 2) := by decide +kernel
theorem dL_law_1032 : decode cL_law 1032 = .ok (.aload_n 2, 1) := by decide +kernel
theorem dL_law_1033 : decode cL_law 1033 = .ok (.invokevirtual 73, 3) := by decide +kernel
theorem dL_law_1036 : decode cL_law 1036 = .ok (.iload 5, 2) := by decide +kernel
theorem dL_law_1038 : decode cL_law 1038 = .ok (.if_icmp .eq 5, 3) := by decide +kernel
theorem dL_law_1041 : decode cL_law 1041 = .ok (.iconst 0, 1) := by decide +kernel
theorem dL_law_1042 : decode cL_law 1042 = .ok (.ireturn, 1) := by decide +kernel
theorem dL_law_1043 : decode cL_law 1043 = .ok (.iload 5, 2) := by decide +kernel
theorem dL_law_1045 : decode cL_law 1045 = .ok (.ifCond .ne 15, 3) := by decide +kernel
theorem dL_law_1048 : decode cL_law 1048 = .ok (.aload_n 3, 1) := by decide +kernel
theorem dL_law_1049 : decode cL_law 1049 = .ok (.iconst 0, 1) := by decide +kernel
theorem dL_law_1050 : decode cL_law 1050 = .ok (.laload, 1) := by decide +kernel
theorem dL_law_1051 : decode cL_law 1051 = .ok (.iload 6, 2) := by decide +kernel
theorem dL_law_1053 : decode cL_law 1053 = .ok (.i2l, 1) := by decide +kernel
theorem dL_law_1054 : decode cL_law 1054 = .ok (.lcmp, 1) := by decide +kernel
theorem dL_law_1055 : decode cL_law 1055 = .ok (.ifCond .eq 5, 3) := by decide +kernel
theorem dL_law_1058 : decode cL_law 1058 = .ok (.iconst 0, 1) := by decide +kernel
theorem dL_law_1059 : decode cL_law 1059 = .ok (.ireturn, 1) := by decide +kernel
theorem dL_law_1060 : decode cL_law 1060 = .ok (.goto 59, 3) := by decide +kernel
theorem dL_law_1063 : decode cL_law 1063 = .ok (.aload_n 1, 1) := by decide +kernel
theorem dL_law_1064 : decode cL_law 1064 = .ok (.aload_n 0, 1) := by decide +kernel
theorem dL_law_1065 : decode cL_law 1065 = .ok (.iload 4, 2) := by decide +kernel
theorem dL_law_1067 : decode cL_law 1067 = .ok (.iconst 1, 1) := by decide +kernel
theorem dL_law_1068 : decode cL_law 1068 = .ok (.iadd, 1) := by decide +kernel
theorem dL_law_1069 : decode cL_law 1069 = .ok (.iaload, 1) := by decide +kernel
theorem dL_law_1070 : decode cL_law 1070 = .ok (.aload_n 3, 1) := by decide +kernel
theorem dL_law_1071 : decode cL_law 1071 = .ok (.invokestatic 136, 3) := by decide +kernel
theorem dL_law_1074 : decode cL_law 1074 = .ok (.istore 5, 2) := by decide +kernel
theorem dL_law_1076 : decode cL_law 1076 = .ok (.aload_n 2, 1) := by decide +kernel
theorem dL_law_1077 : decode cL_law 1077 = .ok (.aload_n 0, 1) := by decide +kernel
theorem dL_law_1078 : decode cL_law 1078 = .ok (.iload 4, 2) := by decide +kernel
theorem dL_law_1080 : decode cL_law 1080 = .ok (.iconst 1, 1) := by decide +kernel
theorem dL_law_1081 : decode cL_law 1081 = .ok (.iadd, 1) := by decide +kernel
theorem dL_law_1082 : decode cL_law 1082 = .ok (.iaload, 1) := by decide +kernel
theorem dL_law_1083 : decode cL_law 1083 = .ok (.invokevirtual 138, 3) := by decide +kernel
theorem dL_law_1086 : decode cL_law 1086 = .ok (.istore 6, 2) := by decide +kernel
theorem dL_law_1088 : decode cL_law 1088 = .ok (.aload_n 2, 1) := by decide +kernel
theorem dL_law_1089 : decode cL_law 1089 = .ok (.invokevirtual 73, 3) := by decide +kernel
theorem dL_law_1092 : decode cL_law 1092 = .ok (.iload 5, 2) := by decide +kernel
theorem dL_law_1094 : decode cL_law 1094 = .ok (.if_icmp .eq 5, 3) := by decide +kernel
theorem dL_law_1097 : decode cL_law 1097 = .ok (.iconst 0, 1) := by decide +kernel
theorem dL_law_1098 : decode cL_law 1098 = .ok (.ireturn, 1) := by decide +kernel
theorem dL_law_1099 : decode cL_law 1099 = .ok (.iload 5, 2) := by decide +kernel
theorem dL_law_1101 : decode cL_law 1101 = .ok (.ifCond .ne 15, 3) := by decide +kernel
theorem dL_law_1104 : decode cL_law 1104 = .ok (.aload_n 3, 1) := by decide +kernel
theorem dL_law_1105 : decode cL_law 1105 = .ok (.iconst 0, 1) := by decide +kernel
theorem dL_law_1106 : decode cL_law 1106 = .ok (.laload, 1) := by decide +kernel
theorem dL_law_1107 : decode cL_law 1107 = .ok (.iload 6, 2) := by decide +kernel
theorem dL_law_1109 : decode cL_law 1109 = .ok (.i2l, 1) := by decide +kernel
theorem dL_law_1110 : decode cL_law 1110 = .ok (.lcmp, 1) := by decide +kernel
theorem dL_law_1111 : decode cL_law 1111 = .ok (.ifCond .eq 5, 3) := by decide +kernel
theorem dL_law_1114 : decode cL_law 1114 = .ok (.iconst 0, 1) := by decide +kernel
theorem dL_law_1115 : decode cL_law 1115 = .ok (.ireturn, 1) := by decide +kernel
theorem dL_law_1116 : decode cL_law 1116 = .ok (.goto 3, 3) := by decide +kernel
theorem dL_law_1119 : decode cL_law 1119 = .ok (.iinc 4 6, 3) := by decide +kernel
theorem dL_law_1122 : decode cL_law 1122 = .ok (.goto (-1099), 3) := by decide +kernel
theorem dL_law_1125 : decode cL_law 1125 = .ok (.iconst 1, 1) := by decide +kernel
theorem dL_law_1126 : decode cL_law 1126 = .ok (.ireturn, 1) := by decide +kernel
end
section
/-! ===== CORE: a world is a tagged partial memory; a walk's state is a memory, a list of locals, a stack ===== -/
abbrev ai_M : Type := Nat → Option (Nat × va_E)
abbrev ai_G : Type := va_G × (Nat → ClassId) × (Nat → Nat) × Nat
def ai_A (G : ai_G) : Nat → Prop := fun q => G.2.2.2 ≤ q
def ai_T (G : ai_G) : List (ClassId × FieldType) := [(G.2.1 0, .int), (G.2.1 1, .boolean), (G.2.1 2, .object "AlertIndex$Posting"), (G.2.1 3, .object "java/lang/Object"), (G.2.1 4, .long)]
abbrev ai_eI (G : ai_G) (n : Nat) (f : Nat → Int32) : va_E := .inl (G.2.1 0, n, .inl f)
abbrev ai_eZ (G : ai_G) (n : Nat) (f : Nat → Int32) : va_E := .inl (G.2.1 1, n, .inl f)
abbrev ai_eP (G : ai_G) (n : Nat) (f : Nat → Option Nat) : va_E := .inl (G.2.1 2, n, .inr (.inr (.inr (.inr f))))
abbrev ai_eO (G : ai_G) (n : Nat) (f : Nat → Option Nat) : va_E := .inl (G.2.1 3, n, .inr (.inr (.inr (.inr f))))
abbrev ai_eJ (G : ai_G) (n : Nat) (f : Nat → Int64) : va_E := .inl (G.2.1 4, n, .inr (.inl f))
def ai_P (G : ai_G) (M : ai_M) (H : Heap) : Prop := ∃ ws : va_W, va_P G.1 vwCl ws H ∧ va_D (ai_A G) ws ∧ ∀ (a g : Nat) (e : va_E), M a = some (g, e) → ∃ k : Nat, ws[k]? = some (a, e)
def ai_U (M : ai_M) (a g : Nat) (e : va_E) : ai_M := fun q => if q = a then some (g, e) else M q
theorem ai_U_s {M : ai_M} {a g : Nat} {e : va_E} : ai_U M a g e a = some (g, e) := if_pos rfl
theorem ai_U_n {M : ai_M} {a b g : Nat} {e : va_E} (h : b ≠ a) : ai_U M a g e b = M b := if_neg h
theorem ai_ne {M : ai_M} {a b g g' : Nat} {e e' : va_E} (h1 : M a = some (g, e)) (h2 : M b = some (g', e')) (hg : g ≠ g') : a ≠ b := fun z => by
  subst z; rw [h1] at h2; exact hg (by injection h2 with h2; injection h2)
theorem ai_set {G : ai_G} {M : ai_M} {ws : va_W} {H1 : Heap} {a g k : Nat} {e0 e : va_E} (hM : ∀ (a g : Nat) (e : va_E), M a = some (g, e) → ∃ k : Nat, ws[k]? = some (a, e)) (hk : ws[k]? = some (a, e0)) (hP1 : va_P G.1 vwCl (ws.set k (a, e)) H1) (hD1 : va_D (ai_A G) (ws.set k (a, e))) : ai_P G (ai_U M a g e) H1 := by
  refine ⟨_, hP1, hD1, fun b g' e' h => ?_⟩
  have hl := (List.getElem?_eq_some_iff.mp hk).1
  unfold ai_U at h
  by_cases hb : b = a
  · rw [if_pos hb] at h
    cases h
    exact ⟨k, by rw [List.getElem?_set_self hl, hb]⟩
  · rw [if_neg hb] at h
    obtain ⟨j, hj⟩ := hM b g' e' h
    refine ⟨j, ?_⟩
    have hn : k ≠ j := fun z => by subst z; rw [hk] at hj; cases hj; exact hb rfl
    rw [List.getElem?_set_ne hn]
    exact hj
theorem ai_push {G : ai_G} {M : ai_M} {ws : va_W} {H1 : Heap} {q : Nat} (g : Nat) {e : va_E} (hM : ∀ (a g : Nat) (e : va_E), M a = some (g, e) → ∃ k : Nat, ws[k]? = some (a, e)) (hP1 : va_P G.1 vwCl (ws ++ [(q, e)]) H1) (hD1 : va_D (ai_A G) (ws ++ [(q, e)])) : ai_P G (ai_U M q g e) H1 ∧ M q = none := by
  have hlast : (ws ++ [(q, e)])[ws.length]? = some (q, e) := by rw [List.getElem?_append_right (Nat.le_refl _), Nat.sub_self]; rfl
  have hin : ∀ {k : Nat} {x : Nat × va_E}, ws[k]? = some x → (ws ++ [(q, e)])[k]? = some x := fun {k x} h => by rw [List.getElem?_append_left (List.getElem?_eq_some_iff.mp h).1]; exact h
  refine ⟨⟨_, hP1, hD1, fun b g' e' h => ?_⟩, ?_⟩
  · unfold ai_U at h
    by_cases hb : b = q
    · rw [if_pos hb] at h
      cases h
      exact ⟨ws.length, by rw [hlast, hb]⟩
    · rw [if_neg hb] at h
      obtain ⟨j, hj⟩ := hM b g' e' h
      exact ⟨j, hin hj⟩
  · cases hq : M q with
    | none => rfl
    | some x =>
      obtain ⟨g', e'⟩ := x
      obtain ⟨j, hj⟩ := hM q g' e' hq
      have hl := (List.getElem?_eq_some_iff.mp hj).1
      have := hD1.1 j ws.length _ _ (hin hj) hlast rfl
      omega
/-- the locals by their slots: none where nothing is said -/
def ai_L (ls : Array Slot) (L : List (Option Value)) : Prop := ls.size = L.length ∧ lv_wf ls ∧ ∀ (i : Nat) (v : Value), L[i]? = some (some v) → ls[i]? = some (.val v) ∧ v.category = 1
def ai_ps (L : List (Option Value)) : List (Nat × Value) := L.zipIdx.filterMap fun q => q.1.map fun v => (q.2, v)
theorem ai_ps_mem {L : List (Option Value)} {i : Nat} {v : Value} : (i, v) ∈ ai_ps L ↔ L[i]? = some (some v) := by
  unfold ai_ps
  rw [List.mem_filterMap]
  constructor
  · rintro ⟨⟨o, j⟩, h1, h2⟩
    rw [List.mem_zipIdx_iff_getElem?] at h1
    cases o with
    | none => cases h2
    | some w => cases h2; exact h1
  · intro h
    exact ⟨(some v, i), by rw [List.mem_zipIdx_iff_getElem?]; exact h, rfl⟩
theorem ai_has {ls : Array Slot} {L : List (Option Value)} (h : ai_L ls L) : lv_has ls L.length (ai_ps L) := ⟨h.1, h.2.1, fun q hq => (h.2.2 q.1 q.2 (ai_ps_mem.mp hq)).1⟩
theorem ai_put {ls ls' : Array Slot} {L : List (Option Value)} {i : Nat} {v : Value} (hi : i < L.length) (hc : v.category = 1) (h0 : ai_L ls L) (h : lv_has ls' L.length ((i, v) :: (ai_ps L).filter (fun q => !(q.1 == i) && !(q.1 + 1 == i && q.2.category == 2)))) : ai_L ls' (L.set i (some v)) := by
  refine ⟨by rw [List.length_set]; exact h.1, h.2.1, fun j w hj => ?_⟩
  by_cases hij : j = i
  · subst hij
    rw [List.getElem?_set_self hi] at hj
    cases hj
    exact ⟨h.2.2 _ List.mem_cons_self, hc⟩
  · rw [List.getElem?_set_ne (Ne.symm hij)] at hj
    have hw := h0.2.2 j w hj
    refine ⟨h.2.2 (j, w) (List.mem_cons_of_mem _ (List.mem_filter.mpr ⟨ai_ps_mem.mpr hj, ?_⟩)), hw.2⟩
    simp [hij, hw.2]
theorem ai_args : ∀ (av : List Value) (k i : Nat) (v : Value), (∀ x ∈ av, x.category = 1) → av[i]? = some v → (k + i, v) ∈ lv_args k av
  | [], k, i, v, _, h => by simp at h
  | x :: av, k, 0, v, hc, h => by
    simp only [List.getElem?_cons_zero, Option.some.injEq] at h
    subst h
    exact List.mem_cons_self
  | x :: av, k, i + 1, v, hc, h => by
    rw [List.getElem?_cons_succ] at h
    have h1 := ai_args av (k + 1) i v (fun y hy => hc y (List.mem_cons_of_mem _ hy)) h
    show (k + (i + 1), v) ∈ (k, x) :: lv_args (if x.category = 2 then k + 2 else k + 1) av
    rw [if_neg (by rw [hc x List.mem_cons_self]; decide), show k + (i + 1) = k + 1 + i by omega]
    exact List.mem_cons_of_mem _ h1
def ai_L0 (av : List Value) (n : Nat) : List (Option Value) := av.map some ++ List.replicate (n - av.length) none
theorem ai_L0_at {av : List Value} {n i : Nat} {v : Value} (h : (ai_L0 av n)[i]? = some (some v)) : av[i]? = some v := by
  unfold ai_L0 at h
  by_cases hi : i < av.length
  · rw [List.getElem?_append_left (by rw [List.length_map]; exact hi), List.getElem?_map] at h
    cases hx : av[i]? with
    | none => rw [hx] at h; cases h
    | some x => rw [hx] at h; cases h; rfl
  · rw [List.getElem?_append_right (by rw [List.length_map]; omega), List.getElem?_replicate] at h
    split at h <;> cases h
theorem ai_entry {ls : Array Slot} {av : List Value} {n : Nat} (hn : av.length ≤ n) (hc : ∀ x ∈ av, x.category = 1) (h : lv_has ls n (lv_args 0 av)) : ai_L ls (ai_L0 av n) := by
  refine ⟨by rw [h.1]; unfold ai_L0; rw [List.length_append, List.length_map, List.length_replicate]; omega, h.2.1, fun i v hi => ?_⟩
  have h1 := ai_L0_at hi
  have h2 := ai_args av 0 i v hc h1
  rw [Nat.zero_add] at h2
  exact ⟨h.2.2 _ h2, hc v (List.mem_of_getElem? h1)⟩
/-! the surroundings: what lies outside the region and in the tables -/
def ai_Xn : List String := ["java/lang/RuntimeException", "java/lang/Exception"]
def ai_Xw : List Cond := [.castable RX4 "java/lang/Object", .castable RX3 "java/lang/Object", .castable RX5 "java/lang/Object", .castable "java/lang/IndexOutOfBoundsException" "java/lang/IndexOutOfBoundsException", .castable "java/lang/IllegalStateException" "java/lang/IllegalStateException", .castable "java/lang/IllegalArgumentException" "java/lang/IllegalArgumentException"] ++ (vx_atS RX6 44 "java/lang/IllegalStateException" ai_Xn).filter (fun w => !goodWord w) ++ (vx_atS RX6 161 "java/lang/IndexOutOfBoundsException" ai_Xn).filter (fun w => !goodWord w) ++ (vx_atS RX6 108 "java/lang/IllegalArgumentException" ai_Xn).filter (fun w => !goodWord w)
def ai_mv : Cond → Bool
  | .castable _ _ => true
  | .declares _ => true
  | _ => false
theorem ai_mv_tab {w : Cond} (h : ai_mv w = true) : w.onTables = true := by
  cases w <;> first | rfl | (exact absurd h (by simp [ai_mv]))
theorem ai_mv_warm {w : Cond} {s U : State} (h : ai_mv w = true) (hW : s.WarmedH U.vm) (hZ : va_Nw w s) : va_Nw w U := by
  cases w <;> first | exact va_Nw.warmC hW hZ | exact va_Nw.warmD hW hZ | (exact absurd h (by simp [ai_mv]))
theorem ai_Xw_mv : ∀ w ∈ ai_Xw, ai_mv w = true := by decide +kernel
def ai_En : List (String × String) := [("java/lang/IllegalStateException", "java/lang/IndexOutOfBoundsException"), ("java/lang/IllegalArgumentException", "java/lang/IndexOutOfBoundsException"), ("java/lang/IllegalStateException", "java/lang/IllegalArgumentException")]
def ai_Es : List (Nat × String × Nat) := [(42, "there were 20 questions", 10), (61, "the question has 3 products", 11), (78, "the question has no product", 12), (83, "the last product has 4 tests", 13), (106, "a quiet time is 0 to 1000 minutes", 14), (116, "a value is 0 to 63, or NONE", 15), (133, "1 to 1000 minutes pass", 16), (136, "the minute would be above 1000000", 17), (159, "pieces are counted from 0", 18), (168, "there is no such question", 19), (170, "the question was dropped", 20), (172, "a name is 0 to 5", 21), (174, "a range is from 0 to 63, its low not above its high", 22)]
def ai_Ew (G : ai_G) (U : State) : Prop := va_AO "java/lang/Object" U ∧ va_AO "AlertIndex$Posting" U ∧ va_Mi "[Ljava/lang/Object;" (G.2.2.1 1) U ∧ va_Dc U ∧ va_Nw (.methodLinkNest RX1 17 yX6_levelOfPiece "AlertIndex") U ∧ va_Nw (.methodLinkNest RX1 34 yX6_isValue "AlertIndex") U ∧
  va_Fw RJx4a65c ⟨"java/util/List", "size", "()I"⟩ yJx4a65c_size_8abf5 U ∧ va_Fw RJx4a65c ⟨"java/util/List", "isEmpty", "()Z"⟩ yJx4a65c_isEmpty_aae02 U ∧ va_Fw RJx4a65c ⟨"java/util/List", "get", "(I)Ljava/lang/Object;"⟩ yJx4a65c_get_915e3 U ∧ va_Fw RJx4a65c ⟨"java/util/List", "add", "(Ljava/lang/Object;)Z"⟩ yJx4a65c_add_9ea2d U ∧
  (∀ w ∈ ai_Xw, va_Nw w U) ∧ (∀ q ∈ ai_En, va_Nc q.1 q.2 U) ∧ ∀ q ∈ ai_Es, vk_R "AlertIndex" q.1 q.2.1 (G.2.2.1 q.2.2) U
def ai_Eh (G : ai_G) (U : State) (H : Heap) : Prop := va_Z "java/util/ArrayList" "DEFAULTCAPACITY_EMPTY_ELEMENTDATA" "[Ljava/lang/Object;" (.ref (G.2.2.1 0)) (ai_A G) U H ∧ va_T (.object "java/lang/Object") (G.2.2.1 0) 0 (fun _ => .null) (ai_A G) U H ∧ vx_Zq Bundle.tN "UNASSIGNED_STACK" Bundle.steD (ai_A G) U H ∧ vx_Zq Bundle.tN "SUPPRESSED_SENTINEL" Bundle.listD (ai_A G) U H
def ai_E (G : ai_G) (U : State) : Prop := ai_Ew G U ∧ ai_Eh G U U.heap
theorem ai_Ew.moved {G : ai_G} {s U : State} (hW : s.WarmedH U.vm) (h : ai_Ew G s) : ai_Ew G U := by
  obtain ⟨h1, h2, h3, h4, h5, h6, h7, h8, h9, h10, h11, h12, h13⟩ := h
  have hn : ("java/util/List" : String) ≠ "java/lang/invoke/MethodHandle" ∧ ("java/util/List" : String) ≠ "java/lang/invoke/VarHandle" := by decide +kernel
  exact ⟨va_AO.moved hW.alike h1, va_AO.moved hW.alike h2, va_Mi.moved hW.alike h3, va_Dc.moved hW.alike h4, va_Nw.warmM hW h5, va_Nw.warmM hW h6, va_Fw.moved hn hW.alike h7, va_Fw.moved hn hW.alike h8, va_Fw.moved hn hW.alike h9, va_Fw.moved hn hW.alike h10, fun w hw => ai_mv_warm (ai_Xw_mv w hw) hW (h11 w hw), fun q hq => va_Nc.moved hW.alike (h12 q hq), fun q hq => vk_R.warm hW (h13 q hq)⟩
theorem ai_Eh.moved {G : ai_G} {s U : State} {H H1 : Heap} (hvm : s.vm.Alike U.vm) (hq : ∀ q : Nat, q < H.size → ¬ ai_A G q → H1[q]? = H[q]?) (h : ai_Eh G s H) : ai_Eh G U H1 := by
  obtain ⟨h1, h2, h3, h4⟩ := h
  exact ⟨va_Z.moved hvm (h1.kept hq), va_T.moved hvm (h2.kept hq), vx_Zq.moved hvm (h3.kept hq), vx_Zq.moved hvm (h4.kept hq)⟩
theorem ai_E.moved {G : ai_G} {s U : State} (hW : s.WarmedH U.vm) (hq : ∀ q : Nat, q < s.heap.size → ¬ ai_A G q → U.heap[q]? = s.heap[q]?) (h : ai_E G s) : ai_E G U := ⟨h.1.moved hW, h.2.moved hW.alike hq⟩
/-! contracts -/
def ai_Pre (G : ai_G) (M : ai_M) (U : State) : Prop := va_K G.1 vwCl (ai_T G) U ∧ ai_P G M U.heap ∧ ai_E G U ∧ G.2.2.2 ≤ U.heap.size
def ai_Q (G : ai_G) (post : Option Value → ai_M → Prop) : Array Value → State → Outcome → State → Prop := fun _ st oc t => (∃ (r : Option Value) (M' : ai_M), oc = .returned r ∧ post r M' ∧ ai_P G M' t.heap) ∧ va_F (ai_A G) st t
def ai_X (G : ai_G) (px : String → ai_M → Prop) : String → State → State → Prop := fun E st t => (∃ M' : ai_M, px E M' ∧ ai_P G M' t.heap) ∧ va_F (ai_A G) st t
def ai_C (l : Launch) (y : MethodName) (ws : List Cond) (rm : Room) (mc ms : Nat) (G : ai_G) (M : ai_M) (av : List Value) (post : Option Value → ai_M → Prop) : Prop := Met l y ws rm (va_Pc av (ai_Pre G M)) (ai_Q G post) mc ms (ai_A G)
def ai_D (l : Launch) (y : MethodName) (ws : List Cond) (rm : Room) (mc ms : Nat) (G : ai_G) (M : ai_M) (av : List Value) (post : Option Value → ai_M → Prop) (px : String → ai_M → Prop) : Prop := vx_Met l y ws rm (va_Pc av (ai_Pre G M)) (ai_Q G post) (ai_X G px) mc ms (ai_A G)
theorem ai_Pre.calling {G : ai_G} {M : ai_M} {U : State} {g : JFrame} {mk : MethodId} {a : Array Value} (h : ai_Pre G M U) : ai_Pre G M (U.calling g mk a) := by
  obtain ⟨h1, h2, h3, h4⟩ := h
  exact ⟨va_K.moved (u := U) (U := U.calling g mk a) (Vm.Alike.refl U.vm) h1, h2, ai_E.moved (s := U) (U := U.calling g mk a) (State.WarmedH.refl U) (fun _ _ _ => rfl) h3, h4⟩
theorem ai_blind {G : ai_G} {M : ai_M} {av : List Value} : FrameBlind (va_Pc av (ai_Pre G M)) := fun a U g mk h => ⟨h.1, h.2.calling⟩
/-! the walk -/
section AIY
variable {p : Program} {l : Launch} {e : Env} {R : Room} {s : State} {m : MethodId} {args : Array Value} {below : List Frame} {meth : Method} {c : Code} {G : ai_G} {Q : State → Prop} {M : ai_M} {cells slots : Nat} {L : List (Option Value)} {pc : Nat} {st : List Value} {cc : ByteArray} {nL : Nat} {ws : List Cond} {own : String} {ret : Option FieldType}
def ai_B (p : Program) (l : Launch) (e : Env) (R : Room) (s : State) (m : MethodId) (args : Array Value) (below : List Frame) (meth : Method) (c : Code) (G : ai_G) (cc : ByteArray) (nL : Nat) (ws : List Cond) (own : String) (ret : Option FieldType) : Prop :=
  p.tables.exec = Jvm.exec ∧ c.code = cc ∧ meth.sig.returnType = ret ∧ c.maxLocals = nL ∧ s.vm.findClass own = some m.cls ∧ (∀ w ∈ ws, w.before args s = true) ∧ meth.locks = false ∧ va_K G.1 vwCl (ai_T G) s ∧ ai_E G s ∧ G.2.2.2 ≤ s.heap.size
def ai_Y (p : Program) (l : Launch) (e : Env) (R : Room) (s : State) (m : MethodId) (args : Array Value) (below : List Frame) (meth : Method) (c : Code) (G : ai_G) (Q : State → Prop) (M : ai_M) (cells slots : Nat) (L : List (Option Value)) (pc : Nat) (st : List Value) : Prop :=
  ∀ (H : Heap) (locs : List Loc) (ls : Array Slot), L.length = c.maxLocals → ai_P G M H → va_S (ai_A G) s.heap H locs → ai_L ls L → W p l e R s m args below meth c H locs cells slots Q (F0 m pc ls st)
theorem ai_top (B : ai_B p l e R s m args below meth c G cc nL ws own ret) : ∀ q : Nat, s.heap.size ≤ q → ai_A G q := fun q h => Nat.le_trans B.2.2.2.2.2.2.2.2.2 h
theorem ai_room {st : List Value} {ls : Array Slot} {rest : List Value} (h : (st.map fun v => v.category).sum ≤ 8) : 2 * (F0 m pc ls rest).monitorRoom + (st.map fun v => v.category).sum ≤ 8 := lv_room h

theorem y_iconst (B : ai_B p l e R s m args below meth c G cc nL ws own ret) {n : Int} (v : Int32) (hd : decode cc pc = .ok (.iconst n, 1)) (hv : Int32.ofInt n = v) (k : ai_Y p l e R s m args below meth c G Q M cells slots L (pc + 1) (.int v :: st)) : ai_Y p l e R s m args below meth c G Q M cells slots L pc st :=
  fun H locs ls hl hP hS hL => lv_iconst B.1 B.2.1 hd hv (k H locs ls hl hP hS hL)
theorem y_bipush (B : ai_B p l e R s m args below meth c G cc nL ws own ret) {n : Int} (v : Int32) (hd : decode cc pc = .ok (.bipush n, 2)) (hv : (Int8.ofInt n).toInt32 = v) (k : ai_Y p l e R s m args below meth c G Q M cells slots L (pc + 2) (.int v :: st)) : ai_Y p l e R s m args below meth c G Q M cells slots L pc st :=
  fun H locs ls hl hP hS hL => lv_bipush B.1 B.2.1 hd hv (k H locs ls hl hP hS hL)
theorem y_sipush (B : ai_B p l e R s m args below meth c G cc nL ws own ret) {n : Int} (v : Int32) (hd : decode cc pc = .ok (.sipush n, 3)) (hv : (Int16.ofInt n).toInt32 = v) (k : ai_Y p l e R s m args below meth c G Q M cells slots L (pc + 3) (.int v :: st)) : ai_Y p l e R s m args below meth c G Q M cells slots L pc st :=
  fun H locs ls hl hP hS hL => lv_sipush B.1 B.2.1 hd hv (k H locs ls hl hP hS hL)
theorem y_ldc (B : ai_B p l e R s m args below meth c G cc nL ws own ret) {ix : Nat} (v : Int32) (hc : (Cond.constant own ix v).before args s = true) (hd : decode cc pc = .ok (.ldc ix, 2)) (k : ai_Y p l e R s m args below meth c G Q M cells slots L (pc + 2) (.int v :: st)) : ai_Y p l e R s m args below meth c G Q M cells slots L pc st :=
  fun H locs ls hl hP hS hL => lv_ldc B.1 B.2.1 B.2.2.2.2.1 hc hd (k H locs ls hl hP hS hL)
theorem y_null (B : ai_B p l e R s m args below meth c G cc nL ws own ret) (hd : decode cc pc = .ok (.aconst_null, 1)) (k : ai_Y p l e R s m args below meth c G Q M cells slots L (pc + 1) (.null :: st)) : ai_Y p l e R s m args below meth c G Q M cells slots L pc st :=
  fun H locs ls hl hP hS hL => lv_null B.1 B.2.1 hd (k H locs ls hl hP hS hL)
theorem y_iload_n (B : ai_B p l e R s m args below meth c G cc nL ws own ret) {k0 : Fin 4} {x : Int32} (hd : decode cc pc = .ok (.iload_n k0, 1)) (hx : L[(k0 : Nat)]? = some (some (.int x))) (k : ai_Y p l e R s m args below meth c G Q M cells slots L (pc + 1) (.int x :: st)) : ai_Y p l e R s m args below meth c G Q M cells slots L pc st :=
  fun H locs ls hl hP hS hL => lv_iload_n B.1 B.2.1 hd rfl (hL.2.2 _ _ hx).1 (k H locs ls hl hP hS hL)
theorem y_iload (B : ai_B p l e R s m args below meth c G cc nL ws own ret) {i : Nat} {x : Int32} (hd : decode cc pc = .ok (.iload i, 2)) (hx : L[i]? = some (some (.int x))) (k : ai_Y p l e R s m args below meth c G Q M cells slots L (pc + 2) (.int x :: st)) : ai_Y p l e R s m args below meth c G Q M cells slots L pc st :=
  fun H locs ls hl hP hS hL => lv_iload B.1 B.2.1 hd (hL.2.2 _ _ hx).1 (k H locs ls hl hP hS hL)
theorem y_aload_n (B : ai_B p l e R s m args below meth c G cc nL ws own ret) {k0 : Fin 4} {x : Nat} (hd : decode cc pc = .ok (.aload_n k0, 1)) (hx : L[(k0 : Nat)]? = some (some (.ref x))) (k : ai_Y p l e R s m args below meth c G Q M cells slots L (pc + 1) (.ref x :: st)) : ai_Y p l e R s m args below meth c G Q M cells slots L pc st :=
  fun H locs ls hl hP hS hL => lv_aload_n B.1 B.2.1 hd rfl (hL.2.2 _ _ hx).1 (k H locs ls hl hP hS hL)
theorem y_aload (B : ai_B p l e R s m args below meth c G cc nL ws own ret) {i : Nat} {x : Nat} (hd : decode cc pc = .ok (.aload i, 2)) (hx : L[i]? = some (some (.ref x))) (k : ai_Y p l e R s m args below meth c G Q M cells slots L (pc + 2) (.ref x :: st)) : ai_Y p l e R s m args below meth c G Q M cells slots L pc st :=
  fun H locs ls hl hP hS hL => lv_aload B.1 B.2.1 hd (hL.2.2 _ _ hx).1 (k H locs ls hl hP hS hL)
theorem y_aloadN_n (B : ai_B p l e R s m args below meth c G cc nL ws own ret) {k0 : Fin 4} (hd : decode cc pc = .ok (.aload_n k0, 1)) (hx : L[(k0 : Nat)]? = some (some .null)) (k : ai_Y p l e R s m args below meth c G Q M cells slots L (pc + 1) (.null :: st)) : ai_Y p l e R s m args below meth c G Q M cells slots L pc st :=
  fun H locs ls hl hP hS hL => lv_aload_nN B.1 B.2.1 hd rfl (hL.2.2 _ _ hx).1 (k H locs ls hl hP hS hL)
theorem y_aloadN (B : ai_B p l e R s m args below meth c G cc nL ws own ret) {i : Nat} (hd : decode cc pc = .ok (.aload i, 2)) (hx : L[i]? = some (some .null)) (k : ai_Y p l e R s m args below meth c G Q M cells slots L (pc + 2) (.null :: st)) : ai_Y p l e R s m args below meth c G Q M cells slots L pc st :=
  fun H locs ls hl hP hS hL => lv_aloadN B.1 B.2.1 hd (hL.2.2 _ _ hx).1 (k H locs ls hl hP hS hL)
theorem y_istore_n (B : ai_B p l e R s m args below meth c G cc nL ws own ret) {k0 : Fin 4} {x : Int32} (hd : decode cc pc = .ok (.istore_n k0, 1)) (hi : (k0 : Nat) < L.length) (k : ai_Y p l e R s m args below meth c G Q M cells slots (L.set (k0 : Nat) (some (.int x))) (pc + 1) st) : ai_Y p l e R s m args below meth c G Q M cells slots L pc (.int x :: st) :=
  fun H locs ls hl hP hS hL => lv_istore_n (nL := L.length) B.1 B.2.1 hd rfl (ai_has hL) hi rfl (fun ls1 hl1 => k H locs ls1 (by rw [List.length_set]; exact hl) hP hS (ai_put hi rfl hL hl1))
theorem y_istore (B : ai_B p l e R s m args below meth c G cc nL ws own ret) {i : Nat} {x : Int32} (hd : decode cc pc = .ok (.istore i, 2)) (hi : i < L.length) (k : ai_Y p l e R s m args below meth c G Q M cells slots (L.set i (some (.int x))) (pc + 2) st) : ai_Y p l e R s m args below meth c G Q M cells slots L pc (.int x :: st) :=
  fun H locs ls hl hP hS hL => lv_istore (nL := L.length) B.1 B.2.1 hd (ai_has hL) hi rfl (fun ls1 hl1 => k H locs ls1 (by rw [List.length_set]; exact hl) hP hS (ai_put hi rfl hL hl1))
theorem y_astore_n (B : ai_B p l e R s m args below meth c G cc nL ws own ret) {k0 : Fin 4} {x : Nat} (hd : decode cc pc = .ok (.astore_n k0, 1)) (hi : (k0 : Nat) < L.length) (k : ai_Y p l e R s m args below meth c G Q M cells slots (L.set (k0 : Nat) (some (.ref x))) (pc + 1) st) : ai_Y p l e R s m args below meth c G Q M cells slots L pc (.ref x :: st) :=
  fun H locs ls hl hP hS hL => lv_astore_n (nL := L.length) B.1 B.2.1 hd rfl (ai_has hL) hi rfl (fun ls1 hl1 => k H locs ls1 (by rw [List.length_set]; exact hl) hP hS (ai_put hi rfl hL hl1))
theorem y_astore (B : ai_B p l e R s m args below meth c G cc nL ws own ret) {i : Nat} {x : Nat} (hd : decode cc pc = .ok (.astore i, 2)) (hi : i < L.length) (k : ai_Y p l e R s m args below meth c G Q M cells slots (L.set i (some (.ref x))) (pc + 2) st) : ai_Y p l e R s m args below meth c G Q M cells slots L pc (.ref x :: st) :=
  fun H locs ls hl hP hS hL => lv_astore (nL := L.length) B.1 B.2.1 hd (ai_has hL) hi rfl (fun ls1 hl1 => k H locs ls1 (by rw [List.length_set]; exact hl) hP hS (ai_put hi rfl hL hl1))
theorem y_astoreN_n (B : ai_B p l e R s m args below meth c G cc nL ws own ret) {k0 : Fin 4}  (hd : decode cc pc = .ok (.astore_n k0, 1)) (hi : (k0 : Nat) < L.length) (k : ai_Y p l e R s m args below meth c G Q M cells slots (L.set (k0 : Nat) (some .null)) (pc + 1) st) : ai_Y p l e R s m args below meth c G Q M cells slots L pc (.null :: st) :=
  fun H locs ls hl hP hS hL => lv_astore_nN (nL := L.length) B.1 B.2.1 hd rfl (ai_has hL) hi rfl (fun ls1 hl1 => k H locs ls1 (by rw [List.length_set]; exact hl) hP hS (ai_put hi rfl hL hl1))
theorem y_astoreN (B : ai_B p l e R s m args below meth c G cc nL ws own ret) {i : Nat}  (hd : decode cc pc = .ok (.astore i, 2)) (hi : i < L.length) (k : ai_Y p l e R s m args below meth c G Q M cells slots (L.set i (some .null)) (pc + 2) st) : ai_Y p l e R s m args below meth c G Q M cells slots L pc (.null :: st) :=
  fun H locs ls hl hP hS hL => lv_astoreN (nL := L.length) B.1 B.2.1 hd (ai_has hL) hi rfl (fun ls1 hl1 => k H locs ls1 (by rw [List.length_set]; exact hl) hP hS (ai_put hi rfl hL hl1))
theorem ai_idx {L : List (Option Value)} {i : Nat} {v : Value} (h : L[i]? = some (some v)) : ∃ k : Nat, (ai_ps L)[k]? = some (i, v) := List.getElem?_of_mem (ai_ps_mem.mpr h)
theorem y_iinc (B : ai_B p l e R s m args below meth c G cc nL ws own ret) {i : Nat} {n : Int} {x : Int32} (v : Int32) (hd : decode cc pc = .ok (.iinc i n, 3)) (hx : L[i]? = some (some (.int x))) (hv : x + Int32.ofInt n = v) (k : ai_Y p l e R s m args below meth c G Q M cells slots (L.set i (some (.int v))) (pc + 3) st) : ai_Y p l e R s m args below meth c G Q M cells slots L pc st := by
  intro H locs ls hl hP hS hL
  obtain ⟨j, hj⟩ := ai_idx hx
  have hi : i < L.length := (List.getElem?_eq_some_iff.mp hx).1
  exact lv_iinc (nL := L.length) B.1 B.2.1 hd (ai_has hL) hj hv hi rfl (fun ls1 hl1 => k H locs ls1 (by rw [List.length_set]; exact hl) hP hS (ai_put hi rfl hL hl1))
theorem y_iadd (B : ai_B p l e R s m args below meth c G cc nL ws own ret) {x y : Int32} (v : Int32) (hd : decode cc pc = .ok (.iadd, 1)) (hv : x + y = v) (k : ai_Y p l e R s m args below meth c G Q M cells slots L (pc + 1) (.int v :: st)) : ai_Y p l e R s m args below meth c G Q M cells slots L pc (.int y :: .int x :: st) :=
  fun H locs ls hl hP hS hL => lv_iadd B.1 B.2.1 hd (by rw [hv]; exact k H locs ls hl hP hS hL)
theorem y_isub (B : ai_B p l e R s m args below meth c G cc nL ws own ret) {x y : Int32} (v : Int32) (hd : decode cc pc = .ok (.isub, 1)) (hv : x - y = v) (k : ai_Y p l e R s m args below meth c G Q M cells slots L (pc + 1) (.int v :: st)) : ai_Y p l e R s m args below meth c G Q M cells slots L pc (.int y :: .int x :: st) :=
  fun H locs ls hl hP hS hL => lv_isub B.1 B.2.1 hd (by rw [hv]; exact k H locs ls hl hP hS hL)
theorem y_imul (B : ai_B p l e R s m args below meth c G cc nL ws own ret) {x y : Int32} (v : Int32) (hd : decode cc pc = .ok (.imul, 1)) (hv : x * y = v) (k : ai_Y p l e R s m args below meth c G Q M cells slots L (pc + 1) (.int v :: st)) : ai_Y p l e R s m args below meth c G Q M cells slots L pc (.int y :: .int x :: st) :=
  fun H locs ls hl hP hS hL => lv_imul B.1 B.2.1 hd (by rw [hv]; exact k H locs ls hl hP hS hL)
theorem y_iand (B : ai_B p l e R s m args below meth c G cc nL ws own ret) {x y : Int32} (v : Int32) (hd : decode cc pc = .ok (.iand, 1)) (hv : x &&& y = v) (k : ai_Y p l e R s m args below meth c G Q M cells slots L (pc + 1) (.int v :: st)) : ai_Y p l e R s m args below meth c G Q M cells slots L pc (.int y :: .int x :: st) :=
  fun H locs ls hl hP hS hL => lv_iand B.1 B.2.1 hd (by rw [hv]; exact k H locs ls hl hP hS hL)
theorem y_ior (B : ai_B p l e R s m args below meth c G cc nL ws own ret) {x y : Int32} (v : Int32) (hd : decode cc pc = .ok (.ior, 1)) (hv : x ||| y = v) (k : ai_Y p l e R s m args below meth c G Q M cells slots L (pc + 1) (.int v :: st)) : ai_Y p l e R s m args below meth c G Q M cells slots L pc (.int y :: .int x :: st) :=
  fun H locs ls hl hP hS hL => lv_ior B.1 B.2.1 hd (by rw [hv]; exact k H locs ls hl hP hS hL)
theorem y_ixor (B : ai_B p l e R s m args below meth c G cc nL ws own ret) {x y : Int32} (v : Int32) (hd : decode cc pc = .ok (.ixor, 1)) (hv : x ^^^ y = v) (k : ai_Y p l e R s m args below meth c G Q M cells slots L (pc + 1) (.int v :: st)) : ai_Y p l e R s m args below meth c G Q M cells slots L pc (.int y :: .int x :: st) :=
  fun H locs ls hl hP hS hL => lv_ixor B.1 B.2.1 hd (by rw [hv]; exact k H locs ls hl hP hS hL)
theorem y_ishl (B : ai_B p l e R s m args below meth c G cc nL ws own ret) {x y : Int32} (v : Int32) (hd : decode cc pc = .ok (.ishl, 1)) (hv : x <<< (y &&& 31) = v) (k : ai_Y p l e R s m args below meth c G Q M cells slots L (pc + 1) (.int v :: st)) : ai_Y p l e R s m args below meth c G Q M cells slots L pc (.int y :: .int x :: st) :=
  fun H locs ls hl hP hS hL => lv_ishl B.1 B.2.1 hd (by rw [hv]; exact k H locs ls hl hP hS hL)
theorem y_ishr (B : ai_B p l e R s m args below meth c G cc nL ws own ret) {x y : Int32} (v : Int32) (hd : decode cc pc = .ok (.ishr, 1)) (hv : x >>> (y &&& 31) = v) (k : ai_Y p l e R s m args below meth c G Q M cells slots L (pc + 1) (.int v :: st)) : ai_Y p l e R s m args below meth c G Q M cells slots L pc (.int y :: .int x :: st) :=
  fun H locs ls hl hP hS hL => lv_ishr B.1 B.2.1 hd (by rw [hv]; exact k H locs ls hl hP hS hL)
theorem y_irem (B : ai_B p l e R s m args below meth c G cc nL ws own ret) {x y : Int32} (v : Int32) (hd : decode cc pc = .ok (.irem, 1)) (hne : ¬ y = 0) (hv : x - x / y * y = v) (k : ai_Y p l e R s m args below meth c G Q M cells slots L (pc + 1) (.int v :: st)) : ai_Y p l e R s m args below meth c G Q M cells slots L pc (.int y :: .int x :: st) :=
  fun H locs ls hl hP hS hL => lv_irem B.1 B.2.1 hd hne (by rw [hv]; exact k H locs ls hl hP hS hL)
theorem y_i2l (B : ai_B p l e R s m args below meth c G cc nL ws own ret) {x : Int32} (hd : decode cc pc = .ok (.i2l, 1)) (k : ai_Y p l e R s m args below meth c G Q M cells slots L (pc + 1) (.long x.toInt64 :: st)) : ai_Y p l e R s m args below meth c G Q M cells slots L pc (.int x :: st) :=
  fun H locs ls hl hP hS hL => lv_i2l B.1 B.2.1 hd rfl (k H locs ls hl hP hS hL)
theorem y_lcmp (B : ai_B p l e R s m args below meth c G cc nL ws own ret) {x y : Int64} (hd : decode cc pc = .ok (.lcmp, 1)) (k : ai_Y p l e R s m args below meth c G Q M cells slots L (pc + 1) (.int (lg_cmp x y) :: st)) : ai_Y p l e R s m args below meth c G Q M cells slots L pc (.long y :: .long x :: st) :=
  fun H locs ls hl hP hS hL => W.lcmp B.1 B.2.1 hd (k H locs ls hl hP hS hL)
theorem y_lconst (B : ai_B p l e R s m args below meth c G cc nL ws own ret) {n : Fin 2} (v : Int64) (hd : decode cc pc = .ok (.lconst n, 1)) (hv : Int64.ofNat n.val = v) (k : ai_Y p l e R s m args below meth c G Q M cells slots L (pc + 1) (.long v :: st)) : ai_Y p l e R s m args below meth c G Q M cells slots L pc st :=
  fun H locs ls hl hP hS hL => lv_lconst B.1 B.2.1 hd hv (k H locs ls hl hP hS hL)
theorem y_dup (B : ai_B p l e R s m args below meth c G cc nL ws own ret) {v : Value} (hd : decode cc pc = .ok (.dup, 1)) (hc : v.category = 1) (k : ai_Y p l e R s m args below meth c G Q M cells slots L (pc + 1) (v :: v :: st)) : ai_Y p l e R s m args below meth c G Q M cells slots L pc (v :: st) :=
  fun H locs ls hl hP hS hL => lv_dup B.1 B.2.1 hd hc (k H locs ls hl hP hS hL)
theorem y_dup_x1 (B : ai_B p l e R s m args below meth c G cc nL ws own ret) {v u : Value} (hd : decode cc pc = .ok (.dup_x1, 1)) (hc : v.category = 1) (hu : u.category = 1) (k : ai_Y p l e R s m args below meth c G Q M cells slots L (pc + 1) (v :: u :: v :: st)) : ai_Y p l e R s m args below meth c G Q M cells slots L pc (v :: u :: st) :=
  fun H locs ls hl hP hS hL => lv_dup_x1 B.1 B.2.1 hd hc hu (k H locs ls hl hP hS hL)
theorem y_dup2 (B : ai_B p l e R s m args below meth c G cc nL ws own ret) {v u : Value} (hd : decode cc pc = .ok (.dup2, 1)) (hc : v.category = 1) (hu : u.category = 1) (k : ai_Y p l e R s m args below meth c G Q M cells slots L (pc + 1) (v :: u :: v :: u :: st)) : ai_Y p l e R s m args below meth c G Q M cells slots L pc (v :: u :: st) :=
  fun H locs ls hl hP hS hL => lv_dup2_11 B.1 B.2.1 hd hc hu (k H locs ls hl hP hS hL)
theorem y_pop (B : ai_B p l e R s m args below meth c G cc nL ws own ret) {v : Value} (hd : decode cc pc = .ok (.pop, 1)) (hc : v.category = 1) (k : ai_Y p l e R s m args below meth c G Q M cells slots L (pc + 1) st) : ai_Y p l e R s m args below meth c G Q M cells slots L pc (v :: st) :=
  fun H locs ls hl hP hS hL => lv_pop B.1 B.2.1 hd hc (k H locs ls hl hP hS hL)
theorem y_icmp_eq (B : ai_B p l e R s m args below meth c G cc nL ws own ret) {x y : Int32} {off : Int} (tgt : Nat) (hd : decode cc pc = .ok (.if_icmp .eq off, 3)) (ht : (pc : Int) + off = (tgt : Int)) (kt : x = y → ai_Y p l e R s m args below meth c G Q M cells slots L tgt st) (kf : ¬ x = y → ai_Y p l e R s m args below meth c G Q M cells slots L (pc + 3) st) : ai_Y p l e R s m args below meth c G Q M cells slots L pc (.int y :: .int x :: st) :=
  fun H locs ls hl hP hS hL => lv_icmp_eq B.1 B.2.1 hd ht (fun h => kt h H locs ls hl hP hS hL) (fun h => kf h H locs ls hl hP hS hL)
theorem y_if_eq (B : ai_B p l e R s m args below meth c G cc nL ws own ret) {x : Int32} {off : Int} (tgt : Nat) (hd : decode cc pc = .ok (.ifCond .eq off, 3)) (ht : (pc : Int) + off = (tgt : Int)) (kt : x = 0 → ai_Y p l e R s m args below meth c G Q M cells slots L tgt st) (kf : ¬ x = 0 → ai_Y p l e R s m args below meth c G Q M cells slots L (pc + 3) st) : ai_Y p l e R s m args below meth c G Q M cells slots L pc (.int x :: st) :=
  fun H locs ls hl hP hS hL => lv_if_eq B.1 B.2.1 hd ht (fun h => kt h H locs ls hl hP hS hL) (fun h => kf h H locs ls hl hP hS hL)
theorem y_icmp_ne (B : ai_B p l e R s m args below meth c G cc nL ws own ret) {x y : Int32} {off : Int} (tgt : Nat) (hd : decode cc pc = .ok (.if_icmp .ne off, 3)) (ht : (pc : Int) + off = (tgt : Int)) (kt : ¬ x = y → ai_Y p l e R s m args below meth c G Q M cells slots L tgt st) (kf : x = y → ai_Y p l e R s m args below meth c G Q M cells slots L (pc + 3) st) : ai_Y p l e R s m args below meth c G Q M cells slots L pc (.int y :: .int x :: st) :=
  fun H locs ls hl hP hS hL => lv_icmp_ne B.1 B.2.1 hd ht (fun h => kt h H locs ls hl hP hS hL) (fun h => kf h H locs ls hl hP hS hL)
theorem y_if_ne (B : ai_B p l e R s m args below meth c G cc nL ws own ret) {x : Int32} {off : Int} (tgt : Nat) (hd : decode cc pc = .ok (.ifCond .ne off, 3)) (ht : (pc : Int) + off = (tgt : Int)) (kt : ¬ x = 0 → ai_Y p l e R s m args below meth c G Q M cells slots L tgt st) (kf : x = 0 → ai_Y p l e R s m args below meth c G Q M cells slots L (pc + 3) st) : ai_Y p l e R s m args below meth c G Q M cells slots L pc (.int x :: st) :=
  fun H locs ls hl hP hS hL => lv_if_ne B.1 B.2.1 hd ht (fun h => kt h H locs ls hl hP hS hL) (fun h => kf h H locs ls hl hP hS hL)
theorem y_icmp_lt (B : ai_B p l e R s m args below meth c G cc nL ws own ret) {x y : Int32} {off : Int} (tgt : Nat) (hd : decode cc pc = .ok (.if_icmp .lt off, 3)) (ht : (pc : Int) + off = (tgt : Int)) (kt : x < y → ai_Y p l e R s m args below meth c G Q M cells slots L tgt st) (kf : ¬ x < y → ai_Y p l e R s m args below meth c G Q M cells slots L (pc + 3) st) : ai_Y p l e R s m args below meth c G Q M cells slots L pc (.int y :: .int x :: st) :=
  fun H locs ls hl hP hS hL => lv_icmp_lt B.1 B.2.1 hd ht (fun h => kt h H locs ls hl hP hS hL) (fun h => kf h H locs ls hl hP hS hL)
theorem y_if_lt (B : ai_B p l e R s m args below meth c G cc nL ws own ret) {x : Int32} {off : Int} (tgt : Nat) (hd : decode cc pc = .ok (.ifCond .lt off, 3)) (ht : (pc : Int) + off = (tgt : Int)) (kt : x < 0 → ai_Y p l e R s m args below meth c G Q M cells slots L tgt st) (kf : ¬ x < 0 → ai_Y p l e R s m args below meth c G Q M cells slots L (pc + 3) st) : ai_Y p l e R s m args below meth c G Q M cells slots L pc (.int x :: st) :=
  fun H locs ls hl hP hS hL => lv_if_lt B.1 B.2.1 hd ht (fun h => kt h H locs ls hl hP hS hL) (fun h => kf h H locs ls hl hP hS hL)
theorem y_icmp_ge (B : ai_B p l e R s m args below meth c G cc nL ws own ret) {x y : Int32} {off : Int} (tgt : Nat) (hd : decode cc pc = .ok (.if_icmp .ge off, 3)) (ht : (pc : Int) + off = (tgt : Int)) (kt : y ≤ x → ai_Y p l e R s m args below meth c G Q M cells slots L tgt st) (kf : ¬ y ≤ x → ai_Y p l e R s m args below meth c G Q M cells slots L (pc + 3) st) : ai_Y p l e R s m args below meth c G Q M cells slots L pc (.int y :: .int x :: st) :=
  fun H locs ls hl hP hS hL => lv_icmp_ge B.1 B.2.1 hd ht (fun h => kt h H locs ls hl hP hS hL) (fun h => kf h H locs ls hl hP hS hL)
theorem y_if_ge (B : ai_B p l e R s m args below meth c G cc nL ws own ret) {x : Int32} {off : Int} (tgt : Nat) (hd : decode cc pc = .ok (.ifCond .ge off, 3)) (ht : (pc : Int) + off = (tgt : Int)) (kt : 0 ≤ x → ai_Y p l e R s m args below meth c G Q M cells slots L tgt st) (kf : ¬ 0 ≤ x → ai_Y p l e R s m args below meth c G Q M cells slots L (pc + 3) st) : ai_Y p l e R s m args below meth c G Q M cells slots L pc (.int x :: st) :=
  fun H locs ls hl hP hS hL => lv_if_ge B.1 B.2.1 hd ht (fun h => kt h H locs ls hl hP hS hL) (fun h => kf h H locs ls hl hP hS hL)
theorem y_icmp_gt (B : ai_B p l e R s m args below meth c G cc nL ws own ret) {x y : Int32} {off : Int} (tgt : Nat) (hd : decode cc pc = .ok (.if_icmp .gt off, 3)) (ht : (pc : Int) + off = (tgt : Int)) (kt : y < x → ai_Y p l e R s m args below meth c G Q M cells slots L tgt st) (kf : ¬ y < x → ai_Y p l e R s m args below meth c G Q M cells slots L (pc + 3) st) : ai_Y p l e R s m args below meth c G Q M cells slots L pc (.int y :: .int x :: st) :=
  fun H locs ls hl hP hS hL => lv_icmp_gt B.1 B.2.1 hd ht (fun h => kt h H locs ls hl hP hS hL) (fun h => kf h H locs ls hl hP hS hL)
theorem y_if_gt (B : ai_B p l e R s m args below meth c G cc nL ws own ret) {x : Int32} {off : Int} (tgt : Nat) (hd : decode cc pc = .ok (.ifCond .gt off, 3)) (ht : (pc : Int) + off = (tgt : Int)) (kt : 0 < x → ai_Y p l e R s m args below meth c G Q M cells slots L tgt st) (kf : ¬ 0 < x → ai_Y p l e R s m args below meth c G Q M cells slots L (pc + 3) st) : ai_Y p l e R s m args below meth c G Q M cells slots L pc (.int x :: st) :=
  fun H locs ls hl hP hS hL => lv_if_gt B.1 B.2.1 hd ht (fun h => kt h H locs ls hl hP hS hL) (fun h => kf h H locs ls hl hP hS hL)
theorem y_icmp_le (B : ai_B p l e R s m args below meth c G cc nL ws own ret) {x y : Int32} {off : Int} (tgt : Nat) (hd : decode cc pc = .ok (.if_icmp .le off, 3)) (ht : (pc : Int) + off = (tgt : Int)) (kt : x ≤ y → ai_Y p l e R s m args below meth c G Q M cells slots L tgt st) (kf : ¬ x ≤ y → ai_Y p l e R s m args below meth c G Q M cells slots L (pc + 3) st) : ai_Y p l e R s m args below meth c G Q M cells slots L pc (.int y :: .int x :: st) :=
  fun H locs ls hl hP hS hL => lv_icmp_le B.1 B.2.1 hd ht (fun h => kt h H locs ls hl hP hS hL) (fun h => kf h H locs ls hl hP hS hL)
theorem y_if_le (B : ai_B p l e R s m args below meth c G cc nL ws own ret) {x : Int32} {off : Int} (tgt : Nat) (hd : decode cc pc = .ok (.ifCond .le off, 3)) (ht : (pc : Int) + off = (tgt : Int)) (kt : x ≤ 0 → ai_Y p l e R s m args below meth c G Q M cells slots L tgt st) (kf : ¬ x ≤ 0 → ai_Y p l e R s m args below meth c G Q M cells slots L (pc + 3) st) : ai_Y p l e R s m args below meth c G Q M cells slots L pc (.int x :: st) :=
  fun H locs ls hl hP hS hL => lv_if_le B.1 B.2.1 hd ht (fun h => kt h H locs ls hl hP hS hL) (fun h => kf h H locs ls hl hP hS hL)
theorem y_acmp_eq (B : ai_B p l e R s m args below meth c G cc nL ws own ret) {rx ry : Option Nat} {off : Int} (tgt : Nat) (hd : decode cc pc = .ok (.if_acmp .eq off, 3)) (ht : (pc : Int) + off = (tgt : Int)) (kt : rx = ry → ai_Y p l e R s m args below meth c G Q M cells slots L tgt st) (kf : ¬ rx = ry → ai_Y p l e R s m args below meth c G Q M cells slots L (pc + 3) st) : ai_Y p l e R s m args below meth c G Q M cells slots L pc (va_rf ry :: va_rf rx :: st) :=
  fun H locs ls hl hP hS hL => lv_acmp_eq B.1 B.2.1 hd ht (fun h => kt h H locs ls hl hP hS hL) (fun h => kf h H locs ls hl hP hS hL)
theorem y_acmp_ne (B : ai_B p l e R s m args below meth c G cc nL ws own ret) {rx ry : Option Nat} {off : Int} (tgt : Nat) (hd : decode cc pc = .ok (.if_acmp .ne off, 3)) (ht : (pc : Int) + off = (tgt : Int)) (kt : ¬ rx = ry → ai_Y p l e R s m args below meth c G Q M cells slots L tgt st) (kf : rx = ry → ai_Y p l e R s m args below meth c G Q M cells slots L (pc + 3) st) : ai_Y p l e R s m args below meth c G Q M cells slots L pc (va_rf ry :: va_rf rx :: st) :=
  fun H locs ls hl hP hS hL => lv_acmp_ne B.1 B.2.1 hd ht (fun h => kt h H locs ls hl hP hS hL) (fun h => kf h H locs ls hl hP hS hL)
theorem y_goto (B : ai_B p l e R s m args below meth c G cc nL ws own ret) {off : Int} (tgt : Nat) (hd : decode cc pc = .ok (.goto off, 3)) (ht : (pc : Int) + off = (tgt : Int)) (k : ai_Y p l e R s m args below meth c G Q M cells slots L tgt st) : ai_Y p l e R s m args below meth c G Q M cells slots L pc st :=
  fun H locs ls hl hP hS hL => lv_goto B.1 B.2.1 hd ht (k H locs ls hl hP hS hL)
theorem y_ifnull (B : ai_B p l e R s m args below meth c G cc nL ws own ret) {x : Nat} {off : Int} (hd : decode cc pc = .ok (.ifnull off, 3)) (k : ai_Y p l e R s m args below meth c G Q M cells slots L (pc + 3) st) : ai_Y p l e R s m args below meth c G Q M cells slots L pc (.ref x :: st) :=
  fun H locs ls hl hP hS hL => lv_ifnull B.1 B.2.1 hd (k H locs ls hl hP hS hL)
theorem y_ifnullN (B : ai_B p l e R s m args below meth c G cc nL ws own ret) {off : Int} (tgt : Nat) (hd : decode cc pc = .ok (.ifnull off, 3)) (ht : (pc : Int) + off = (tgt : Int)) (k : ai_Y p l e R s m args below meth c G Q M cells slots L tgt st) : ai_Y p l e R s m args below meth c G Q M cells slots L pc (.null :: st) :=
  fun H locs ls hl hP hS hL => lv_ifnullN B.1 B.2.1 hd ht (k H locs ls hl hP hS hL)
theorem y_ifnonnull (B : ai_B p l e R s m args below meth c G cc nL ws own ret) {x : Nat} {off : Int} (tgt : Nat) (hd : decode cc pc = .ok (.ifnonnull off, 3)) (ht : (pc : Int) + off = (tgt : Int)) (k : ai_Y p l e R s m args below meth c G Q M cells slots L tgt st) : ai_Y p l e R s m args below meth c G Q M cells slots L pc (.ref x :: st) :=
  fun H locs ls hl hP hS hL => lv_ifnonnull B.1 B.2.1 hd ht (k H locs ls hl hP hS hL)
theorem y_ifnonnullN (B : ai_B p l e R s m args below meth c G cc nL ws own ret) {off : Int} (hd : decode cc pc = .ok (.ifnonnull off, 3)) (k : ai_Y p l e R s m args below meth c G Q M cells slots L (pc + 3) st) : ai_Y p l e R s m args below meth c G Q M cells slots L pc (.null :: st) :=
  fun H locs ls hl hP hS hL => lv_ifnonnullN B.1 B.2.1 hd (k H locs ls hl hP hS hL)
theorem y_tableIn (B : ai_B p l e R s m args below meth c G cc nL ws own ret) {dflt lo hi : Int} {offs : Array Int} {len : Nat} {x : Int32} {off : Int} (tgt : Nat) (hd : decode cc pc = .ok (.tableswitch dflt lo hi offs, len)) (h1 : ¬ x.toInt < lo) (h2 : ¬ hi < x.toInt) (ho : offs[(x.toInt - lo).toNat]? = some off) (ht : (pc : Int) + off = (tgt : Int)) (k : ai_Y p l e R s m args below meth c G Q M cells slots L tgt st) : ai_Y p l e R s m args below meth c G Q M cells slots L pc (.int x :: st) :=
  fun H locs ls hl hP hS hL => lv_tableIn B.1 B.2.1 hd h1 h2 ho ht (k H locs ls hl hP hS hL)
theorem y_tableOut (B : ai_B p l e R s m args below meth c G cc nL ws own ret) {dflt lo hi : Int} {offs : Array Int} {len : Nat} {x : Int32} (tgt : Nat) (hd : decode cc pc = .ok (.tableswitch dflt lo hi offs, len)) (h : x.toInt < lo ∨ hi < x.toInt) (ht : (pc : Int) + dflt = (tgt : Int)) (k : ai_Y p l e R s m args below meth c G Q M cells slots L tgt st) : ai_Y p l e R s m args below meth c G Q M cells slots L pc (.int x :: st) :=
  fun H locs ls hl hP hS hL => lv_tableOut B.1 B.2.1 hd h ht (k H locs ls hl hP hS hL)
theorem y_eq {pc' : Nat} {st' : List Value} (h1 : pc = pc') (h2 : st = st') (k : ai_Y p l e R s m args below meth c G Q M cells slots L pc' st') : ai_Y p l e R s m args below meth c G Q M cells slots L pc st := by subst h1; subst h2; exact k
theorem y_mem {M' : ai_M} (h : ∀ (a g : Nat) (e : va_E), M' a = some (g, e) → M a = some (g, e)) (k : ai_Y p l e R s m args below meth c G Q M' cells slots L pc st) : ai_Y p l e R s m args below meth c G Q M cells slots L pc st := by
  intro H locs ls hl hP hS hL
  obtain ⟨ws1, h1, h2, h3⟩ := hP
  exact k H locs ls hl ⟨ws1, h1, h2, fun a g e q => h3 a g e (h a g e q)⟩ hS hL
theorem y_loc {L' : List (Option Value)} (h0 : L'.length = L.length) (h : ∀ (i : Nat) (v : Value), L'[i]? = some (some v) → L[i]? = some (some v)) (k : ai_Y p l e R s m args below meth c G Q M cells slots L' pc st) : ai_Y p l e R s m args below meth c G Q M cells slots L pc st := by
  intro H locs ls hl hP hS hL
  exact k H locs ls (by rw [h0]; exact hl) hP hS ⟨by rw [h0]; exact hL.1, hL.2.1, fun i v q => hL.2.2 i v (h i v q)⟩
theorem y_wide {k n : Nat} (h1 : cells ≤ k) (h2 : slots ≤ n) (kk : ai_Y p l e R s m args below meth c G Q M k n L pc st) : ai_Y p l e R s m args below meth c G Q M cells slots L pc st := fun H locs ls hl hP hS hL => W.widen h1 h2 (kk H locs ls hl hP hS hL)
theorem y_get (B : ai_B p l e R s m args below meth c G cc nL ws own ret) {ref C : String} {T : u_T} {N ci index a g : Nat} {fs : List Value} {v : Value} (hM : M a = some (g, .inr (ci, fs))) (hc : vwCl[ci]? = some (C, T, N)) (hin : ∀ w ∈ u_ws C T N, w ∈ ws) (k0 : Nat) (hk : k0 < N) (hlink : Cond.fieldLink own index ref (T k0).2.1 (T k0).2.2.1 ∈ ws) (hsame : ∀ x, s.fieldFound? (T k0).1 (T k0).2.1 (T k0).2.2.1 = some x → s.fieldFound? ref (T k0).2.1 (T k0).2.2.1 = some x) (hv : fs[k0]? = some v) (hd : decode cc pc = .ok (.getfield index, 3)) (k : ai_Y p l e R s m args below meth c G Q M cells slots L (pc + 3) (v :: st)) : ai_Y p l e R s m args below meth c G Q M cells slots L pc (.ref a :: st) := by
  intro H locs ls hl hP hS hL
  obtain ⟨ws1, h1, h2, h3⟩ := id hP
  obtain ⟨j, hj⟩ := h3 a g _ hM
  exact va_get B.1 B.2.1 B.2.2.2.2.2.1 hin B.2.2.2.2.1 B.2.2.2.2.2.2.2.1 h1 j hj hc k0 hk (B.2.2.2.2.2.1 _ hlink) hsame hv hd (k H locs ls hl hP hS hL)
theorem y_put (B : ai_B p l e R s m args below meth c G cc nL ws own ret) {ref C : String} {T : u_T} {N ci index a g : Nat} {fs : List Value} {v : Value} {ty : FieldType} (hM : M a = some (g, .inr (ci, fs))) (hc : vwCl[ci]? = some (C, T, N)) (hin : ∀ w ∈ u_ws C T N, w ∈ ws) (ty0 : Nat → FieldType) (hty : ∀ k, k < N → parseFieldDescriptor (T k).2.2.1 = some (ty0 k)) (hnm : ∀ a, a < N → ∀ b, b < N → a ≠ b → (T a).2.1 ≠ (T b).2.1) (k0 : Nat) (hk : k0 < N) (hlink : Cond.fieldLink own index ref (T k0).2.1 (T k0).2.2.1 ∈ ws) (hsame : ∀ x, s.fieldFound? (T k0).1 (T k0).2.1 (T k0).2.2.1 = some x → s.fieldFound? ref (T k0).2.1 (T k0).2.2.1 = some x) (hfin : (T k0).2.2.2 = false) (hdt : parseFieldDescriptor (T k0).2.2.1 = some ty) (hn : narrow ty v = v) (hfit : fits ty v = true) (hlen : k0 < fs.length) (hd : decode cc pc = .ok (.putfield index, 3)) (k : ai_Y p l e R s m args below meth c G Q (ai_U M a g (.inr (ci, fs.set k0 v))) cells slots L (pc + 3) st) : ai_Y p l e R s m args below meth c G Q M cells slots L pc (v :: .ref a :: st) := by
  intro H locs ls hl hP hS hL
  obtain ⟨ws1, h1, h2, h3⟩ := id hP
  obtain ⟨j, hj⟩ := h3 a g _ hM
  exact va_put B.1 B.2.1 B.2.2.2.2.2.1 hin ty0 hty hnm B.2.2.2.2.1 B.2.2.2.2.2.2.2.1 h1 h2 hS j hj hc k0 hk (B.2.2.2.2.2.1 _ hlink) hsame hfin hdt hn hfit hlen hd (fun H1 locs1 q1 q2 q3 => k H1 locs1 ls hl (ai_set h3 hj q1 q2) q3 hL)
theorem y_putF (B : ai_B p l e R s m args below meth c G cc nL ws own ret) {ref C : String} {T : u_T} {N ci index a g : Nat} {fs : List Value} {v : Value} {ty : FieldType} (hinit : meth.name = "<init>") (hM : M a = some (g, .inr (ci, fs))) (hc : vwCl[ci]? = some (C, T, N)) (hin : ∀ w ∈ u_ws C T N, w ∈ ws) (ty0 : Nat → FieldType) (hty : ∀ k, k < N → parseFieldDescriptor (T k).2.2.1 = some (ty0 k)) (hnm : ∀ a, a < N → ∀ b, b < N → a ≠ b → (T a).2.1 ≠ (T b).2.1) (k0 : Nat) (hk : k0 < N) (hlink : Cond.fieldLink own index ref (T k0).2.1 (T k0).2.2.1 ∈ ws) (hsame : ∀ x, s.fieldFound? (T k0).1 (T k0).2.1 (T k0).2.2.1 = some x → s.fieldFound? ref (T k0).2.1 (T k0).2.2.1 = some x) (hfin : (T k0).2.2.2 = true) (hdecl : (T k0).1 = own) (hdt : parseFieldDescriptor (T k0).2.2.1 = some ty) (hn : narrow ty v = v) (hfit : fits ty v = true) (hlen : k0 < fs.length) (hd : decode cc pc = .ok (.putfield index, 3)) (k : ai_Y p l e R s m args below meth c G Q (ai_U M a g (.inr (ci, fs.set k0 v))) cells slots L (pc + 3) st) : ai_Y p l e R s m args below meth c G Q M cells slots L pc (v :: .ref a :: st) := by
  intro H locs ls hl hP hS hL
  obtain ⟨ws1, h1, h2, h3⟩ := id hP
  obtain ⟨j, hj⟩ := h3 a g _ hM
  exact va_putF B.1 B.2.1 B.2.2.2.2.2.1 hin ty0 hty hnm B.2.2.2.2.1 B.2.2.2.2.2.2.2.1 h1 h2 hS j hj hc k0 hk (B.2.2.2.2.2.1 _ hlink) hsame hfin hinit hdecl hdt hn hfit hlen hd (fun H1 locs1 q1 q2 q3 => k H1 locs1 ls hl (ai_set h3 hj q1 q2) q3 hL)
theorem y_new (B : ai_B p l e R s m args below meth c G cc nL ws own ret) {C : String} {T : u_T} {N ci index : Nat} (gt : Nat) (fs : List Value) (hin : ∀ w ∈ u_ws C T N, w ∈ ws) (ty0 : Nat → FieldType) (hty : ∀ k, k < N → parseFieldDescriptor (T k).2.2.1 = some (ty0 k)) (hcl : Cond.classLink own index C ∈ ws) (hinst : Cond.instantiable C N ∈ ws) (hini : Cond.initialized C ∈ ws) (hc : vwCl[ci]? = some (C, T, N)) (hfs : ∀ j, j < N → defaultValue (ty0 j) = vp_V fs j) (hcells : cells + 1 ≤ R.cells) (hslots : slots + N ≤ R.slots) (hd : decode cc pc = .ok (.new index, 3)) (k : ∀ q : Nat, M q = none → ai_Y p l e R s m args below meth c G Q (ai_U M q gt (.inr (ci, fs))) (cells + 1) (slots + N) L (pc + 3) (.ref q :: st)) : ai_Y p l e R s m args below meth c G Q M cells slots L pc st := by
  intro H locs ls hl hP hS hL
  obtain ⟨ws1, h1, h2, h3⟩ := id hP
  exact va_new B.1 B.2.1 B.2.2.2.2.2.1 hin ty0 hty B.2.2.2.2.1 (B.2.2.2.2.2.1 _ hcl) (B.2.2.2.2.2.1 _ hinst) (B.2.2.2.2.2.1 _ hini) B.2.2.2.2.2.2.2.1 h1 h2 hS (ai_top B) hc hfs hcells hslots hd (fun q H1 q1 q2 q3 => k q (ai_push gt h3 q1 q2).2 H1 locs ls hl (ai_push gt h3 q1 q2).1 q3 hL)
theorem y_oinit (B : ai_B p l e R s m args below meth c G cc nL ws own ret) {index a : Nat} (hlink : Cond.methodLink own index objectInit ∈ ws) (hinst : Cond.instanceMethod objectInit ∈ ws) (hcode : Cond.code objectInit ⟨#[0xb1]⟩ 1 none ∈ ws) (hf : 1 ≤ R.frames) (hlo : (st.map fun v => v.category).sum + 12 ≤ R.locals) (hd : decode cc pc = .ok (.invokespecial index, 3)) (k : ai_Y p l e R s m args below meth c G Q M cells slots L (pc + 3) st) : ai_Y p l e R s m args below meth c G Q M cells slots L pc (.ref a :: st) := by
  intro H locs ls hl hP hS hL
  refine W.objInit B.1 B.2.1 B.2.2.2.2.1 (B.2.2.2.2.2.1 _ hlink) (B.2.2.2.2.2.1 _ hinst) (B.2.2.2.2.2.1 _ hcode) rfl (hL.1.trans hl) rfl hd hf ?_ (k H locs ls hl hP hS hL)
  show 2 * 0 + _ + 12 ≤ _
  omega
theorem y_gets (B : ai_B p l e R s m args below meth c G cc nL ws own ret) {C n d ref : String} {v : Value} {index : Nat} (hZ : va_Z C n d v (ai_A G) s s.heap) (hlink : Cond.fieldLink own index ref n d ∈ ws) (hsame : ∀ x, s.fieldFound? C n d = some x → s.fieldFound? ref n d = some x) (hd : decode cc pc = .ok (.getstatic index, 3)) (k : ai_Y p l e R s m args below meth c G Q M cells slots L (pc + 3) (v :: st)) : ai_Y p l e R s m args below meth c G Q M cells slots L pc st := by
  intro H locs ls hl hP hS hL
  exact va_gets B.1 B.2.1 hZ hS B.2.2.2.2.1 (B.2.2.2.2.2.1 _ hlink) hsame hd (k H locs ls hl hP hS hL)

theorem y_ialoadI (B : ai_B p l e R s m args below meth c G cc nL ws own ret) {a g n : Nat} {f : Nat → Int32} {i : Int32} (v : Int32) (hM : M a = some (g, ai_eI G n f)) (hi : vp_in i n) (hv : f i.toNatClampNeg = v) (hd : decode cc pc = .ok (.iaload, 1)) (k : ai_Y p l e R s m args below meth c G Q M cells slots L (pc + 1) (.int v :: st)) : ai_Y p l e R s m args below meth c G Q M cells slots L pc (.int i :: .ref a :: st) := by
  intro H locs ls hl hP hS hL
  subst hv
  obtain ⟨ws1, h1, h2, h3⟩ := id hP
  obtain ⟨j, hj⟩ := h3 a g _ hM
  exact va_iald B.1 B.2.1 B.2.2.2.2.2.2.2.1 h1 j 0 hj rfl hi hd (k H locs ls hl hP hS hL)
theorem y_iastoreI (B : ai_B p l e R s m args below meth c G cc nL ws own ret) {a g n : Nat} {f : Nat → Int32} {i x : Int32} (hM : M a = some (g, ai_eI G n f)) (hi : vp_in i n) (hd : decode cc pc = .ok (.iastore, 1)) (k : ai_Y p l e R s m args below meth c G Q (ai_U M a g (ai_eI G n (upd f i.toNatClampNeg x))) cells slots L (pc + 1) st) : ai_Y p l e R s m args below meth c G Q M cells slots L pc (.int x :: .int i :: .ref a :: st) := by
  intro H locs ls hl hP hS hL
  obtain ⟨ws1, h1, h2, h3⟩ := id hP
  obtain ⟨j, hj⟩ := h3 a g _ hM
  exact va_iast B.1 B.2.1 B.2.2.2.2.2.2.2.1 h1 h2 hS j 0 hj rfl hi hd (fun H1 locs1 q1 q2 q3 => k H1 locs1 ls hl (ai_set h3 hj q1 q2) q3 hL)
theorem y_baloadZ (B : ai_B p l e R s m args below meth c G cc nL ws own ret) {a g n : Nat} {f : Nat → Int32} {i : Int32} (v : Int32) (hM : M a = some (g, ai_eZ G n f)) (hi : vp_in i n) (hv : f i.toNatClampNeg = v) (hd : decode cc pc = .ok (.baload, 1)) (k : ai_Y p l e R s m args below meth c G Q M cells slots L (pc + 1) (.int v :: st)) : ai_Y p l e R s m args below meth c G Q M cells slots L pc (.int i :: .ref a :: st) := by
  intro H locs ls hl hP hS hL
  subst hv
  obtain ⟨ws1, h1, h2, h3⟩ := id hP
  obtain ⟨j, hj⟩ := h3 a g _ hM
  exact va_zald B.1 B.2.1 B.2.2.2.2.2.2.2.1 h1 j 1 hj rfl hi hd (k H locs ls hl hP hS hL)
theorem y_bastoreZ (B : ai_B p l e R s m args below meth c G cc nL ws own ret) {a g n : Nat} {f : Nat → Int32} {i x : Int32} (hM : M a = some (g, ai_eZ G n f)) (hi : vp_in i n) (hd : decode cc pc = .ok (.bastore, 1)) (k : ai_Y p l e R s m args below meth c G Q (ai_U M a g (ai_eZ G n (upd f i.toNatClampNeg (vp_nar .boolean x)))) cells slots L (pc + 1) st) : ai_Y p l e R s m args below meth c G Q M cells slots L pc (.int x :: .int i :: .ref a :: st) := by
  intro H locs ls hl hP hS hL
  obtain ⟨ws1, h1, h2, h3⟩ := id hP
  obtain ⟨j, hj⟩ := h3 a g _ hM
  exact va_zast B.1 B.2.1 B.2.2.2.2.2.2.2.1 h1 h2 hS j 1 hj rfl hi hd (fun H1 locs1 q1 q2 q3 => k H1 locs1 ls hl (ai_set h3 hj q1 q2) q3 hL)
theorem y_laload (B : ai_B p l e R s m args below meth c G cc nL ws own ret) {a g n : Nat} {f : Nat → Int64} {i : Int32} (hM : M a = some (g, ai_eJ G n f)) (hi : vp_in i n) (hd : decode cc pc = .ok (.laload, 1)) (k : ai_Y p l e R s m args below meth c G Q M cells slots L (pc + 1) (.long (f i.toNatClampNeg) :: st)) : ai_Y p l e R s m args below meth c G Q M cells slots L pc (.int i :: .ref a :: st) := by
  intro H locs ls hl hP hS hL
  obtain ⟨ws1, h1, h2, h3⟩ := id hP
  obtain ⟨j, hj⟩ := h3 a g _ hM
  exact va_lald B.1 B.2.1 B.2.2.2.2.2.2.2.1 h1 j 4 hj rfl hi hd (k H locs ls hl hP hS hL)
theorem y_lastore (B : ai_B p l e R s m args below meth c G cc nL ws own ret) {a g n : Nat} {f : Nat → Int64} {i : Int32} {x : Int64} (hM : M a = some (g, ai_eJ G n f)) (hi : vp_in i n) (hd : decode cc pc = .ok (.lastore, 1)) (k : ai_Y p l e R s m args below meth c G Q (ai_U M a g (ai_eJ G n (vp_updL f i.toNatClampNeg x))) cells slots L (pc + 1) st) : ai_Y p l e R s m args below meth c G Q M cells slots L pc (.long x :: .int i :: .ref a :: st) := by
  intro H locs ls hl hP hS hL
  obtain ⟨ws1, h1, h2, h3⟩ := id hP
  obtain ⟨j, hj⟩ := h3 a g _ hM
  exact va_last B.1 B.2.1 B.2.2.2.2.2.2.2.1 h1 h2 hS j 4 hj rfl hi hd (fun H1 locs1 q1 q2 q3 => k H1 locs1 ls hl (ai_set h3 hj q1 q2) q3 hL)
theorem y_aaloadO (B : ai_B p l e R s m args below meth c G cc nL ws own ret) {a g n : Nat} {f : Nat → Option Nat} {i : Int32} (r : Option Nat) (hM : M a = some (g, ai_eO G n f)) (hi : vp_in i n) (hr : f i.toNatClampNeg = r) (hd : decode cc pc = .ok (.aaload, 1)) (k : ai_Y p l e R s m args below meth c G Q M cells slots L (pc + 1) (va_rf r :: st)) : ai_Y p l e R s m args below meth c G Q M cells slots L pc (.int i :: .ref a :: st) := by
  intro H locs ls hl hP hS hL
  subst hr
  obtain ⟨ws1, h1, h2, h3⟩ := id hP
  obtain ⟨j, hj⟩ := h3 a g _ hM
  exact va_aldq B.1 B.2.1 B.2.2.2.2.2.2.2.1 h1 j 3 hj rfl hi hd (k H locs ls hl hP hS hL)
theorem y_aaloadP (B : ai_B p l e R s m args below meth c G cc nL ws own ret) {a g n : Nat} {f : Nat → Option Nat} {i : Int32} (r : Option Nat) (hM : M a = some (g, ai_eP G n f)) (hi : vp_in i n) (hr : f i.toNatClampNeg = r) (hd : decode cc pc = .ok (.aaload, 1)) (k : ai_Y p l e R s m args below meth c G Q M cells slots L (pc + 1) (va_rf r :: st)) : ai_Y p l e R s m args below meth c G Q M cells slots L pc (.int i :: .ref a :: st) := by
  intro H locs ls hl hP hS hL
  subst hr
  obtain ⟨ws1, h1, h2, h3⟩ := id hP
  obtain ⟨j, hj⟩ := h3 a g _ hM
  exact va_aldq B.1 B.2.1 B.2.2.2.2.2.2.2.1 h1 j 2 hj rfl hi hd (k H locs ls hl hP hS hL)
theorem y_aastoreO (B : ai_B p l e R s m args below meth c G cc nL ws own ret) {a g n v gv ci : Nat} {f : Nat → Option Nat} {i : Int32} {vs : List Value} {r : vw_C} (hM : M a = some (g, ai_eO G n f)) (hV : M v = some (gv, .inr (ci, vs))) (hc : vwCl[ci]? = some r) (hca : va_Nw (.castable r.1 "java/lang/Object") s) (hi : vp_in i n) (hd : decode cc pc = .ok (.aastore, 1)) (k : ai_Y p l e R s m args below meth c G Q (ai_U M a g (ai_eO G n (va_up f i.toNatClampNeg (some v)))) cells slots L (pc + 1) st) : ai_Y p l e R s m args below meth c G Q M cells slots L pc (.ref v :: .int i :: .ref a :: st) := by
  intro H locs ls hl hP hS hL
  obtain ⟨ws1, h1, h2, h3⟩ := id hP
  obtain ⟨j, hj⟩ := h3 a g _ hM
  obtain ⟨j2, hj2⟩ := h3 v gv _ hV
  exact va_astqO B.1 B.2.1 B.2.2.2.2.2.2.2.1 h1 h2 hS j 3 j2 ci hj rfl hca hj2 hc hi hd (fun H1 locs1 q1 q2 q3 => k H1 locs1 ls hl (ai_set h3 hj q1 q2) q3 hL)
theorem y_aastoreP (B : ai_B p l e R s m args below meth c G cc nL ws own ret) {a g n v gv : Nat} {f : Nat → Option Nat} {i : Int32} {vs : List Value} (hM : M a = some (g, ai_eP G n f)) (hV : M v = some (gv, .inr (3, vs))) (hi : vp_in i n) (hd : decode cc pc = .ok (.aastore, 1)) (k : ai_Y p l e R s m args below meth c G Q (ai_U M a g (ai_eP G n (va_up f i.toNatClampNeg (some v)))) cells slots L (pc + 1) st) : ai_Y p l e R s m args below meth c G Q M cells slots L pc (.ref v :: .int i :: .ref a :: st) := by
  intro H locs ls hl hP hS hL
  obtain ⟨ws1, h1, h2, h3⟩ := id hP
  obtain ⟨j, hj⟩ := h3 a g _ hM
  obtain ⟨j2, hj2⟩ := h3 v gv _ hV
  exact va_astq (r := (RX2, TX2, 2)) B.1 B.2.1 B.2.2.2.2.2.2.2.1 h1 h2 hS j 2 j2 3 hj rfl hj2 rfl hi hd (fun H1 locs1 q1 q2 q3 => k H1 locs1 ls hl (ai_set h3 hj q1 q2) q3 hL)
theorem y_alen (B : ai_B p l e R s m args below meth c G cc nL ws own ret) {a g : Nat} {x : vp_A} {cA : ClassId} (v : Int32) (t0 : Nat) {ty : FieldType} (hM : M a = some (g, .inl (cA, x))) (ht : (ai_T G)[t0]? = some (cA, ty)) (hv : Int32.ofNat x.1 = v) (hd : decode cc pc = .ok (.arraylength, 1)) (k : ai_Y p l e R s m args below meth c G Q M cells slots L (pc + 1) (.int v :: st)) : ai_Y p l e R s m args below meth c G Q M cells slots L pc (.ref a :: st) := by
  intro H locs ls hl hP hS hL
  obtain ⟨ws1, h1, h2, h3⟩ := id hP
  obtain ⟨j, hj⟩ := h3 a g _ hM
  exact va_alen B.1 B.2.1 B.2.2.2.2.2.2.2.1 h1 j t0 hj ht hv hd (k H locs ls hl hP hS hL)
theorem y_tlen (B : ai_B p l e R s m args below meth c G cc nL ws own ret) {ty : FieldType} {t N : Nat} {f : Nat → Value} (v : Int32) (hT : va_T ty t N f (ai_A G) s s.heap) (hv : Int32.ofNat N = v) (hd : decode cc pc = .ok (.arraylength, 1)) (k : ai_Y p l e R s m args below meth c G Q M cells slots L (pc + 1) (.int v :: st)) : ai_Y p l e R s m args below meth c G Q M cells slots L pc (.ref t :: st) := by
  intro H locs ls hl hP hS hL
  exact va_tlen B.1 B.2.1 hT hS hv hd (k H locs ls hl hP hS hL)
theorem ai_RAeq {U : State} {cA cB : ClassId} {ty : FieldType} (h1 : va_RA U cA ty) (h2 : va_RA U cB ty) : cA = cB := by
  cases ty with
  | object C =>
    obtain ⟨_, _, _, _, _, h1⟩ := h1
    obtain ⟨_, _, _, _, _, h2⟩ := h2
    exact Option.some.inj (h1.symm.trans h2)
  | _ => exact Option.some.inj (Eq.trans (Eq.symm h1) h2)
theorem ai_Kc {U : State} {t0 : Nat} {cA cB : ClassId} {ty : FieldType} (h : va_K G.1 vwCl (ai_T G ++ [(cA, ty)]) U) (ht : (ai_T G)[t0]? = some (cB, ty)) : cA = cB := by
  have h1 := h.2 (ai_T G).length (cA, ty) (by rw [List.getElem?_append_right (Nat.le_refl _), Nat.sub_self]; rfl)
  have h2 := h.2 t0 (cB, ty) (by rw [List.getElem?_append_left (List.getElem?_eq_some_iff.mp ht).1]; exact ht)
  exact ai_RAeq h1.2 h2.2
theorem y_newa (B : ai_B p l e R s m args below meth c G cc nL ws own ret) {atype : ArrayType} (gt t0 : Nat) {ty : FieldType} {cB : ClassId} {n : Int32} {N' : Nat} {a0 : vp_A} (harr : Cond.arrayClass (newarray.typeOf atype) ∈ ws) (hty : newarray.typeOf atype = ty) (ht : (ai_T G)[t0]? = some (cB, ty)) (ha : ∀ cA : ClassId, vp_cell cA a0 = arrV cA N' (fun _ => defaultValue ty)) (hn : ¬ n < 0) (hN : n.toNatClampNeg = N') (hbytes : N' * componentBytes ty ≤ 536870912) (hcells : cells + 1 ≤ R.cells) (hslots : slots + N' ≤ R.slots) (hd : decode cc pc = .ok (.newarray atype, 2)) (k : ∀ q : Nat, M q = none → ai_Y p l e R s m args below meth c G Q (ai_U M q gt (.inl (cB, a0))) (cells + 1) (slots + N') L (pc + 2) (.ref q :: st)) : ai_Y p l e R s m args below meth c G Q M cells slots L pc (.int n :: st) := by
  intro H locs ls hl hP hS hL
  obtain ⟨ws1, h1, h2, h3⟩ := id hP
  refine va_newa B.1 B.2.1 (B.2.2.2.2.2.1 _ harr) hty B.2.2.2.2.2.2.2.1 h1 h2 hS (ai_top B) ha hn hN hbytes hcells hslots hd (fun q cA H1 q0 q1 q2 q3 => ?_)
  obtain rfl := ai_Kc q0 ht
  exact k q (ai_push gt h3 q1 q2).2 H1 locs ls hl (ai_push gt h3 q1 q2).1 q3 hL
theorem y_newq (B : ai_B p l e R s m args below meth c G cc nL ws own ret) (gt t0 : Nat) {C : String} {cB : ClassId} {n : Int32} {N' index : Nat} (hcl : Cond.classLink own index C ∈ ws) (hover : va_AO C s) (ht : (ai_T G)[t0]? = some (cB, .object C)) (hn : ¬ n < 0) (hN : n.toNatClampNeg = N') (hbytes : N' * 4 ≤ 536870912) (hcells : cells + 1 ≤ R.cells) (hslots : slots + N' ≤ R.slots) (hd : decode cc pc = .ok (.anewarray index, 3)) (k : ∀ q : Nat, M q = none → ai_Y p l e R s m args below meth c G Q (ai_U M q gt (.inl (cB, (N', .inr (.inr (.inr (.inr (fun _ => none)))))))) (cells + 1) (slots + N') L (pc + 3) (.ref q :: st)) : ai_Y p l e R s m args below meth c G Q M cells slots L pc (.int n :: st) := by
  intro H locs ls hl hP hS hL
  obtain ⟨ws1, h1, h2, h3⟩ := id hP
  refine va_newq B.1 B.2.1 B.2.2.2.2.1 (B.2.2.2.2.2.1 _ hcl) hover B.2.2.2.2.2.2.2.1 h1 h2 hS (ai_top B) hn hN hbytes hcells hslots hd (fun q cA H1 q0 q1 q2 q3 => ?_)
  obtain rfl := ai_Kc q0 ht
  exact k q (ai_push gt h3 q1 q2).2 H1 locs ls hl (ai_push gt h3 q1 q2).1 q3 hL
theorem ai_recv {H : Heap} {a g ci : Nat} {fs : List Value} {q : vw_C} (hK : va_K G.1 vwCl (ai_T G) s) (hP : ai_P G M H) (hM : M a = some (g, .inr (ci, fs))) (hc : vwCl[ci]? = some q) : ∃ cell : Cell, H[a]? = some cell ∧ cell.vm.isStatics = false ∧ s.vm.findClass q.1 = some cell.cls := by
  obtain ⟨ws1, h1, h2, h3⟩ := hP
  obtain ⟨j, hj⟩ := h3 a g _ hM
  exact va_recv hK h1 hc hj
theorem y_cast (B : ai_B p l e R s m args below meth c G cc nL ws own ret) {a g ci index : Nat} {fs : List Value} {q : vw_C} (hM : M a = some (g, .inr (ci, fs))) (hc : vwCl[ci]? = some q) (hlink : Cond.classLink own index q.1 ∈ ws) (hd : decode cc pc = .ok (.checkcast index, 3)) (k : ai_Y p l e R s m args below meth c G Q M cells slots L (pc + 3) (.ref a :: st)) : ai_Y p l e R s m args below meth c G Q M cells slots L pc (.ref a :: st) := by
  intro H locs ls hl hP hS hL
  exact va_castS B.1 B.2.1 B.2.2.2.2.1 (B.2.2.2.2.2.1 _ hlink) (B.2.2.2.2.2.2.2.1.1 ci q hc).2 (ai_recv B.2.2.2.2.2.2.2.1 hP hM hc) hd (k H locs ls hl hP hS hL)

end AIY
end
section
/-! ===== CALLS, STARTS AND ENDS ===== -/
section AIC
variable {p : Program} {l : Launch} {e : Env} {R : Room} {s : State} {m : MethodId} {args : Array Value} {below : List Frame} {meth : Method} {c : Code} {G : ai_G} {Q : State → Prop} {M : ai_M} {cells slots : Nat} {L : List (Option Value)} {pc : Nat} {st : List Value} {cc : ByteArray} {nL : Nat} {ws : List Cond} {own : String} {ret : Option FieldType}
/-- a throw under way -/
def ai_Z (p : Program) (l : Launch) (e : Env) (R : Room) (s : State) (m : MethodId) (args : Array Value) (below : List Frame) (meth : Method) (c : Code) (G : ai_G) (Q : State → Prop) (M : ai_M) (cells slots : Nat) (L : List (Option Value)) (pc : Nat) (rest : List Value) (E : String) : Prop :=
  ∀ (H : Heap) (locs : List Loc) (ls : Array Slot) (q : Addr) (ce : Cell), L.length = c.maxLocals → ai_P G M H → va_S (ai_A G) s.heap H locs → ai_L ls L → H[q]? = some ce → ce.vm = .none → s.vm.findClass E = some ce.cls → vx_W p l e R s m args below meth c H locs cells slots Q (F0 m pc ls rest) q
theorem ai_pre (B : ai_B p l e R s m args below meth c G cc nL ws own ret) {H : Heap} {locs : List Loc} (hP : ai_P G M H) (hS : va_S (ai_A G) s.heap H locs) : ∀ U : State, U.heap = H → s.WarmedH U.vm → ai_Pre G M U := fun U hU hW =>
  ⟨va_K.moved hW.alike B.2.2.2.2.2.2.2.1, by rw [hU]; exact hP, ai_E.moved hW (fun q h1 h2 => by rw [hU]; exact hS.2.1 q h1 h2) B.2.2.2.2.2.2.2.2.1, by rw [hU]; exact Nat.le_trans B.2.2.2.2.2.2.2.2.2 hS.1⟩
theorem ai_call {H : Heap} {locs : List Loc} {ls : Array Slot} {mc ms : Nat} {a : Array Value} {st0 rest : List Value} {post : Option Value → ai_M → Prop} (hr : va_Run p l e R s m args below meth c H locs cells slots mc ms (F0 m pc ls st0) rest (ai_Q G post a) (ai_A G)) (hl : L.length = c.maxLocals) (hS : va_S (ai_A G) s.heap H locs) (hL : ai_L ls L) (kk : ∀ (r : Option Value) (M' : ai_M), post r M' → ai_Y p l e R s m args below meth c G Q M' (cells + mc) (slots + ms) L (pc + 3) (r.toList ++ rest)) : W p l e R s m args below meth c H locs cells slots Q (F0 m pc ls st0) := by
  intro T hT X
  obtain ⟨v, st₀, t, T', L1, h0, X', hL1, e1, e2, ⟨⟨r, M', hv, hp, hP'⟩, hF⟩, st1⟩ := hr T hT X
  cases hv
  obtain ⟨k1, k2, k3⟩ := vx_keep (A0 := ai_A G) (A1 := ai_A G) (free := ai_A G) h0 e1 hS (fun q _ h => h) (fun q h => h) hL1 hF
  obtain ⟨t2, a1, b1⟩ := kk _ M' hp T'.heap (locs ++ L1) ls hl (by rw [e1]; exact hP') k3 hL T' rfl X'
  exact ⟨t2, st1 t2 a1, b1⟩
theorem ai_call5 {H : Heap} {locs : List Loc} {ls : Array Slot} {mc ms : Nat} {a : Array Value} {st0 rest : List Value} {post : Option Value → ai_M → Prop} (hr : va_Run5 p l e R s m args below meth c H locs cells slots mc ms (F0 m pc ls st0) rest (ai_Q G post a) (ai_A G)) (hl : L.length = c.maxLocals) (hS : va_S (ai_A G) s.heap H locs) (hL : ai_L ls L) (kk : ∀ (r : Option Value) (M' : ai_M), post r M' → ai_Y p l e R s m args below meth c G Q M' (cells + mc) (slots + ms) L (pc + 5) (r.toList ++ rest)) : W p l e R s m args below meth c H locs cells slots Q (F0 m pc ls st0) := by
  intro T hT X
  obtain ⟨v, st₀, t, T', L1, h0, X', hL1, e1, e2, ⟨⟨r, M', hv, hp, hP'⟩, hF⟩, st1⟩ := hr T hT X
  cases hv
  obtain ⟨k1, k2, k3⟩ := vx_keep (A0 := ai_A G) (A1 := ai_A G) (free := ai_A G) h0 e1 hS (fun q _ h => h) (fun q h => h) hL1 hF
  obtain ⟨t2, a1, b1⟩ := kk _ M' hp T'.heap (locs ++ L1) ls hl (by rw [e1]; exact hP') k3 hL T' rfl X'
  exact ⟨t2, st1 t2 a1, b1⟩
theorem ai_callx {H : Heap} {locs : List Loc} {ls : Array Slot} {mc ms : Nat} {a : Array Value} {st0 rest : List Value} {post : Option Value → ai_M → Prop} {px : String → ai_M → Prop} (hr : vx_Run p l e R s m args below meth c H locs cells slots mc ms (F0 m pc ls st0) rest (ai_Q G post a) (ai_X G px) (ai_A G)) (hl : L.length = c.maxLocals) (hS : va_S (ai_A G) s.heap H locs) (hL : ai_L ls L) (kx : ∀ (E : String) (M' : ai_M), px E M' → ai_Z p l e R s m args below meth c G Q M' (cells + mc) (slots + ms) L pc rest E) (kk : ∀ (r : Option Value) (M' : ai_M), post r M' → ai_Y p l e R s m args below meth c G Q M' (cells + mc) (slots + ms) L (pc + 3) (r.toList ++ rest)) : W p l e R s m args below meth c H locs cells slots Q (F0 m pc ls st0) := by
  intro T hT X
  rcases hr T hT X with ⟨v, st₀, t, T', L1, h0, X', hL1, e1, e2, ⟨⟨r, M', hv, hp, hP'⟩, hF⟩, st1⟩ | ⟨q, st₀, t, T', L1, E, ce, h0, X', hL1, e1, e2, ⟨⟨M', hp, hP'⟩, hF⟩, hce, hcv, hcl, st1⟩
  · cases hv
    obtain ⟨k1, k2, k3⟩ := vx_keep (A0 := ai_A G) (A1 := ai_A G) (free := ai_A G) h0 e1 hS (fun q _ h => h) (fun q h => h) hL1 hF
    obtain ⟨t2, a1, b1⟩ := kk _ M' hp T'.heap (locs ++ L1) ls hl (by rw [e1]; exact hP') k3 hL T' rfl X'
    exact ⟨t2, st1 t2 a1, b1⟩
  · obtain ⟨k1, k2, k3⟩ := vx_keep (A0 := ai_A G) (A1 := ai_A G) (free := ai_A G) h0 e1 hS (fun q _ h => h) (fun q h => h) hL1 hF
    obtain ⟨t2, a1, b1⟩ := kx E M' hp T'.heap (locs ++ L1) ls q ce hl (by rw [e1]; exact hP') k3 hL (by rw [e1]; exact hce) hcv hcl T' rfl X'
    exact ⟨t2, st1.trans a1, b1⟩

theorem y_callV (B : ai_B p l e R s m args below meth c G cc nL ws own ret) {index mc ms maxL : Nat} {y : MethodName} {bytes : ByteArray} {ret' : Option FieldType} {ws' ws'' : List Cond} {rm : Room} {post : Option Value → ai_M → Prop} (na : Nat) {a g ci : Nat} {fs : List Value} {q : vw_C} (As rest : List Value) (hC : ai_C l y ws' rm mc ms G M (.ref a :: As) post) (hM : M a = some (g, .inr (ci, fs))) (hc : vwCl[ci]? = some q) (hT : GoodIn ws (wsV own index q.1 y ws')) (hd9 : y.cls = q.1 ∧ y.cls ≠ "java/lang/invoke/MethodHandle" ∧ y.cls ≠ "java/lang/invoke/VarHandle" ∧ (parseMethodDescriptor y.desc).map (fun d => d.parameters.length) = some na) (hna : As.length = na) (hw : ws' = Cond.code y bytes maxL ret' :: ws'') (hrc : rm.cells = mc) (hrs : rm.slots = ms) (hR : rm.frames + 1 ≤ R.frames ∧ 8 + (maxL + 11) + rm.locals ≤ R.locals) (hrest : (rest.map fun v => v.category).sum ≤ 8) (hf : cells + mc ≤ R.cells ∧ slots + ms ≤ R.slots) (hd : decode cc pc = .ok (.invokevirtual index, 3)) (hst : st = As.reverse ++ .ref a :: rest) (kk : ∀ (r : Option Value) (M' : ai_M), post r M' → ai_Y p l e R s m args below meth c G Q M' (cells + mc) (slots + ms) L (pc + 3) (r.toList ++ rest)) : ai_Y p l e R s m args below meth c G Q M cells slots L pc st := by
  intro H locs ls hl hP hS hL
  subst hst
  exact ai_call (va_runV (As := As) (rest := rest) ⟨B.1, B.2.1, B.2.2.2.1, B.2.2.2.2.1, B.2.2.2.2.2.1⟩ hC (cwV na B.2.2.2.2.2.1 hT hw hrc hrs hd9 hR) ⟨ai_blind, ai_recv B.2.2.2.2.2.2.2.1 hP hM hc, fun U hU hW => ⟨rfl, ai_pre B hP hS U hU hW⟩⟩ rfl hna (hL.1.trans (hl.trans B.2.2.2.1)) rfl (ai_room hrest) hd hf) hl hS hL kk
theorem y_callS (B : ai_B p l e R s m args below meth c G cc nL ws own ret) {index mc ms maxL : Nat} {y : MethodName} {bytes : ByteArray} {ret' : Option FieldType} {ws' ws'' : List Cond} {rm : Room} {post : Option Value → ai_M → Prop} (na : Nat) (As rest : List Value) (hC : ai_C l y ws' rm mc ms G M As post) (hT : GoodIn ws (va_wsS own index y ws')) (hd9 : y.cls ≠ "java/lang/invoke/MethodHandle" ∧ y.cls ≠ "java/lang/invoke/VarHandle" ∧ (parseMethodDescriptor y.desc).map (fun d => d.parameters.length) = some na) (hna : As.length = na) (hw : ws' = Cond.code y bytes maxL ret' :: ws'') (hrc : rm.cells = mc) (hrs : rm.slots = ms) (hR : rm.frames + 1 ≤ R.frames ∧ 8 + (maxL + 11) + rm.locals ≤ R.locals) (hrest : (rest.map fun v => v.category).sum ≤ 8) (hf : cells + mc ≤ R.cells ∧ slots + ms ≤ R.slots) (hd : decode cc pc = .ok (.invokestatic index, 3)) (hst : st = As.reverse ++ rest) (kk : ∀ (r : Option Value) (M' : ai_M), post r M' → ai_Y p l e R s m args below meth c G Q M' (cells + mc) (slots + ms) L (pc + 3) (r.toList ++ rest)) : ai_Y p l e R s m args below meth c G Q M cells slots L pc st := by
  intro H locs ls hl hP hS hL
  subst hst
  exact ai_call (va_runS (As := As) (rest := rest) ⟨B.1, B.2.1, B.2.2.2.1, B.2.2.2.2.1, B.2.2.2.2.2.1⟩ hC (va_cwS na B.2.2.2.2.2.1 hT hw hrc hrs hd9 hR) ⟨ai_blind, fun U hU hW => ⟨rfl, ai_pre B hP hS U hU hW⟩⟩ rfl hna (hL.1.trans (hl.trans B.2.2.2.1)) rfl (ai_room hrest) hd hf) hl hS hL kk
theorem y_callSN (B : ai_B p l e R s m args below meth c G cc nL ws own ret) {index mc ms maxL : Nat} {y : MethodName} {bytes : ByteArray} {ret' : Option FieldType} {ws' ws'' : List Cond} {rm : Room} {post : Option Value → ai_M → Prop} (na : Nat) {host : String} (As rest : List Value) (hC : ai_C l y ws' rm mc ms G M As post) (hT : GoodIn ws ws') (hnl : va_Nw (.methodLinkNest own index y host) s) (hini : Cond.initialized y.cls ∈ ws) (hstt : Cond.static y ∈ ws) (hd9 : y.cls ≠ "java/lang/invoke/MethodHandle" ∧ y.cls ≠ "java/lang/invoke/VarHandle" ∧ (parseMethodDescriptor y.desc).map (fun d => d.parameters.length) = some na) (hna : As.length = na) (hw : ws' = Cond.code y bytes maxL ret' :: ws'') (hrc : rm.cells = mc) (hrs : rm.slots = ms) (hR : rm.frames + 1 ≤ R.frames ∧ 8 + (maxL + 11) + rm.locals ≤ R.locals) (hrest : (rest.map fun v => v.category).sum ≤ 8) (hf : cells + mc ≤ R.cells ∧ slots + ms ≤ R.slots) (hd : decode cc pc = .ok (.invokestatic index, 3)) (hst : st = As.reverse ++ rest) (kk : ∀ (r : Option Value) (M' : ai_M), post r M' → ai_Y p l e R s m args below meth c G Q M' (cells + mc) (slots + ms) L (pc + 3) (r.toList ++ rest)) : ai_Y p l e R s m args below meth c G Q M cells slots L pc st := by
  intro H locs ls hl hP hS hL
  subst hst
  exact ai_call (va_runSN (As := As) (rest := rest) ⟨B.1, B.2.1, B.2.2.2.1, B.2.2.2.2.1, B.2.2.2.2.2.1⟩ hC ⟨va_cnB na B.2.2.2.2.2.1 hT hw hrc hrs hnl (B.2.2.2.2.2.1 _ hini) hd9 hR, B.2.2.2.2.2.1 _ hstt, trivial⟩ ⟨ai_blind, fun U hU hW => ⟨rfl, ai_pre B hP hS U hU hW⟩⟩ rfl hna (hL.1.trans (hl.trans B.2.2.2.1)) rfl (ai_room hrest) hd hf) hl hS hL kk
theorem y_callI (B : ai_B p l e R s m args below meth c G cc nL ws own ret) {index mc ms maxL : Nat} {y : MethodName} {bytes : ByteArray} {ws' ws'' : List Cond} {rm : Room} {post : Option Value → ai_M → Prop} (na : Nat) {a : Nat} (As rest : List Value) (hC : ai_C l y ws' rm mc ms G M (.ref a :: As) post) (hT : GoodIn ws ws') (hini : Cond.initialized y.cls ∈ ws) (hml : Cond.methodLink own index y ∈ ws) (hinst : Cond.instanceMethod y ∈ ws) (hy1 : y.name = "<init>") (hd9 : y.cls ≠ "java/lang/invoke/MethodHandle" ∧ y.cls ≠ "java/lang/invoke/VarHandle" ∧ (parseMethodDescriptor y.desc).map (fun d => d.parameters.length) = some na) (hna : As.length = na) (hw : ws' = Cond.code y bytes maxL none :: ws'') (hrc : rm.cells = mc) (hrs : rm.slots = ms) (hR : rm.frames + 1 ≤ R.frames ∧ 8 + (maxL + 11) + rm.locals ≤ R.locals) (hrest : (rest.map fun v => v.category).sum ≤ 8) (hf : cells + mc ≤ R.cells ∧ slots + ms ≤ R.slots) (hd : decode cc pc = .ok (.invokespecial index, 3)) (hst : st = As.reverse ++ .ref a :: rest) (kk : ∀ (r : Option Value) (M' : ai_M), post r M' → ai_Y p l e R s m args below meth c G Q M' (cells + mc) (slots + ms) L (pc + 3) (r.toList ++ rest)) : ai_Y p l e R s m args below meth c G Q M cells slots L pc st := by
  intro H locs ls hl hP hS hL
  subst hst
  exact ai_call (va_runI (As := As) (rest := rest) ⟨B.1, B.2.1, B.2.2.2.1, B.2.2.2.2.1, B.2.2.2.2.2.1⟩ hC (cwI na B.2.2.2.2.2.1 hT hw hrc hrs (B.2.2.2.2.2.1 _ hini) (B.2.2.2.2.2.1 _ hml) (B.2.2.2.2.2.1 _ hinst) hy1 hd9 hR) ⟨ai_blind, fun U hU hW => ⟨rfl, ai_pre B hP hS U hU hW⟩⟩ rfl hna (hL.1.trans (hl.trans B.2.2.2.1)) rfl (ai_room hrest) hd hf) hl hS hL kk
theorem y_callF (B : ai_B p l e R s m args below meth c G cc nL ws own ret) {index mc ms maxL : Nat} {y : MethodName} {bytes : ByteArray} {ret' : Option FieldType} {ws' ws'' : List Cond} {rm : Room} {post : Option Value → ai_M → Prop} (na : Nat) {x : MethodName} {count : Nat} {a g ci : Nat} {fs : List Value} {q : vw_C} (As rest : List Value) (hC : ai_C l y ws' rm mc ms G M (.ref a :: As) post) (hM : M a = some (g, .inr (ci, fs))) (hc : vwCl[ci]? = some q) (hT : GoodIn ws (va_wsF own index q.1 x y ws')) (hF : va_Fw q.1 x y s) (hd9 : x.cls ≠ "java/lang/invoke/MethodHandle" ∧ x.cls ≠ "java/lang/invoke/VarHandle" ∧ (parseMethodDescriptor x.desc).map (fun d => d.parameters.length) = some na) (hna : As.length = na) (hw : ws' = Cond.code y bytes maxL ret' :: ws'') (hrc : rm.cells = mc) (hrs : rm.slots = ms) (hR : rm.frames + 1 ≤ R.frames ∧ 8 + (maxL + 11) + rm.locals ≤ R.locals) (hrest : (rest.map fun v => v.category).sum ≤ 8) (hf : cells + mc ≤ R.cells ∧ slots + ms ≤ R.slots) (hd : decode cc pc = .ok (.invokeinterface index count, 5)) (hst : st = As.reverse ++ .ref a :: rest) (kk : ∀ (r : Option Value) (M' : ai_M), post r M' → ai_Y p l e R s m args below meth c G Q M' (cells + mc) (slots + ms) L (pc + 5) (r.toList ++ rest)) : ai_Y p l e R s m args below meth c G Q M cells slots L pc st := by
  intro H locs ls hl hP hS hL
  subst hst
  exact ai_call5 (va_runF (As := As) (rest := rest) (B.2.2.2.2.2.2.2.1.1 ci q hc).2 ⟨B.1, B.2.1, B.2.2.2.1, B.2.2.2.2.1, B.2.2.2.2.2.1⟩ hC (va_cwF na B.2.2.2.2.2.1 hT hw hrc hrs hF hd9 hR) ⟨ai_blind, ai_recv B.2.2.2.2.2.2.2.1 hP hM hc, fun U hU hW => ⟨rfl, ai_pre B hP hS U hU hW⟩⟩ rfl hna (hL.1.trans (hl.trans B.2.2.2.1)) rfl (ai_room hrest) hd hf) hl hS hL kk
theorem x_callV (B : ai_B p l e R s m args below meth c G cc nL ws own ret) {index mc ms maxL : Nat} {y : MethodName} {bytes : ByteArray} {ret' : Option FieldType} {ws' ws'' : List Cond} {rm : Room} {post : Option Value → ai_M → Prop} (na : Nat) {px : String → ai_M → Prop} {a g ci : Nat} {fs : List Value} {q : vw_C} (As rest : List Value) (hC : ai_D l y ws' rm mc ms G M (.ref a :: As) post px) (hM : M a = some (g, .inr (ci, fs))) (hc : vwCl[ci]? = some q) (hT : GoodIn ws (wsV own index q.1 y ws')) (hd9 : y.cls = q.1 ∧ y.cls ≠ "java/lang/invoke/MethodHandle" ∧ y.cls ≠ "java/lang/invoke/VarHandle" ∧ (parseMethodDescriptor y.desc).map (fun d => d.parameters.length) = some na) (hna : As.length = na) (hw : ws' = Cond.code y bytes maxL ret' :: ws'') (hrc : rm.cells = mc) (hrs : rm.slots = ms) (hR : rm.frames + 1 ≤ R.frames ∧ 8 + (maxL + 11) + rm.locals ≤ R.locals) (hrest : (rest.map fun v => v.category).sum ≤ 8) (hf : cells + mc ≤ R.cells ∧ slots + ms ≤ R.slots) (hd : decode cc pc = .ok (.invokevirtual index, 3)) (hst : st = As.reverse ++ .ref a :: rest) (kx : ∀ (E : String) (M' : ai_M), px E M' → ai_Z p l e R s m args below meth c G Q M' (cells + mc) (slots + ms) L pc rest E) (kk : ∀ (r : Option Value) (M' : ai_M), post r M' → ai_Y p l e R s m args below meth c G Q M' (cells + mc) (slots + ms) L (pc + 3) (r.toList ++ rest)) : ai_Y p l e R s m args below meth c G Q M cells slots L pc st := by
  intro H locs ls hl hP hS hL
  subst hst
  exact ai_callx (vx_runV (As := As) (rest := rest) ⟨B.1, B.2.1, B.2.2.2.1, B.2.2.2.2.1, B.2.2.2.2.2.1⟩ hC (cwV na B.2.2.2.2.2.1 hT hw hrc hrs hd9 hR) ⟨ai_blind, ai_recv B.2.2.2.2.2.2.2.1 hP hM hc, fun U hU hW => ⟨rfl, ai_pre B hP hS U hU hW⟩⟩ rfl hna (hL.1.trans (hl.trans B.2.2.2.1)) rfl (ai_room hrest) hd hf) hl hS hL kx kk
theorem x_callS (B : ai_B p l e R s m args below meth c G cc nL ws own ret) {index mc ms maxL : Nat} {y : MethodName} {bytes : ByteArray} {ret' : Option FieldType} {ws' ws'' : List Cond} {rm : Room} {post : Option Value → ai_M → Prop} (na : Nat) {px : String → ai_M → Prop} (As rest : List Value) (hC : ai_D l y ws' rm mc ms G M As post px) (hT : GoodIn ws (va_wsS own index y ws')) (hd9 : y.cls ≠ "java/lang/invoke/MethodHandle" ∧ y.cls ≠ "java/lang/invoke/VarHandle" ∧ (parseMethodDescriptor y.desc).map (fun d => d.parameters.length) = some na) (hna : As.length = na) (hw : ws' = Cond.code y bytes maxL ret' :: ws'') (hrc : rm.cells = mc) (hrs : rm.slots = ms) (hR : rm.frames + 1 ≤ R.frames ∧ 8 + (maxL + 11) + rm.locals ≤ R.locals) (hrest : (rest.map fun v => v.category).sum ≤ 8) (hf : cells + mc ≤ R.cells ∧ slots + ms ≤ R.slots) (hd : decode cc pc = .ok (.invokestatic index, 3)) (hst : st = As.reverse ++ rest) (kx : ∀ (E : String) (M' : ai_M), px E M' → ai_Z p l e R s m args below meth c G Q M' (cells + mc) (slots + ms) L pc rest E) (kk : ∀ (r : Option Value) (M' : ai_M), post r M' → ai_Y p l e R s m args below meth c G Q M' (cells + mc) (slots + ms) L (pc + 3) (r.toList ++ rest)) : ai_Y p l e R s m args below meth c G Q M cells slots L pc st := by
  intro H locs ls hl hP hS hL
  subst hst
  exact ai_callx (vx_runS (As := As) (rest := rest) ⟨B.1, B.2.1, B.2.2.2.1, B.2.2.2.2.1, B.2.2.2.2.2.1⟩ hC (va_cwS na B.2.2.2.2.2.1 hT hw hrc hrs hd9 hR) ⟨ai_blind, fun U hU hW => ⟨rfl, ai_pre B hP hS U hU hW⟩⟩ rfl hna (hL.1.trans (hl.trans B.2.2.2.1)) rfl (ai_room hrest) hd hf) hl hS hL kx kk
theorem x_callSX (B : ai_B p l e R s m args below meth c G cc nL ws own ret) {index mc ms maxL : Nat} {y : MethodName} {bytes : ByteArray} {ret' : Option FieldType} {ws' ws'' : List Cond} {rm : Room} {post : Option Value → ai_M → Prop} (na : Nat) {px : String → ai_M → Prop} {hh : List (Nat × Nat × Nat × Nat)} (As rest : List Value) (hC : ai_D l y ws' rm mc ms G M As post px) (hT : GoodIn ws (va_wsS own index y ws')) (hd9 : y.cls ≠ "java/lang/invoke/MethodHandle" ∧ y.cls ≠ "java/lang/invoke/VarHandle" ∧ (parseMethodDescriptor y.desc).map (fun d => d.parameters.length) = some na) (hna : As.length = na) (hw : ws' = Cond.codeWith y bytes maxL ret' hh :: ws'') (hrc : rm.cells = mc) (hrs : rm.slots = ms) (hR : rm.frames + 1 ≤ R.frames ∧ 8 + (maxL + 11) + rm.locals ≤ R.locals) (hrest : (rest.map fun v => v.category).sum ≤ 8) (hf : cells + mc ≤ R.cells ∧ slots + ms ≤ R.slots) (hd : decode cc pc = .ok (.invokestatic index, 3)) (hst : st = As.reverse ++ rest) (kx : ∀ (E : String) (M' : ai_M), px E M' → ai_Z p l e R s m args below meth c G Q M' (cells + mc) (slots + ms) L pc rest E) (kk : ∀ (r : Option Value) (M' : ai_M), post r M' → ai_Y p l e R s m args below meth c G Q M' (cells + mc) (slots + ms) L (pc + 3) (r.toList ++ rest)) : ai_Y p l e R s m args below meth c G Q M cells slots L pc st := by
  intro H locs ls hl hP hS hL
  subst hst
  exact ai_callx (vx_runSX (As := As) (rest := rest) ⟨B.1, B.2.1, B.2.2.2.1, B.2.2.2.2.1, B.2.2.2.2.2.1⟩ hC (vx_cwSW na B.2.2.2.2.2.1 hT hw hrc hrs hd9 hR) ⟨ai_blind, fun U hU hW => ⟨rfl, ai_pre B hP hS U hU hW⟩⟩ rfl hna (hL.1.trans (hl.trans B.2.2.2.1)) rfl (ai_room hrest) hd hf) hl hS hL kx kk
end AIC
section AIS
variable {l : Launch} {G : ai_G} {M : ai_M} {y : MethodName} {ws ws' : List Cond} {rm : Room} {mc ms : Nat} {av : List Value} {post : Option Value → ai_M → Prop} {px : String → ai_M → Prop} {cc : ByteArray} {maxL : Nat} {ret : Option FieldType}
theorem ai_L0_len (h : av.length ≤ maxL) : (ai_L0 av maxL).length = maxL := by
  unfold ai_L0
  rw [List.length_append, List.length_map, List.length_replicate]
  omega
theorem y_start (hy : plainName y.cls = true) (hw : ws = Cond.code y cc maxL ret :: ws') (hn : av.length ≤ maxL) (hn2 : (lg_sl av).length ≤ maxL) (hc : ∀ x ∈ av, x.category = 1)
    (body : ∀ (p : Program) (e : Env) (s : State) (m : MethodId) (below : List Frame) (meth : Method) (c : Code), ai_B p l e rm s m av.toArray below meth c G cc maxL ws y.cls ret → meth.name = y.name → ai_Y p l e rm s m av.toArray below meth c G (MQ below (ai_Q G post) av.toArray s mc ms (ai_A G)) M 0 0 (ai_L0 av maxL) 0 []) : ai_C l y ws rm mc ms G M av post := by
  refine Met.ofW (cc := cc) (maxL := maxL) (ret := ret) hy hw ?_
  intro p e s m args below meth c s₁ B hml hv
  obtain ⟨rfl, hK, hP, hE, hlo⟩ := hv
  have hl := lv_entry av (n := maxL) hn2
  rw [lg_entry_eq]
  generalize (lg_sl av ++ List.replicate (maxL - (lg_sl av).length) Slot.unset).toArray = ls at hl ⊢
  exact body p e s m below meth c ⟨B.exec, B.bytes, B.returns, hml, findClass_of_methodNamed B.named, atoms_spec (ws := ws) B.pre, B.notSynchronized, hK, hE, hlo⟩ (name_of_methodNamed B.named B.method).1 s.heap [] ls ((ai_L0_len hn).trans hml.symm) hP va_S.rf (ai_entry hn hc hl)
theorem x_start (hy : plainName y.cls = true) (hw : ws = Cond.code y cc maxL ret :: ws') (hn : av.length ≤ maxL) (hn2 : (lg_sl av).length ≤ maxL) (hc : ∀ x ∈ av, x.category = 1)
    (body : ∀ (p : Program) (e : Env) (s : State) (m : MethodId) (below : List Frame) (meth : Method) (c : Code), ai_B p l e rm s m av.toArray below meth c G cc maxL ws y.cls ret → (∀ x ∈ c.exceptionTable.toList, False) → ai_Y p l e rm s m av.toArray below meth c G (vx_MQ below (ai_Q G post) (ai_X G px) av.toArray s mc ms (ai_A G)) M 0 0 (ai_L0 av maxL) 0 []) : ai_D l y ws rm mc ms G M av post px := by
  refine vx_ofW (cc := cc) (maxL := maxL) (ret := ret) hy hw ?_
  intro p e s m args below meth c s₁ B hml htab hv
  obtain ⟨rfl, hK, hP, hE, hlo⟩ := hv
  have hl := lv_entry av (n := maxL) hn2
  rw [lg_entry_eq]
  generalize (lg_sl av ++ List.replicate (maxL - (lg_sl av).length) Slot.unset).toArray = ls at hl ⊢
  exact body p e s m below meth c ⟨B.exec, B.bytes, B.returns, hml, findClass_of_methodNamed B.named, atoms_spec (ws := ws) B.pre, B.notSynchronized, hK, hE, hlo⟩ htab s.heap [] ls ((ai_L0_len hn).trans hml.symm) hP va_S.rf (ai_entry hn hc hl)
theorem x_startH {hh : List (Nat × Nat × Nat × Nat)} (hy : plainName y.cls = true) (hw : ws = Cond.codeWith y cc maxL ret hh :: ws') (hn : av.length ≤ maxL) (hn2 : (lg_sl av).length ≤ maxL) (hc : ∀ x ∈ av, x.category = 1)
    (body : ∀ (p : Program) (e : Env) (s : State) (m : MethodId) (below : List Frame) (meth : Method) (c : Code), ai_B p l e rm s m av.toArray below meth c G cc maxL ws y.cls ret → c.exceptionTable.toList = tableOf hh → ai_Y p l e rm s m av.toArray below meth c G (vx_MQ below (ai_Q G post) (ai_X G px) av.toArray s mc ms (ai_A G)) M 0 0 (ai_L0 av maxL) 0 []) : ai_D l y ws rm mc ms G M av post px := by
  refine vx_ofWH (cc := cc) (maxL := maxL) (ret := ret) hy hw ?_
  intro p e s m args below meth c s₁ B hml hv
  obtain ⟨rfl, hK, hP, hE, hlo⟩ := hv
  have htab := vx_table (x := y) B (atoms_spec (ws := ws) B.pre _ (by rw [hw]; exact List.mem_cons_self))
  have hl := lv_entry av (n := maxL) hn2
  rw [lg_entry_eq]
  generalize (lg_sl av ++ List.replicate (maxL - (lg_sl av).length) Slot.unset).toArray = ls at hl ⊢
  exact body p e s m below meth c ⟨B.exec, B.bytes, B.returns, hml, findClass_of_methodNamed B.named, atoms_spec (ws := ws) B.pre, B.notSynchronized, hK, hE, hlo⟩ htab s.heap [] ls ((ai_L0_len hn).trans hml.symm) hP va_S.rf (ai_entry hn hc hl)
end AIS
section AIE
variable {p : Program} {l : Launch} {e : Env} {R : Room} {s : State} {m : MethodId} {args : Array Value} {below : List Frame} {meth : Method} {c : Code} {G : ai_G} {M : ai_M} {cells slots : Nat} {L : List (Option Value)} {pc : Nat} {st : List Value} {cc : ByteArray} {nL : Nat} {ws : List Cond} {own : String} {mc ms : Nat} {post : Option Value → ai_M → Prop} {px : String → ai_M → Prop}
theorem y_iret (B : ai_B p l e R s m args below meth c G cc nL ws own (some .int)) {x : Int32} (hd : decode cc pc = .ok (.ireturn, 1)) (h1 : cells ≤ mc) (h2 : slots ≤ ms) (hp : post (some (.int x)) M) : ai_Y p l e R s m args below meth c G (MQ below (ai_Q G post) args s mc ms (ai_A G)) M cells slots L pc [.int x] :=
  fun H locs ls hl hP hS hL => W.widen h1 h2 (W.iret B.1 B.2.1 B.2.2.1 (fun t ht hW => ⟨⟨_, M, rfl, hp, by rw [ht]; exact hP⟩, hS.F ht⟩) hS.2.2 hd B.2.2.2.2.2.2.1)
theorem y_zret (B : ai_B p l e R s m args below meth c G cc nL ws own (some .boolean)) {x : Int32} (hd : decode cc pc = .ok (.ireturn, 1)) (h1 : cells ≤ mc) (h2 : slots ≤ ms) (hn : narrow .boolean (.int x) = .int x) (hp : post (some (.int x)) M) : ai_Y p l e R s m args below meth c G (MQ below (ai_Q G post) args s mc ms (ai_A G)) M cells slots L pc [.int x] :=
  fun H locs ls hl hP hS hL => W.widen h1 h2 (W.zret B.1 B.2.1 B.2.2.1 hn (fun t ht hW => ⟨⟨_, M, rfl, hp, by rw [ht]; exact hP⟩, hS.F ht⟩) hS.2.2 hd B.2.2.2.2.2.2.1)
theorem y_vret (B : ai_B p l e R s m args below meth c G cc nL ws own none) (hd : decode cc pc = .ok (.return_, 1)) (h1 : cells ≤ mc) (h2 : slots ≤ ms) (hp : post none M) : ai_Y p l e R s m args below meth c G (MQ below (ai_Q G post) args s mc ms (ai_A G)) M cells slots L pc [] :=
  fun H locs ls hl hP hS hL => W.widen h1 h2 (W.vret B.1 B.2.1 B.2.2.1 (fun t ht hW => ⟨⟨_, M, rfl, hp, by rw [ht]; exact hP⟩, hS.F ht⟩) hS.2.2 hd B.2.2.2.2.2.2.1)
theorem y_aret {rt : FieldType} (B : ai_B p l e R s m args below meth c G cc nL ws own (some rt)) {v : Value} (hrt : (∃ n, rt = .object n) ∨ ∃ t, rt = .array t) (hv : v = .null ∨ ∃ a, v = .ref a) (hd : decode cc pc = .ok (.areturn, 1)) (h1 : cells ≤ mc) (h2 : slots ≤ ms) (hp : post (some v) M) : ai_Y p l e R s m args below meth c G (MQ below (ai_Q G post) args s mc ms (ai_A G)) M cells slots L pc [v] :=
  fun H locs ls hl hP hS hL => W.widen h1 h2 (W.aret B.1 B.2.1 B.2.2.1 hrt hv (fun t ht hW => ⟨⟨_, M, rfl, hp, by rw [ht]; exact hP⟩, hS.F ht⟩) hS.2.2 hd B.2.2.2.2.2.2.1)
theorem x_iret (B : ai_B p l e R s m args below meth c G cc nL ws own (some .int)) {x : Int32} (hd : decode cc pc = .ok (.ireturn, 1)) (h1 : cells ≤ mc) (h2 : slots ≤ ms) (hp : post (some (.int x)) M) : ai_Y p l e R s m args below meth c G (vx_MQ below (ai_Q G post) (ai_X G px) args s mc ms (ai_A G)) M cells slots L pc [.int x] :=
  fun H locs ls hl hP hS hL => W.widen h1 h2 (vx_ret (W.iret B.1 B.2.1 B.2.2.1 (fun t ht hW => ⟨⟨_, M, rfl, hp, by rw [ht]; exact hP⟩, hS.F ht⟩) hS.2.2 hd B.2.2.2.2.2.2.1))
theorem x_zret (B : ai_B p l e R s m args below meth c G cc nL ws own (some .boolean)) {x : Int32} (hd : decode cc pc = .ok (.ireturn, 1)) (h1 : cells ≤ mc) (h2 : slots ≤ ms) (hn : narrow .boolean (.int x) = .int x) (hp : post (some (.int x)) M) : ai_Y p l e R s m args below meth c G (vx_MQ below (ai_Q G post) (ai_X G px) args s mc ms (ai_A G)) M cells slots L pc [.int x] :=
  fun H locs ls hl hP hS hL => W.widen h1 h2 (vx_ret (W.zret B.1 B.2.1 B.2.2.1 hn (fun t ht hW => ⟨⟨_, M, rfl, hp, by rw [ht]; exact hP⟩, hS.F ht⟩) hS.2.2 hd B.2.2.2.2.2.2.1))
theorem x_vret (B : ai_B p l e R s m args below meth c G cc nL ws own none) (hd : decode cc pc = .ok (.return_, 1)) (h1 : cells ≤ mc) (h2 : slots ≤ ms) (hp : post none M) : ai_Y p l e R s m args below meth c G (vx_MQ below (ai_Q G post) (ai_X G px) args s mc ms (ai_A G)) M cells slots L pc [] :=
  fun H locs ls hl hP hS hL => W.widen h1 h2 (vx_ret (W.vret B.1 B.2.1 B.2.2.1 (fun t ht hW => ⟨⟨_, M, rfl, hp, by rw [ht]; exact hP⟩, hS.F ht⟩) hS.2.2 hd B.2.2.2.2.2.2.1))
theorem x_aret {rt : FieldType} (B : ai_B p l e R s m args below meth c G cc nL ws own (some rt)) {v : Value} (hrt : (∃ n, rt = .object n) ∨ ∃ t, rt = .array t) (hv : v = .null ∨ ∃ a, v = .ref a) (hd : decode cc pc = .ok (.areturn, 1)) (h1 : cells ≤ mc) (h2 : slots ≤ ms) (hp : post (some v) M) : ai_Y p l e R s m args below meth c G (vx_MQ below (ai_Q G post) (ai_X G px) args s mc ms (ai_A G)) M cells slots L pc [v] :=
  fun H locs ls hl hP hS hL => W.widen h1 h2 (vx_ret (W.aret B.1 B.2.1 B.2.2.1 hrt hv (fun t ht hW => ⟨⟨_, M, rfl, hp, by rw [ht]; exact hP⟩, hS.F ht⟩) hS.2.2 hd B.2.2.2.2.2.2.1))
theorem ai_P_kept {H H1 : Heap} (hP : ai_P G M H) (h : ∀ q : Nat, q < H.size → H1[q]? = H[q]?) : ai_P G M H1 := by
  obtain ⟨ws1, h1, h2, h3⟩ := hP
  exact ⟨ws1, h1.kept (fun k q hk => h q.1 (h1 k q hk).lt), h2, h3⟩
theorem x_throw {ret : Option FieldType} (B : ai_B p l e R s m args below meth c G cc nL ws RX6 ret) {E text : String} {ik is ic sv : Nat} (hl9 : l.stackTraces = false) (htab : ∀ x ∈ c.exceptionTable.toList, False) (hfit : Bundle.fit E = true) (hk : Cond.classLink RX6 ik E ∈ ws) (hini : Cond.initialized E ∈ ws) (hstr : (is, text, sv) ∈ ai_Es) (hgw : ∀ w ∈ (vx_atS RX6 ic E ai_Xn).filter goodWord, w ∈ ws) (hbw : ∀ w ∈ (vx_atS RX6 ic E ai_Xn).filter (fun w => !goodWord w), w ∈ ai_Xw)
    (hgood : ∀ w ∈ Cond.classLink RX6 ik E :: Cond.initialized E :: vx_atS RX6 ic E ai_Xn, vx_ot w = true) (d0 : decode cc pc = .ok (.new ik, 3)) (d3 : decode cc (pc + 3) = .ok (.dup, 1)) (d4 : decode cc (pc + 4) = .ok (.ldc is, 2)) (d6 : decode cc (pc + 6) = .ok (.invokespecial ic, 3)) (d9 : decode cc (pc + 9) = .ok (.athrow, 1))
    (hRf : 5 < R.frames) (hRl : (st.map fun v => v.category).sum + 82 ≤ R.locals) (hRc : cells + 1 ≤ R.cells) (hRs : slots + 6 ≤ R.slots) (hc : cells + 1 ≤ mc) (hs : slots + 6 ≤ ms) (hpx : px E M) : ai_Y p l e R s m args below meth c G (vx_MQ below (ai_Q G post) (ai_X G px) args s mc ms (ai_A G)) M cells slots L pc st := by
  intro H locs ls hl hP hS hL
  obtain ⟨hEw, hEh⟩ := B.2.2.2.2.2.2.2.2.1
  have hX := hEw.2.2.2.2.2.2.2.2.2.2.1
  have hR9 := hEw.2.2.2.2.2.2.2.2.2.2.2.2 _ hstr
  have hat : ∀ w ∈ vx_atS RX6 ic E ai_Xn, w.before args s = true := vx_hat (B := ai_Xw) (fun w hw => B.2.2.2.2.2.1 w (hgw w hw)) hbw (fun w hw => va_Nw.use (ai_mv_tab (ai_Xw_mv w hw)) (hX w hw))
  refine vx_throwS B.1 B.2.1 hl9 (names := ai_Xn) (text := text) (sa := G.2.2.1 sv) B.2.2.2.2.1 hfit (by decide +kernel) (B.2.2.2.2.2.1 _ hk) (B.2.2.2.2.2.1 _ hini) hR9 hat hgood hEh.2.2.1 hEh.2.2.2 hS (hL.1.trans hl) d0 d3 d4 d6 d9 (fun x hx => (htab x hx).elim) hRf hRl hRc hRs B.2.2.2.2.2.2.1 ?_ hS.2.2 hc hs
  intro t hvm hz hq
  exact ⟨⟨M, hpx, ai_P_kept hP hq⟩, Nat.le_trans hS.1 hz, fun q h1 h2 => (hq q (Nat.lt_of_lt_of_le h1 hS.1)).trans (hS.2.1 q h1 h2)⟩
theorem z_out {ret : Option FieldType} (B : ai_B p l e R s m args below meth c G cc nL ws own ret) {E : String} (hout : ∀ x ∈ c.exceptionTable.toList, covers x pc = false) (h1 : cells ≤ mc) (h2 : slots ≤ ms) (hp : px E M) : ai_Z p l e R s m args below meth c G (vx_MQ below (ai_Q G post) (ai_X G px) args s mc ms (ai_A G)) M cells slots L pc st E := by
  intro H locs ls q ce hl hP hS hL hce hcv hcl
  exact vx_out hout B.2.2.2.2.2.2.1 hce hcv hcl (fun t ht _ => ⟨⟨M, hp, by rw [ht]; exact hP⟩, hS.F ht⟩) hS.2.2 h1 h2
theorem z_catch {Q : State → Prop} {ret : Option FieldType} (B : ai_B p l e R s m args below meth c G cc nL ws own ret) {E name : String} (pre : List ExceptionTableEntry) (x : ExceptionTableEntry) (suf : List ExceptionTableEntry) (hsplit : c.exceptionTable.toList = pre ++ x :: suf) (hpass : ∀ z ∈ pre, covers z pc = false ∨ (z.catchType ≠ 0 ∧ ∃ nm : String, Cond.classLink own z.catchType nm ∈ ws ∧ va_Nc E nm s)) (hx : covers x pc = true) (h0 : x.catchType ≠ 0) (hlink : Cond.classLink own x.catchType name ∈ ws) (hcast : Cond.castable E name ∈ ai_Xw)
    (kk : ∀ q : Nat, ai_Y p l e R s m args below meth c G Q M cells slots L x.handlerPc [.ref q]) : ai_Z p l e R s m args below meth c G Q M cells slots L pc st E := by
  intro H locs ls q ce hl hP hS hL hce hcv hcl
  exact vx_catch B.2.2.2.2.1 pre x suf hsplit (fun z hz => (hpass z hz).imp_right fun ⟨h, nm, h1, h2⟩ => ⟨h, nm, B.2.2.2.2.2.1 _ h1, h2⟩) hx h0 (B.2.2.2.2.2.1 _ hlink) (va_Nw.use rfl (B.2.2.2.2.2.2.2.2.1.1.2.2.2.2.2.2.2.2.2.2.1 _ hcast)) hce hcv hcl (kk q H locs ls hl hP hS hL)
end AIE
end
section
/-! ===== rules for the JDK's own: Math, getClass, class constants, arraycopy ===== -/
section AIJ
variable {p : Program} {l : Launch} {e : Env} {R : Room} {s : State} {m : MethodId} {args : Array Value} {below : List Frame} {meth : Method} {c : Code} {G : ai_G} {Q : State → Prop} {M : ai_M} {cells slots : Nat} {L : List (Option Value)} {pc : Nat} {st : List Value} {cc : ByteArray} {nL : Nat} {ws : List Cond} {own : String} {ret : Option FieldType}
theorem y_mmax (B : ai_B p l e R s m args below meth c G cc nL ws own ret) {index : Nat} {x y : Int32} (v : Int32) (hlink : Cond.methodLink own index Lib.Math.max.name ∈ ws) (hstat : Cond.static Lib.Math.max.name ∈ ws) (hini : Cond.initialized "java/lang/Math" ∈ ws) (hcode : Cond.code Lib.Math.max.name Lib.Math.max.code 2 (some .int) ∈ ws) (hf : 1 ≤ R.frames) (hlo : (st.map fun v => v.category).sum + 13 ≤ R.locals) (hc : cells ≤ R.cells) (hs : slots ≤ R.slots) (hv : (if x < y then y else x) = v) (hd : decode cc pc = .ok (.invokestatic index, 3)) (k : ai_Y p l e R s m args below meth c G Q M cells slots L (pc + 3) (.int v :: st)) : ai_Y p l e R s m args below meth c G Q M cells slots L pc (.int y :: .int x :: st) := by
  intro H locs ls hl hP hS hL
  subst hv
  exact va_mmax B.1 B.2.1 (hl.symm.trans hL.1.symm) B.2.2.2.2.1 (B.2.2.2.2.2.1 _ hlink) (B.2.2.2.2.2.1 _ hstat) (B.2.2.2.2.2.1 _ hini) (B.2.2.2.2.2.1 _ hcode) hf hlo hc hs hd (k H locs ls hl hP hS hL)
theorem y_mmin (B : ai_B p l e R s m args below meth c G cc nL ws own ret) {index : Nat} {x y : Int32} (v : Int32) (hlink : Cond.methodLink own index Lib.Math.min.name ∈ ws) (hstat : Cond.static Lib.Math.min.name ∈ ws) (hini : Cond.initialized "java/lang/Math" ∈ ws) (hcode : Cond.code Lib.Math.min.name Lib.Math.min.code 2 (some .int) ∈ ws) (hf : 1 ≤ R.frames) (hlo : (st.map fun v => v.category).sum + 13 ≤ R.locals) (hc : cells ≤ R.cells) (hs : slots ≤ R.slots) (hv : (if y < x then y else x) = v) (hd : decode cc pc = .ok (.invokestatic index, 3)) (k : ai_Y p l e R s m args below meth c G Q M cells slots L (pc + 3) (.int v :: st)) : ai_Y p l e R s m args below meth c G Q M cells slots L pc (.int y :: .int x :: st) := by
  intro H locs ls hl hP hS hL
  subst hv
  exact va_mmin B.1 B.2.1 (hl.symm.trans hL.1.symm) B.2.2.2.2.1 (B.2.2.2.2.2.1 _ hlink) (B.2.2.2.2.2.1 _ hstat) (B.2.2.2.2.2.1 _ hini) (B.2.2.2.2.2.1 _ hcode) hf hlo hc hs hd (k H locs ls hl hP hS hL)
theorem ai_recvO {H : Heap} {a g n : Nat} {f : Nat → Option Nat} (hK : va_K G.1 vwCl (ai_T G) s) (hP : ai_P G M H) (hM : M a = some (g, ai_eO G n f)) : ∃ cell : Cell, H[a]? = some cell ∧ cell.vm.isStatics = false ∧ s.vm.findClass "[Ljava/lang/Object;" = some cell.cls := by
  obtain ⟨ws1, h1, h2, h3⟩ := hP
  obtain ⟨j, hj⟩ := h3 a g _ hM
  obtain ⟨_, _, _, _, _, h6⟩ := (hK.2 3 _ rfl).2
  exact ⟨_, h1 j _ hj, rfl, h6⟩
theorem y_getC (B : ai_B p l e R s m args below meth c G cc nL ws own ret) {index a g n : Nat} {f : Nat → Option Nat} (hM : M a = some (g, ai_eO G n f)) (hlink : Cond.methodLink own index ⟨"java/lang/Object", "getClass", "()Ljava/lang/Class;"⟩ ∈ ws) (hsel : Cond.selects "[Ljava/lang/Object;" ⟨"java/lang/Object", "getClass", "()Ljava/lang/Class;"⟩ ⟨"java/lang/Object", "getClass", "()Ljava/lang/Class;"⟩ ∈ ws) (hinst : Cond.instanceMethod ⟨"java/lang/Object", "getClass", "()Ljava/lang/Class;"⟩ ∈ ws) (hnat : Cond.native ⟨"java/lang/Object", "getClass", "()Ljava/lang/Class;"⟩ ∈ ws) (hf : 1 ≤ R.frames) (hlo : (st.map fun v => v.category).sum + 14 ≤ R.locals) (hd : decode cc pc = .ok (.invokevirtual index, 3)) (k : ai_Y p l e R s m args below meth c G Q M cells slots L (pc + 3) (.ref (G.2.2.1 1) :: st)) : ai_Y p l e R s m args below meth c G Q M cells slots L pc (.ref a :: st) := by
  intro H locs ls hl hP hS hL
  exact va_getC B.1 B.2.1 (hl.symm.trans hL.1.symm) B.2.2.2.2.1 (B.2.2.2.2.2.1 _ hlink) B.2.2.2.2.2.2.2.2.1.1.2.2.2.1.use (B.2.2.2.2.2.1 _ hsel) (B.2.2.2.2.2.1 _ hinst) (B.2.2.2.2.2.1 _ hnat) B.2.2.2.2.2.2.2.2.1.1.2.2.1 (ai_recvO B.2.2.2.2.2.2.2.1 hP hM) hf hlo hd (k H locs ls hl hP hS hL)
theorem y_ldcM (B : ai_B p l e R s m args below meth c G cc nL ws own ret) {index : Nat} (hlink : Cond.classLink own index "[Ljava/lang/Object;" ∈ ws) (hd : decode cc pc = .ok (.ldc index, 2)) (k : ai_Y p l e R s m args below meth c G Q M cells slots L (pc + 2) (.ref (G.2.2.1 1) :: st)) : ai_Y p l e R s m args below meth c G Q M cells slots L pc st := by
  intro H locs ls hl hP hS hL
  exact va_ldcM B.1 B.2.1 B.2.2.2.2.1 (B.2.2.2.2.2.1 _ hlink) B.2.2.2.2.2.2.2.2.1.1.2.2.1 hd (k H locs ls hl hP hS hL)
theorem y_copyq (B : ai_B p l e R s m args below meth c G cc nL ws own ret) {index a0 a1 g0 g1 n0 n1 ci : Nat} {f h : Nat → Option Nat} {q : vw_C} (n : Nat) (hM0 : M a0 = some (g0, ai_eO G n0 f)) (hM1 : M a1 = some (g1, ai_eO G n1 h)) (hc : vwCl[ci]? = some q) (hca : Cond.castable q.1 "java/lang/Object" ∈ ai_Xw) (hel : ∀ i : Nat, i < n → ∀ y : Nat, f i = some y → ∃ (g : Nat) (fs : List Value), M y = some (g, .inr (ci, fs))) (hn : n < 2 ^ 31) (hn0 : n ≤ n0) (hn1 : n ≤ n1) (hlink : Cond.methodLink own index arraycopyName ∈ ws) (hnat : Cond.native arraycopyName ∈ ws) (hstat : Cond.static arraycopyName ∈ ws) (hini : Cond.initialized "java/lang/System" ∈ ws) (hf : 1 ≤ R.frames) (hlo : (st.map fun v => v.category).sum + (nativeFrameWords "java/lang/System" "arraycopy" 5 + 11) ≤ R.locals) (hd : decode cc pc = .ok (.invokestatic index, 3)) (k : ai_Y p l e R s m args below meth c G Q (ai_U M a1 g1 (ai_eO G n1 (va_cpy f h 0 0 n))) cells slots L (pc + 3) st) : ai_Y p l e R s m args below meth c G Q M cells slots L pc (.int (nI n) :: .int (nI 0) :: .ref a1 :: .int (nI 0) :: .ref a0 :: st) := by
  intro H locs ls hl hP hS hL
  obtain ⟨ws1, h1, h2, h3⟩ := id hP
  obtain ⟨j0, hj0⟩ := h3 a0 g0 _ hM0
  obtain ⟨j1, hj1⟩ := h3 a1 g1 _ hM1
  have e0 : (nI 0).toNatClampNeg = 0 := nI_clamp (by omega)
  have en : (nI n).toNatClampNeg = n := nI_clamp hn
  refine va_copyq (E0 := "java/lang/Object") (E1 := "java/lang/Object") (C := q.1) B.1 B.2.1 (hl.symm.trans hL.1.symm) B.2.2.2.2.1 (B.2.2.2.2.2.1 _ hlink) (B.2.2.2.2.2.1 _ hnat) (B.2.2.2.2.2.1 _ hstat) (B.2.2.2.2.2.1 _ hini) B.2.2.2.2.2.2.2.1 h1 h2 hS j0 j1 3 3 hj0 hj1 rfl rfl (nI_pos (by omega)) (nI_pos (by omega)) (nI_pos hn) (by rw [e0, en, Nat.zero_add]; exact hn0) (by rw [e0, en, Nat.zero_add]; exact hn1) ?_ ?_ hf hlo hd (fun H1 locs1 q1 q2 q3 => ?_)
  · intro i hi y hy
    rw [en] at hi
    rw [e0, Nat.zero_add] at hy
    obtain ⟨g, fs, hy2⟩ := hel i hi y hy
    exact ai_recv B.2.2.2.2.2.2.2.1 hP hy2 hc
  · intro comp c0 hcomp hc0
    obtain ⟨c3, c4, hc3, hc4, hasg⟩ := Cond.castable_spec (va_Nw.use (A := args) rfl (B.2.2.2.2.2.2.2.2.1.1.2.2.2.2.2.2.2.2.2.2.1 _ hca))
    cases Option.some.inj (hc3.symm.trans hc0)
    cases Option.some.inj (hc4.symm.trans hcomp)
    exact hasg
  · rw [e0, en] at q1 q2
    exact k H1 locs1 ls hl (ai_set h3 hj1 q1 q2) q3 hL
end AIJ
end
section
/-! ===== LISTS: a list at a (tag g) holds n elements f 0 .. f (n - 1); its row has the tag g + 1 ===== -/
def ai_l (G : ai_G) (M : ai_M) (a g n : Nat) (f : Nat → Nat) : Prop := ∃ (mc : Int32) (arr cap : Nat) (h : Nat → Option Nat), M a = some (g, .inr (0, [.int mc, .ref arr, .int (nI n)])) ∧ ((n = 0 ∧ arr = G.2.2.1 0 ∧ cap = 0) ∨ (M arr = some (g + 1, ai_eO G cap h) ∧ n ≤ cap ∧ 10 ≤ cap ∧ cap ≤ 40 ∧ ∀ i, i < n → h i = some (f i)))
theorem ai_l.keep {G : ai_G} {M M' : ai_M} {a g n : Nat} {f : Nat → Nat} (h : ai_l G M a g n f) (hk : ∀ (b g' : Nat) (e : va_E), M b = some (g', e) → g' = g ∨ g' = g + 1 → M' b = some (g', e)) : ai_l G M' a g n f := by
  obtain ⟨mc, arr, cap, hh, h1, h2⟩ := h
  refine ⟨mc, arr, cap, hh, hk _ _ _ h1 (Or.inl rfl), ?_⟩
  rcases h2 with h2 | ⟨h2, h3⟩
  · exact Or.inl h2
  · exact Or.inr ⟨hk _ _ _ h2 (Or.inr rfl), h3⟩
theorem ai_l.cong {G : ai_G} {M : ai_M} {a g n : Nat} {f f' : Nat → Nat} (h : ai_l G M a g n f) (hk : ∀ i, i < n → f i = f' i) : ai_l G M a g n f' := by
  obtain ⟨mc, arr, cap, hh, h1, h2⟩ := h
  refine ⟨mc, arr, cap, hh, h1, ?_⟩
  rcases h2 with h2 | ⟨h2, h3, h4, h5, h6⟩
  · exact Or.inl h2
  · exact Or.inr ⟨h2, h3, h4, h5, fun i hi => by rw [h6 i hi, hk i hi]⟩
theorem ai_l.bd {G : ai_G} {M : ai_M} {a g n : Nat} {f : Nat → Nat} (h : ai_l G M a g n f) : n ≤ 40 := by
  obtain ⟨mc, arr, cap, hh, h1, h2⟩ := h
  rcases h2 with ⟨h2, -⟩ | ⟨-, h3, -, h5, -⟩
  · omega
  · omega
/-- all that has another tag than a list's stays -/
def ai_kl (M M' : ai_M) (g : Nat) : Prop := ∀ (b g' : Nat) (e : va_E), M b = some (g', e) → g' ≠ g → g' ≠ g + 1 → M' b = some (g', e)
theorem ai_U_k {M : ai_M} {a b g g0 g' : Nat} {e e0 e' : va_E} (ha : M a = some (g0, e0)) (hb : M b = some (g', e')) (hg : g' ≠ g0) : ai_U M a g e b = some (g', e') := (ai_U_n (ai_ne hb ha hg)).trans hb
theorem ai_U_f {M : ai_M} {a b g g' : Nat} {e e' : va_E} (ha : M a = none) (hb : M b = some (g', e')) : ai_U M a g e b = some (g', e') := (ai_U_n (fun z => by rw [z, ha] at hb; cases hb)).trans hb
theorem ai_UU {M : ai_M} {a g g' : Nat} {e e' : va_E} : ai_U (ai_U M a g e) a g' e' = ai_U M a g' e' := by
  funext q
  unfold ai_U
  by_cases h : q = a
  · rw [if_pos h, if_pos h]
  · rw [if_neg h, if_neg h, if_neg h]
theorem i_Jx4a65c_size_8abf5_Jx4a65c : ∀ w ∈ wsJx4a65c0, w ∈ wsJx4a65c_size_8abf5 := fun _ h => List.mem_cons_of_mem _ (List.mem_append_right _ h)
theorem i_Jx4a65c_isEmpty_aae02_Jx4a65c : ∀ w ∈ wsJx4a65c0, w ∈ wsJx4a65c_isEmpty_aae02 := fun _ h => List.mem_cons_of_mem _ (List.mem_append_right _ h)
theorem i_Jx4a65c_elementData_915e3_Jx4a65c : ∀ w ∈ wsJx4a65c0, w ∈ wsJx4a65c_elementData_915e3 := fun _ h => List.mem_cons_of_mem _ (List.mem_append_right _ h)
theorem i_Jx4a65c_get_915e3_Jx4a65c : ∀ w ∈ wsJx4a65c0, w ∈ wsJx4a65c_get_915e3 := fun _ h => List.mem_cons_of_mem _ (List.mem_append_right _ h)
theorem i_Jxc12de_init_da8c8_Jx4a65c : ∀ w ∈ wsJx4a65c0, w ∈ wsJxc12de_init_da8c8 := fun _ h => List.mem_cons_of_mem _ (List.mem_append_right _ h)
theorem i_Jx4a65c_init_da8c8_Jx4a65c : ∀ w ∈ wsJx4a65c0, w ∈ wsJx4a65c_init_da8c8 := fun _ h => List.mem_cons_of_mem _ (List.mem_append_right _ h)
theorem i_Jx4a65c_grow_92f84_Jx4a65c : ∀ w ∈ wsJx4a65c0, w ∈ wsJx4a65c_grow_92f84 := fun _ h => List.mem_cons_of_mem _ (List.mem_append_right _ h)
theorem i_Jx4a65c_grow_d5877_Jx4a65c : ∀ w ∈ wsJx4a65c0, w ∈ wsJx4a65c_grow_d5877 := fun _ h => List.mem_cons_of_mem _ (List.mem_append_right _ h)
theorem i_Jx4a65c_add_72be8_Jx4a65c : ∀ w ∈ wsJx4a65c0, w ∈ wsJx4a65c_add_72be8 := fun _ h => List.mem_cons_of_mem _ (List.mem_append_right _ h)
theorem i_Jx4a65c_add_9ea2d_Jx4a65c : ∀ w ∈ wsJx4a65c0, w ∈ wsJx4a65c_add_9ea2d := fun _ h => List.mem_cons_of_mem _ (List.mem_append_right _ h)
set_option maxHeartbeats 4000000 in
set_option maxRecDepth 100000 in
theorem k_Jx4a65c_size_8abf5 (l : Launch) (G : ai_G) (M : ai_M) {a g n : Nat} {f : Nat → Nat} (hl : ai_l G M a g n f) : ai_C l yJx4a65c_size_8abf5 wsJx4a65c_size_8abf5 ({ frames := 0, cells := 0, slots := 0, locals := 0 } : Room) 0 0 G M [.ref a] (fun r M1 => r = some (.int (nI n)) ∧ M1 = M) := by
  refine y_start (by decide +kernel) rfl (Nat.le_of_ble_eq_true rfl) (Nat.le_of_ble_eq_true rfl) (fun x hx => by simp only [List.mem_cons, List.not_mem_nil, or_false] at hx; rcases hx with rfl <;> rfl) ?_
  intro p e s m below meth c B hnm
  obtain ⟨mc, arr, cap, hh, h1, h2⟩ := hl
  refine y_aload_n B dJx4a65c_size_8abf5_0 rfl ?_
  refine y_get B (ref := "java/util/ArrayList") (ci := 0) (C := RJx4a65c) (T := TJx4a65c) (N := 3) h1 rfl i_Jx4a65c_size_8abf5_Jx4a65c 2 (by decide) (by decide +kernel) (fun _ h9 => h9) rfl dJx4a65c_size_8abf5_1 ?_
  exact y_iret B dJx4a65c_size_8abf5_4 (Nat.le_of_ble_eq_true rfl) (Nat.le_of_ble_eq_true rfl) (⟨rfl, rfl⟩)
set_option maxHeartbeats 4000000 in
set_option maxRecDepth 100000 in
theorem k_Jx4a65c_isEmpty_aae02 (l : Launch) (G : ai_G) (M : ai_M) {a g n : Nat} {f : Nat → Nat} (hl : ai_l G M a g n f) : ai_C l yJx4a65c_isEmpty_aae02 wsJx4a65c_isEmpty_aae02 ({ frames := 0, cells := 0, slots := 0, locals := 0 } : Room) 0 0 G M [.ref a] (fun r M1 => r = some (.int (if n = 0 then 1 else 0)) ∧ M1 = M) := by
  refine y_start (by decide +kernel) rfl (Nat.le_of_ble_eq_true rfl) (Nat.le_of_ble_eq_true rfl) (fun x hx => by simp only [List.mem_cons, List.not_mem_nil, or_false] at hx; rcases hx with rfl <;> rfl) ?_
  intro p e s m below meth c B hnm
  have hb := hl.bd
  obtain ⟨mc, arr, cap, hh, h1, h2⟩ := hl
  refine y_aload_n B dJx4a65c_isEmpty_aae02_0 rfl ?_
  refine y_get B (ref := "java/util/ArrayList") (ci := 0) (C := RJx4a65c) (T := TJx4a65c) (N := 3) h1 rfl i_Jx4a65c_isEmpty_aae02_Jx4a65c 2 (by decide) (by decide +kernel) (fun _ h9 => h9) rfl dJx4a65c_isEmpty_aae02_1 ?_
  refine y_if_ne B 11 dJx4a65c_isEmpty_aae02_4 (by decide) (fun c4 => ?_) (fun c4 => ?_)
  · refine y_iconst B (nI 0) dJx4a65c_isEmpty_aae02_11 (by decide +kernel) ?_
    exact y_zret B dJx4a65c_isEmpty_aae02_12 (Nat.le_of_ble_eq_true rfl) (Nat.le_of_ble_eq_true rfl) rfl (⟨by rw [if_neg (fun z => c4 (by rw [z]; rfl))]; rfl, rfl⟩)
  · refine y_iconst B (nI 1) dJx4a65c_isEmpty_aae02_7 (by decide +kernel) ?_
    refine y_goto B 12 dJx4a65c_isEmpty_aae02_8 (by decide) ?_
    exact y_zret B dJx4a65c_isEmpty_aae02_12 (Nat.le_of_ble_eq_true rfl) (Nat.le_of_ble_eq_true rfl) rfl (⟨by rw [if_pos ((nI_eq (by omega) (by decide)).mp c4)]; rfl, rfl⟩)
set_option maxHeartbeats 4000000 in
set_option maxRecDepth 100000 in
theorem k_J3_checkIndex_8e157 (l : Launch) (G : ai_G) (M : ai_M) {i n : Nat} (hi : i < n) (hn : n < 2 ^ 31) : ai_C l yJ3_checkIndex_8e157 wsJ3_checkIndex_8e157 ({ frames := 0, cells := 0, slots := 0, locals := 0 } : Room) 0 0 G M [.int (nI i), .int (nI n), .null] (fun r M1 => r = some (.int (nI i)) ∧ M1 = M) := by
  refine y_start (by decide +kernel) rfl (Nat.le_of_ble_eq_true rfl) (Nat.le_of_ble_eq_true rfl) (fun x hx => by simp only [List.mem_cons, List.not_mem_nil, or_false] at hx; rcases hx with rfl | rfl | rfl <;> rfl) ?_
  intro p e s m below meth c B hnm
  refine y_iload_n B dJ3_checkIndex_8e157_0 rfl ?_
  refine y_if_lt B 9 dJ3_checkIndex_8e157_1 (by decide) (fun c1 => absurd c1 (nI_pos (by omega))) (fun c1 => ?_)
  refine y_iload_n B dJ3_checkIndex_8e157_4 rfl ?_
  refine y_iload_n B dJ3_checkIndex_8e157_5 rfl ?_
  refine y_icmp_lt B 16 dJ3_checkIndex_8e157_6 (by decide) (fun c6 => ?_) (fun c6 => absurd (nI_lt hi hn) c6)
  refine y_iload_n B dJ3_checkIndex_8e157_16 rfl ?_
  exact y_iret B dJ3_checkIndex_8e157_17 (Nat.le_of_ble_eq_true rfl) (Nat.le_of_ble_eq_true rfl) (⟨rfl, rfl⟩)
set_option maxHeartbeats 4000000 in
set_option maxRecDepth 100000 in
theorem k_J15_checkIndex_7cf53 (l : Launch) (G : ai_G) (M : ai_M) {i n : Nat} (hi : i < n) (hn : n < 2 ^ 31) : ai_C l yJ15_checkIndex_7cf53 wsJ15_checkIndex_7cf53 ({ frames := 1, cells := 0, slots := 0, locals := 22 } : Room) 0 0 G M [.int (nI i), .int (nI n)] (fun r M1 => r = some (.int (nI i)) ∧ M1 = M) := by
  refine y_start (by decide +kernel) rfl (Nat.le_of_ble_eq_true rfl) (Nat.le_of_ble_eq_true rfl) (fun x hx => by simp only [List.mem_cons, List.not_mem_nil, or_false] at hx; rcases hx with rfl | rfl <;> rfl) ?_
  intro p e s m below meth c B hnm
  refine y_iload_n B dJ15_checkIndex_7cf53_0 rfl ?_
  refine y_iload_n B dJ15_checkIndex_7cf53_1 rfl ?_
  refine y_null B dJ15_checkIndex_7cf53_2 ?_
  refine y_callS B 3 _ _ (k_J3_checkIndex_8e157 l G M hi hn) gJ15_checkIndex_7cf53_J3_checkIndex_8e157 (by decide +kernel) rfl rfl rfl rfl ⟨(Nat.le_of_ble_eq_true rfl), (Nat.le_of_ble_eq_true rfl)⟩ (Nat.le_of_ble_eq_true rfl) ⟨(Nat.le_of_ble_eq_true rfl), (Nat.le_of_ble_eq_true rfl)⟩ dJ15_checkIndex_7cf53_3 rfl (fun r M1 hr => ?_)
  obtain ⟨rfl, rfl⟩ := hr
  exact y_iret B dJ15_checkIndex_7cf53_6 (Nat.le_of_ble_eq_true rfl) (Nat.le_of_ble_eq_true rfl) (⟨rfl, rfl⟩)
set_option maxHeartbeats 4000000 in
set_option maxRecDepth 100000 in
theorem k_Jx4a65c_elementData_915e3 (l : Launch) (G : ai_G) (M : ai_M) {a g n i : Nat} {f : Nat → Nat} (hl : ai_l G M a g n f) (hi : i < n) : ai_C l yJx4a65c_elementData_915e3 wsJx4a65c_elementData_915e3 ({ frames := 0, cells := 0, slots := 0, locals := 0 } : Room) 0 0 G M [.ref a, .int (nI i)] (fun r M1 => r = some (.ref (f i)) ∧ M1 = M) := by
  refine y_start (by decide +kernel) rfl (Nat.le_of_ble_eq_true rfl) (Nat.le_of_ble_eq_true rfl) (fun x hx => by simp only [List.mem_cons, List.not_mem_nil, or_false] at hx; rcases hx with rfl | rfl <;> rfl) ?_
  intro p e s m below meth c B hnm
  obtain ⟨mc, arr, cap, hh, h1, ⟨h2, -⟩ | ⟨h2, h3, h4, h5, h6⟩⟩ := hl
  · omega
  refine y_aload_n B dJx4a65c_elementData_915e3_0 rfl ?_
  refine y_get B (ref := "java/util/ArrayList") (ci := 0) (C := RJx4a65c) (T := TJx4a65c) (N := 3) h1 rfl i_Jx4a65c_elementData_915e3_Jx4a65c 1 (by decide) (by decide +kernel) (fun _ h9 => h9) rfl dJx4a65c_elementData_915e3_1 ?_
  refine y_iload_n B dJx4a65c_elementData_915e3_4 rfl ?_
  refine y_aaloadO B (some (f i)) h2 (vp_in_nI (by omega) (by omega)) (by rw [nI_clamp (by omega)]; exact h6 i hi) dJx4a65c_elementData_915e3_5 ?_
  exact y_aret B (Or.inl ⟨_, rfl⟩) (Or.inr ⟨_, rfl⟩) dJx4a65c_elementData_915e3_6 (Nat.le_of_ble_eq_true rfl) (Nat.le_of_ble_eq_true rfl) (⟨rfl, rfl⟩)
set_option maxHeartbeats 4000000 in
set_option maxRecDepth 100000 in
theorem k_Jx4a65c_get_915e3 (l : Launch) (G : ai_G) (M : ai_M) {a g n i : Nat} {f : Nat → Nat} (hl : ai_l G M a g n f) (hi : i < n) : ai_C l yJx4a65c_get_915e3 wsJx4a65c_get_915e3 ({ frames := 2, cells := 0, slots := 0, locals := 43 } : Room) 0 0 G M [.ref a, .int (nI i)] (fun r M1 => r = some (.ref (f i)) ∧ M1 = M) := by
  refine y_start (by decide +kernel) rfl (Nat.le_of_ble_eq_true rfl) (Nat.le_of_ble_eq_true rfl) (fun x hx => by simp only [List.mem_cons, List.not_mem_nil, or_false] at hx; rcases hx with rfl | rfl <;> rfl) ?_
  intro p e s m below meth c B hnm
  have hb := hl.bd
  obtain ⟨mc, arr, cap, hh, h1, h2⟩ := id hl
  refine y_iload_n B dJx4a65c_get_915e3_0 rfl ?_
  refine y_aload_n B dJx4a65c_get_915e3_1 rfl ?_
  refine y_get B (ref := "java/util/ArrayList") (ci := 0) (C := RJx4a65c) (T := TJx4a65c) (N := 3) h1 rfl i_Jx4a65c_get_915e3_Jx4a65c 2 (by decide) (by decide +kernel) (fun _ h9 => h9) rfl dJx4a65c_get_915e3_2 ?_
  refine y_callS B 2 _ _ (k_J15_checkIndex_7cf53 l G M hi (by omega)) gJx4a65c_get_915e3_J15_checkIndex_7cf53 (by decide +kernel) rfl rfl rfl rfl ⟨(Nat.le_of_ble_eq_true rfl), (Nat.le_of_ble_eq_true rfl)⟩ (Nat.le_of_ble_eq_true rfl) ⟨(Nat.le_of_ble_eq_true rfl), (Nat.le_of_ble_eq_true rfl)⟩ dJx4a65c_get_915e3_5 rfl (fun r M1 hr => ?_)
  obtain ⟨rfl, rfl⟩ := hr
  refine y_pop B dJx4a65c_get_915e3_8 rfl ?_
  refine y_aload_n B dJx4a65c_get_915e3_9 rfl ?_
  refine y_iload_n B dJx4a65c_get_915e3_10 rfl ?_
  refine y_callV B 1 (q := (RJx4a65c, TJx4a65c, 3)) _ _ (k_Jx4a65c_elementData_915e3 l G M1 hl hi) h1 rfl gJx4a65c_get_915e3_Jx4a65c_elementData_915e3 (by decide +kernel) rfl rfl rfl rfl ⟨(Nat.le_of_ble_eq_true rfl), (Nat.le_of_ble_eq_true rfl)⟩ (Nat.le_of_ble_eq_true rfl) ⟨(Nat.le_of_ble_eq_true rfl), (Nat.le_of_ble_eq_true rfl)⟩ dJx4a65c_get_915e3_11 rfl (fun r M1 hr => ?_)
  obtain ⟨rfl, rfl⟩ := hr
  exact y_aret B (Or.inl ⟨_, rfl⟩) (Or.inr ⟨_, rfl⟩) dJx4a65c_get_915e3_14 (Nat.le_of_ble_eq_true rfl) (Nat.le_of_ble_eq_true rfl) (⟨rfl, rfl⟩)
set_option maxHeartbeats 4000000 in
set_option maxRecDepth 100000 in
theorem k_Jxa1e45_init_da8c8 (l : Launch) (G : ai_G) (M : ai_M) {a : Nat} : ai_C l yJxa1e45_init_da8c8 wsJxa1e45_init_da8c8 ({ frames := 1, cells := 0, slots := 0, locals := 12 } : Room) 0 0 G M [.ref a] (fun r M1 => r = none ∧ M1 = M) := by
  refine y_start (by decide +kernel) rfl (Nat.le_of_ble_eq_true rfl) (Nat.le_of_ble_eq_true rfl) (fun x hx => by simp only [List.mem_cons, List.not_mem_nil, or_false] at hx; rcases hx with rfl <;> rfl) ?_
  intro p e s m below meth c B hnm
  have hinit : meth.name = "<init>" := hnm
  refine y_aload_n B dJxa1e45_init_da8c8_0 rfl ?_
  refine y_oinit B (by decide +kernel) (by decide +kernel) (by decide +kernel) (Nat.le_of_ble_eq_true rfl) (Nat.le_of_ble_eq_true rfl) dJxa1e45_init_da8c8_1 ?_
  exact y_vret B dJxa1e45_init_da8c8_4 (Nat.le_of_ble_eq_true rfl) (Nat.le_of_ble_eq_true rfl) (⟨rfl, rfl⟩)
set_option maxHeartbeats 4000000 in
set_option maxRecDepth 100000 in
theorem k_Jxc12de_init_da8c8 (l : Launch) (G : ai_G) (M : ai_M) {a g : Nat} {m0 m2 : Int32} {v1 : Value} (h1 : M a = some (g, .inr (0, [.int m0, v1, .int m2]))) : ai_C l yJxc12de_init_da8c8 wsJxc12de_init_da8c8 ({ frames := 2, cells := 0, slots := 0, locals := 32 } : Room) 0 0 G M [.ref a] (fun r M1 => r = none ∧ M1 = ai_U M a g (.inr (0, [.int (nI 0), v1, .int m2]))) := by
  refine y_start (by decide +kernel) rfl (Nat.le_of_ble_eq_true rfl) (Nat.le_of_ble_eq_true rfl) (fun x hx => by simp only [List.mem_cons, List.not_mem_nil, or_false] at hx; rcases hx with rfl <;> rfl) ?_
  intro p e s m below meth c B hnm
  have hinit : meth.name = "<init>" := hnm
  refine y_aload_n B dJxc12de_init_da8c8_0 rfl ?_
  refine y_callI B 0 _ _ (k_Jxa1e45_init_da8c8 l G M) gJxc12de_init_da8c8_Jxa1e45_init_da8c8 (by decide +kernel) (by decide +kernel) (by decide +kernel) rfl (by decide +kernel) rfl rfl rfl rfl ⟨(Nat.le_of_ble_eq_true rfl), (Nat.le_of_ble_eq_true rfl)⟩ (Nat.le_of_ble_eq_true rfl) ⟨(Nat.le_of_ble_eq_true rfl), (Nat.le_of_ble_eq_true rfl)⟩ dJxc12de_init_da8c8_1 rfl (fun r M1 hr => ?_)
  obtain ⟨rfl, rfl⟩ := hr
  refine y_aload_n B dJxc12de_init_da8c8_4 rfl ?_
  refine y_iconst B (nI 0) dJxc12de_init_da8c8_5 (by decide +kernel) ?_
  refine y_put B (ref := "java/util/AbstractList") (ci := 0) (C := RJx4a65c) (T := TJx4a65c) (N := 3) (ty := .int) h1 rfl i_Jxc12de_init_da8c8_Jx4a65c tyJx4a65c tyJx4a65c_ok nmJx4a65c 0 (by decide) (by decide +kernel) (fun _ h9 => h9) rfl (by decide +kernel) rfl rfl (Nat.le_of_ble_eq_true rfl) dJxc12de_init_da8c8_6 ?_
  exact y_vret B dJxc12de_init_da8c8_9 (Nat.le_of_ble_eq_true rfl) (Nat.le_of_ble_eq_true rfl) (⟨rfl, rfl⟩)
set_option maxHeartbeats 4000000 in
set_option maxRecDepth 100000 in
theorem k_Jx4a65c_init_da8c8 (l : Launch) (G : ai_G) (M : ai_M) {a g : Nat} (h1 : M a = some (g, .inr (0, [.int 0, .null, .int 0]))) : ai_C l yJx4a65c_init_da8c8 wsJx4a65c_init_da8c8 ({ frames := 3, cells := 0, slots := 0, locals := 52 } : Room) 0 0 G M [.ref a] (fun r M1 => r = none ∧ M1 = ai_U M a g (.inr (0, [.int (nI 0), .ref (G.2.2.1 0), .int (nI 0)]))) := by
  refine y_start (by decide +kernel) rfl (Nat.le_of_ble_eq_true rfl) (Nat.le_of_ble_eq_true rfl) (fun x hx => by simp only [List.mem_cons, List.not_mem_nil, or_false] at hx; rcases hx with rfl <;> rfl) ?_
  intro p e s m below meth c B hnm
  have hinit : meth.name = "<init>" := hnm
  refine y_aload_n B dJx4a65c_init_da8c8_0 rfl ?_
  refine y_callI B 0 _ _ (k_Jxc12de_init_da8c8 l G M h1) gJx4a65c_init_da8c8_Jxc12de_init_da8c8 (by decide +kernel) (by decide +kernel) (by decide +kernel) rfl (by decide +kernel) rfl rfl rfl rfl ⟨(Nat.le_of_ble_eq_true rfl), (Nat.le_of_ble_eq_true rfl)⟩ (Nat.le_of_ble_eq_true rfl) ⟨(Nat.le_of_ble_eq_true rfl), (Nat.le_of_ble_eq_true rfl)⟩ dJx4a65c_init_da8c8_1 rfl (fun r M1 hr => ?_)
  obtain ⟨rfl, rfl⟩ := hr
  refine y_aload_n B dJx4a65c_init_da8c8_4 rfl ?_
  refine y_gets B (ref := "java/util/ArrayList") B.2.2.2.2.2.2.2.2.1.2.1 (by decide +kernel) (fun _ h9 => h9) dJx4a65c_init_da8c8_5 ?_
  refine y_put B (ref := "java/util/ArrayList") (ci := 0) (C := RJx4a65c) (T := TJx4a65c) (N := 3) (ty := (.array (.object "java/lang/Object"))) ai_U_s rfl i_Jx4a65c_init_da8c8_Jx4a65c tyJx4a65c tyJx4a65c_ok nmJx4a65c 1 (by decide) (by decide +kernel) (fun _ h9 => h9) rfl (by decide +kernel) rfl rfl (Nat.le_of_ble_eq_true rfl) dJx4a65c_init_da8c8_8 ?_
  exact y_vret B dJx4a65c_init_da8c8_11 (Nat.le_of_ble_eq_true rfl) (Nat.le_of_ble_eq_true rfl) (⟨rfl, ai_UU⟩)
theorem ai_l_new {G : ai_G} {M : ai_M} {a g : Nat} {f : Nat → Nat} : ai_l G (ai_U M a g (.inr (0, [.int (nI 0), .ref (G.2.2.1 0), .int (nI 0)]))) a g 0 f := ⟨_, _, 0, fun _ => none, ai_U_s, Or.inl ⟨rfl, rfl, rfl⟩⟩
set_option maxHeartbeats 4000000 in
set_option maxRecDepth 100000 in
theorem k_J8_newLength_cabcc (l : Launch) (G : ai_G) (M : ai_M) {n : Nat} (h1 : 10 ≤ n) (h2 : n ≤ 40) : ai_C l yJ8_newLength_cabcc wsJ8_newLength_cabcc ({ frames := 1, cells := 0, slots := 0, locals := 15 } : Room) 0 0 G M [.int (nI n), .int (nI 1), .int (nI (n / 2))] (fun r M1 => r = some (.int (nI (n + n / 2))) ∧ M1 = M) := by
  refine y_start (by decide +kernel) rfl (Nat.le_of_ble_eq_true rfl) (Nat.le_of_ble_eq_true rfl) (fun x hx => by simp only [List.mem_cons, List.not_mem_nil, or_false] at hx; rcases hx with rfl | rfl | rfl <;> rfl) ?_
  intro p e s m below meth c B hnm
  refine y_iload_n B dJ8_newLength_cabcc_0 rfl ?_
  refine y_iload_n B dJ8_newLength_cabcc_1 rfl ?_
  refine y_iload_n B dJ8_newLength_cabcc_2 rfl ?_
  refine y_mmax B (nI (n / 2)) (by decide +kernel) (by decide +kernel) (by decide +kernel) (by decide +kernel) (Nat.le_of_ble_eq_true rfl) (Nat.le_of_ble_eq_true rfl) (Nat.le_of_ble_eq_true rfl) (Nat.le_of_ble_eq_true rfl) (if_pos (nI_lt (by omega) (by omega))) dJ8_newLength_cabcc_3 ?_
  refine y_iadd B (nI (n + n / 2)) dJ8_newLength_cabcc_6 (nI_add _ _) ?_
  refine y_istore_n B dJ8_newLength_cabcc_7 (Nat.le_of_ble_eq_true rfl) ?_
  refine y_iconst B (nI 0) dJ8_newLength_cabcc_8 (by decide +kernel) ?_
  refine y_iload_n B dJ8_newLength_cabcc_9 rfl ?_
  refine y_icmp_ge B 21 dJ8_newLength_cabcc_10 (by decide) (fun c10 => absurd c10 (nI_nle (by omega) (by omega))) (fun c10 => ?_)
  refine y_iload_n B dJ8_newLength_cabcc_13 rfl ?_
  refine y_ldc B (nI 2147483639) (B.2.2.2.2.2.1 _ (by decide +kernel)) dJ8_newLength_cabcc_14 ?_
  refine y_icmp_gt B 21 dJ8_newLength_cabcc_16 (by decide) (fun c16 => absurd c16 (nI_nlt (by omega) (by decide))) (fun c16 => ?_)
  refine y_iload_n B dJ8_newLength_cabcc_19 rfl ?_
  exact y_iret B dJ8_newLength_cabcc_20 (Nat.le_of_ble_eq_true rfl) (Nat.le_of_ble_eq_true rfl) (⟨rfl, rfl⟩)
set_option maxHeartbeats 4000000 in
set_option maxRecDepth 100000 in
theorem k_J7_copyOf_6403c (l : Launch) (G : ai_G) (M : ai_M) {arr ga cap z : Nat} (gt : Nat) {h : Nat → Option Nat} {ci : Nat} {qc : vw_C} (hci : vwCl[ci]? = some qc) (hca : Cond.castable qc.1 "java/lang/Object" ∈ ai_Xw) (h2 : M arr = some (ga, ai_eO G cap h)) (hm : cap ≤ z) (hm2 : z ≤ 40) (hel : ∀ i, i < cap → ∀ y, h i = some y → ∃ (g : Nat) (fs : List Value), M y = some (g, .inr (ci, fs))) : ai_C l yJ7_copyOf_6403c wsJ7_copyOf_6403c ({ frames := 1, cells := 1, slots := 40, locals := 40 } : Room) 1 40 G M [.ref arr, .int (nI z), .ref (G.2.2.1 1)] (fun r M1 => ∃ (q : Nat) (h9 : Nat → Option Nat), r = some (.ref q) ∧ M q = none ∧ M1 = ai_U M q gt (ai_eO G z h9) ∧ ∀ i, i < cap → h9 i = h i) := by
  refine y_start (by decide +kernel) rfl (Nat.le_of_ble_eq_true rfl) (Nat.le_of_ble_eq_true rfl) (fun x hx => by simp only [List.mem_cons, List.not_mem_nil, or_false] at hx; rcases hx with rfl | rfl | rfl <;> rfl) ?_
  intro p e s m below meth c B hnm
  refine y_aload_n B dJ7_copyOf_6403c_0 rfl ?_
  refine y_ldcM B (by decide +kernel) dJ7_copyOf_6403c_1 ?_
  refine y_acmp_ne B (rx := some _) (ry := some _) 13 dJ7_copyOf_6403c_3 (by decide) (fun z => absurd rfl z) (fun _ => ?_)
  refine y_iload_n B dJ7_copyOf_6403c_6 rfl ?_
  refine y_newq B gt 3 (by decide +kernel) B.2.2.2.2.2.2.2.2.1.1.1 rfl (nI_pos (by omega)) (nI_clamp (by omega)) (by omega) (Nat.le_of_ble_eq_true rfl) (by show 0 + z ≤ 40; omega) dJ7_copyOf_6403c_7 (fun q hq => ?_)
  refine y_wide (k := 1) (n := 40) (Nat.le_of_ble_eq_true rfl) (by omega) ?_
  refine y_goto B 24 dJ7_copyOf_6403c_10 (by decide) ?_
  refine y_astore_n B dJ7_copyOf_6403c_24 (Nat.le_of_ble_eq_true rfl) ?_
  refine y_aload_n B dJ7_copyOf_6403c_25 rfl ?_
  refine y_iconst B (nI 0) dJ7_copyOf_6403c_26 (by decide +kernel) ?_
  refine y_aload_n B dJ7_copyOf_6403c_27 rfl ?_
  refine y_iconst B (nI 0) dJ7_copyOf_6403c_28 (by decide +kernel) ?_
  refine y_aload_n B dJ7_copyOf_6403c_29 rfl ?_
  refine y_alen B (nI cap) 3 (ai_U_f hq h2) rfl rfl dJ7_copyOf_6403c_30 ?_
  refine y_iload_n B dJ7_copyOf_6403c_31 rfl ?_
  refine y_mmin B (nI cap) (by decide +kernel) (by decide +kernel) (by decide +kernel) (by decide +kernel) (Nat.le_of_ble_eq_true rfl) (Nat.le_of_ble_eq_true rfl) (Nat.le_of_ble_eq_true rfl) (Nat.le_of_ble_eq_true rfl) (if_neg (nI_nlt (by omega) (by omega))) dJ7_copyOf_6403c_32 ?_
  refine y_copyq B (q := qc) cap (ai_U_f hq h2) ai_U_s hci hca (fun i hi y hy => by obtain ⟨g, fs, z⟩ := hel i hi y hy; exact ⟨g, fs, ai_U_f hq z⟩) (by omega) (Nat.le_refl _) hm (by decide +kernel) (by decide +kernel) (by decide +kernel) (by decide +kernel) (Nat.le_of_ble_eq_true rfl) (Nat.le_of_ble_eq_true rfl) dJ7_copyOf_6403c_35 ?_
  refine y_aload_n B dJ7_copyOf_6403c_38 rfl ?_
  exact y_aret B (Or.inr ⟨_, rfl⟩) (Or.inr ⟨_, rfl⟩) dJ7_copyOf_6403c_39 (Nat.le_of_ble_eq_true rfl) (Nat.le_of_ble_eq_true rfl) (⟨q, _, rfl, hq, ai_UU, fun i hi => by simp only [va_cpy]; rw [if_pos (by omega)]; congr 1; omega⟩)
set_option maxHeartbeats 4000000 in
set_option maxRecDepth 100000 in
theorem k_J7_copyOf_1904c (l : Launch) (G : ai_G) (M : ai_M) {arr ga cap z : Nat} (gt : Nat) {h : Nat → Option Nat} {ci : Nat} {qc : vw_C} (hci : vwCl[ci]? = some qc) (hca : Cond.castable qc.1 "java/lang/Object" ∈ ai_Xw) (h2 : M arr = some (ga, ai_eO G cap h)) (hm : cap ≤ z) (hm2 : z ≤ 40) (hel : ∀ i, i < cap → ∀ y, h i = some y → ∃ (g : Nat) (fs : List Value), M y = some (g, .inr (ci, fs))) : ai_C l yJ7_copyOf_1904c wsJ7_copyOf_1904c ({ frames := 2, cells := 1, slots := 40, locals := 63 } : Room) 1 40 G M [.ref arr, .int (nI z)] (fun r M1 => ∃ (q : Nat) (h9 : Nat → Option Nat), r = some (.ref q) ∧ M q = none ∧ M1 = ai_U M q gt (ai_eO G z h9) ∧ ∀ i, i < cap → h9 i = h i) := by
  refine y_start (by decide +kernel) rfl (Nat.le_of_ble_eq_true rfl) (Nat.le_of_ble_eq_true rfl) (fun x hx => by simp only [List.mem_cons, List.not_mem_nil, or_false] at hx; rcases hx with rfl | rfl <;> rfl) ?_
  intro p e s m below meth c B hnm
  refine y_aload_n B dJ7_copyOf_1904c_0 rfl ?_
  refine y_iload_n B dJ7_copyOf_1904c_1 rfl ?_
  refine y_aload_n B dJ7_copyOf_1904c_2 rfl ?_
  refine y_getC B h2 (by decide +kernel) (by decide +kernel) (by decide +kernel) (by decide +kernel) (Nat.le_of_ble_eq_true rfl) (Nat.le_of_ble_eq_true rfl) dJ7_copyOf_1904c_3 ?_
  refine y_callS B 3 _ _ (k_J7_copyOf_6403c l G M gt hci hca h2 hm hm2 hel) gJ7_copyOf_1904c_J7_copyOf_6403c (by decide +kernel) rfl rfl rfl rfl ⟨(Nat.le_of_ble_eq_true rfl), (Nat.le_of_ble_eq_true rfl)⟩ (Nat.le_of_ble_eq_true rfl) ⟨(Nat.le_of_ble_eq_true rfl), (Nat.le_of_ble_eq_true rfl)⟩ dJ7_copyOf_1904c_6 rfl (fun r M1 hr => ?_)
  obtain ⟨q, h9, rfl, hq, rfl, hh9⟩ := hr
  exact y_aret B (Or.inr ⟨_, rfl⟩) (Or.inr ⟨_, rfl⟩) dJ7_copyOf_1904c_9 (Nat.le_of_ble_eq_true rfl) (Nat.le_of_ble_eq_true rfl) (⟨q, h9, rfl, hq, rfl, hh9⟩)
set_option maxHeartbeats 4000000 in
set_option maxRecDepth 100000 in
theorem k_Jx4a65c_grow_92f84 (l : Launch) (G : ai_G) (M : ai_M) {a g n arr : Nat} {mc : Int32} {h : Nat → Option Nat} {ci : Nat} {qc : vw_C} (hci : vwCl[ci]? = some qc) (hca : Cond.castable qc.1 "java/lang/Object" ∈ ai_Xw) (hA : M a = some (g, .inr (0, [.int mc, .ref arr, .int (nI n)]))) (hn : n ≤ 20) (hF : (n = 0 ∧ arr = G.2.2.1 0) ∨ (M arr = some (g + 1, ai_eO G n h) ∧ 10 ≤ n)) (hel : ∀ i, i < n → ∀ y, h i = some y → ∃ (g : Nat) (fs : List Value), M y = some (g, .inr (ci, fs))) : ai_C l yJx4a65c_grow_92f84 wsJx4a65c_grow_92f84 ({ frames := 3, cells := 1, slots := 40, locals := 84 } : Room) 1 40 G M [.ref a, .int (nI (n + 1))] (fun r M1 => ∃ (q cap : Nat) (h9 : Nat → Option Nat), r = some (.ref q) ∧ M q = none ∧ M1 = ai_U (ai_U M q (g + 1) (ai_eO G cap h9)) a g (.inr (0, [.int mc, .ref q, .int (nI n)])) ∧ n + 1 ≤ cap ∧ 10 ≤ cap ∧ cap ≤ 40 ∧ ∀ i, i < n → h9 i = h i) := by
  refine y_start (by decide +kernel) rfl (Nat.le_of_ble_eq_true rfl) (Nat.le_of_ble_eq_true rfl) (fun x hx => by simp only [List.mem_cons, List.not_mem_nil, or_false] at hx; rcases hx with rfl | rfl <;> rfl) ?_
  intro p e s m below meth c B hnm
  rcases hF with ⟨rfl, rfl⟩ | ⟨hQ, hn2⟩
  · refine y_aload_n B dJx4a65c_grow_92f84_0 rfl ?_
    refine y_get B (ref := "java/util/ArrayList") (ci := 0) (C := RJx4a65c) (T := TJx4a65c) (N := 3) hA rfl i_Jx4a65c_grow_92f84_Jx4a65c 1 (by decide) (by decide +kernel) (fun _ h9 => h9) rfl dJx4a65c_grow_92f84_1 ?_
    refine y_tlen B (nI 0) B.2.2.2.2.2.2.2.2.1.2.2.1 rfl dJx4a65c_grow_92f84_4 ?_
    refine y_istore_n B dJx4a65c_grow_92f84_5 (Nat.le_of_ble_eq_true rfl) ?_
    refine y_iload_n B dJx4a65c_grow_92f84_6 rfl ?_
    refine y_if_gt B 20 dJx4a65c_grow_92f84_7 (by decide) (fun c7 => absurd c7 (by decide)) (fun c7 => ?_)
    refine y_aload_n B dJx4a65c_grow_92f84_10 rfl ?_
    refine y_get B (ref := "java/util/ArrayList") (ci := 0) (C := RJx4a65c) (T := TJx4a65c) (N := 3) hA rfl i_Jx4a65c_grow_92f84_Jx4a65c 1 (by decide) (by decide +kernel) (fun _ h9 => h9) rfl dJx4a65c_grow_92f84_11 ?_
    refine y_gets B (ref := "java/util/ArrayList") B.2.2.2.2.2.2.2.2.1.2.1 (by decide +kernel) (fun _ h9 => h9) dJx4a65c_grow_92f84_14 ?_
    refine y_acmp_eq B (rx := some _) (ry := some _) 45 dJx4a65c_grow_92f84_17 (by decide) (fun _ => ?_) (fun z => absurd rfl z)
    refine y_aload_n B dJx4a65c_grow_92f84_45 rfl ?_
    refine y_bipush B (nI 10) dJx4a65c_grow_92f84_46 (by decide +kernel) ?_
    refine y_iload_n B dJx4a65c_grow_92f84_48 rfl ?_
    refine y_mmax B (nI 10) (by decide +kernel) (by decide +kernel) (by decide +kernel) (by decide +kernel) (Nat.le_of_ble_eq_true rfl) (Nat.le_of_ble_eq_true rfl) (Nat.le_of_ble_eq_true rfl) (Nat.le_of_ble_eq_true rfl) (if_neg (by decide)) dJx4a65c_grow_92f84_49 ?_
    refine y_newq B (g + 1) 3 (by decide +kernel) B.2.2.2.2.2.2.2.2.1.1.1 rfl (by decide) (nI_clamp (by decide)) (by decide) (Nat.le_of_ble_eq_true rfl) (Nat.le_of_ble_eq_true rfl) dJx4a65c_grow_92f84_52 (fun q hq => ?_)
    refine y_dup_x1 B dJx4a65c_grow_92f84_55 rfl rfl ?_
    refine y_put B (ref := "java/util/ArrayList") (ci := 0) (C := RJx4a65c) (T := TJx4a65c) (N := 3) (ty := (.array (.object "java/lang/Object"))) (ai_U_f hq hA) rfl i_Jx4a65c_grow_92f84_Jx4a65c tyJx4a65c tyJx4a65c_ok nmJx4a65c 1 (by decide) (by decide +kernel) (fun _ h9 => h9) rfl (by decide +kernel) rfl rfl (Nat.le_of_ble_eq_true rfl) dJx4a65c_grow_92f84_56 ?_
    exact y_aret B (Or.inr ⟨_, rfl⟩) (Or.inr ⟨_, rfl⟩) dJx4a65c_grow_92f84_59 (Nat.le_of_ble_eq_true rfl) (Nat.le_of_ble_eq_true rfl) (⟨q, 10, _, rfl, hq, rfl, by decide, by decide, by decide, fun i hi => absurd hi (by omega)⟩)
  · refine y_aload_n B dJx4a65c_grow_92f84_0 rfl ?_
    refine y_get B (ref := "java/util/ArrayList") (ci := 0) (C := RJx4a65c) (T := TJx4a65c) (N := 3) hA rfl i_Jx4a65c_grow_92f84_Jx4a65c 1 (by decide) (by decide +kernel) (fun _ h9 => h9) rfl dJx4a65c_grow_92f84_1 ?_
    refine y_alen B (nI n) 3 hQ rfl rfl dJx4a65c_grow_92f84_4 ?_
    refine y_istore_n B dJx4a65c_grow_92f84_5 (Nat.le_of_ble_eq_true rfl) ?_
    refine y_iload_n B dJx4a65c_grow_92f84_6 rfl ?_
    refine y_if_gt B 20 dJx4a65c_grow_92f84_7 (by decide) (fun c7 => ?_) (fun c7 => absurd (nI_lt (a := 0) (by omega) (by omega)) c7)
    refine y_iload_n B dJx4a65c_grow_92f84_20 rfl ?_
    refine y_iload_n B dJx4a65c_grow_92f84_21 rfl ?_
    refine y_iload_n B dJx4a65c_grow_92f84_22 rfl ?_
    refine y_isub B (nI 1) dJx4a65c_grow_92f84_23 (by rw [pk_sub (by omega)]; congr 1; omega) ?_
    refine y_iload_n B dJx4a65c_grow_92f84_24 rfl ?_
    refine y_iconst B (nI 1) dJx4a65c_grow_92f84_25 (by decide +kernel) ?_
    refine y_ishr B (nI (n / 2)) dJx4a65c_grow_92f84_26 ((pk_shrN (by omega) (nI 1 &&& 31) 1 (by decide)).trans (by rw [Nat.pow_one])) ?_
    refine y_callS B 3 _ _ (k_J8_newLength_cabcc l G M hn2 (by omega)) gJx4a65c_grow_92f84_J8_newLength_cabcc (by decide +kernel) rfl rfl rfl rfl ⟨(Nat.le_of_ble_eq_true rfl), (Nat.le_of_ble_eq_true rfl)⟩ (Nat.le_of_ble_eq_true rfl) ⟨(Nat.le_of_ble_eq_true rfl), (Nat.le_of_ble_eq_true rfl)⟩ dJx4a65c_grow_92f84_27 rfl (fun r M1 hr => ?_)
    obtain ⟨rfl, rfl⟩ := hr
    refine y_istore_n B dJx4a65c_grow_92f84_30 (Nat.le_of_ble_eq_true rfl) ?_
    refine y_aload_n B dJx4a65c_grow_92f84_31 rfl ?_
    refine y_aload_n B dJx4a65c_grow_92f84_32 rfl ?_
    refine y_get B (ref := "java/util/ArrayList") (ci := 0) (C := RJx4a65c) (T := TJx4a65c) (N := 3) hA rfl i_Jx4a65c_grow_92f84_Jx4a65c 1 (by decide) (by decide +kernel) (fun _ h9 => h9) rfl dJx4a65c_grow_92f84_33 ?_
    refine y_iload_n B dJx4a65c_grow_92f84_36 rfl ?_
    refine y_callS B 2 _ _ (k_J7_copyOf_1904c l G _ (g + 1) hci hca hQ (by omega) (by omega) hel) gJx4a65c_grow_92f84_J7_copyOf_1904c (by decide +kernel) rfl rfl rfl rfl ⟨(Nat.le_of_ble_eq_true rfl), (Nat.le_of_ble_eq_true rfl)⟩ (Nat.le_of_ble_eq_true rfl) ⟨(Nat.le_of_ble_eq_true rfl), (Nat.le_of_ble_eq_true rfl)⟩ dJx4a65c_grow_92f84_37 rfl (fun r M2 hr => ?_)
    obtain ⟨q, h9, rfl, hq, rfl, hh9⟩ := hr
    refine y_dup_x1 B dJx4a65c_grow_92f84_40 rfl rfl ?_
    refine y_put B (ref := "java/util/ArrayList") (ci := 0) (C := RJx4a65c) (T := TJx4a65c) (N := 3) (ty := (.array (.object "java/lang/Object"))) (ai_U_f hq hA) rfl i_Jx4a65c_grow_92f84_Jx4a65c tyJx4a65c tyJx4a65c_ok nmJx4a65c 1 (by decide) (by decide +kernel) (fun _ h9 => h9) rfl (by decide +kernel) rfl rfl (Nat.le_of_ble_eq_true rfl) dJx4a65c_grow_92f84_41 ?_
    exact y_aret B (Or.inr ⟨_, rfl⟩) (Or.inr ⟨_, rfl⟩) dJx4a65c_grow_92f84_44 (Nat.le_of_ble_eq_true rfl) (Nat.le_of_ble_eq_true rfl) (⟨q, _, h9, rfl, hq, rfl, by omega, by omega, by omega, hh9⟩)
set_option maxHeartbeats 4000000 in
set_option maxRecDepth 100000 in
theorem k_Jx4a65c_grow_d5877 (l : Launch) (G : ai_G) (M : ai_M) {a g n arr : Nat} {mc : Int32} {h : Nat → Option Nat} {ci : Nat} {qc : vw_C} (hci : vwCl[ci]? = some qc) (hca : Cond.castable qc.1 "java/lang/Object" ∈ ai_Xw) (hA : M a = some (g, .inr (0, [.int mc, .ref arr, .int (nI n)]))) (hn : n ≤ 20) (hF : (n = 0 ∧ arr = G.2.2.1 0) ∨ (M arr = some (g + 1, ai_eO G n h) ∧ 10 ≤ n)) (hel : ∀ i, i < n → ∀ y, h i = some y → ∃ (g : Nat) (fs : List Value), M y = some (g, .inr (ci, fs))) : ai_C l yJx4a65c_grow_d5877 wsJx4a65c_grow_d5877 ({ frames := 4, cells := 1, slots := 40, locals := 107 } : Room) 1 40 G M [.ref a] (fun r M1 => ∃ (q cap : Nat) (h9 : Nat → Option Nat), r = some (.ref q) ∧ M q = none ∧ M1 = ai_U (ai_U M q (g + 1) (ai_eO G cap h9)) a g (.inr (0, [.int mc, .ref q, .int (nI n)])) ∧ n + 1 ≤ cap ∧ 10 ≤ cap ∧ cap ≤ 40 ∧ ∀ i, i < n → h9 i = h i) := by
  refine y_start (by decide +kernel) rfl (Nat.le_of_ble_eq_true rfl) (Nat.le_of_ble_eq_true rfl) (fun x hx => by simp only [List.mem_cons, List.not_mem_nil, or_false] at hx; rcases hx with rfl <;> rfl) ?_
  intro p e s m below meth c B hnm
  refine y_aload_n B dJx4a65c_grow_d5877_0 rfl ?_
  refine y_aload_n B dJx4a65c_grow_d5877_1 rfl ?_
  refine y_get B (ref := "java/util/ArrayList") (ci := 0) (C := RJx4a65c) (T := TJx4a65c) (N := 3) hA rfl i_Jx4a65c_grow_d5877_Jx4a65c 2 (by decide) (by decide +kernel) (fun _ h9 => h9) rfl dJx4a65c_grow_d5877_2 ?_
  refine y_iconst B (nI 1) dJx4a65c_grow_d5877_5 (by decide +kernel) ?_
  refine y_iadd B (nI (n + 1)) dJx4a65c_grow_d5877_6 (nI_1 n) ?_
  refine y_callV B 1 (q := (RJx4a65c, TJx4a65c, 3)) _ _ (k_Jx4a65c_grow_92f84 l G M hci hca hA hn hF hel) hA rfl gJx4a65c_grow_d5877_Jx4a65c_grow_92f84 (by decide +kernel) rfl rfl rfl rfl ⟨(Nat.le_of_ble_eq_true rfl), (Nat.le_of_ble_eq_true rfl)⟩ (Nat.le_of_ble_eq_true rfl) ⟨(Nat.le_of_ble_eq_true rfl), (Nat.le_of_ble_eq_true rfl)⟩ dJx4a65c_grow_d5877_7 rfl (fun r M1 hr => ?_)
  obtain ⟨q, cap, h9, rfl, hq, rfl, hr2⟩ := hr
  exact y_aret B (Or.inr ⟨_, rfl⟩) (Or.inr ⟨_, rfl⟩) dJx4a65c_grow_d5877_10 (Nat.le_of_ble_eq_true rfl) (Nat.le_of_ble_eq_true rfl) (⟨q, cap, h9, rfl, hq, rfl, hr2⟩)
theorem ai_add_end {G : ai_G} {M M2 : ai_M} {a q g n cap e : Nat} {mc : Int32} {h9 : Nat → Option Nat} {f : Nat → Nat} (hA : M2 a = some (g, .inr (0, [.int mc, .ref q, .int (nI n)]))) (hQ : M2 q = some (g + 1, ai_eO G cap h9)) (h1 : n + 1 ≤ cap) (h2 : 10 ≤ cap) (h3 : cap ≤ 40) (hf : ∀ i, i < n → h9 i = some (f i)) (hk : ai_kl M M2 g) :
    ai_l G (ai_U (ai_U M2 q (g + 1) (ai_eO G cap (va_up h9 (nI n).toNatClampNeg (some e)))) a g (.inr (0, [.int mc, .ref q, .int (nI (n + 1))]))) a g (n + 1) (va_up f n e) ∧ ai_kl M (ai_U (ai_U M2 q (g + 1) (ai_eO G cap (va_up h9 (nI n).toNatClampNeg (some e)))) a g (.inr (0, [.int mc, .ref q, .int (nI (n + 1))]))) g := by
  have hqa : q ≠ a := ai_ne hQ hA (by omega)
  refine ⟨⟨mc, q, cap, _, ai_U_s, Or.inr ⟨(ai_U_n hqa).trans ai_U_s, h1, h2, h3, fun i hi => ?_⟩⟩, fun b g' e' hb n1 n2 => ?_⟩
  · rw [nI_clamp (by omega)]
    unfold va_up
    by_cases hin : i = n
    · rw [if_pos hin, if_pos hin]
    · rw [if_neg hin, if_neg hin]; exact hf i (by omega)
  · have hb2 := hk b g' e' hb n1 n2
    exact (ai_U_n (ai_ne hb2 hA n1)).trans ((ai_U_n (ai_ne hb2 hQ n2)).trans hb2)
set_option maxHeartbeats 4000000 in
set_option maxRecDepth 100000 in
theorem k_Jx4a65c_add_72be8 (l : Launch) (G : ai_G) (M : ai_M) {a g n e arr cap : Nat} {mc : Int32} {h : Nat → Option Nat} {f : Nat → Nat} {ci : Nat} {qc : vw_C} (hci : vwCl[ci]? = some qc) (hca : Cond.castable qc.1 "java/lang/Object" ∈ ai_Xw) (hA : M a = some (g, .inr (0, [.int mc, .ref arr, .int (nI n)]))) (hn : n ≤ 20) (h2 : (n = 0 ∧ arr = G.2.2.1 0 ∧ cap = 0) ∨ (M arr = some (g + 1, ai_eO G cap h) ∧ n ≤ cap ∧ 10 ≤ cap ∧ cap ≤ 40 ∧ ∀ i, i < n → h i = some (f i))) (hf : ∀ i, i < n → h i = some (f i)) (hel : ∀ i, i < n → ∀ y, h i = some y → ∃ (g : Nat) (fs : List Value), M y = some (g, .inr (ci, fs))) {ge : Nat} {vs : List Value} (hV : M e = some (ge, .inr (ci, vs))) (hge : ge ≠ g ∧ ge ≠ g + 1) : ai_C l yJx4a65c_add_72be8 wsJx4a65c_add_72be8 ({ frames := 5, cells := 1, slots := 40, locals := 127 } : Room) 1 40 G M [.ref a, .ref e, .ref arr, .int (nI n)] (fun r M1 => r = none ∧ ai_l G M1 a g (n + 1) (va_up f n e) ∧ ai_kl M M1 g) := by
  refine y_start (by decide +kernel) rfl (Nat.le_of_ble_eq_true rfl) (Nat.le_of_ble_eq_true rfl) (fun x hx => by simp only [List.mem_cons, List.not_mem_nil, or_false] at hx; rcases hx with rfl | rfl | rfl | rfl <;> rfl) ?_
  intro p e0 s m below meth c B hnm
  have full : ((n = 0 ∧ arr = G.2.2.1 0) ∨ (M arr = some (g + 1, ai_eO G n h) ∧ 10 ≤ n)) → ai_Y p l e0 ({ frames := 5, cells := 1, slots := 40, locals := 127 } : Room) s m [.ref a, .ref e, .ref arr, .int (nI n)].toArray below meth c G (MQ below (ai_Q G (fun r M1 => r = none ∧ ai_l G M1 a g (n + 1) (va_up f n e) ∧ ai_kl M M1 g)) [.ref a, .ref e, .ref arr, .int (nI n)].toArray s 1 40 (ai_A G)) M 0 0 (ai_L0 [.ref a, .ref e, .ref arr, .int (nI n)] 4) 6 [] := by
    intro hF
    refine y_aload_n B dJx4a65c_add_72be8_6 rfl ?_
    refine y_callV B 0 (q := (RJx4a65c, TJx4a65c, 3)) _ _ (k_Jx4a65c_grow_d5877 l G M hci hca hA hn hF hel) hA rfl gJx4a65c_add_72be8_Jx4a65c_grow_d5877 (by decide +kernel) rfl rfl rfl rfl ⟨(Nat.le_of_ble_eq_true rfl), (Nat.le_of_ble_eq_true rfl)⟩ (Nat.le_of_ble_eq_true rfl) ⟨(Nat.le_of_ble_eq_true rfl), (Nat.le_of_ble_eq_true rfl)⟩ dJx4a65c_add_72be8_7 rfl (fun r M1 hr => ?_)
    obtain ⟨q, cap, h9, rfl, hq, rfl, hc1, hc2, hc3, hh9⟩ := hr
    have hQ : ai_U (ai_U M q (g + 1) (ai_eO G cap h9)) a g (.inr (0, [.int mc, .ref q, .int (nI n)])) q = some (g + 1, ai_eO G cap h9) := (ai_U_n (fun z => by rw [← z, hq] at hA; cases hA)).trans ai_U_s
    have hA2 : ai_U (ai_U M q (g + 1) (ai_eO G cap h9)) a g (.inr (0, [.int mc, .ref q, .int (nI n)])) a = some (g, .inr (0, [.int mc, .ref q, .int (nI n)])) := ai_U_s
    have hk2 : ai_kl M (ai_U (ai_U M q (g + 1) (ai_eO G cap h9)) a g (.inr (0, [.int mc, .ref q, .int (nI n)]))) g := fun b g' e' hb n1 n2 => (ai_U_n (ai_ne hb hA n1)).trans (ai_U_f hq hb)
    have hV2 := hk2 _ _ _ hV hge.1 hge.2
    refine y_astore_n B dJx4a65c_add_72be8_10 (Nat.le_of_ble_eq_true rfl) ?_
    refine y_aload_n B dJx4a65c_add_72be8_11 rfl ?_
    refine y_iload_n B dJx4a65c_add_72be8_12 rfl ?_
    refine y_aload_n B dJx4a65c_add_72be8_13 rfl ?_
    refine y_aastoreO B hQ hV2 hci (B.2.2.2.2.2.2.2.2.1.1.2.2.2.2.2.2.2.2.2.2.1 _ hca) (vp_in_nI (by omega) (by omega)) dJx4a65c_add_72be8_14 ?_
    refine y_aload_n B dJx4a65c_add_72be8_15 rfl ?_
    refine y_iload_n B dJx4a65c_add_72be8_16 rfl ?_
    refine y_iconst B (nI 1) dJx4a65c_add_72be8_17 (by decide +kernel) ?_
    refine y_iadd B (nI (n + 1)) dJx4a65c_add_72be8_18 (nI_1 n) ?_
    refine y_put B (ref := "java/util/ArrayList") (ci := 0) (C := RJx4a65c) (T := TJx4a65c) (N := 3) (ty := .int) (ai_U_k hQ hA2 (by omega)) rfl i_Jx4a65c_add_72be8_Jx4a65c tyJx4a65c tyJx4a65c_ok nmJx4a65c 2 (by decide) (by decide +kernel) (fun _ h9 => h9) rfl (by decide +kernel) rfl rfl (Nat.le_of_ble_eq_true rfl) dJx4a65c_add_72be8_19 ?_
    exact y_vret B dJx4a65c_add_72be8_22 (Nat.le_of_ble_eq_true rfl) (Nat.le_of_ble_eq_true rfl) (⟨rfl, ai_add_end hA2 hQ hc1 hc2 hc3 (fun i hi => (hh9 i hi).trans (hf i hi)) hk2⟩)
  rcases h2 with ⟨rfl, rfl, rfl⟩ | ⟨hQ, h3, h4, h5, h6⟩
  · refine y_iload_n B dJx4a65c_add_72be8_0 rfl ?_
    refine y_aload_n B dJx4a65c_add_72be8_1 rfl ?_
    refine y_tlen B (nI 0) B.2.2.2.2.2.2.2.2.1.2.2.1 rfl dJx4a65c_add_72be8_2 ?_
    refine y_icmp_ne B 11 dJx4a65c_add_72be8_3 (by decide) (fun c3 => absurd rfl c3) (fun c3 => ?_)
    exact full (Or.inl ⟨rfl, rfl⟩)
  · by_cases hcn : n = cap
    · subst hcn
      refine y_iload_n B dJx4a65c_add_72be8_0 rfl ?_
      refine y_aload_n B dJx4a65c_add_72be8_1 rfl ?_
      refine y_alen B (nI n) 3 hQ rfl rfl dJx4a65c_add_72be8_2 ?_
      refine y_icmp_ne B 11 dJx4a65c_add_72be8_3 (by decide) (fun c3 => absurd rfl c3) (fun c3 => ?_)
      exact full (Or.inr ⟨hQ, h4⟩)
    · refine y_iload_n B dJx4a65c_add_72be8_0 rfl ?_
      refine y_aload_n B dJx4a65c_add_72be8_1 rfl ?_
      refine y_alen B (nI cap) 3 hQ rfl rfl dJx4a65c_add_72be8_2 ?_
      refine y_icmp_ne B 11 dJx4a65c_add_72be8_3 (by decide) (fun c3 => ?_) (fun c3 => absurd c3 (fun z => hcn ((nI_eq (by omega) (by omega)).mp z)))
      have hV2 := hV
      refine y_aload_n B dJx4a65c_add_72be8_11 rfl ?_
      refine y_iload_n B dJx4a65c_add_72be8_12 rfl ?_
      refine y_aload_n B dJx4a65c_add_72be8_13 rfl ?_
      refine y_aastoreO B hQ hV2 hci (B.2.2.2.2.2.2.2.2.1.1.2.2.2.2.2.2.2.2.2.2.1 _ hca) (vp_in_nI (by omega) (by omega)) dJx4a65c_add_72be8_14 ?_
      refine y_aload_n B dJx4a65c_add_72be8_15 rfl ?_
      refine y_iload_n B dJx4a65c_add_72be8_16 rfl ?_
      refine y_iconst B (nI 1) dJx4a65c_add_72be8_17 (by decide +kernel) ?_
      refine y_iadd B (nI (n + 1)) dJx4a65c_add_72be8_18 (nI_1 n) ?_
      refine y_put B (ref := "java/util/ArrayList") (ci := 0) (C := RJx4a65c) (T := TJx4a65c) (N := 3) (ty := .int) (ai_U_k hQ hA (by omega)) rfl i_Jx4a65c_add_72be8_Jx4a65c tyJx4a65c tyJx4a65c_ok nmJx4a65c 2 (by decide) (by decide +kernel) (fun _ h9 => h9) rfl (by decide +kernel) rfl rfl (Nat.le_of_ble_eq_true rfl) dJx4a65c_add_72be8_19 ?_
      exact y_vret B dJx4a65c_add_72be8_22 (Nat.le_of_ble_eq_true rfl) (Nat.le_of_ble_eq_true rfl) (⟨rfl, ai_add_end hA hQ (by omega) h4 h5 hf (fun _ _ _ h _ _ => h)⟩)
set_option maxHeartbeats 4000000 in
set_option maxRecDepth 100000 in
theorem k_Jx4a65c_add_9ea2d (l : Launch) (G : ai_G) (M : ai_M) {a g n e : Nat} {f : Nat → Nat} {ci : Nat} {qc : vw_C} (hci : vwCl[ci]? = some qc) (hca : Cond.castable qc.1 "java/lang/Object" ∈ ai_Xw) (hl : ai_l G M a g n f) (hn : n ≤ 20) (hel : ∀ i, i < n → ∃ (g : Nat) (fs : List Value), M (f i) = some (g, .inr (ci, fs))) {ge : Nat} {vs : List Value} (hV : M e = some (ge, .inr (ci, vs))) (hge : ge ≠ g ∧ ge ≠ g + 1) (hg2 : ∀ i, i < n → ∀ (g9 : Nat) (e9 : va_E), M (f i) = some (g9, e9) → g9 ≠ g) : ai_C l yJx4a65c_add_9ea2d wsJx4a65c_add_9ea2d ({ frames := 6, cells := 1, slots := 40, locals := 150 } : Room) 1 40 G M [.ref a, .ref e] (fun r M1 => r = some (.int (nI 1)) ∧ ai_l G M1 a g (n + 1) (va_up f n e) ∧ ai_kl M M1 g) := by
  refine y_start (by decide +kernel) rfl (Nat.le_of_ble_eq_true rfl) (Nat.le_of_ble_eq_true rfl) (fun x hx => by simp only [List.mem_cons, List.not_mem_nil, or_false] at hx; rcases hx with rfl | rfl <;> rfl) ?_
  intro p e0 s m below meth c B hnm
  obtain ⟨mc, arr, cap, hh, h1, h2⟩ := hl
  have hf : ∀ i, i < n → hh i = some (f i) := fun i hi => by rcases h2 with ⟨z, -⟩ | ⟨-, -, -, -, z⟩ <;> first | omega | exact z i hi
  refine y_aload_n B dJx4a65c_add_9ea2d_0 rfl ?_
  refine y_dup B dJx4a65c_add_9ea2d_1 rfl ?_
  have hts9 := B.2.2.2.2.2.1
  refine y_get B (ref := "java/util/ArrayList") (ci := 0) (C := RJx4a65c) (T := TJx4a65c) (N := 3) h1 rfl i_Jx4a65c_add_9ea2d_Jx4a65c 0 (by decide) (by decide +kernel) (u_same (hts9 (.sameField "java/util/ArrayList" "java/util/AbstractList" "modCount" "I") (by decide +kernel))) rfl dJx4a65c_add_9ea2d_2 ?_
  refine y_iconst B (nI 1) dJx4a65c_add_9ea2d_5 (by decide +kernel) ?_
  refine y_iadd B (mc + (nI 1)) dJx4a65c_add_9ea2d_6 (rfl) ?_
  have hts9 := B.2.2.2.2.2.1
  refine y_put B (ref := "java/util/ArrayList") (ci := 0) (C := RJx4a65c) (T := TJx4a65c) (N := 3) (ty := .int) h1 rfl i_Jx4a65c_add_9ea2d_Jx4a65c tyJx4a65c tyJx4a65c_ok nmJx4a65c 0 (by decide) (by decide +kernel) (u_same (hts9 (.sameField "java/util/ArrayList" "java/util/AbstractList" "modCount" "I") (by decide +kernel))) rfl (by decide +kernel) rfl rfl (Nat.le_of_ble_eq_true rfl) dJx4a65c_add_9ea2d_7 ?_
  refine y_aload_n B dJx4a65c_add_9ea2d_10 rfl ?_
  refine y_aload_n B dJx4a65c_add_9ea2d_11 rfl ?_
  refine y_aload_n B dJx4a65c_add_9ea2d_12 rfl ?_
  refine y_get B (ref := "java/util/ArrayList") (ci := 0) (C := RJx4a65c) (T := TJx4a65c) (N := 3) ai_U_s rfl i_Jx4a65c_add_9ea2d_Jx4a65c 1 (by decide) (by decide +kernel) (fun _ h9 => h9) rfl dJx4a65c_add_9ea2d_13 ?_
  refine y_aload_n B dJx4a65c_add_9ea2d_16 rfl ?_
  refine y_get B (ref := "java/util/ArrayList") (ci := 0) (C := RJx4a65c) (T := TJx4a65c) (N := 3) ai_U_s rfl i_Jx4a65c_add_9ea2d_Jx4a65c 2 (by decide) (by decide +kernel) (fun _ h9 => h9) rfl dJx4a65c_add_9ea2d_17 ?_
  refine y_callV B 3 (q := (RJx4a65c, TJx4a65c, 3)) _ _ (k_Jx4a65c_add_72be8 l G _ hci hca ai_U_s hn (h2.imp_right fun z => ⟨ai_U_k h1 z.1 (by omega), z.2⟩) hf (fun i hi y hy => by rw [hf i hi] at hy; cases hy; obtain ⟨g9, fs, z⟩ := hel i hi; exact ⟨g9, fs, ai_U_k h1 z (hg2 i hi _ _ z)⟩) (ai_U_k h1 hV hge.1) hge) ai_U_s rfl gJx4a65c_add_9ea2d_Jx4a65c_add_72be8 (by decide +kernel) rfl rfl rfl rfl ⟨(Nat.le_of_ble_eq_true rfl), (Nat.le_of_ble_eq_true rfl)⟩ (Nat.le_of_ble_eq_true rfl) ⟨(Nat.le_of_ble_eq_true rfl), (Nat.le_of_ble_eq_true rfl)⟩ dJx4a65c_add_9ea2d_20 rfl (fun r M1 hr => ?_)
  obtain ⟨rfl, hr1, hr2⟩ := hr
  refine y_iconst B (nI 1) dJx4a65c_add_9ea2d_23 (by decide +kernel) ?_
  exact y_zret B dJx4a65c_add_9ea2d_24 (Nat.le_of_ble_eq_true rfl) (Nat.le_of_ble_eq_true rfl) rfl (⟨rfl, hr1, fun b g9 e9 hb n1 n2 => hr2 b g9 e9 (ai_U_k h1 hb n1) n1 n2⟩)
end
section
/-! ===== THE STATE as numbers: S 0 = (thrown, minute, how many questions); rows 1 draft (a value + 1, 0 for none), 2 dropped, 3 products, 4 quiet times, 5 untils, 6 alerts, 7 batches, 8 tests (by 3 q + p), 9 names, 10 lows, 11 highs, 12 barred (by 4 (3 q + p) + t) ===== -/
abbrev ai_S : Type := Nat → Nat → Nat
def ai_b (x : Bool) : Int32 := if x then nI 1 else nI 0
def ai_nD (v : Nat) : Int32 := if v = 0 then -1 else nI (v - 1)
def ai_all : Nat → (Nat → Bool) → Bool
  | 0, _ => true
  | n + 1, p => ai_all n p && p n
def ai_any : Nat → (Nat → Bool) → Bool
  | 0, _ => false
  | n + 1, p => ai_any n p || p n
def ai_cn : Nat → (Nat → Bool) → Nat
  | 0, _ => 0
  | n + 1, p => ai_cn n p + if p n then 1 else 0
theorem ai_all_iff : ∀ (n : Nat) (p : Nat → Bool), ai_all n p = true ↔ ∀ i, i < n → p i = true
  | 0, p => ⟨fun _ i h => absurd h (Nat.not_lt_zero i), fun _ => rfl⟩
  | n + 1, p => by
    unfold ai_all
    rw [Bool.and_eq_true, ai_all_iff n p]
    exact ⟨fun h i hi => by rcases Nat.lt_succ_iff_lt_or_eq.mp hi with q | q; exact h.1 i q; rw [q]; exact h.2, fun h => ⟨fun i hi => h i (Nat.lt_succ_of_lt hi), h n (Nat.lt_succ_self n)⟩⟩
theorem ai_any_iff : ∀ (n : Nat) (p : Nat → Bool), ai_any n p = true ↔ ∃ i, i < n ∧ p i = true
  | 0, p => ⟨fun h => by simp [ai_any] at h, fun ⟨i, h, _⟩ => absurd h (Nat.not_lt_zero i)⟩
  | n + 1, p => by
    unfold ai_any
    rw [Bool.or_eq_true, ai_any_iff n p]
    constructor
    · rintro (⟨i, hi, h⟩ | h)
      · exact ⟨i, Nat.lt_succ_of_lt hi, h⟩
      · exact ⟨n, Nat.lt_succ_self n, h⟩
    · rintro ⟨i, hi, h⟩
      rcases Nat.lt_succ_iff_lt_or_eq.mp hi with q | q
      · exact Or.inl ⟨i, q, h⟩
      · exact Or.inr (by rw [← q]; exact h)
theorem ai_all_f {n i : Nat} {p : Nat → Bool} (hi : i < n) (h : p i = false) : ai_all n p = false := by
  cases e : ai_all n p with
  | false => rfl
  | true => rw [(ai_all_iff n p).mp e i hi] at h; cases h
theorem ai_any_t {n i : Nat} {p : Nat → Bool} (hi : i < n) (h : p i = true) : ai_any n p = true := (ai_any_iff n p).mpr ⟨i, hi, h⟩
theorem ai_any_f {n : Nat} {p : Nat → Bool} (h : ∀ i, i < n → p i = false) : ai_any n p = false := by
  cases e : ai_any n p with
  | false => rfl
  | true => obtain ⟨i, hi, q⟩ := (ai_any_iff n p).mp e; rw [h i hi] at q; cases q
theorem ai_cn_le : ∀ (n : Nat) (p : Nat → Bool), ai_cn n p ≤ n
  | 0, _ => Nat.le_refl _
  | n + 1, p => by
    have := ai_cn_le n p
    unfold ai_cn
    split <;> omega
theorem ai_cn_cong {p p' : Nat → Bool} : ∀ {n : Nat}, (∀ i, i < n → p i = p' i) → ai_cn n p = ai_cn n p'
  | 0, _ => rfl
  | n + 1, h => by
    unfold ai_cn
    rw [ai_cn_cong (fun i hi => h i (Nat.lt_succ_of_lt hi)), h n (Nat.lt_succ_self n)]
theorem ai_all_cong {p p' : Nat → Bool} : ∀ {n : Nat}, (∀ i, i < n → p i = p' i) → ai_all n p = ai_all n p'
  | 0, _ => rfl
  | n + 1, h => by
    unfold ai_all
    rw [ai_all_cong (fun i hi => h i (Nat.lt_succ_of_lt hi)), h n (Nat.lt_succ_self n)]
theorem ai_any_cong {p p' : Nat → Bool} : ∀ {n : Nat}, (∀ i, i < n → p i = p' i) → ai_any n p = ai_any n p'
  | 0, _ => rfl
  | n + 1, h => by
    unfold ai_any
    rw [ai_any_cong (fun i hi => h i (Nat.lt_succ_of_lt hi)), h n (Nat.lt_succ_self n)]
def ai_in (v lo hi : Nat) : Bool := decide (lo + 1 ≤ v) && decide (v ≤ hi + 1)
def ai_tt (v lo hi b : Nat) : Bool := ai_in v lo hi != decide (b = 1)
def ai_tk (S : ai_S) (k : Nat) : Bool := ai_tt (S 1 (S 9 k)) (S 10 k) (S 11 k) (S 12 k)
def ai_pt (S : ai_S) (j : Nat) : Bool := ai_all (S 8 j) (fun t => ai_tk S (4 * j + t))
def ai_qt (S : ai_S) (q : Nat) : Bool := ai_any (S 3 q) (fun p => ai_pt S (3 * q + p))
def ai_pn (S : ai_S) (j : Nat) : Nat := ai_cn (S 8 j) (fun t => decide (S 12 (4 * j + t) = 0))
def ai_mn (n : Nat) (f : Nat → Nat) : Nat := match n with
  | 0 => 4
  | n + 1 => Nat.min (ai_mn n f) (f n)
def ai_sz (S : ai_S) (q : Nat) : Nat := if S 3 q = 0 then 0 else ai_mn (S 3 q) (fun p => ai_pn S (3 * q + p))
theorem ai_mn_le : ∀ (n : Nat) (f : Nat → Nat), ai_mn n f ≤ 4
  | 0, _ => Nat.le_refl _
  | n + 1, f => Nat.le_trans (Nat.min_le_left _ _) (ai_mn_le n f)
theorem ai_mn_cong {f f' : Nat → Nat} : ∀ {n : Nat}, (∀ i, i < n → f i = f' i) → ai_mn n f = ai_mn n f'
  | 0, _ => rfl
  | n + 1, h => by
    unfold ai_mn
    rw [ai_mn_cong (fun i hi => h i (Nat.lt_succ_of_lt hi)), h n (Nat.lt_succ_self n)]
theorem ai_sz_le (S : ai_S) (q : Nat) : ai_sz S q ≤ 4 := by
  unfold ai_sz
  split
  · omega
  · exact ai_mn_le _ _
/-- the state with one number changed -/
def ai_u (S : ai_S) (k i v : Nat) : ai_S := fun a b => if a = k ∧ b = i then v else S a b
theorem ai_u_s {S : ai_S} {k i v : Nat} : ai_u S k i v k i = v := if_pos ⟨rfl, rfl⟩
theorem ai_u_k {S : ai_S} {k i v a b : Nat} (h : a ≠ k) : ai_u S k i v a b = S a b := if_neg (fun z => h z.1)
theorem ai_u_i {S : ai_S} {k i v a b : Nat} (h : b ≠ i) : ai_u S k i v a b = S a b := if_neg (fun z => h z.2)
theorem ai_u_row {S : ai_S} {k i v : Nat} : (fun b => ai_u S k i v k b) = va_up (S k) i v := by
  funext b
  unfold ai_u va_up
  by_cases h : b = i
  · rw [if_pos ⟨rfl, h⟩, if_pos h]
  · rw [if_neg (fun z => h z.2), if_neg h]
theorem ai_upd (g : Nat → Int32) (D : Nat → Nat) (a w : Nat) : upd (fun i => g (D i)) a (g w) = fun i => g (va_up D a w i) := by
  funext b
  unfold upd va_up
  by_cases h : b = a
  · rw [if_pos h, if_pos h]
  · rw [if_neg h, if_neg h]
/-- what is so at every call: o calls have been made -/
def ai_okT (S : ai_S) (k : Nat) : Prop := S 9 k < 6 ∧ S 10 k ≤ S 11 k ∧ S 11 k < 64 ∧ S 12 k ≤ 1
def ai_okP (S : ai_S) (j : Nat) : Prop := S 8 j ≤ 4 ∧ ∀ t, t < S 8 j → ai_okT S (4 * j + t)
def ai_okQ (S : ai_S) (o q : Nat) : Prop := S 2 q ≤ 1 ∧ S 3 q ≤ 3 ∧ S 4 q ≤ 1000 ∧ S 5 q ≤ S 0 1 + 1000 ∧ S 7 q ≤ o ∧ (S 2 q = 0 → S 7 q = 0 ∨ S 0 1 < S 5 q) ∧ ∀ p, p < S 3 q → ai_okP S (3 * q + p)
def ai_I (S : ai_S) (o : Nat) : Prop := S 0 1 ≤ 1000000 ∧ S 0 2 ≤ 20 ∧ (∀ i, i < 6 → S 1 i ≤ 64) ∧ ∀ q, q < S 0 2 → ai_okQ S o q
theorem ai_nD0 : ai_nD 0 = -1 := rfl
theorem ai_nDs (v : Nat) : ai_nD (v + 1) = nI v := rfl
theorem ai_nDz {v : Nat} (h : v ≤ 64) : ai_nD v = -1 ↔ v = 0 := by
  cases v with
  | zero => exact ⟨fun _ => rfl, fun _ => rfl⟩
  | succ v =>
    rw [ai_nDs]
    refine ⟨fun z => absurd ?_ (nI_pos (n := v) (by omega)), fun z => by omega⟩
    rw [z]; decide
theorem ai_bt (x : Bool) : ai_b x = nI 0 ↔ x = false := by cases x <;> decide
theorem ai_b0 (x : Bool) : ai_b x = 0 ↔ x = false := by cases x <;> decide
theorem ai_bn (x : Bool) : narrow .boolean (.int (ai_b x)) = .int (ai_b x) := by cases x <;> rfl
end
section
/-! ===== THE CLASS'S SMALL OBJECTS ===== -/
def ai_Dr (G : ai_G) (M : ai_M) (S : ai_S) (dr : Nat) : Prop := ∃ dv : Nat, M dr = some (104, .inr (1, [.ref dv])) ∧ M dv = some (105, ai_eI G 6 (fun i => ai_nD (S 1 i)))
def ai_Te (M : ai_M) (S : ai_S) (k g a : Nat) : Prop := M a = some (g, .inr (6, [.int (nI (S 9 k)), .int (nI (S 10 k)), .int (nI (S 11 k)), .int (nI (S 12 k))]))
def ai_Pd (G : ai_G) (M : ai_M) (S : ai_S) (j a : Nat) : Prop := ∃ (tl : Nat) (ta : Nat → Nat) (hits : Int32), M a = some (10000 + 100 * j, .inr (4, [.ref tl, .int (nI (ai_pn S j)), .int hits])) ∧ ai_l G M tl (10000 + 100 * j + 2) (S 8 j) ta ∧ ∀ t, t < S 8 j → ai_Te M S (4 * j + t) (10000 + 100 * j + 10 + t) (ta t)
def ai_Qd (G : ai_G) (M : ai_M) (S : ai_S) (pa : Nat → Nat) (q a : Nat) : Prop := ∃ pl : Nat, M a = some (1000 + 100 * q, .inr (5, [.ref pl, .int (nI (S 2 q)), .int (nI (S 4 q)), .int (nI (S 5 q)), .int (nI (S 6 q)), .int (nI (S 7 q))])) ∧ ai_l G M pl (1000 + 100 * q + 2) (S 3 q) (fun p => pa (3 * q + p)) ∧ ∀ p, p < S 3 q → ai_Pd G M S (3 * q + p) (pa (3 * q + p))
/-- a product's hits -/
def ai_ht (M : ai_M) (a : Nat) (v : Int32) : Prop := ∃ (g : Nat) (x y : Value), M a = some (g, .inr (4, [x, y, .int v]))
/-- only hits have changed -/
def ai_hk (M M1 : ai_M) : Prop := ∀ (b g : Nat) (e : va_E), M b = some (g, e) → ∃ e', M1 b = some (g, e') ∧ (e' = e ∨ ∃ (x y : Value) (v v' : Int32), e = .inr (4, [x, y, .int v]) ∧ e' = .inr (4, [x, y, .int v']))
theorem ai_hk.rf {M : ai_M} : ai_hk M M := fun b g e h => ⟨e, h, Or.inl rfl⟩
theorem ai_hk.tr {M M1 M2 : ai_M} (h1 : ai_hk M M1) (h2 : ai_hk M1 M2) : ai_hk M M2 := by
  intro b g e h
  obtain ⟨e1, a1, c1⟩ := h1 b g e h
  obtain ⟨e2, a2, c2⟩ := h2 b g e1 a1
  refine ⟨e2, a2, ?_⟩
  rcases c1 with rfl | ⟨x, y, v, v', rfl, rfl⟩
  · exact c2
  · rcases c2 with rfl | ⟨x2, y2, v2, v3, e4, rfl⟩
    · exact Or.inr ⟨x, y, v, v', rfl, rfl⟩
    · cases e4
      exact Or.inr ⟨x, y, v, v3, rfl, rfl⟩
theorem ai_hk.one {M : ai_M} {a g : Nat} {x y : Value} {v v' : Int32} (h : M a = some (g, .inr (4, [x, y, .int v]))) : ai_hk M (ai_U M a g (.inr (4, [x, y, .int v']))) := by
  intro b g' e hb
  by_cases q : b = a
  · subst q
    rw [h] at hb
    cases hb
    exact ⟨_, ai_U_s, Or.inr ⟨x, y, v, v', rfl, rfl⟩⟩
  · exact ⟨e, (ai_U_n q).trans hb, Or.inl rfl⟩
theorem ai_hk.inl {M M1 : ai_M} (h : ai_hk M M1) {b g : Nat} {x : ClassId × vp_A} (hb : M b = some (g, .inl x)) : M1 b = some (g, .inl x) := by
  obtain ⟨e1, a1, c1⟩ := h b g _ hb
  rcases c1 with rfl | ⟨x, y, v, v', e2, -⟩
  · exact a1
  · cases e2
theorem ai_hk.inr {M M1 : ai_M} (h : ai_hk M M1) {b g c : Nat} {fs : List Value} (hb : M b = some (g, .inr (c, fs))) (hc : c ≠ 4) : M1 b = some (g, .inr (c, fs)) := by
  obtain ⟨e1, a1, c1⟩ := h b g _ hb
  rcases c1 with rfl | ⟨x, y, v, v', e2, -⟩
  · exact a1
  · cases e2
    exact absurd rfl hc
theorem ai_hk.l {G : ai_G} {M M1 : ai_M} (h : ai_hk M M1) {a g n : Nat} {f : Nat → Nat} (hl : ai_l G M a g n f) : ai_l G M1 a g n f := by
  obtain ⟨mc, arr, cap, hh, h1, h2⟩ := hl
  refine ⟨mc, arr, cap, hh, h.inr h1 (by decide), ?_⟩
  rcases h2 with h2 | ⟨h2, h3⟩
  · exact Or.inl h2
  · exact Or.inr ⟨h.inl h2, h3⟩
theorem ai_hk.pd {G : ai_G} {M M1 : ai_M} (h : ai_hk M M1) {S : ai_S} {j a : Nat} (hp : ai_Pd G M S j a) : ai_Pd G M1 S j a := by
  obtain ⟨tl, ta, hits, h1, h2, h3⟩ := hp
  obtain ⟨e1, a1, c1⟩ := h a _ _ h1
  rcases c1 with rfl | ⟨x, y, v, v', e2, rfl⟩
  · exact ⟨tl, ta, hits, a1, h.l h2, fun t ht => h.inr (h3 t ht) (by decide)⟩
  · cases e2
    exact ⟨tl, ta, v', a1, h.l h2, fun t ht => h.inr (h3 t ht) (by decide)⟩
theorem ai_hk.qd {G : ai_G} {M M1 : ai_M} (h : ai_hk M M1) {S : ai_S} {pa : Nat → Nat} {q a : Nat} (hq : ai_Qd G M S pa q a) : ai_Qd G M1 S pa q a := by
  obtain ⟨pl, h1, h2, h3⟩ := hq
  exact ⟨pl, h.inr h1 (by decide), h.l h2, fun p hp => h.pd (h3 p hp)⟩
theorem ai_hk.dr {G : ai_G} {M M1 : ai_M} (h : ai_hk M M1) {S : ai_S} {dr : Nat} (hq : ai_Dr G M S dr) : ai_Dr G M1 S dr := by
  obtain ⟨dv, h1, h2⟩ := hq
  exact ⟨dv, h.inr h1 (by decide), h.inl h2⟩
theorem ai_ht.u {M : ai_M} {a a' g : Nat} {v : Int32} {e : va_E} (h : ai_ht M a v) (hn : a ≠ a') : ai_ht (ai_U M a' g e) a v := by
  obtain ⟨g1, x, y, h1⟩ := h
  exact ⟨g1, x, y, (ai_U_n hn).trans h1⟩
theorem ai_Pd.ht {G : ai_G} {M : ai_M} {S : ai_S} {j a : Nat} (h : ai_Pd G M S j a) : ∃ v, ai_ht M a v := by
  obtain ⟨tl, ta, hits, h1, -⟩ := h
  exact ⟨hits, _, _, _, h1⟩
set_option maxRecDepth 20000 in
theorem ggX0_init_J7_fill_53178 : GoodIn wsX0_init wsJ7_fill_53178 := goodIn_r _ [9] (by decide +kernel) (by decide +kernel)
set_option maxRecDepth 20000 in
theorem gX0_init_J7_fill_53178 : GoodIn wsX0_init (va_wsS RX0 15 yJ7_fill_53178 wsJ7_fill_53178) := goodIn_app (goodIn_of _ (by decide +kernel)) ggX0_init_J7_fill_53178
theorem i_X0_init_X0 : ∀ w ∈ wsX00, w ∈ wsX0_init := fun _ h => List.mem_cons_of_mem _ (List.mem_append_right _ h)
theorem i_X0_valueOf_X0 : ∀ w ∈ wsX00, w ∈ wsX0_valueOf := fun _ h => List.mem_cons_of_mem _ (List.mem_append_right _ h)
theorem i_X0_replace_X0 : ∀ w ∈ wsX00, w ∈ wsX0_replace := fun _ h => List.mem_cons_of_mem _ (List.mem_append_right _ h)
theorem i_X5_init_X5 : ∀ w ∈ wsX50, w ∈ wsX5_init := fun _ h => List.mem_cons_of_mem _ (List.mem_append_right _ h)
theorem i_X5_isTrue_X5 : ∀ w ∈ wsX50, w ∈ wsX5_isTrue := fun _ h => List.mem_cons_of_mem _ (List.mem_append_left _ (List.mem_append_right _ h))
theorem i_X2_init_X2 : ∀ w ∈ wsX20, w ∈ wsX2_init := fun _ h => List.mem_cons_of_mem _ (List.mem_append_right _ h)
theorem i_X3_init_Jx4a65c : ∀ w ∈ wsJx4a65c0, w ∈ wsX3_init := fun _ h => List.mem_cons_of_mem _ (List.mem_append_left _ (List.mem_append_right _ h))
theorem i_X3_init_X3 : ∀ w ∈ wsX30, w ∈ wsX3_init := fun _ h => List.mem_cons_of_mem _ (List.mem_append_right _ h)
theorem i_X3_isTrue_X3 : ∀ w ∈ wsX30, w ∈ wsX3_isTrue := fun _ h => List.mem_cons_of_mem _ (List.mem_append_left _ (List.mem_append_left _ (List.mem_append_left _ (List.mem_append_right _ h))))
theorem i_X3_isTrueByHits_X3 : ∀ w ∈ wsX30, w ∈ wsX3_isTrueByHits := fun _ h => List.mem_cons_of_mem _ (List.mem_append_left _ (List.mem_append_left _ (List.mem_append_left _ (List.mem_append_right _ h))))
theorem i_X3_isTrueByHits_X5 : ∀ w ∈ wsX50, w ∈ wsX3_isTrueByHits := fun _ h => List.mem_cons_of_mem _ (List.mem_append_left _ (List.mem_append_left _ (List.mem_append_right _ h)))
theorem i_X4_init_Jx4a65c : ∀ w ∈ wsJx4a65c0, w ∈ wsX4_init := fun _ h => List.mem_cons_of_mem _ (List.mem_append_left _ (List.mem_append_right _ h))
theorem i_X4_init_X4 : ∀ w ∈ wsX40, w ∈ wsX4_init := fun _ h => List.mem_cons_of_mem _ (List.mem_append_right _ h)
theorem i_X4_lastProduct_X4 : ∀ w ∈ wsX40, w ∈ wsX4_lastProduct := fun _ h => List.mem_cons_of_mem _ (List.mem_append_left _ (List.mem_append_right _ h))
theorem i_X4_leastSize_X4 : ∀ w ∈ wsX40, w ∈ wsX4_leastSize := fun _ h => List.mem_cons_of_mem _ (List.mem_append_left _ (List.mem_append_left _ (List.mem_append_right _ h)))
theorem i_X4_leastSize_X3 : ∀ w ∈ wsX30, w ∈ wsX4_leastSize := fun _ h => List.mem_cons_of_mem _ (List.mem_append_left _ (List.mem_append_right _ h))
theorem i_X4_isSatisfied_X4 : ∀ w ∈ wsX40, w ∈ wsX4_isSatisfied := fun _ h => List.mem_cons_of_mem _ (List.mem_append_left _ (List.mem_append_left _ (List.mem_append_left _ (List.mem_append_left _ (List.mem_append_right _ h)))))
theorem i_X4_isSatisfiedByHits_X4 : ∀ w ∈ wsX40, w ∈ wsX4_isSatisfiedByHits := fun _ h => List.mem_cons_of_mem _ (List.mem_append_left _ (List.mem_append_left _ (List.mem_append_left _ (List.mem_append_left _ (List.mem_append_right _ h)))))
theorem ai_fill_s {f : Nat → Int32} {i : Nat} {x : Int32} : upd (fun j => if j < i then x else f j) i x = (fun j => if j < i + 1 then x else f j) := by
  funext j
  unfold upd
  by_cases c1 : j = i
  · rw [if_pos c1, if_pos (by omega)]
  · rw [if_neg c1]
    dsimp only
    by_cases c2 : j < i
    · rw [if_pos c2, if_pos (by omega)]
    · rw [if_neg c2, if_neg (by omega)]
theorem ai_tk_val {S : ai_S} {k : Nat} {x : Bool} (hx : ai_in (S 1 (S 9 k)) (S 10 k) (S 11 k) = x) (h4 : S 12 k ≤ 1) : (ai_b x = nI (S 12 k) → ai_tk S k = false) ∧ (¬ ai_b x = nI (S 12 k) → ai_tk S k = true) := by
  unfold ai_tk ai_tt
  rw [hx]
  have q : S 12 k = 0 ∨ S 12 k = 1 := by omega
  rcases q with q | q <;> rw [q] <;> cases x <;> decide
theorem ai_d0 : (fun j => if j < 6 then (-1 : Int32) else 0) = (fun i => ai_nD (if i < 6 then 0 else 1)) := by
  funext j
  by_cases h : j < 6
  · rw [if_pos h, if_pos h]; rfl
  · rw [if_neg h, if_neg h]; rfl
set_option maxHeartbeats 4000000 in
set_option maxRecDepth 100000 in
theorem k_J7_fill_53178 (l : Launch) (G : ai_G) (M : ai_M) {a g n : Nat} {f : Nat → Int32} {x : Int32} (h1 : M a = some (g, ai_eI G n f)) (hn : n ≤ 1000) : ai_C l yJ7_fill_53178 wsJ7_fill_53178 ({ frames := 0, cells := 0, slots := 0, locals := 0 } : Room) 0 0 G M [.ref a, .int x] (fun r M1 => r = none ∧ M1 = ai_U M a g (ai_eI G n (fun j => if j < n then x else f j))) := by
  refine y_start (by decide +kernel) rfl (Nat.le_of_ble_eq_true rfl) (Nat.le_of_ble_eq_true rfl) (fun x hx => by simp only [List.mem_cons, List.not_mem_nil, or_false] at hx; rcases hx with rfl | rfl <;> rfl) ?_
  intro p e s m below meth c B hnm
  have lp : ∀ (d : Nat) (i : Nat), (n < i + d) → (i ≤ n) → ai_Y p l e ({ frames := 0, cells := 0, slots := 0, locals := 0 } : Room) s m [.ref a, .int x].toArray below meth c G (MQ below (ai_Q G (fun r M1 => r = none ∧ M1 = ai_U M a g (ai_eI G n (fun j => if j < n then x else f j)))) [.ref a, .int x].toArray s 0 0 (ai_A G)) (ai_U M a g (ai_eI G n (fun j => if j < i then x else f j))) 0 0 [some (.ref a), some (.int x), some (.int (nI i)), some (.int (nI n))] 5 [] := by
    intro d
    induction d with
    | zero => intros; omega
    | succ d ih =>
      intro i hm hi
      refine y_iload_n B dJ7_fill_53178_5 rfl ?_
      refine y_iload_n B dJ7_fill_53178_6 rfl ?_
      refine y_icmp_ge B 20 dJ7_fill_53178_7 (by decide) (fun c7 => ?_) (fun c7 => ?_)
      · have q7 : i = n := Nat.le_antisymm hi ((nI_leI (by omega) (by omega)).mp c7)
        exact y_vret B dJ7_fill_53178_20 (Nat.le_of_ble_eq_true rfl) (Nat.le_of_ble_eq_true rfl) (⟨rfl, by rw [q7]⟩)
      · have q7 : i < n := Nat.lt_of_not_le (fun z => c7 ((nI_leI (by omega) (by omega)).mpr z))
        refine y_aload_n B dJ7_fill_53178_10 rfl ?_
        refine y_iload_n B dJ7_fill_53178_11 rfl ?_
        refine y_iload_n B dJ7_fill_53178_12 rfl ?_
        refine y_iastoreI B ai_U_s (vp_in_nI q7 (by omega)) dJ7_fill_53178_13 ?_
        rw [ai_UU, nI_clamp (by omega), ai_fill_s]
        refine y_iinc B (nI (i + 1)) dJ7_fill_53178_14 rfl (nI_1 i) ?_
        refine y_goto B 5 dJ7_fill_53178_17 (by decide) ?_
        exact ih (i + 1) (by omega) (by omega)
  have e0 : M = ai_U M a g (ai_eI G n (fun j => if j < 0 then x else f j)) := by funext b; by_cases q : b = a; rw [q, ai_U_s, h1]; congr 1; exact (ai_U_n q).symm
  refine y_iconst B (nI 0) dJ7_fill_53178_0 (by decide +kernel) ?_
  refine y_istore_n B dJ7_fill_53178_1 (Nat.le_of_ble_eq_true rfl) ?_
  refine y_aload_n B dJ7_fill_53178_2 rfl ?_
  refine y_alen B (nI n) 0 h1 rfl rfl dJ7_fill_53178_3 ?_
  refine y_istore_n B dJ7_fill_53178_4 (Nat.le_of_ble_eq_true rfl) ?_
  refine y_mem (M' := ai_U M a g (ai_eI G n (fun j => if j < 0 then x else f j))) (fun b g9 e9 hb => (congrFun e0 b).trans hb) ?_
  exact lp (n + 1) 0 (by omega) (by omega)
set_option maxHeartbeats 4000000 in
set_option maxRecDepth 100000 in
theorem k_X0_init (l : Launch) (G : ai_G) (M : ai_M) {dr gd : Nat} (gv : Nat) (h1 : M dr = some (gd, .inr (1, [.null]))) : ai_C l yX0_init wsX0_init ({ frames := 1, cells := 1, slots := 6, locals := 23 } : Room) 1 6 G M [.ref dr] (fun r M1 => r = none ∧ ∃ q, M q = none ∧ M1 dr = some (gd, .inr (1, [.ref q])) ∧ M1 q = some (gv, ai_eI G 6 (fun i => ai_nD (if i < 6 then 0 else 1))) ∧ ∀ (b g : Nat) (e : va_E), M b = some (g, e) → b ≠ dr → M1 b = some (g, e)) := by
  refine y_start (by decide +kernel) rfl (Nat.le_of_ble_eq_true rfl) (Nat.le_of_ble_eq_true rfl) (fun x hx => by simp only [List.mem_cons, List.not_mem_nil, or_false] at hx; rcases hx with rfl <;> rfl) ?_
  intro p e s m below meth c B hnm
  have hinit : meth.name = "<init>" := hnm
  refine y_aload_n B dX0_init_0 rfl ?_
  refine y_oinit B (by decide +kernel) (by decide +kernel) (by decide +kernel) (Nat.le_of_ble_eq_true rfl) (Nat.le_of_ble_eq_true rfl) dX0_init_1 ?_
  refine y_aload_n B dX0_init_4 rfl ?_
  refine y_bipush B (nI 6) dX0_init_5 (by decide +kernel) ?_
  refine y_newa B (atype := .int) (gv) 0 (ty := .int) (N' := 6) (a0 := (6, .inl (fun _ => 0))) (by decide +kernel) rfl rfl (fun _ => rfl) (by decide) (nI_clamp (by decide)) (by decide) (Nat.le_of_ble_eq_true rfl) (Nat.le_of_ble_eq_true rfl) dX0_init_7 (fun q hq => ?_)
  refine y_putF B hinit (ref := "AlertIndex$Draft") (ci := 1) (C := RX0) (T := TX0) (N := 1) (ty := (.array .int)) (ai_U_f hq h1) rfl i_X0_init_X0 tyX0 tyX0_ok nmX0 0 (by decide) (by decide +kernel) (fun _ h9 => h9) rfl rfl (by decide +kernel) rfl rfl (Nat.le_of_ble_eq_true rfl) dX0_init_9 ?_
  have hnq : q ≠ dr := fun z => by rw [← z, hq] at h1; cases h1
  refine y_aload_n B dX0_init_12 rfl ?_
  refine y_get B (ref := "AlertIndex$Draft") (ci := 1) (C := RX0) (T := TX0) (N := 1) ai_U_s rfl i_X0_init_X0 0 (by decide) (by decide +kernel) (fun _ h9 => h9) rfl dX0_init_13 ?_
  refine y_iconst B (-1) dX0_init_16 (by decide +kernel) ?_
  refine y_callS B 2 _ _ (k_J7_fill_53178 l G _ (f := fun _ => 0) ((ai_U_n hnq).trans ai_U_s) (by decide)) gX0_init_J7_fill_53178 (by decide +kernel) rfl rfl rfl rfl ⟨(Nat.le_of_ble_eq_true rfl), (Nat.le_of_ble_eq_true rfl)⟩ (Nat.le_of_ble_eq_true rfl) ⟨(Nat.le_of_ble_eq_true rfl), (Nat.le_of_ble_eq_true rfl)⟩ dX0_init_17 rfl (fun r M1 hr => ?_)
  obtain ⟨rfl, rfl⟩ := hr
  exact y_vret B dX0_init_20 (Nat.le_of_ble_eq_true rfl) (Nat.le_of_ble_eq_true rfl) (⟨rfl, q, hq, (ai_U_n (fun z => hnq z.symm)).trans ai_U_s, ai_U_s.trans (by rw [ai_d0]), fun b g e hb hn => (ai_U_n (fun z => by rw [z, hq] at hb; cases hb)).trans ((ai_U_n hn).trans (ai_U_f hq hb))⟩)
set_option maxHeartbeats 4000000 in
set_option maxRecDepth 100000 in
theorem k_X0_valueOf (l : Launch) (G : ai_G) (M : ai_M) {dr a : Nat} {S : ai_S} (hD : ai_Dr G M S dr) (ha : a < 6) : ai_C l yX0_valueOf wsX0_valueOf ({ frames := 0, cells := 0, slots := 0, locals := 0 } : Room) 0 0 G M [.ref dr, .int (nI a)] (fun r M1 => r = some (.int (ai_nD (S 1 a))) ∧ M1 = M) := by
  refine y_start (by decide +kernel) rfl (Nat.le_of_ble_eq_true rfl) (Nat.le_of_ble_eq_true rfl) (fun x hx => by simp only [List.mem_cons, List.not_mem_nil, or_false] at hx; rcases hx with rfl | rfl <;> rfl) ?_
  intro p e s m below meth c B hnm
  obtain ⟨dv, hD1, hD2⟩ := hD
  refine y_iload_n B dX0_valueOf_0 rfl ?_
  refine y_if_lt B 22 dX0_valueOf_1 (by decide) (fun c1 => absurd c1 (nI_pos (by omega))) (fun c1 => ?_)
  refine y_iload_n B dX0_valueOf_4 rfl ?_
  refine y_aload_n B dX0_valueOf_5 rfl ?_
  refine y_get B (ref := "AlertIndex$Draft") (ci := 1) (C := RX0) (T := TX0) (N := 1) hD1 rfl i_X0_valueOf_X0 0 (by decide) (by decide +kernel) (fun _ h9 => h9) rfl dX0_valueOf_6 ?_
  refine y_alen B (nI 6) 0 hD2 rfl rfl dX0_valueOf_9 ?_
  refine y_icmp_ge B 22 dX0_valueOf_10 (by decide) (fun c10 => absurd c10 (nI_ge ha (by decide))) (fun c10 => ?_)
  refine y_aload_n B dX0_valueOf_13 rfl ?_
  refine y_get B (ref := "AlertIndex$Draft") (ci := 1) (C := RX0) (T := TX0) (N := 1) hD1 rfl i_X0_valueOf_X0 0 (by decide) (by decide +kernel) (fun _ h9 => h9) rfl dX0_valueOf_14 ?_
  refine y_iload_n B dX0_valueOf_17 rfl ?_
  refine y_ialoadI B (ai_nD (S 1 a)) hD2 (vp_in_nI ha (by decide)) (by rw [nI_clamp (by omega)]) dX0_valueOf_18 ?_
  refine y_goto B 23 dX0_valueOf_19 (by decide) ?_
  exact y_iret B dX0_valueOf_23 (Nat.le_of_ble_eq_true rfl) (Nat.le_of_ble_eq_true rfl) (⟨rfl, rfl⟩)
set_option maxHeartbeats 4000000 in
set_option maxRecDepth 100000 in
theorem k_X0_replace (l : Launch) (G : ai_G) (M : ai_M) {dr dv a w : Nat} {S : ai_S} (hD1 : M dr = some (104, .inr (1, [.ref dv]))) (hD2 : M dv = some (105, ai_eI G 6 (fun i => ai_nD (S 1 i)))) (ha : a < 6) : ai_C l yX0_replace wsX0_replace ({ frames := 1, cells := 0, slots := 0, locals := 21 } : Room) 0 0 G M [.ref dr, .int (nI a), .int (ai_nD w)] (fun r M1 => r = some (.int (ai_nD (S 1 a))) ∧ M1 = ai_U M dv 105 (ai_eI G 6 (fun i => ai_nD (va_up (S 1) a w i)))) := by
  refine y_start (by decide +kernel) rfl (Nat.le_of_ble_eq_true rfl) (Nat.le_of_ble_eq_true rfl) (fun x hx => by simp only [List.mem_cons, List.not_mem_nil, or_false] at hx; rcases hx with rfl | rfl | rfl <;> rfl) ?_
  intro p e s m below meth c B hnm
  refine y_aload_n B dX0_replace_0 rfl ?_
  refine y_iload_n B dX0_replace_1 rfl ?_
  refine y_callV B 1 (q := (RX0, TX0, 1)) _ _ (k_X0_valueOf l G _ ⟨dv, hD1, hD2⟩ ha) hD1 rfl gX0_replace_X0_valueOf (by decide +kernel) rfl rfl rfl rfl ⟨(Nat.le_of_ble_eq_true rfl), (Nat.le_of_ble_eq_true rfl)⟩ (Nat.le_of_ble_eq_true rfl) ⟨(Nat.le_of_ble_eq_true rfl), (Nat.le_of_ble_eq_true rfl)⟩ dX0_replace_2 rfl (fun r M1 hr => ?_)
  obtain ⟨rfl, rfl⟩ := hr
  refine y_istore_n B dX0_replace_5 (Nat.le_of_ble_eq_true rfl) ?_
  refine y_iload_n B dX0_replace_6 rfl ?_
  refine y_if_lt B 26 dX0_replace_7 (by decide) (fun c7 => absurd c7 (nI_pos (by omega))) (fun c7 => ?_)
  refine y_iload_n B dX0_replace_10 rfl ?_
  refine y_aload_n B dX0_replace_11 rfl ?_
  refine y_get B (ref := "AlertIndex$Draft") (ci := 1) (C := RX0) (T := TX0) (N := 1) hD1 rfl i_X0_replace_X0 0 (by decide) (by decide +kernel) (fun _ h9 => h9) rfl dX0_replace_12 ?_
  refine y_alen B (nI 6) 0 hD2 rfl rfl dX0_replace_15 ?_
  refine y_icmp_ge B 26 dX0_replace_16 (by decide) (fun c16 => absurd c16 (nI_ge ha (by decide))) (fun c16 => ?_)
  refine y_aload_n B dX0_replace_19 rfl ?_
  refine y_get B (ref := "AlertIndex$Draft") (ci := 1) (C := RX0) (T := TX0) (N := 1) hD1 rfl i_X0_replace_X0 0 (by decide) (by decide +kernel) (fun _ h9 => h9) rfl dX0_replace_20 ?_
  refine y_iload_n B dX0_replace_23 rfl ?_
  refine y_iload_n B dX0_replace_24 rfl ?_
  refine y_iastoreI B hD2 (vp_in_nI ha (by decide)) dX0_replace_25 ?_
  refine y_iload_n B dX0_replace_26 rfl ?_
  exact y_iret B dX0_replace_27 (Nat.le_of_ble_eq_true rfl) (Nat.le_of_ble_eq_true rfl) (⟨rfl, by rw [nI_clamp (by omega), ai_upd]⟩)
set_option maxHeartbeats 4000000 in
set_option maxRecDepth 100000 in
theorem k_X5_init (l : Launch) (G : ai_G) (M : ai_M) {a g x y z b : Nat} (h1 : M a = some (g, .inr (6, [.int 0, .int 0, .int 0, .int 0]))) (hb : b = 0 ∨ b = 1) : ai_C l yX5_init wsX5_init ({ frames := 1, cells := 0, slots := 0, locals := 12 } : Room) 0 0 G M [.ref a, .int (nI x), .int (nI y), .int (nI z), .int (nI b)] (fun r M1 => r = none ∧ M1 = ai_U M a g (.inr (6, [.int (nI x), .int (nI y), .int (nI z), .int (nI b)]))) := by
  refine y_start (by decide +kernel) rfl (Nat.le_of_ble_eq_true rfl) (Nat.le_of_ble_eq_true rfl) (fun x hx => by simp only [List.mem_cons, List.not_mem_nil, or_false] at hx; rcases hx with rfl | rfl | rfl | rfl | rfl <;> rfl) ?_
  intro p e s m below meth c B hnm
  have hinit : meth.name = "<init>" := hnm
  refine y_aload_n B dX5_init_0 rfl ?_
  refine y_oinit B (by decide +kernel) (by decide +kernel) (by decide +kernel) (Nat.le_of_ble_eq_true rfl) (Nat.le_of_ble_eq_true rfl) dX5_init_1 ?_
  refine y_aload_n B dX5_init_4 rfl ?_
  refine y_iload_n B dX5_init_5 rfl ?_
  refine y_putF B hinit (ref := "AlertIndex$Test") (ci := 6) (C := RX5) (T := TX5) (N := 4) (ty := .int) h1 rfl i_X5_init_X5 tyX5 tyX5_ok nmX5 0 (by decide) (by decide +kernel) (fun _ h9 => h9) rfl rfl (by decide +kernel) rfl rfl (Nat.le_of_ble_eq_true rfl) dX5_init_6 ?_
  refine y_aload_n B dX5_init_9 rfl ?_
  refine y_iload_n B dX5_init_10 rfl ?_
  refine y_putF B hinit (ref := "AlertIndex$Test") (ci := 6) (C := RX5) (T := TX5) (N := 4) (ty := .int) ai_U_s rfl i_X5_init_X5 tyX5 tyX5_ok nmX5 1 (by decide) (by decide +kernel) (fun _ h9 => h9) rfl rfl (by decide +kernel) rfl rfl (Nat.le_of_ble_eq_true rfl) dX5_init_11 ?_
  rw [ai_UU]
  refine y_aload_n B dX5_init_14 rfl ?_
  refine y_iload_n B dX5_init_15 rfl ?_
  refine y_putF B hinit (ref := "AlertIndex$Test") (ci := 6) (C := RX5) (T := TX5) (N := 4) (ty := .int) ai_U_s rfl i_X5_init_X5 tyX5 tyX5_ok nmX5 2 (by decide) (by decide +kernel) (fun _ h9 => h9) rfl rfl (by decide +kernel) rfl rfl (Nat.le_of_ble_eq_true rfl) dX5_init_16 ?_
  rw [ai_UU]
  refine y_aload_n B dX5_init_19 rfl ?_
  refine y_iload B dX5_init_20 rfl ?_
  refine y_putF B hinit (ref := "AlertIndex$Test") (ci := 6) (C := RX5) (T := TX5) (N := 4) (ty := .boolean) ai_U_s rfl i_X5_init_X5 tyX5 tyX5_ok nmX5 3 (by decide) (by decide +kernel) (fun _ h9 => h9) rfl rfl (by decide +kernel) (by rcases hb with rfl | rfl <;> rfl) (by rcases hb with rfl | rfl <;> rfl) (Nat.le_of_ble_eq_true rfl) dX5_init_22 ?_
  rw [ai_UU]
  exact y_vret B dX5_init_25 (Nat.le_of_ble_eq_true rfl) (Nat.le_of_ble_eq_true rfl) (⟨rfl, rfl⟩)
theorem ai_in_f1 {v lo hi : Nat} (h : v = 0) : ai_in v lo hi = false := by unfold ai_in; rw [decide_eq_false (by omega)]; rfl
theorem ai_in_f2 {v lo hi : Nat} (h : v < lo) : ai_in (v + 1) lo hi = false := by unfold ai_in; rw [decide_eq_false (by omega)]; rfl
theorem ai_in_f3 {v lo hi : Nat} (h : hi < v) : ai_in (v + 1) lo hi = false := by unfold ai_in; rw [decide_eq_false (p := v + 1 ≤ hi + 1) (by omega), Bool.and_false]
theorem ai_in_t {v lo hi : Nat} (h : lo ≤ v) (h2 : v ≤ hi) : ai_in (v + 1) lo hi = true := by unfold ai_in; rw [decide_eq_true (p := lo + 1 ≤ v + 1) (by omega), decide_eq_true (p := v + 1 ≤ hi + 1) (by omega)]; rfl
set_option maxHeartbeats 4000000 in
set_option maxRecDepth 100000 in
theorem k_X5_isTrue (l : Launch) (G : ai_G) (M : ai_M) {dr a g k : Nat} {S : ai_S} (hD : ai_Dr G M S dr) (hT : ai_Te M S k g a) (hk : ai_okT S k) (hv : S 1 (S 9 k) ≤ 64) : ai_C l yX5_isTrue wsX5_isTrue ({ frames := 1, cells := 0, slots := 0, locals := 21 } : Room) 0 0 G M [.ref a, .ref dr] (fun r M1 => r = some (.int (ai_b (ai_tk S k))) ∧ M1 = M) := by
  refine y_start (by decide +kernel) rfl (Nat.le_of_ble_eq_true rfl) (Nat.le_of_ble_eq_true rfl) (fun x hx => by simp only [List.mem_cons, List.not_mem_nil, or_false] at hx; rcases hx with rfl | rfl <;> rfl) ?_
  intro p e s m below meth c B hnm
  obtain ⟨hk1, hk2, hk3, hk4⟩ := hk
  unfold ai_Te at hT
  obtain ⟨dv, hD1, hD2⟩ := id hD
  have j35 : ∀ (x : Bool), (ai_in (S 1 (S 9 k)) (S 10 k) (S 11 k) = x) → ai_Y p l e ({ frames := 1, cells := 0, slots := 0, locals := 21 } : Room) s m [.ref a, .ref dr].toArray below meth c G (MQ below (ai_Q G (fun r M1 => r = some (.int (ai_b (ai_tk S k))) ∧ M1 = M)) [.ref a, .ref dr].toArray s 0 0 (ai_A G)) M 0 0 [some (.ref a), some (.ref dr), some (.int (ai_nD (S 1 (S 9 k)))), none] 35 [.int (ai_b x)] := by
    intro x hx
    refine y_istore_n B dX5_isTrue_35 (Nat.le_of_ble_eq_true rfl) ?_
    refine y_iload_n B dX5_isTrue_36 rfl ?_
    refine y_aload_n B dX5_isTrue_37 rfl ?_
    refine y_get B (ref := "AlertIndex$Test") (ci := 6) (C := RX5) (T := TX5) (N := 4) hT rfl i_X5_isTrue_X5 3 (by decide) (by decide +kernel) (fun _ h9 => h9) rfl dX5_isTrue_38 ?_
    refine y_icmp_eq B 48 dX5_isTrue_41 (by decide) (fun c41 => ?_) (fun c41 => ?_)
    · have q41 := (ai_tk_val hx hk4).1 c41
      refine y_iconst B (nI 0) dX5_isTrue_48 (by decide +kernel) ?_
      exact y_zret B dX5_isTrue_49 (Nat.le_of_ble_eq_true rfl) (Nat.le_of_ble_eq_true rfl) rfl (⟨by rw [q41]; rfl, rfl⟩)
    · have q41 := (ai_tk_val hx hk4).2 c41
      refine y_iconst B (nI 1) dX5_isTrue_44 (by decide +kernel) ?_
      refine y_goto B 49 dX5_isTrue_45 (by decide) ?_
      exact y_zret B dX5_isTrue_49 (Nat.le_of_ble_eq_true rfl) (Nat.le_of_ble_eq_true rfl) rfl (⟨by rw [q41]; rfl, rfl⟩)
  refine y_aload_n B dX5_isTrue_0 rfl ?_
  refine y_aload_n B dX5_isTrue_1 rfl ?_
  refine y_get B (ref := "AlertIndex$Test") (ci := 6) (C := RX5) (T := TX5) (N := 4) hT rfl i_X5_isTrue_X5 0 (by decide) (by decide +kernel) (fun _ h9 => h9) rfl dX5_isTrue_2 ?_
  refine y_callV B 1 (q := (RX0, TX0, 1)) _ _ (k_X0_valueOf l G _ hD hk1) hD1 rfl gX5_isTrue_X0_valueOf (by decide +kernel) rfl rfl rfl rfl ⟨(Nat.le_of_ble_eq_true rfl), (Nat.le_of_ble_eq_true rfl)⟩ (Nat.le_of_ble_eq_true rfl) ⟨(Nat.le_of_ble_eq_true rfl), (Nat.le_of_ble_eq_true rfl)⟩ dX5_isTrue_5 rfl (fun r M1 hr => ?_)
  obtain ⟨rfl, rfl⟩ := hr
  refine y_istore_n B dX5_isTrue_8 (Nat.le_of_ble_eq_true rfl) ?_
  refine y_iload_n B dX5_isTrue_9 rfl ?_
  refine y_iconst B (-1) dX5_isTrue_10 (by decide +kernel) ?_
  refine y_icmp_eq B 34 dX5_isTrue_11 (by decide) (fun c11 => ?_) (fun c11 => ?_)
  · have q11 := (ai_nDz hv).mp c11
    refine y_iconst B (nI 0) dX5_isTrue_34 (by decide +kernel) ?_
    exact j35 false (ai_in_f1 q11)
  · obtain ⟨v, hv9⟩ : ∃ v, S 1 (S 9 k) = v + 1 := ⟨S 1 (S 9 k) - 1, by have q11 : S 1 (S 9 k) ≠ 0 := fun z => c11 ((ai_nDz hv).mpr z); omega⟩
    refine y_iload_n B dX5_isTrue_14 rfl ?_
    refine y_aload_n B dX5_isTrue_15 rfl ?_
    refine y_get B (ref := "AlertIndex$Test") (ci := 6) (C := RX5) (T := TX5) (N := 4) hT rfl i_X5_isTrue_X5 1 (by decide) (by decide +kernel) (fun _ h9 => h9) rfl dX5_isTrue_16 ?_
    refine y_icmp_lt B 34 dX5_isTrue_19 (by decide) (fun c19 => ?_) (fun c19 => ?_)
    · rw [hv9, ai_nDs] at c19
      have q19 := (nI_ltI (by omega) (by omega)).mp c19
      refine y_iconst B (nI 0) dX5_isTrue_34 (by decide +kernel) ?_
      exact j35 false (by rw [hv9]; exact ai_in_f2 q19)
    · rw [hv9, ai_nDs] at c19
      have q19 : S 10 k ≤ v := Nat.le_of_not_lt (fun z => c19 ((nI_ltI (by omega) (by omega)).mpr z))
      refine y_iload_n B dX5_isTrue_22 rfl ?_
      refine y_aload_n B dX5_isTrue_23 rfl ?_
      refine y_get B (ref := "AlertIndex$Test") (ci := 6) (C := RX5) (T := TX5) (N := 4) hT rfl i_X5_isTrue_X5 2 (by decide) (by decide +kernel) (fun _ h9 => h9) rfl dX5_isTrue_24 ?_
      refine y_icmp_gt B 34 dX5_isTrue_27 (by decide) (fun c27 => ?_) (fun c27 => ?_)
      · rw [hv9, ai_nDs] at c27
        have q27 := (nI_ltI (by omega) (by omega)).mp c27
        refine y_iconst B (nI 0) dX5_isTrue_34 (by decide +kernel) ?_
        exact j35 false (by rw [hv9]; exact ai_in_f3 q27)
      · rw [hv9, ai_nDs] at c27
        have q27 : v ≤ S 11 k := Nat.le_of_not_lt (fun z => c27 ((nI_ltI (by omega) (by omega)).mpr z))
        refine y_iconst B (nI 1) dX5_isTrue_30 (by decide +kernel) ?_
        refine y_goto B 35 dX5_isTrue_31 (by decide) ?_
        exact j35 true (by rw [hv9]; exact ai_in_t (by omega) (by omega))
set_option maxHeartbeats 4000000 in
set_option maxRecDepth 100000 in
theorem k_X2_init (l : Launch) (G : ai_G) (M : ai_M) {a g pr : Nat} {nx : Option Nat} (h1 : M a = some (g, .inr (3, [.null, .null]))) : ai_C l yX2_init wsX2_init ({ frames := 1, cells := 0, slots := 0, locals := 12 } : Room) 0 0 G M [.ref a, .ref pr, va_rf nx] (fun r M1 => r = none ∧ M1 = ai_U M a g (.inr (3, [.ref pr, va_rf nx]))) := by
  refine y_start (by decide +kernel) rfl (Nat.le_of_ble_eq_true rfl) (by cases nx <;> exact Nat.le_of_ble_eq_true rfl) (fun x hx => by simp only [List.mem_cons, List.not_mem_nil, or_false] at hx; rcases hx with rfl | rfl | rfl; rfl; rfl; cases nx <;> rfl) ?_
  intro p e s m below meth c B hnm
  have hinit : meth.name = "<init>" := hnm
  cases nx with
  | none =>
    refine y_aload_n B dX2_init_0 rfl ?_
    refine y_oinit B (by decide +kernel) (by decide +kernel) (by decide +kernel) (Nat.le_of_ble_eq_true rfl) (Nat.le_of_ble_eq_true rfl) dX2_init_1 ?_
    refine y_aload_n B dX2_init_4 rfl ?_
    refine y_aload_n B dX2_init_5 rfl ?_
    refine y_putF B hinit (ref := "AlertIndex$Posting") (ci := 3) (C := RX2) (T := TX2) (N := 2) (ty := (.object "AlertIndex$Product")) h1 rfl i_X2_init_X2 tyX2 tyX2_ok nmX2 0 (by decide) (by decide +kernel) (fun _ h9 => h9) rfl rfl (by decide +kernel) rfl rfl (Nat.le_of_ble_eq_true rfl) dX2_init_6 ?_
    refine y_aload_n B dX2_init_9 rfl ?_
    refine y_aloadN_n B dX2_init_10 rfl ?_
    refine y_putF B hinit (ref := "AlertIndex$Posting") (ci := 3) (C := RX2) (T := TX2) (N := 2) (ty := (.object "AlertIndex$Posting")) ai_U_s rfl i_X2_init_X2 tyX2 tyX2_ok nmX2 1 (by decide) (by decide +kernel) (fun _ h9 => h9) rfl rfl (by decide +kernel) rfl rfl (Nat.le_of_ble_eq_true rfl) dX2_init_11 ?_
    rw [ai_UU]
    exact y_vret B dX2_init_14 (Nat.le_of_ble_eq_true rfl) (Nat.le_of_ble_eq_true rfl) (⟨rfl, rfl⟩)
  | some nx =>
    refine y_aload_n B dX2_init_0 rfl ?_
    refine y_oinit B (by decide +kernel) (by decide +kernel) (by decide +kernel) (Nat.le_of_ble_eq_true rfl) (Nat.le_of_ble_eq_true rfl) dX2_init_1 ?_
    refine y_aload_n B dX2_init_4 rfl ?_
    refine y_aload_n B dX2_init_5 rfl ?_
    refine y_putF B hinit (ref := "AlertIndex$Posting") (ci := 3) (C := RX2) (T := TX2) (N := 2) (ty := (.object "AlertIndex$Product")) h1 rfl i_X2_init_X2 tyX2 tyX2_ok nmX2 0 (by decide) (by decide +kernel) (fun _ h9 => h9) rfl rfl (by decide +kernel) rfl rfl (Nat.le_of_ble_eq_true rfl) dX2_init_6 ?_
    refine y_aload_n B dX2_init_9 rfl ?_
    refine y_aload_n B dX2_init_10 rfl ?_
    refine y_putF B hinit (ref := "AlertIndex$Posting") (ci := 3) (C := RX2) (T := TX2) (N := 2) (ty := (.object "AlertIndex$Posting")) ai_U_s rfl i_X2_init_X2 tyX2 tyX2_ok nmX2 1 (by decide) (by decide +kernel) (fun _ h9 => h9) rfl rfl (by decide +kernel) rfl rfl (Nat.le_of_ble_eq_true rfl) dX2_init_11 ?_
    rw [ai_UU]
    exact y_vret B dX2_init_14 (Nat.le_of_ble_eq_true rfl) (Nat.le_of_ble_eq_true rfl) (⟨rfl, rfl⟩)
set_option maxHeartbeats 4000000 in
set_option maxRecDepth 100000 in
theorem k_X3_init (l : Launch) (G : ai_G) (M : ai_M) {a g : Nat} (gl : Nat) (hgl : g ≠ gl ∧ g ≠ gl + 1) (h1 : M a = some (g, .inr (4, [.null, .int 0, .int 0]))) : ai_C l yX3_init wsX3_init ({ frames := 4, cells := 1, slots := 3, locals := 72 } : Room) 1 3 G M [.ref a] (fun r M1 => r = none ∧ ∃ q, M q = none ∧ M1 a = some (g, .inr (4, [.ref q, .int (nI 0), .int (nI 0)])) ∧ ai_l G M1 q gl 0 (fun _ => 0) ∧ ∀ (b g : Nat) (e : va_E), M b = some (g, e) → b ≠ a → M1 b = some (g, e)) := by
  refine y_start (by decide +kernel) rfl (Nat.le_of_ble_eq_true rfl) (Nat.le_of_ble_eq_true rfl) (fun x hx => by simp only [List.mem_cons, List.not_mem_nil, or_false] at hx; rcases hx with rfl <;> rfl) ?_
  intro p e s m below meth c B hnm
  have hinit : meth.name = "<init>" := hnm
  refine y_aload_n B dX3_init_0 rfl ?_
  refine y_oinit B (by decide +kernel) (by decide +kernel) (by decide +kernel) (Nat.le_of_ble_eq_true rfl) (Nat.le_of_ble_eq_true rfl) dX3_init_1 ?_
  refine y_aload_n B dX3_init_4 rfl ?_
  refine y_new B (C := RJx4a65c) (T := TJx4a65c) (N := 3) (ci := 0) (gl) [.int 0, .null, .int 0] i_X3_init_Jx4a65c tyJx4a65c tyJx4a65c_ok (by decide +kernel) (by decide +kernel) (by decide +kernel) rfl (fun j hj => by rcases (show j = 0 ∨ j = 1 ∨ j = 2 by omega) with rfl | rfl | rfl <;> rfl) (Nat.le_of_ble_eq_true rfl) (Nat.le_of_ble_eq_true rfl) dX3_init_5 (fun q hq => ?_)
  have hnq : q ≠ a := fun z => by rw [← z, hq] at h1; cases h1
  refine y_dup B dX3_init_8 rfl ?_
  refine y_callI B 0 _ _ (k_Jx4a65c_init_da8c8 l G _ ai_U_s) gX3_init_Jx4a65c_init_da8c8 (by decide +kernel) (by decide +kernel) (by decide +kernel) rfl (by decide +kernel) rfl rfl rfl rfl ⟨(Nat.le_of_ble_eq_true rfl), (Nat.le_of_ble_eq_true rfl)⟩ (Nat.le_of_ble_eq_true rfl) ⟨(Nat.le_of_ble_eq_true rfl), (Nat.le_of_ble_eq_true rfl)⟩ dX3_init_9 rfl (fun r M1 hr => ?_)
  obtain ⟨rfl, rfl⟩ := hr
  rw [ai_UU]
  refine y_putF B hinit (ref := "AlertIndex$Product") (ci := 4) (C := RX3) (T := TX3) (N := 3) (ty := (.object "java/util/List")) ((ai_U_n (fun z => hnq z.symm)).trans h1) rfl i_X3_init_X3 tyX3 tyX3_ok nmX3 0 (by decide) (by decide +kernel) (fun _ h9 => h9) rfl rfl (by decide +kernel) rfl rfl (Nat.le_of_ble_eq_true rfl) dX3_init_12 ?_
  refine y_aload_n B dX3_init_15 rfl ?_
  refine y_iconst B (nI 0) dX3_init_16 (by decide +kernel) ?_
  refine y_put B (ref := "AlertIndex$Product") (ci := 4) (C := RX3) (T := TX3) (N := 3) (ty := .int) ai_U_s rfl i_X3_init_X3 tyX3 tyX3_ok nmX3 1 (by decide) (by decide +kernel) (fun _ h9 => h9) rfl (by decide +kernel) rfl rfl (Nat.le_of_ble_eq_true rfl) dX3_init_17 ?_
  rw [ai_UU]
  refine y_aload_n B dX3_init_20 rfl ?_
  refine y_iconst B (nI 0) dX3_init_21 (by decide +kernel) ?_
  refine y_put B (ref := "AlertIndex$Product") (ci := 4) (C := RX3) (T := TX3) (N := 3) (ty := .int) ai_U_s rfl i_X3_init_X3 tyX3 tyX3_ok nmX3 2 (by decide) (by decide +kernel) (fun _ h9 => h9) rfl (by decide +kernel) rfl rfl (Nat.le_of_ble_eq_true rfl) dX3_init_22 ?_
  rw [ai_UU]
  exact y_vret B dX3_init_25 (Nat.le_of_ble_eq_true rfl) (Nat.le_of_ble_eq_true rfl) (⟨rfl, q, hq, ai_U_s, ai_l_new.keep (fun b g9 e hb h9 => (ai_U_n (fun z => by subst z; rw [ai_U_n (fun z => hnq z.symm), h1] at hb; cases hb; omega)).trans hb), fun b g9 e hb hn => (ai_U_n hn).trans (ai_U_f hq hb)⟩)
set_option maxHeartbeats 4000000 in
set_option maxRecDepth 100000 in
theorem k_X3_isTrue (l : Launch) (G : ai_G) (M : ai_M) {dr a j : Nat} {S : ai_S} (hD : ai_Dr G M S dr) (hv : ∀ i, i < 6 → S 1 i ≤ 64) (hP : ai_Pd G M S j a) (hk : ai_okP S j) : ai_C l yX3_isTrue wsX3_isTrue ({ frames := 3, cells := 0, slots := 0, locals := 64 } : Room) 0 0 G M [.ref a, .ref dr] (fun r M1 => r = some (.int (ai_b (ai_pt S j))) ∧ M1 = M) := by
  refine y_start (by decide +kernel) rfl (Nat.le_of_ble_eq_true rfl) (Nat.le_of_ble_eq_true rfl) (fun x hx => by simp only [List.mem_cons, List.not_mem_nil, or_false] at hx; rcases hx with rfl | rfl <;> rfl) ?_
  intro p e s m below meth c B hnm
  obtain ⟨tl, ta, hits, hA, hL, hT⟩ := hP
  obtain ⟨hk1, hk2⟩ := hk
  obtain ⟨mc, arr, cap, hh, hl1, -⟩ := id hL
  have lp : ∀ (d : Nat) (i : Nat), (S 8 j < i + d) → (i ≤ S 8 j) → (∀ t, t < i → ai_tk S (4 * j + t) = true) → ai_Y p l e ({ frames := 3, cells := 0, slots := 0, locals := 64 } : Room) s m [.ref a, .ref dr].toArray below meth c G (MQ below (ai_Q G (fun r M1 => r = some (.int (ai_b (ai_pt S j))) ∧ M1 = M)) [.ref a, .ref dr].toArray s 0 0 (ai_A G)) M 0 0 [some (.ref a), some (.ref dr), some (.int (nI i))] 2 [] := by
    intro d
    induction d with
    | zero => intros; omega
    | succ d ih =>
      intro i hm hi ha
      refine y_iload_n B dX3_isTrue_2 rfl ?_
      refine y_aload_n B dX3_isTrue_3 rfl ?_
      refine y_get B (ref := "AlertIndex$Product") (ci := 4) (C := RX3) (T := TX3) (N := 3) hA rfl i_X3_isTrue_X3 0 (by decide) (by decide +kernel) (fun _ h9 => h9) rfl dX3_isTrue_4 ?_
      refine y_callF B 0 (x := ⟨"java/util/List", "size", "()I"⟩) (q := (RJx4a65c, TJx4a65c, 3)) _ _ (k_Jx4a65c_size_8abf5 l G _ hL) hl1 rfl gX3_isTrue_Jx4a65c_size_8abf5_f23Jx4a65c B.2.2.2.2.2.2.2.2.1.1.2.2.2.2.2.2.1 (by decide +kernel) rfl rfl rfl rfl ⟨(Nat.le_of_ble_eq_true rfl), (Nat.le_of_ble_eq_true rfl)⟩ (Nat.le_of_ble_eq_true rfl) ⟨(Nat.le_of_ble_eq_true rfl), (Nat.le_of_ble_eq_true rfl)⟩ dX3_isTrue_7 rfl (fun r M1 hr => ?_)
      obtain ⟨rfl, rfl⟩ := hr
      refine y_icmp_ge B 43 dX3_isTrue_12 (by decide) (fun c12 => ?_) (fun c12 => ?_)
      · have q12 : S 8 j ≤ i := (nI_leI (by omega) (by omega)).mp c12
        refine y_iconst B (nI 1) dX3_isTrue_43 (by decide +kernel) ?_
        exact y_zret B dX3_isTrue_44 (Nat.le_of_ble_eq_true rfl) (Nat.le_of_ble_eq_true rfl) rfl (⟨by unfold ai_pt; rw [(ai_all_iff _ _).mpr (fun t ht => ha t (by omega))]; rfl, rfl⟩)
      · have q12 : i < S 8 j := Nat.lt_of_not_le (fun z => c12 ((nI_leI (by omega) (by omega)).mpr z))
        refine y_aload_n B dX3_isTrue_15 rfl ?_
        refine y_get B (ref := "AlertIndex$Product") (ci := 4) (C := RX3) (T := TX3) (N := 3) hA rfl i_X3_isTrue_X3 0 (by decide) (by decide +kernel) (fun _ h9 => h9) rfl dX3_isTrue_16 ?_
        refine y_iload_n B dX3_isTrue_19 rfl ?_
        refine y_callF B 1 (x := ⟨"java/util/List", "get", "(I)Ljava/lang/Object;"⟩) (q := (RJx4a65c, TJx4a65c, 3)) _ _ (k_Jx4a65c_get_915e3 l G _ hL q12) hl1 rfl gX3_isTrue_Jx4a65c_get_915e3_f29Jx4a65c B.2.2.2.2.2.2.2.2.1.1.2.2.2.2.2.2.2.2.1 (by decide +kernel) rfl rfl rfl rfl ⟨(Nat.le_of_ble_eq_true rfl), (Nat.le_of_ble_eq_true rfl)⟩ (Nat.le_of_ble_eq_true rfl) ⟨(Nat.le_of_ble_eq_true rfl), (Nat.le_of_ble_eq_true rfl)⟩ dX3_isTrue_20 rfl (fun r M1 hr => ?_)
        obtain ⟨rfl, rfl⟩ := hr
        refine y_cast B (hT i q12) (q := (RX5, TX5, 4)) rfl (by decide +kernel) dX3_isTrue_25 ?_
        refine y_aload_n B dX3_isTrue_28 rfl ?_
        refine y_callV B 1 (q := (RX5, TX5, 4)) _ _ (k_X5_isTrue l G _ hD (hT i q12) (hk2 i q12) (hv _ (hk2 i q12).1)) (hT i q12) rfl gX3_isTrue_X5_isTrue (by decide +kernel) rfl rfl rfl rfl ⟨(Nat.le_of_ble_eq_true rfl), (Nat.le_of_ble_eq_true rfl)⟩ (Nat.le_of_ble_eq_true rfl) ⟨(Nat.le_of_ble_eq_true rfl), (Nat.le_of_ble_eq_true rfl)⟩ dX3_isTrue_29 rfl (fun r M1 hr => ?_)
        obtain ⟨rfl, rfl⟩ := hr
        refine y_if_ne B 37 dX3_isTrue_32 (by decide) (fun c32 => ?_) (fun c32 => ?_)
        · have q32 : ai_tk S (4 * j + i) = true := by cases z : ai_tk S (4 * j + i) with | true => rfl | false => exact absurd (by rw [z]; rfl) c32
          refine y_iinc B (nI (i + 1)) dX3_isTrue_37 rfl (nI_1 i) ?_
          refine y_goto B 2 dX3_isTrue_40 (by decide) ?_
          exact ih (i + 1) (by omega) (by omega) (fun t ht => by rcases Nat.lt_succ_iff_lt_or_eq.mp ht with z | z; exact ha t z; rw [z]; exact q32)
        · have q32 := (ai_b0 _).mp c32
          refine y_iconst B (nI 0) dX3_isTrue_35 (by decide +kernel) ?_
          exact y_zret B dX3_isTrue_36 (Nat.le_of_ble_eq_true rfl) (Nat.le_of_ble_eq_true rfl) rfl (⟨by unfold ai_pt; rw [ai_all_f q12 q32]; rfl, rfl⟩)
  refine y_iconst B (nI 0) dX3_isTrue_0 (by decide +kernel) ?_
  refine y_istore_n B dX3_isTrue_1 (Nat.le_of_ble_eq_true rfl) ?_
  exact lp (S 8 j + 1) 0 (by omega) (by omega) (fun t ht => absurd ht (Nat.not_lt_zero t))
set_option maxHeartbeats 4000000 in
set_option maxRecDepth 100000 in
theorem k_X3_isTrueByHits (l : Launch) (G : ai_G) (M : ai_M) {dr a j h : Nat} {S : ai_S} (hD : ai_Dr G M S dr) (hv : ∀ i, i < 6 → S 1 i ≤ 64) (hP : ai_Pd G M S j a) (hk : ai_okP S j) (hh : ai_ht M a (nI h)) (hb : h < 2 ^ 31) : ai_C l yX3_isTrueByHits wsX3_isTrueByHits ({ frames := 3, cells := 0, slots := 0, locals := 64 } : Room) 0 0 G M [.ref a, .ref dr] (fun r M1 => r = some (.int (ai_b (decide (h = ai_pn S j) && ai_all (S 8 j) (fun t => decide (S 12 (4 * j + t) = 0) || ai_tk S (4 * j + t))))) ∧ M1 = M) := by
  refine y_start (by decide +kernel) rfl (Nat.le_of_ble_eq_true rfl) (Nat.le_of_ble_eq_true rfl) (fun x hx => by simp only [List.mem_cons, List.not_mem_nil, or_false] at hx; rcases hx with rfl | rfl <;> rfl) ?_
  intro p e s m below meth c B hnm
  obtain ⟨tl, ta, hits, hA, hL, hT⟩ := hP
  obtain ⟨hk1, hk2⟩ := hk
  obtain ⟨mc, arr, cap, h9, hl1, -⟩ := id hL
  have hpn : ai_pn S j ≤ S 8 j := ai_cn_le _ _
  obtain ⟨g5, x5, y5, h5⟩ := hh
  have e5 : hits = nI h := by rw [hA] at h5; cases h5; rfl
  subst e5
  have lp : ∀ (d : Nat) (i : Nat) (x3 : Option Value), (S 8 j < i + d) → (i ≤ S 8 j) → (∀ t, t < i → (decide (S 12 (4 * j + t) = 0) || ai_tk S (4 * j + t)) = true) → (h = ai_pn S j) → ai_Y p l e ({ frames := 3, cells := 0, slots := 0, locals := 64 } : Room) s m [.ref a, .ref dr].toArray below meth c G (MQ below (ai_Q G (fun r M1 => r = some (.int (ai_b (decide (h = ai_pn S j) && ai_all (S 8 j) (fun t => decide (S 12 (4 * j + t) = 0) || ai_tk S (4 * j + t))))) ∧ M1 = M)) [.ref a, .ref dr].toArray s 0 0 (ai_A G)) M 0 0 [some (.ref a), some (.ref dr), some (.int (nI i)), x3] 15 [] := by
    intro d
    induction d with
    | zero => intros; omega
    | succ d ih =>
      intro i x3 hm hi ha heq
      refine y_iload_n B dX3_isTrueByHits_15 rfl ?_
      refine y_aload_n B dX3_isTrueByHits_16 rfl ?_
      refine y_get B (ref := "AlertIndex$Product") (ci := 4) (C := RX3) (T := TX3) (N := 3) hA rfl i_X3_isTrueByHits_X3 0 (by decide) (by decide +kernel) (fun _ h9 => h9) rfl dX3_isTrueByHits_17 ?_
      refine y_callF B 0 (x := ⟨"java/util/List", "size", "()I"⟩) (q := (RJx4a65c, TJx4a65c, 3)) _ _ (k_Jx4a65c_size_8abf5 l G _ hL) hl1 rfl gX3_isTrueByHits_Jx4a65c_size_8abf5_f23Jx4a65c B.2.2.2.2.2.2.2.2.1.1.2.2.2.2.2.2.1 (by decide +kernel) rfl rfl rfl rfl ⟨(Nat.le_of_ble_eq_true rfl), (Nat.le_of_ble_eq_true rfl)⟩ (Nat.le_of_ble_eq_true rfl) ⟨(Nat.le_of_ble_eq_true rfl), (Nat.le_of_ble_eq_true rfl)⟩ dX3_isTrueByHits_20 rfl (fun r M1 hr => ?_)
      obtain ⟨rfl, rfl⟩ := hr
      refine y_icmp_ge B 65 dX3_isTrueByHits_25 (by decide) (fun c25 => ?_) (fun c25 => ?_)
      · have q25 : S 8 j ≤ i := (nI_leI (by omega) (by omega)).mp c25
        refine y_iconst B (nI 1) dX3_isTrueByHits_65 (by decide +kernel) ?_
        exact y_zret B dX3_isTrueByHits_66 (Nat.le_of_ble_eq_true rfl) (Nat.le_of_ble_eq_true rfl) rfl (⟨by rw [decide_eq_true heq, (ai_all_iff _ _).mpr (fun t ht => ha t (by omega))]; rfl, rfl⟩)
      · have q25 : i < S 8 j := Nat.lt_of_not_le (fun z => c25 ((nI_leI (by omega) (by omega)).mpr z))
        refine y_aload_n B dX3_isTrueByHits_28 rfl ?_
        refine y_get B (ref := "AlertIndex$Product") (ci := 4) (C := RX3) (T := TX3) (N := 3) hA rfl i_X3_isTrueByHits_X3 0 (by decide) (by decide +kernel) (fun _ h9 => h9) rfl dX3_isTrueByHits_29 ?_
        refine y_iload_n B dX3_isTrueByHits_32 rfl ?_
        refine y_callF B 1 (x := ⟨"java/util/List", "get", "(I)Ljava/lang/Object;"⟩) (q := (RJx4a65c, TJx4a65c, 3)) _ _ (k_Jx4a65c_get_915e3 l G _ hL q25) hl1 rfl gX3_isTrueByHits_Jx4a65c_get_915e3_f29Jx4a65c B.2.2.2.2.2.2.2.2.1.1.2.2.2.2.2.2.2.2.1 (by decide +kernel) rfl rfl rfl rfl ⟨(Nat.le_of_ble_eq_true rfl), (Nat.le_of_ble_eq_true rfl)⟩ (Nat.le_of_ble_eq_true rfl) ⟨(Nat.le_of_ble_eq_true rfl), (Nat.le_of_ble_eq_true rfl)⟩ dX3_isTrueByHits_33 rfl (fun r M1 hr => ?_)
        obtain ⟨rfl, rfl⟩ := hr
        refine y_cast B (hT i q25) (q := (RX5, TX5, 4)) rfl (by decide +kernel) dX3_isTrueByHits_38 ?_
        refine y_astore_n B dX3_isTrueByHits_41 (Nat.le_of_ble_eq_true rfl) ?_
        refine y_aload_n B dX3_isTrueByHits_42 rfl ?_
        refine y_get B (ref := "AlertIndex$Test") (ci := 6) (C := RX5) (T := TX5) (N := 4) (hT i q25) rfl i_X3_isTrueByHits_X5 3 (by decide) (by decide +kernel) (fun _ h9 => h9) rfl dX3_isTrueByHits_43 ?_
        refine y_if_eq B 59 dX3_isTrueByHits_46 (by decide) (fun c46 => ?_) (fun c46 => ?_)
        · have q46 : S 12 (4 * j + i) = 0 := (nI_eq (by have := (hk2 i q25).2.2.2; omega) (by decide)).mp c46
          refine y_iinc B (nI (i + 1)) dX3_isTrueByHits_59 rfl (nI_1 i) ?_
          refine y_goto B 15 dX3_isTrueByHits_62 (by decide) ?_
          exact ih (i + 1) _ (by omega) (by omega) (fun t ht => by rcases Nat.lt_succ_iff_lt_or_eq.mp ht with z | z; exact ha t z; rw [z, decide_eq_true q46]; rfl) heq
        · have q46 : ¬ S 12 (4 * j + i) = 0 := fun z => c46 (by rw [z]; rfl)
          refine y_aload_n B dX3_isTrueByHits_49 rfl ?_
          refine y_aload_n B dX3_isTrueByHits_50 rfl ?_
          refine y_callV B 1 (q := (RX5, TX5, 4)) _ _ (k_X5_isTrue l G _ hD (hT i q25) (hk2 i q25) (hv _ (hk2 i q25).1)) (hT i q25) rfl gX3_isTrueByHits_X5_isTrue (by decide +kernel) rfl rfl rfl rfl ⟨(Nat.le_of_ble_eq_true rfl), (Nat.le_of_ble_eq_true rfl)⟩ (Nat.le_of_ble_eq_true rfl) ⟨(Nat.le_of_ble_eq_true rfl), (Nat.le_of_ble_eq_true rfl)⟩ dX3_isTrueByHits_51 rfl (fun r M1 hr => ?_)
          obtain ⟨rfl, rfl⟩ := hr
          refine y_if_ne B 59 dX3_isTrueByHits_54 (by decide) (fun c54 => ?_) (fun c54 => ?_)
          · have q54 : ai_tk S (4 * j + i) = true := by cases z : ai_tk S (4 * j + i) with | true => rfl | false => exact absurd (by rw [z]; rfl) c54
            refine y_iinc B (nI (i + 1)) dX3_isTrueByHits_59 rfl (nI_1 i) ?_
            refine y_goto B 15 dX3_isTrueByHits_62 (by decide) ?_
            exact ih (i + 1) _ (by omega) (by omega) (fun t ht => by rcases Nat.lt_succ_iff_lt_or_eq.mp ht with z | z; exact ha t z; rw [z, q54, Bool.or_true]) heq
          · have q54 := (ai_b0 _).mp c54
            refine y_iconst B (nI 0) dX3_isTrueByHits_57 (by decide +kernel) ?_
            exact y_zret B dX3_isTrueByHits_58 (Nat.le_of_ble_eq_true rfl) (Nat.le_of_ble_eq_true rfl) rfl (⟨by rw [ai_all_f q25 (by rw [q54, decide_eq_false q46]; rfl), Bool.and_false]; rfl, rfl⟩)
  refine y_aload_n B dX3_isTrueByHits_0 rfl ?_
  refine y_get B (ref := "AlertIndex$Product") (ci := 4) (C := RX3) (T := TX3) (N := 3) hA rfl i_X3_isTrueByHits_X3 2 (by decide) (by decide +kernel) (fun _ h9 => h9) rfl dX3_isTrueByHits_1 ?_
  refine y_aload_n B dX3_isTrueByHits_4 rfl ?_
  refine y_get B (ref := "AlertIndex$Product") (ci := 4) (C := RX3) (T := TX3) (N := 3) hA rfl i_X3_isTrueByHits_X3 1 (by decide) (by decide +kernel) (fun _ h9 => h9) rfl dX3_isTrueByHits_5 ?_
  refine y_icmp_eq B 13 dX3_isTrueByHits_8 (by decide) (fun c8 => ?_) (fun c8 => ?_)
  · have q8 := (nI_eq (by omega) (by omega)).mp c8
    refine y_iconst B (nI 0) dX3_isTrueByHits_13 (by decide +kernel) ?_
    refine y_istore_n B dX3_isTrueByHits_14 (Nat.le_of_ble_eq_true rfl) ?_
    exact lp (S 8 j + 1) 0 none (by omega) (by omega) (fun t ht => absurd ht (Nat.not_lt_zero t)) q8
  · have q8 : ¬ h = ai_pn S j := fun z => c8 (by rw [z])
    refine y_iconst B (nI 0) dX3_isTrueByHits_11 (by decide +kernel) ?_
    exact y_zret B dX3_isTrueByHits_12 (Nat.le_of_ble_eq_true rfl) (Nat.le_of_ble_eq_true rfl) rfl (⟨by rw [decide_eq_false q8]; rfl, rfl⟩)
set_option maxHeartbeats 4000000 in
set_option maxRecDepth 100000 in
theorem k_X4_init (l : Launch) (G : ai_G) (M : ai_M) {a g : Nat} (gl : Nat) (hgl : g ≠ gl ∧ g ≠ gl + 1) (h1 : M a = some (g, .inr (5, [.null, .int 0, .int 0, .int 0, .int 0, .int 0]))) : ai_C l yX4_init wsX4_init ({ frames := 4, cells := 1, slots := 3, locals := 72 } : Room) 1 3 G M [.ref a] (fun r M1 => r = none ∧ ∃ q, M q = none ∧ M1 a = some (g, .inr (5, [.ref q, .int (nI 0), .int (nI 0), .int (nI 0), .int (nI 0), .int (nI 0)])) ∧ ai_l G M1 q gl 0 (fun _ => 0) ∧ ∀ (b g : Nat) (e : va_E), M b = some (g, e) → b ≠ a → M1 b = some (g, e)) := by
  refine y_start (by decide +kernel) rfl (Nat.le_of_ble_eq_true rfl) (Nat.le_of_ble_eq_true rfl) (fun x hx => by simp only [List.mem_cons, List.not_mem_nil, or_false] at hx; rcases hx with rfl <;> rfl) ?_
  intro p e s m below meth c B hnm
  have hinit : meth.name = "<init>" := hnm
  refine y_aload_n B dX4_init_0 rfl ?_
  refine y_oinit B (by decide +kernel) (by decide +kernel) (by decide +kernel) (Nat.le_of_ble_eq_true rfl) (Nat.le_of_ble_eq_true rfl) dX4_init_1 ?_
  refine y_aload_n B dX4_init_4 rfl ?_
  refine y_new B (C := RJx4a65c) (T := TJx4a65c) (N := 3) (ci := 0) (gl) [.int 0, .null, .int 0] i_X4_init_Jx4a65c tyJx4a65c tyJx4a65c_ok (by decide +kernel) (by decide +kernel) (by decide +kernel) rfl (fun j hj => by rcases (show j = 0 ∨ j = 1 ∨ j = 2 by omega) with rfl | rfl | rfl <;> rfl) (Nat.le_of_ble_eq_true rfl) (Nat.le_of_ble_eq_true rfl) dX4_init_5 (fun q hq => ?_)
  have hnq : q ≠ a := fun z => by rw [← z, hq] at h1; cases h1
  refine y_dup B dX4_init_8 rfl ?_
  refine y_callI B 0 _ _ (k_Jx4a65c_init_da8c8 l G _ ai_U_s) gX4_init_Jx4a65c_init_da8c8 (by decide +kernel) (by decide +kernel) (by decide +kernel) rfl (by decide +kernel) rfl rfl rfl rfl ⟨(Nat.le_of_ble_eq_true rfl), (Nat.le_of_ble_eq_true rfl)⟩ (Nat.le_of_ble_eq_true rfl) ⟨(Nat.le_of_ble_eq_true rfl), (Nat.le_of_ble_eq_true rfl)⟩ dX4_init_9 rfl (fun r M1 hr => ?_)
  obtain ⟨rfl, rfl⟩ := hr
  rw [ai_UU]
  refine y_putF B hinit (ref := "AlertIndex$Question") (ci := 5) (C := RX4) (T := TX4) (N := 6) (ty := (.object "java/util/List")) ((ai_U_n (fun z => hnq z.symm)).trans h1) rfl i_X4_init_X4 tyX4 tyX4_ok nmX4 0 (by decide) (by decide +kernel) (fun _ h9 => h9) rfl rfl (by decide +kernel) rfl rfl (Nat.le_of_ble_eq_true rfl) dX4_init_12 ?_
  refine y_aload_n B dX4_init_15 rfl ?_
  refine y_iconst B (nI 0) dX4_init_16 (by decide +kernel) ?_
  refine y_put B (ref := "AlertIndex$Question") (ci := 5) (C := RX4) (T := TX4) (N := 6) (ty := .boolean) ai_U_s rfl i_X4_init_X4 tyX4 tyX4_ok nmX4 1 (by decide) (by decide +kernel) (fun _ h9 => h9) rfl (by decide +kernel) rfl rfl (Nat.le_of_ble_eq_true rfl) dX4_init_17 ?_
  rw [ai_UU]
  refine y_aload_n B dX4_init_20 rfl ?_
  refine y_iconst B (nI 0) dX4_init_21 (by decide +kernel) ?_
  refine y_put B (ref := "AlertIndex$Question") (ci := 5) (C := RX4) (T := TX4) (N := 6) (ty := .int) ai_U_s rfl i_X4_init_X4 tyX4 tyX4_ok nmX4 2 (by decide) (by decide +kernel) (fun _ h9 => h9) rfl (by decide +kernel) rfl rfl (Nat.le_of_ble_eq_true rfl) dX4_init_22 ?_
  rw [ai_UU]
  refine y_aload_n B dX4_init_25 rfl ?_
  refine y_iconst B (nI 0) dX4_init_26 (by decide +kernel) ?_
  refine y_put B (ref := "AlertIndex$Question") (ci := 5) (C := RX4) (T := TX4) (N := 6) (ty := .int) ai_U_s rfl i_X4_init_X4 tyX4 tyX4_ok nmX4 3 (by decide) (by decide +kernel) (fun _ h9 => h9) rfl (by decide +kernel) rfl rfl (Nat.le_of_ble_eq_true rfl) dX4_init_27 ?_
  rw [ai_UU]
  refine y_aload_n B dX4_init_30 rfl ?_
  refine y_iconst B (nI 0) dX4_init_31 (by decide +kernel) ?_
  refine y_put B (ref := "AlertIndex$Question") (ci := 5) (C := RX4) (T := TX4) (N := 6) (ty := .int) ai_U_s rfl i_X4_init_X4 tyX4 tyX4_ok nmX4 4 (by decide) (by decide +kernel) (fun _ h9 => h9) rfl (by decide +kernel) rfl rfl (Nat.le_of_ble_eq_true rfl) dX4_init_32 ?_
  rw [ai_UU]
  refine y_aload_n B dX4_init_35 rfl ?_
  refine y_iconst B (nI 0) dX4_init_36 (by decide +kernel) ?_
  refine y_put B (ref := "AlertIndex$Question") (ci := 5) (C := RX4) (T := TX4) (N := 6) (ty := .int) ai_U_s rfl i_X4_init_X4 tyX4 tyX4_ok nmX4 5 (by decide) (by decide +kernel) (fun _ h9 => h9) rfl (by decide +kernel) rfl rfl (Nat.le_of_ble_eq_true rfl) dX4_init_37 ?_
  rw [ai_UU]
  exact y_vret B dX4_init_40 (Nat.le_of_ble_eq_true rfl) (Nat.le_of_ble_eq_true rfl) (⟨rfl, q, hq, ai_U_s, ai_l_new.keep (fun b g9 e hb h9 => (ai_U_n (fun z => by subst z; rw [ai_U_n (fun z => hnq z.symm), h1] at hb; cases hb; omega)).trans hb), fun b g9 e hb hn => (ai_U_n hn).trans (ai_U_f hq hb)⟩)
set_option maxHeartbeats 4000000 in
set_option maxRecDepth 100000 in
theorem k_X4_lastProduct (l : Launch) (G : ai_G) (M : ai_M) {a q : Nat} {S : ai_S} {pa : Nat → Nat} (hQ : ai_Qd G M S pa q a) : ai_C l yX4_lastProduct wsX4_lastProduct ({ frames := 3, cells := 0, slots := 0, locals := 64 } : Room) 0 0 G M [.ref a] (fun r M1 => r = some (va_rf (if S 3 q = 0 then none else some (pa (3 * q + (S 3 q - 1))))) ∧ M1 = M) := by
  refine y_start (by decide +kernel) rfl (Nat.le_of_ble_eq_true rfl) (Nat.le_of_ble_eq_true rfl) (fun x hx => by simp only [List.mem_cons, List.not_mem_nil, or_false] at hx; rcases hx with rfl <;> rfl) ?_
  intro p e s m below meth c B hnm
  obtain ⟨pl, hA, hL, hPd⟩ := id hQ
  obtain ⟨mc, arr, cap, h9, hl1, -⟩ := id hL
  have hbd := hL.bd
  refine y_aload_n B dX4_lastProduct_0 rfl ?_
  refine y_get B (ref := "AlertIndex$Question") (ci := 5) (C := RX4) (T := TX4) (N := 6) hA rfl i_X4_lastProduct_X4 0 (by decide) (by decide +kernel) (fun _ h9 => h9) rfl dX4_lastProduct_1 ?_
  refine y_callF B 0 (x := ⟨"java/util/List", "size", "()I"⟩) (q := (RJx4a65c, TJx4a65c, 3)) _ _ (k_Jx4a65c_size_8abf5 l G _ hL) hl1 rfl gX4_lastProduct_Jx4a65c_size_8abf5_f35Jx4a65c B.2.2.2.2.2.2.2.2.1.1.2.2.2.2.2.2.1 (by decide +kernel) rfl rfl rfl rfl ⟨(Nat.le_of_ble_eq_true rfl), (Nat.le_of_ble_eq_true rfl)⟩ (Nat.le_of_ble_eq_true rfl) ⟨(Nat.le_of_ble_eq_true rfl), (Nat.le_of_ble_eq_true rfl)⟩ dX4_lastProduct_4 rfl (fun r M1 hr => ?_)
  obtain ⟨rfl, rfl⟩ := hr
  refine y_istore_n B dX4_lastProduct_9 (Nat.le_of_ble_eq_true rfl) ?_
  refine y_iload_n B dX4_lastProduct_10 rfl ?_
  refine y_if_le B 32 dX4_lastProduct_11 (by decide) (fun c11 => ?_) (fun c11 => ?_)
  · have q11 : S 3 q = 0 := Nat.le_zero.mp ((nI_leI (b := 0) (by omega) (by omega)).mp c11)
    refine y_null B dX4_lastProduct_32 ?_
    exact y_aret B (Or.inl ⟨_, rfl⟩) (Or.inl rfl) dX4_lastProduct_33 (Nat.le_of_ble_eq_true rfl) (Nat.le_of_ble_eq_true rfl) (⟨by rw [if_pos q11]; rfl, rfl⟩)
  · have q11 : S 3 q ≠ 0 := fun z => c11 (by rw [z]; decide)
    refine y_aload_n B dX4_lastProduct_14 rfl ?_
    refine y_get B (ref := "AlertIndex$Question") (ci := 5) (C := RX4) (T := TX4) (N := 6) hA rfl i_X4_lastProduct_X4 0 (by decide) (by decide +kernel) (fun _ h9 => h9) rfl dX4_lastProduct_15 ?_
    refine y_iload_n B dX4_lastProduct_18 rfl ?_
    refine y_iconst B (nI 1) dX4_lastProduct_19 (by decide +kernel) ?_
    refine y_isub B (nI (S 3 q - 1)) dX4_lastProduct_20 (pk_sub (by omega)) ?_
    refine y_callF B 1 (x := ⟨"java/util/List", "get", "(I)Ljava/lang/Object;"⟩) (q := (RJx4a65c, TJx4a65c, 3)) _ _ (k_Jx4a65c_get_915e3 l G _ hL (i := S 3 q - 1) (by omega)) hl1 rfl gX4_lastProduct_Jx4a65c_get_915e3_f41Jx4a65c B.2.2.2.2.2.2.2.2.1.1.2.2.2.2.2.2.2.2.1 (by decide +kernel) rfl rfl rfl rfl ⟨(Nat.le_of_ble_eq_true rfl), (Nat.le_of_ble_eq_true rfl)⟩ (Nat.le_of_ble_eq_true rfl) ⟨(Nat.le_of_ble_eq_true rfl), (Nat.le_of_ble_eq_true rfl)⟩ dX4_lastProduct_21 rfl (fun r M1 hr => ?_)
    obtain ⟨rfl, rfl⟩ := hr
    obtain ⟨tl, ta, hits, hPa, -⟩ := hPd (S 3 q - 1) (by omega)
    refine y_cast B hPa (q := (RX3, TX3, 3)) rfl (by decide +kernel) dX4_lastProduct_26 ?_
    refine y_goto B 33 dX4_lastProduct_29 (by decide) ?_
    exact y_aret B (Or.inl ⟨_, rfl⟩) (Or.inr ⟨_, rfl⟩) dX4_lastProduct_33 (Nat.le_of_ble_eq_true rfl) (Nat.le_of_ble_eq_true rfl) (⟨by rw [if_neg q11]; rfl, rfl⟩)
theorem ai_minI {a b : Nat} (ha : a < 2 ^ 31) (hb : b < 2 ^ 31) : (if nI b < nI a then nI b else nI a) = nI (Nat.min a b) := by
  by_cases h : b < a
  · rw [if_pos (nI_lt h ha), show Nat.min a b = b from Nat.min_eq_right (by omega)]
  · rw [if_neg (nI_nlt (by omega) hb), show Nat.min a b = a from Nat.min_eq_left (by omega)]
set_option maxHeartbeats 4000000 in
set_option maxRecDepth 100000 in
theorem k_X4_leastSize (l : Launch) (G : ai_G) (M : ai_M) {a q : Nat} {S : ai_S} {pa : Nat → Nat} (hQ : ai_Qd G M S pa q a) (h3 : S 3 q ≤ 3) (hok : ∀ p, p < S 3 q → S 8 (3 * q + p) ≤ 4) : ai_C l yX4_leastSize wsX4_leastSize ({ frames := 3, cells := 0, slots := 0, locals := 64 } : Room) 0 0 G M [.ref a] (fun r M1 => r = some (.int (nI (ai_sz S q))) ∧ M1 = M) := by
  refine y_start (by decide +kernel) rfl (Nat.le_of_ble_eq_true rfl) (Nat.le_of_ble_eq_true rfl) (fun x hx => by simp only [List.mem_cons, List.not_mem_nil, or_false] at hx; rcases hx with rfl <;> rfl) ?_
  intro p e s m below meth c B hnm
  obtain ⟨pl, hA, hL, hPd⟩ := id hQ
  obtain ⟨mc, arr, cap, h9, hl1, -⟩ := id hL
  have lp : ∀ (d : Nat) (i : Nat), (S 3 q < i + d) → (i ≤ S 3 q) → ai_Y p l e ({ frames := 3, cells := 0, slots := 0, locals := 64 } : Room) s m [.ref a].toArray below meth c G (MQ below (ai_Q G (fun r M1 => r = some (.int (nI (ai_sz S q))) ∧ M1 = M)) [.ref a].toArray s 0 0 (ai_A G)) M 0 0 [some (.ref a), some (.int (nI (ai_mn i (fun p => ai_pn S (3 * q + p))))), some (.int (nI i))] 4 [] := by
    intro d
    induction d with
    | zero => intros; omega
    | succ d ih =>
      intro i hm hi
      refine y_iload_n B dX4_leastSize_4 rfl ?_
      refine y_aload_n B dX4_leastSize_5 rfl ?_
      refine y_get B (ref := "AlertIndex$Question") (ci := 5) (C := RX4) (T := TX4) (N := 6) hA rfl i_X4_leastSize_X4 0 (by decide) (by decide +kernel) (fun _ h9 => h9) rfl dX4_leastSize_6 ?_
      refine y_callF B 0 (x := ⟨"java/util/List", "size", "()I"⟩) (q := (RJx4a65c, TJx4a65c, 3)) _ _ (k_Jx4a65c_size_8abf5 l G _ hL) hl1 rfl gX4_leastSize_Jx4a65c_size_8abf5_f35Jx4a65c B.2.2.2.2.2.2.2.2.1.1.2.2.2.2.2.2.1 (by decide +kernel) rfl rfl rfl rfl ⟨(Nat.le_of_ble_eq_true rfl), (Nat.le_of_ble_eq_true rfl)⟩ (Nat.le_of_ble_eq_true rfl) ⟨(Nat.le_of_ble_eq_true rfl), (Nat.le_of_ble_eq_true rfl)⟩ dX4_leastSize_9 rfl (fun r M1 hr => ?_)
      obtain ⟨rfl, rfl⟩ := hr
      refine y_icmp_ge B 44 dX4_leastSize_14 (by decide) (fun c14 => ?_) (fun c14 => ?_)
      · have q14 : S 3 q ≤ i := (nI_leI (by omega) (by omega)).mp c14
        have ei : i = S 3 q := by omega
        refine y_aload_n B dX4_leastSize_44 rfl ?_
        refine y_get B (ref := "AlertIndex$Question") (ci := 5) (C := RX4) (T := TX4) (N := 6) hA rfl i_X4_leastSize_X4 0 (by decide) (by decide +kernel) (fun _ h9 => h9) rfl dX4_leastSize_45 ?_
        refine y_callF B 0 (x := ⟨"java/util/List", "isEmpty", "()Z"⟩) (q := (RJx4a65c, TJx4a65c, 3)) _ _ (k_Jx4a65c_isEmpty_aae02 l G _ hL) hl1 rfl gX4_leastSize_Jx4a65c_isEmpty_aae02_f56Jx4a65c B.2.2.2.2.2.2.2.2.1.1.2.2.2.2.2.2.2.1 (by decide +kernel) rfl rfl rfl rfl ⟨(Nat.le_of_ble_eq_true rfl), (Nat.le_of_ble_eq_true rfl)⟩ (Nat.le_of_ble_eq_true rfl) ⟨(Nat.le_of_ble_eq_true rfl), (Nat.le_of_ble_eq_true rfl)⟩ dX4_leastSize_48 rfl (fun r M1 hr => ?_)
        obtain ⟨rfl, rfl⟩ := hr
        refine y_if_eq B 60 dX4_leastSize_53 (by decide) (fun c53 => ?_) (fun c53 => ?_)
        · have q53 : ¬ S 3 q = 0 := fun z => by rw [if_pos z] at c53; exact absurd c53 (by decide)
          refine y_iload_n B dX4_leastSize_60 rfl ?_
          exact y_iret B dX4_leastSize_61 (Nat.le_of_ble_eq_true rfl) (Nat.le_of_ble_eq_true rfl) (⟨by unfold ai_sz; rw [if_neg q53, ei], rfl⟩)
        · have q53 : S 3 q = 0 := by by_cases z : S 3 q = 0; exact z; rw [if_neg z] at c53; exact absurd rfl c53
          refine y_iconst B (nI 0) dX4_leastSize_56 (by decide +kernel) ?_
          refine y_goto B 61 dX4_leastSize_57 (by decide) ?_
          exact y_iret B dX4_leastSize_61 (Nat.le_of_ble_eq_true rfl) (Nat.le_of_ble_eq_true rfl) (⟨by unfold ai_sz; rw [if_pos q53], rfl⟩)
      · have q14 : i < S 3 q := Nat.lt_of_not_le (fun z => c14 ((nI_leI (by omega) (by omega)).mpr z))
        refine y_iload_n B dX4_leastSize_17 rfl ?_
        refine y_aload_n B dX4_leastSize_18 rfl ?_
        refine y_get B (ref := "AlertIndex$Question") (ci := 5) (C := RX4) (T := TX4) (N := 6) hA rfl i_X4_leastSize_X4 0 (by decide) (by decide +kernel) (fun _ h9 => h9) rfl dX4_leastSize_19 ?_
        refine y_iload_n B dX4_leastSize_22 rfl ?_
        refine y_callF B 1 (x := ⟨"java/util/List", "get", "(I)Ljava/lang/Object;"⟩) (q := (RJx4a65c, TJx4a65c, 3)) _ _ (k_Jx4a65c_get_915e3 l G _ hL q14) hl1 rfl gX4_leastSize_Jx4a65c_get_915e3_f41Jx4a65c B.2.2.2.2.2.2.2.2.1.1.2.2.2.2.2.2.2.2.1 (by decide +kernel) rfl rfl rfl rfl ⟨(Nat.le_of_ble_eq_true rfl), (Nat.le_of_ble_eq_true rfl)⟩ (Nat.le_of_ble_eq_true rfl) ⟨(Nat.le_of_ble_eq_true rfl), (Nat.le_of_ble_eq_true rfl)⟩ dX4_leastSize_23 rfl (fun r M1 hr => ?_)
        obtain ⟨rfl, rfl⟩ := hr
        obtain ⟨tl, ta, hits, hPa, -⟩ := hPd i q14
        refine y_cast B hPa (q := (RX3, TX3, 3)) rfl (by decide +kernel) dX4_leastSize_28 ?_
        refine y_get B (ref := "AlertIndex$Product") (ci := 4) (C := RX3) (T := TX3) (N := 3) hPa rfl i_X4_leastSize_X3 1 (by decide) (by decide +kernel) (fun _ h9 => h9) rfl dX4_leastSize_31 ?_
        have b1 := ai_mn_le i (fun p => ai_pn S (3 * q + p))
        have b2 : ai_pn S (3 * q + i) ≤ _ := ai_cn_le _ _
        have b3 := hok i q14
        refine y_mmin B (nI (ai_mn (i + 1) (fun p => ai_pn S (3 * q + p)))) (by decide +kernel) (by decide +kernel) (by decide +kernel) (by decide +kernel) (Nat.le_of_ble_eq_true rfl) (Nat.le_of_ble_eq_true rfl) (Nat.le_of_ble_eq_true rfl) (Nat.le_of_ble_eq_true rfl) (ai_minI (by omega) (by omega)) dX4_leastSize_34 ?_
        refine y_istore_n B dX4_leastSize_37 (Nat.le_of_ble_eq_true rfl) ?_
        refine y_iinc B (nI (i + 1)) dX4_leastSize_38 rfl (nI_1 i) ?_
        refine y_goto B 4 dX4_leastSize_41 (by decide) ?_
        exact ih (i + 1) (by omega) (by omega)
  refine y_iconst B (nI 4) dX4_leastSize_0 (by decide +kernel) ?_
  refine y_istore_n B dX4_leastSize_1 (Nat.le_of_ble_eq_true rfl) ?_
  refine y_iconst B (nI 0) dX4_leastSize_2 (by decide +kernel) ?_
  refine y_istore_n B dX4_leastSize_3 (Nat.le_of_ble_eq_true rfl) ?_
  exact lp (S 3 q + 1) 0 (by omega) (by omega)
set_option maxHeartbeats 4000000 in
set_option maxRecDepth 100000 in
theorem k_X4_isSatisfied (l : Launch) (G : ai_G) (M : ai_M) {a dr q : Nat} {S : ai_S} {pa : Nat → Nat} (hD : ai_Dr G M S dr) (hv : ∀ i, i < 6 → S 1 i ≤ 64) (hQ : ai_Qd G M S pa q a) (h2 : S 2 q ≤ 1) (h3 : S 3 q ≤ 3) (hok : ∀ p, p < S 3 q → ai_okP S (3 * q + p)) : ai_C l yX4_isSatisfied wsX4_isSatisfied ({ frames := 4, cells := 0, slots := 0, locals := 86 } : Room) 0 0 G M [.ref a, .ref dr] (fun r M1 => r = some (.int (ai_b (decide (S 2 q = 0) && ai_qt S q))) ∧ M1 = M) := by
  refine y_start (by decide +kernel) rfl (Nat.le_of_ble_eq_true rfl) (Nat.le_of_ble_eq_true rfl) (fun x hx => by simp only [List.mem_cons, List.not_mem_nil, or_false] at hx; rcases hx with rfl | rfl <;> rfl) ?_
  intro p e s m below meth c B hnm
  obtain ⟨pl, hA, hL, hPd⟩ := id hQ
  obtain ⟨mc, arr, cap, h9, hl1, -⟩ := id hL
  have lp : ∀ (d : Nat) (i : Nat), (S 3 q < i + d) → (i ≤ S 3 q) → (∀ p, p < i → (ai_pt S (3 * q + p)) = false) → ai_Y p l e ({ frames := 4, cells := 0, slots := 0, locals := 86 } : Room) s m [.ref a, .ref dr].toArray below meth c G (MQ below (ai_Q G (fun r M1 => r = some (.int (ai_b (decide (S 2 q = 0) && ai_qt S q))) ∧ M1 = M)) [.ref a, .ref dr].toArray s 0 0 (ai_A G)) M 0 0 [some (.ref a), some (.ref dr), some (.int (nI i))] 2 [] := by
    intro d
    induction d with
    | zero => intros; omega
    | succ d ih =>
      intro i hm hi ha
      refine y_aload_n B dX4_isSatisfied_2 rfl ?_
      refine y_get B (ref := "AlertIndex$Question") (ci := 5) (C := RX4) (T := TX4) (N := 6) hA rfl i_X4_isSatisfied_X4 1 (by decide) (by decide +kernel) (fun _ h9 => h9) rfl dX4_isSatisfied_3 ?_
      refine y_if_ne B 50 dX4_isSatisfied_6 (by decide) (fun c6 => ?_) (fun c6 => ?_)
      · have q6 : ¬ S 2 q = 0 := fun z => c6 (by rw [z]; rfl)
        refine y_iconst B (nI 0) dX4_isSatisfied_50 (by decide +kernel) ?_
        exact y_zret B dX4_isSatisfied_51 (Nat.le_of_ble_eq_true rfl) (Nat.le_of_ble_eq_true rfl) rfl (⟨by rw [decide_eq_false q6]; rfl, rfl⟩)
      · have q6 : S 2 q = 0 := (nI_eq (by omega) (by decide)).mp c6
        refine y_iload_n B dX4_isSatisfied_9 rfl ?_
        refine y_aload_n B dX4_isSatisfied_10 rfl ?_
        refine y_get B (ref := "AlertIndex$Question") (ci := 5) (C := RX4) (T := TX4) (N := 6) hA rfl i_X4_isSatisfied_X4 0 (by decide) (by decide +kernel) (fun _ h9 => h9) rfl dX4_isSatisfied_11 ?_
        refine y_callF B 0 (x := ⟨"java/util/List", "size", "()I"⟩) (q := (RJx4a65c, TJx4a65c, 3)) _ _ (k_Jx4a65c_size_8abf5 l G _ hL) hl1 rfl gX4_isSatisfied_Jx4a65c_size_8abf5_f35Jx4a65c B.2.2.2.2.2.2.2.2.1.1.2.2.2.2.2.2.1 (by decide +kernel) rfl rfl rfl rfl ⟨(Nat.le_of_ble_eq_true rfl), (Nat.le_of_ble_eq_true rfl)⟩ (Nat.le_of_ble_eq_true rfl) ⟨(Nat.le_of_ble_eq_true rfl), (Nat.le_of_ble_eq_true rfl)⟩ dX4_isSatisfied_14 rfl (fun r M1 hr => ?_)
        obtain ⟨rfl, rfl⟩ := hr
        refine y_icmp_ge B 50 dX4_isSatisfied_19 (by decide) (fun c19 => ?_) (fun c19 => ?_)
        · have q19 : S 3 q ≤ i := (nI_leI (by omega) (by omega)).mp c19
          have ei : i = S 3 q := by omega
          refine y_iconst B (nI 0) dX4_isSatisfied_50 (by decide +kernel) ?_
          exact y_zret B dX4_isSatisfied_51 (Nat.le_of_ble_eq_true rfl) (Nat.le_of_ble_eq_true rfl) rfl (⟨by rw [decide_eq_true q6, Bool.true_and]; unfold ai_qt; rw [ai_any_f (fun p hp => ha p (by omega))]; rfl, rfl⟩)
        · have q19 : i < S 3 q := Nat.lt_of_not_le (fun z => c19 ((nI_leI (by omega) (by omega)).mpr z))
          refine y_aload_n B dX4_isSatisfied_22 rfl ?_
          refine y_get B (ref := "AlertIndex$Question") (ci := 5) (C := RX4) (T := TX4) (N := 6) hA rfl i_X4_isSatisfied_X4 0 (by decide) (by decide +kernel) (fun _ h9 => h9) rfl dX4_isSatisfied_23 ?_
          refine y_iload_n B dX4_isSatisfied_26 rfl ?_
          refine y_callF B 1 (x := ⟨"java/util/List", "get", "(I)Ljava/lang/Object;"⟩) (q := (RJx4a65c, TJx4a65c, 3)) _ _ (k_Jx4a65c_get_915e3 l G _ hL q19) hl1 rfl gX4_isSatisfied_Jx4a65c_get_915e3_f41Jx4a65c B.2.2.2.2.2.2.2.2.1.1.2.2.2.2.2.2.2.2.1 (by decide +kernel) rfl rfl rfl rfl ⟨(Nat.le_of_ble_eq_true rfl), (Nat.le_of_ble_eq_true rfl)⟩ (Nat.le_of_ble_eq_true rfl) ⟨(Nat.le_of_ble_eq_true rfl), (Nat.le_of_ble_eq_true rfl)⟩ dX4_isSatisfied_27 rfl (fun r M1 hr => ?_)
          obtain ⟨rfl, rfl⟩ := hr
          obtain ⟨tl, ta, hits, hPa, -⟩ := id (hPd i q19)
          refine y_cast B hPa (q := (RX3, TX3, 3)) rfl (by decide +kernel) dX4_isSatisfied_32 ?_
          refine y_aload_n B dX4_isSatisfied_35 rfl ?_
          refine y_callV B 1 (q := (RX3, TX3, 3)) _ _ (k_X3_isTrue l G _ hD hv (hPd i q19) (hok i q19)) hPa rfl gX4_isSatisfied_X3_isTrue (by decide +kernel) rfl rfl rfl rfl ⟨(Nat.le_of_ble_eq_true rfl), (Nat.le_of_ble_eq_true rfl)⟩ (Nat.le_of_ble_eq_true rfl) ⟨(Nat.le_of_ble_eq_true rfl), (Nat.le_of_ble_eq_true rfl)⟩ dX4_isSatisfied_36 rfl (fun r M1 hr => ?_)
          obtain ⟨rfl, rfl⟩ := hr
          refine y_if_eq B 44 dX4_isSatisfied_39 (by decide) (fun c39 => ?_) (fun c39 => ?_)
          · have q39 := (ai_b0 _).mp c39
            refine y_iinc B (nI (i + 1)) dX4_isSatisfied_44 rfl (nI_1 i) ?_
            refine y_goto B 2 dX4_isSatisfied_47 (by decide) ?_
            exact ih (i + 1) (by omega) (by omega) (fun t ht => by rcases Nat.lt_succ_iff_lt_or_eq.mp ht with z | z; exact ha t z; rw [z]; exact q39)
          · have q39 : (ai_pt S (3 * q + i)) = true := by cases z : (ai_pt S (3 * q + i)) with | true => rfl | false => exact absurd ((ai_b0 _).mpr z) c39
            refine y_iconst B (nI 1) dX4_isSatisfied_42 (by decide +kernel) ?_
            exact y_zret B dX4_isSatisfied_43 (Nat.le_of_ble_eq_true rfl) (Nat.le_of_ble_eq_true rfl) rfl (⟨by rw [decide_eq_true q6, Bool.true_and]; unfold ai_qt; rw [ai_any_t q19 q39]; rfl, rfl⟩)
  refine y_iconst B (nI 0) dX4_isSatisfied_0 (by decide +kernel) ?_
  refine y_istore_n B dX4_isSatisfied_1 (Nat.le_of_ble_eq_true rfl) ?_
  exact lp (S 3 q + 1) 0 (by omega) (by omega) (fun t ht => absurd ht (Nat.not_lt_zero t))
set_option maxHeartbeats 4000000 in
set_option maxRecDepth 100000 in
theorem k_X4_isSatisfiedByHits (l : Launch) (G : ai_G) (M : ai_M) {a dr q : Nat} {S : ai_S} {pa : Nat → Nat} (hD : ai_Dr G M S dr) (hv : ∀ i, i < 6 → S 1 i ≤ 64) (hQ : ai_Qd G M S pa q a) (h2 : S 2 q ≤ 1) (h3 : S 3 q ≤ 3) (hok : ∀ p, p < S 3 q → ai_okP S (3 * q + p)) {hf : Nat → Nat} (hh : ∀ p, p < S 3 q → ai_ht M (pa (3 * q + p)) (nI (hf p)) ∧ hf p < 2 ^ 31) : ai_C l yX4_isSatisfiedByHits wsX4_isSatisfiedByHits ({ frames := 4, cells := 0, slots := 0, locals := 87 } : Room) 0 0 G M [.ref a, .ref dr] (fun r M1 => r = some (.int (ai_b (decide (S 2 q = 0) && ai_any (S 3 q) (fun p => decide (hf p = ai_pn S (3 * q + p)) && ai_all (S 8 (3 * q + p)) (fun t => decide (S 12 (4 * (3 * q + p) + t) = 0) || ai_tk S (4 * (3 * q + p) + t)))))) ∧ M1 = M) := by
  refine y_start (by decide +kernel) rfl (Nat.le_of_ble_eq_true rfl) (Nat.le_of_ble_eq_true rfl) (fun x hx => by simp only [List.mem_cons, List.not_mem_nil, or_false] at hx; rcases hx with rfl | rfl <;> rfl) ?_
  intro p e s m below meth c B hnm
  obtain ⟨pl, hA, hL, hPd⟩ := id hQ
  obtain ⟨mc, arr, cap, h9, hl1, -⟩ := id hL
  have lp : ∀ (d : Nat) (i : Nat), (S 3 q < i + d) → (i ≤ S 3 q) → (∀ p, p < i → (decide (hf p = ai_pn S (3 * q + p)) && ai_all (S 8 (3 * q + p)) (fun t => decide (S 12 (4 * (3 * q + p) + t) = 0) || ai_tk S (4 * (3 * q + p) + t))) = false) → ai_Y p l e ({ frames := 4, cells := 0, slots := 0, locals := 87 } : Room) s m [.ref a, .ref dr].toArray below meth c G (MQ below (ai_Q G (fun r M1 => r = some (.int (ai_b (decide (S 2 q = 0) && ai_any (S 3 q) (fun p => decide (hf p = ai_pn S (3 * q + p)) && ai_all (S 8 (3 * q + p)) (fun t => decide (S 12 (4 * (3 * q + p) + t) = 0) || ai_tk S (4 * (3 * q + p) + t)))))) ∧ M1 = M)) [.ref a, .ref dr].toArray s 0 0 (ai_A G)) M 0 0 [some (.ref a), some (.ref dr), some (.int (nI i))] 2 [] := by
    intro d
    induction d with
    | zero => intros; omega
    | succ d ih =>
      intro i hm hi ha
      refine y_aload_n B dX4_isSatisfiedByHits_2 rfl ?_
      refine y_get B (ref := "AlertIndex$Question") (ci := 5) (C := RX4) (T := TX4) (N := 6) hA rfl i_X4_isSatisfiedByHits_X4 1 (by decide) (by decide +kernel) (fun _ h9 => h9) rfl dX4_isSatisfiedByHits_3 ?_
      refine y_if_ne B 50 dX4_isSatisfiedByHits_6 (by decide) (fun c6 => ?_) (fun c6 => ?_)
      · have q6 : ¬ S 2 q = 0 := fun z => c6 (by rw [z]; rfl)
        refine y_iconst B (nI 0) dX4_isSatisfiedByHits_50 (by decide +kernel) ?_
        exact y_zret B dX4_isSatisfiedByHits_51 (Nat.le_of_ble_eq_true rfl) (Nat.le_of_ble_eq_true rfl) rfl (⟨by rw [decide_eq_false q6]; rfl, rfl⟩)
      · have q6 : S 2 q = 0 := (nI_eq (by omega) (by decide)).mp c6
        refine y_iload_n B dX4_isSatisfiedByHits_9 rfl ?_
        refine y_aload_n B dX4_isSatisfiedByHits_10 rfl ?_
        refine y_get B (ref := "AlertIndex$Question") (ci := 5) (C := RX4) (T := TX4) (N := 6) hA rfl i_X4_isSatisfiedByHits_X4 0 (by decide) (by decide +kernel) (fun _ h9 => h9) rfl dX4_isSatisfiedByHits_11 ?_
        refine y_callF B 0 (x := ⟨"java/util/List", "size", "()I"⟩) (q := (RJx4a65c, TJx4a65c, 3)) _ _ (k_Jx4a65c_size_8abf5 l G _ hL) hl1 rfl gX4_isSatisfiedByHits_Jx4a65c_size_8abf5_f35Jx4a65c B.2.2.2.2.2.2.2.2.1.1.2.2.2.2.2.2.1 (by decide +kernel) rfl rfl rfl rfl ⟨(Nat.le_of_ble_eq_true rfl), (Nat.le_of_ble_eq_true rfl)⟩ (Nat.le_of_ble_eq_true rfl) ⟨(Nat.le_of_ble_eq_true rfl), (Nat.le_of_ble_eq_true rfl)⟩ dX4_isSatisfiedByHits_14 rfl (fun r M1 hr => ?_)
        obtain ⟨rfl, rfl⟩ := hr
        refine y_icmp_ge B 50 dX4_isSatisfiedByHits_19 (by decide) (fun c19 => ?_) (fun c19 => ?_)
        · have q19 : S 3 q ≤ i := (nI_leI (by omega) (by omega)).mp c19
          have ei : i = S 3 q := by omega
          refine y_iconst B (nI 0) dX4_isSatisfiedByHits_50 (by decide +kernel) ?_
          exact y_zret B dX4_isSatisfiedByHits_51 (Nat.le_of_ble_eq_true rfl) (Nat.le_of_ble_eq_true rfl) rfl (⟨by rw [decide_eq_true q6, Bool.true_and]; rw [ai_any_f (fun p hp => ha p (by omega))]; rfl, rfl⟩)
        · have q19 : i < S 3 q := Nat.lt_of_not_le (fun z => c19 ((nI_leI (by omega) (by omega)).mpr z))
          refine y_aload_n B dX4_isSatisfiedByHits_22 rfl ?_
          refine y_get B (ref := "AlertIndex$Question") (ci := 5) (C := RX4) (T := TX4) (N := 6) hA rfl i_X4_isSatisfiedByHits_X4 0 (by decide) (by decide +kernel) (fun _ h9 => h9) rfl dX4_isSatisfiedByHits_23 ?_
          refine y_iload_n B dX4_isSatisfiedByHits_26 rfl ?_
          refine y_callF B 1 (x := ⟨"java/util/List", "get", "(I)Ljava/lang/Object;"⟩) (q := (RJx4a65c, TJx4a65c, 3)) _ _ (k_Jx4a65c_get_915e3 l G _ hL q19) hl1 rfl gX4_isSatisfiedByHits_Jx4a65c_get_915e3_f41Jx4a65c B.2.2.2.2.2.2.2.2.1.1.2.2.2.2.2.2.2.2.1 (by decide +kernel) rfl rfl rfl rfl ⟨(Nat.le_of_ble_eq_true rfl), (Nat.le_of_ble_eq_true rfl)⟩ (Nat.le_of_ble_eq_true rfl) ⟨(Nat.le_of_ble_eq_true rfl), (Nat.le_of_ble_eq_true rfl)⟩ dX4_isSatisfiedByHits_27 rfl (fun r M1 hr => ?_)
          obtain ⟨rfl, rfl⟩ := hr
          obtain ⟨tl, ta, hits, hPa, -⟩ := id (hPd i q19)
          refine y_cast B hPa (q := (RX3, TX3, 3)) rfl (by decide +kernel) dX4_isSatisfiedByHits_32 ?_
          refine y_aload_n B dX4_isSatisfiedByHits_35 rfl ?_
          refine y_callV B 1 (q := (RX3, TX3, 3)) _ _ (k_X3_isTrueByHits l G _ hD hv (hPd i q19) (hok i q19) (hh i q19).1 (hh i q19).2) hPa rfl gX4_isSatisfiedByHits_X3_isTrueByHits (by decide +kernel) rfl rfl rfl rfl ⟨(Nat.le_of_ble_eq_true rfl), (Nat.le_of_ble_eq_true rfl)⟩ (Nat.le_of_ble_eq_true rfl) ⟨(Nat.le_of_ble_eq_true rfl), (Nat.le_of_ble_eq_true rfl)⟩ dX4_isSatisfiedByHits_36 rfl (fun r M1 hr => ?_)
          obtain ⟨rfl, rfl⟩ := hr
          refine y_if_eq B 44 dX4_isSatisfiedByHits_39 (by decide) (fun c39 => ?_) (fun c39 => ?_)
          · have q39 := (ai_b0 _).mp c39
            refine y_iinc B (nI (i + 1)) dX4_isSatisfiedByHits_44 rfl (nI_1 i) ?_
            refine y_goto B 2 dX4_isSatisfiedByHits_47 (by decide) ?_
            exact ih (i + 1) (by omega) (by omega) (fun t ht => by rcases Nat.lt_succ_iff_lt_or_eq.mp ht with z | z; exact ha t z; rw [z]; exact q39)
          · have q39 : ((fun p => decide (hf p = ai_pn S (3 * q + p)) && ai_all (S 8 (3 * q + p)) (fun t => decide (S 12 (4 * (3 * q + p) + t) = 0) || ai_tk S (4 * (3 * q + p) + t))) i) = true := by cases z : ((fun p => decide (hf p = ai_pn S (3 * q + p)) && ai_all (S 8 (3 * q + p)) (fun t => decide (S 12 (4 * (3 * q + p) + t) = 0) || ai_tk S (4 * (3 * q + p) + t))) i) with | true => rfl | false => exact absurd ((ai_b0 _).mpr z) c39
            refine y_iconst B (nI 1) dX4_isSatisfiedByHits_42 (by decide +kernel) ?_
            exact y_zret B dX4_isSatisfiedByHits_43 (Nat.le_of_ble_eq_true rfl) (Nat.le_of_ble_eq_true rfl) rfl (⟨by rw [decide_eq_true q6, Bool.true_and]; rw [ai_any_t q19 q39]; rfl, rfl⟩)
  refine y_iconst B (nI 0) dX4_isSatisfiedByHits_0 (by decide +kernel) ?_
  refine y_istore_n B dX4_isSatisfiedByHits_1 (Nat.le_of_ble_eq_true rfl) ?_
  exact lp (S 3 q + 1) 0 (by omega) (by omega) (fun t ht => absurd ht (Nat.not_lt_zero t))
end
section
/-! ===== QUESTIONS THAT CHANGE ===== -/
theorem ai_U_id {M : ai_M} {a g : Nat} {e : va_E} (h : M a = some (g, e)) : ai_U M a g e = M := by
  funext q
  unfold ai_U
  by_cases z : q = a
  · rw [if_pos z, z, h]
  · rw [if_neg z]
theorem i_X4_isQuietAt_X4 : ∀ w ∈ wsX40, w ∈ wsX4_isQuietAt := fun _ h => List.mem_cons_of_mem _ (List.mem_append_right _ h)
theorem i_X4_raiseAlert_X4 : ∀ w ∈ wsX40, w ∈ wsX4_raiseAlert := fun _ h => List.mem_cons_of_mem _ (List.mem_append_right _ h)
theorem i_X4_takeDocument_X4 : ∀ w ∈ wsX40, w ∈ wsX4_takeDocument := fun _ h => List.mem_cons_of_mem _ (List.mem_append_right _ h)
theorem i_X4_sendBatch_X4 : ∀ w ∈ wsX40, w ∈ wsX4_sendBatch := fun _ h => List.mem_cons_of_mem _ (List.mem_append_right _ h)
theorem i_X4_forgetHits_X4 : ∀ w ∈ wsX40, w ∈ wsX4_forgetHits := fun _ h => List.mem_cons_of_mem _ (List.mem_append_left _ (List.mem_append_left _ (List.mem_append_right _ h)))
theorem i_X4_forgetHits_X3 : ∀ w ∈ wsX30, w ∈ wsX4_forgetHits := fun _ h => List.mem_cons_of_mem _ (List.mem_append_left _ (List.mem_append_right _ h))
set_option maxHeartbeats 4000000 in
set_option maxRecDepth 100000 in
theorem k_X4_isQuietAt (l : Launch) (G : ai_G) (M : ai_M) {a g x2 x4 x5 x6 x7 : Nat} {pl : Value} (hA : M a = some (g, .inr (5, [pl, .int (nI x2), .int (nI x4), .int (nI x5), .int (nI x6), .int (nI x7)]))) {now : Nat} (h5 : x5 < 2 ^ 31) (hn : now < 2 ^ 31) : ai_C l yX4_isQuietAt wsX4_isQuietAt ({ frames := 0, cells := 0, slots := 0, locals := 0 } : Room) 0 0 G M [.ref a, .int (nI now)] (fun r M1 => r = some (.int (ai_b (decide (now < x5)))) ∧ M1 = M) := by
  refine y_start (by decide +kernel) rfl (Nat.le_of_ble_eq_true rfl) (Nat.le_of_ble_eq_true rfl) (fun x hx => by simp only [List.mem_cons, List.not_mem_nil, or_false] at hx; rcases hx with rfl | rfl <;> rfl) ?_
  intro p e s m below meth c B hnm
  refine y_iload_n B dX4_isQuietAt_0 rfl ?_
  refine y_aload_n B dX4_isQuietAt_1 rfl ?_
  refine y_get B (ref := "AlertIndex$Question") (ci := 5) (C := RX4) (T := TX4) (N := 6) hA rfl i_X4_isQuietAt_X4 3 (by decide) (by decide +kernel) (fun _ h9 => h9) rfl dX4_isQuietAt_2 ?_
  refine y_icmp_ge B 12 dX4_isQuietAt_5 (by decide) (fun c5 => ?_) (fun c5 => ?_)
  · have q5 : ¬ now < x5 := Nat.not_lt.mpr ((nI_leI h5 hn).mp c5)
    refine y_iconst B (nI 0) dX4_isQuietAt_12 (by decide +kernel) ?_
    exact y_zret B dX4_isQuietAt_13 (Nat.le_of_ble_eq_true rfl) (Nat.le_of_ble_eq_true rfl) rfl (⟨by rw [decide_eq_false q5]; rfl, rfl⟩)
  · have q5 : now < x5 := Nat.lt_of_not_le (fun z => c5 ((nI_leI h5 hn).mpr z))
    refine y_iconst B (nI 1) dX4_isQuietAt_8 (by decide +kernel) ?_
    refine y_goto B 13 dX4_isQuietAt_9 (by decide) ?_
    exact y_zret B dX4_isQuietAt_13 (Nat.le_of_ble_eq_true rfl) (Nat.le_of_ble_eq_true rfl) rfl (⟨by rw [decide_eq_true q5]; rfl, rfl⟩)
set_option maxHeartbeats 4000000 in
set_option maxRecDepth 100000 in
theorem k_X4_raiseAlert (l : Launch) (G : ai_G) (M : ai_M) {a g x2 x4 x5 x6 x7 : Nat} {pl : Value} (hA : M a = some (g, .inr (5, [pl, .int (nI x2), .int (nI x4), .int (nI x5), .int (nI x6), .int (nI x7)]))) {now : Nat} : ai_C l yX4_raiseAlert wsX4_raiseAlert ({ frames := 0, cells := 0, slots := 0, locals := 0 } : Room) 0 0 G M [.ref a, .int (nI now)] (fun r M1 => r = none ∧ M1 = ai_U M a g (.inr (5, [pl, .int (nI x2), .int (nI x4), .int (nI (now + x4)), .int (nI (x6 + 1)), .int (nI x7)]))) := by
  refine y_start (by decide +kernel) rfl (Nat.le_of_ble_eq_true rfl) (Nat.le_of_ble_eq_true rfl) (fun x hx => by simp only [List.mem_cons, List.not_mem_nil, or_false] at hx; rcases hx with rfl | rfl <;> rfl) ?_
  intro p e s m below meth c B hnm
  refine y_aload_n B dX4_raiseAlert_0 rfl ?_
  refine y_dup B dX4_raiseAlert_1 rfl ?_
  refine y_get B (ref := "AlertIndex$Question") (ci := 5) (C := RX4) (T := TX4) (N := 6) hA rfl i_X4_raiseAlert_X4 4 (by decide) (by decide +kernel) (fun _ h9 => h9) rfl dX4_raiseAlert_2 ?_
  refine y_iconst B (nI 1) dX4_raiseAlert_5 (by decide +kernel) ?_
  refine y_iadd B (nI (x6 + 1)) dX4_raiseAlert_6 (nI_1 x6) ?_
  refine y_put B (ref := "AlertIndex$Question") (ci := 5) (C := RX4) (T := TX4) (N := 6) (ty := .int) hA rfl i_X4_raiseAlert_X4 tyX4 tyX4_ok nmX4 4 (by decide) (by decide +kernel) (fun _ h9 => h9) rfl (by decide +kernel) rfl rfl (Nat.le_of_ble_eq_true rfl) dX4_raiseAlert_7 ?_
  refine y_aload_n B dX4_raiseAlert_10 rfl ?_
  refine y_iload_n B dX4_raiseAlert_11 rfl ?_
  refine y_aload_n B dX4_raiseAlert_12 rfl ?_
  refine y_get B (ref := "AlertIndex$Question") (ci := 5) (C := RX4) (T := TX4) (N := 6) ai_U_s rfl i_X4_raiseAlert_X4 2 (by decide) (by decide +kernel) (fun _ h9 => h9) rfl dX4_raiseAlert_13 ?_
  refine y_iadd B (nI (now + x4)) dX4_raiseAlert_16 (nI_add _ _) ?_
  refine y_put B (ref := "AlertIndex$Question") (ci := 5) (C := RX4) (T := TX4) (N := 6) (ty := .int) ai_U_s rfl i_X4_raiseAlert_X4 tyX4 tyX4_ok nmX4 3 (by decide) (by decide +kernel) (fun _ h9 => h9) rfl (by decide +kernel) rfl rfl (Nat.le_of_ble_eq_true rfl) dX4_raiseAlert_17 ?_
  rw [ai_UU]
  exact y_vret B dX4_raiseAlert_20 (Nat.le_of_ble_eq_true rfl) (Nat.le_of_ble_eq_true rfl) (⟨rfl, rfl⟩)
set_option maxHeartbeats 4000000 in
set_option maxRecDepth 100000 in
theorem k_X4_takeDocument (l : Launch) (G : ai_G) (M : ai_M) {a g x2 x4 x5 x6 x7 : Nat} {pl : Value} (hA : M a = some (g, .inr (5, [pl, .int (nI x2), .int (nI x4), .int (nI x5), .int (nI x6), .int (nI x7)]))) {now : Nat} (h5 : x5 < 2 ^ 31) (hn : now < 2 ^ 31) : ai_C l yX4_takeDocument wsX4_takeDocument ({ frames := 1, cells := 0, slots := 0, locals := 21 } : Room) 0 0 G M [.ref a, .int (nI now)] (fun r M1 => r = some (.int (ai_b (decide (x5 ≤ now)))) ∧ M1 = ai_U M a g (.inr (5, [pl, .int (nI x2), .int (nI x4), .int (nI (if x5 ≤ now then now + x4 else x5)), .int (nI (if x5 ≤ now then x6 + 1 else x6)), .int (nI (if x5 ≤ now then x7 else x7 + 1))]))) := by
  refine y_start (by decide +kernel) rfl (Nat.le_of_ble_eq_true rfl) (Nat.le_of_ble_eq_true rfl) (fun x hx => by simp only [List.mem_cons, List.not_mem_nil, or_false] at hx; rcases hx with rfl | rfl <;> rfl) ?_
  intro p e s m below meth c B hnm
  refine y_aload_n B dX4_takeDocument_0 rfl ?_
  refine y_iload_n B dX4_takeDocument_1 rfl ?_
  refine y_callV B 1 (q := (RX4, TX4, 6)) _ _ (k_X4_isQuietAt l G _ hA h5 hn) hA rfl gX4_takeDocument_X4_isQuietAt (by decide +kernel) rfl rfl rfl rfl ⟨(Nat.le_of_ble_eq_true rfl), (Nat.le_of_ble_eq_true rfl)⟩ (Nat.le_of_ble_eq_true rfl) ⟨(Nat.le_of_ble_eq_true rfl), (Nat.le_of_ble_eq_true rfl)⟩ dX4_takeDocument_2 rfl (fun r M1 hr => ?_)
  obtain ⟨rfl, rfl⟩ := hr
  refine y_if_eq B 20 dX4_takeDocument_5 (by decide) (fun c5 => ?_) (fun c5 => ?_)
  · have q5 : x5 ≤ now := by have z := (ai_b0 _).mp c5; rw [decide_eq_false_iff_not] at z; omega
    refine y_aload_n B dX4_takeDocument_20 rfl ?_
    refine y_iload_n B dX4_takeDocument_21 rfl ?_
    refine y_callV B 1 (q := (RX4, TX4, 6)) _ _ (k_X4_raiseAlert l G _ hA) hA rfl gX4_takeDocument_X4_raiseAlert (by decide +kernel) rfl rfl rfl rfl ⟨(Nat.le_of_ble_eq_true rfl), (Nat.le_of_ble_eq_true rfl)⟩ (Nat.le_of_ble_eq_true rfl) ⟨(Nat.le_of_ble_eq_true rfl), (Nat.le_of_ble_eq_true rfl)⟩ dX4_takeDocument_22 rfl (fun r M1 hr => ?_)
    obtain ⟨rfl, rfl⟩ := hr
    refine y_iconst B (nI 1) dX4_takeDocument_25 (by decide +kernel) ?_
    exact y_zret B dX4_takeDocument_26 (Nat.le_of_ble_eq_true rfl) (Nat.le_of_ble_eq_true rfl) rfl (⟨by rw [decide_eq_true q5]; rfl, by rw [if_pos q5, if_pos q5, if_pos q5]⟩)
  · have q5 : ¬ x5 ≤ now := fun z => c5 ((ai_b0 _).mpr (decide_eq_false (by omega)))
    refine y_aload_n B dX4_takeDocument_8 rfl ?_
    refine y_dup B dX4_takeDocument_9 rfl ?_
    refine y_get B (ref := "AlertIndex$Question") (ci := 5) (C := RX4) (T := TX4) (N := 6) hA rfl i_X4_takeDocument_X4 5 (by decide) (by decide +kernel) (fun _ h9 => h9) rfl dX4_takeDocument_10 ?_
    refine y_iconst B (nI 1) dX4_takeDocument_13 (by decide +kernel) ?_
    refine y_iadd B (nI (x7 + 1)) dX4_takeDocument_14 (nI_1 x7) ?_
    refine y_put B (ref := "AlertIndex$Question") (ci := 5) (C := RX4) (T := TX4) (N := 6) (ty := .int) hA rfl i_X4_takeDocument_X4 tyX4 tyX4_ok nmX4 5 (by decide) (by decide +kernel) (fun _ h9 => h9) rfl (by decide +kernel) rfl rfl (Nat.le_of_ble_eq_true rfl) dX4_takeDocument_15 ?_
    refine y_iconst B (nI 0) dX4_takeDocument_18 (by decide +kernel) ?_
    exact y_zret B dX4_takeDocument_19 (Nat.le_of_ble_eq_true rfl) (Nat.le_of_ble_eq_true rfl) rfl (⟨by rw [decide_eq_false q5]; rfl, by rw [if_neg q5, if_neg q5, if_neg q5]; rfl⟩)
set_option maxHeartbeats 4000000 in
set_option maxRecDepth 100000 in
theorem k_X4_sendBatch (l : Launch) (G : ai_G) (M : ai_M) {a g x2 x4 x5 x6 x7 : Nat} {pl : Value} (hA : M a = some (g, .inr (5, [pl, .int (nI x2), .int (nI x4), .int (nI x5), .int (nI x6), .int (nI x7)]))) {now : Nat} (h2 : x2 < 2 ^ 31) (h7 : x7 < 2 ^ 31) (h5 : x5 < 2 ^ 31) (hn : now < 2 ^ 31) : ai_C l yX4_sendBatch wsX4_sendBatch ({ frames := 1, cells := 0, slots := 0, locals := 21 } : Room) 0 0 G M [.ref a, .int (nI now)] (fun r M1 => r = some (.int (ai_b (decide (x2 = 0 ∧ x7 ≠ 0 ∧ x5 ≤ now)))) ∧ M1 = ai_U M a g (.inr (5, [pl, .int (nI x2), .int (nI x4), .int (nI (if (x2 = 0 ∧ x7 ≠ 0 ∧ x5 ≤ now) then x5 + x4 else x5)), .int (nI (if (x2 = 0 ∧ x7 ≠ 0 ∧ x5 ≤ now) then x6 + 1 else x6)), .int (nI (if (x2 = 0 ∧ x7 ≠ 0 ∧ x5 ≤ now) then 0 else x7))]))) := by
  refine y_start (by decide +kernel) rfl (Nat.le_of_ble_eq_true rfl) (Nat.le_of_ble_eq_true rfl) (fun x hx => by simp only [List.mem_cons, List.not_mem_nil, or_false] at hx; rcases hx with rfl | rfl <;> rfl) ?_
  intro p e s m below meth c B hnm
  refine y_aload_n B dX4_sendBatch_0 rfl ?_
  refine y_get B (ref := "AlertIndex$Question") (ci := 5) (C := RX4) (T := TX4) (N := 6) hA rfl i_X4_sendBatch_X4 1 (by decide) (by decide +kernel) (fun _ h9 => h9) rfl dX4_sendBatch_1 ?_
  refine y_if_ne B 22 dX4_sendBatch_4 (by decide) (fun c4 => ?_) (fun c4 => ?_)
  · have qn : ¬ (x2 = 0 ∧ x7 ≠ 0 ∧ x5 ≤ now) := fun z => c4 (by rw [z.1]; rfl)
    refine y_iconst B (nI 0) dX4_sendBatch_22 (by decide +kernel) ?_
    exact y_zret B dX4_sendBatch_23 (Nat.le_of_ble_eq_true rfl) (Nat.le_of_ble_eq_true rfl) rfl (⟨by rw [decide_eq_false qn]; rfl, by rw [if_neg qn, if_neg qn, if_neg qn, ai_U_id hA]⟩)
  · have q4 : x2 = 0 := (nI_eq h2 (by decide)).mp c4
    refine y_aload_n B dX4_sendBatch_7 rfl ?_
    refine y_get B (ref := "AlertIndex$Question") (ci := 5) (C := RX4) (T := TX4) (N := 6) hA rfl i_X4_sendBatch_X4 5 (by decide) (by decide +kernel) (fun _ h9 => h9) rfl dX4_sendBatch_8 ?_
    refine y_if_eq B 22 dX4_sendBatch_11 (by decide) (fun c11 => ?_) (fun c11 => ?_)
    · have q11 : x7 = 0 := (nI_eq h7 (by decide)).mp c11
      have qn : ¬ (x2 = 0 ∧ x7 ≠ 0 ∧ x5 ≤ now) := fun z => z.2.1 q11
      refine y_iconst B (nI 0) dX4_sendBatch_22 (by decide +kernel) ?_
      exact y_zret B dX4_sendBatch_23 (Nat.le_of_ble_eq_true rfl) (Nat.le_of_ble_eq_true rfl) rfl (⟨by rw [decide_eq_false qn]; rfl, by rw [if_neg qn, if_neg qn, if_neg qn, ai_U_id hA]⟩)
    · have q11 : x7 ≠ 0 := fun z => c11 (by rw [z]; rfl)
      refine y_aload_n B dX4_sendBatch_14 rfl ?_
      refine y_iload_n B dX4_sendBatch_15 rfl ?_
      refine y_callV B 1 (q := (RX4, TX4, 6)) _ _ (k_X4_isQuietAt l G _ hA h5 hn) hA rfl gX4_sendBatch_X4_isQuietAt (by decide +kernel) rfl rfl rfl rfl ⟨(Nat.le_of_ble_eq_true rfl), (Nat.le_of_ble_eq_true rfl)⟩ (Nat.le_of_ble_eq_true rfl) ⟨(Nat.le_of_ble_eq_true rfl), (Nat.le_of_ble_eq_true rfl)⟩ dX4_sendBatch_16 rfl (fun r M1 hr => ?_)
      obtain ⟨rfl, rfl⟩ := hr
      refine y_if_eq B 24 dX4_sendBatch_19 (by decide) (fun c19 => ?_) (fun c19 => ?_)
      · have q19 : x5 ≤ now := by have z := (ai_b0 _).mp c19; rw [decide_eq_false_iff_not] at z; omega
        have qy : (x2 = 0 ∧ x7 ≠ 0 ∧ x5 ≤ now) := ⟨q4, q11, q19⟩
        refine y_aload_n B dX4_sendBatch_24 rfl ?_
        refine y_iconst B (nI 0) dX4_sendBatch_25 (by decide +kernel) ?_
        refine y_put B (ref := "AlertIndex$Question") (ci := 5) (C := RX4) (T := TX4) (N := 6) (ty := .int) hA rfl i_X4_sendBatch_X4 tyX4 tyX4_ok nmX4 5 (by decide) (by decide +kernel) (fun _ h9 => h9) rfl (by decide +kernel) rfl rfl (Nat.le_of_ble_eq_true rfl) dX4_sendBatch_26 ?_
        refine y_aload_n B dX4_sendBatch_29 rfl ?_
        refine y_aload_n B dX4_sendBatch_30 rfl ?_
        refine y_get B (ref := "AlertIndex$Question") (ci := 5) (C := RX4) (T := TX4) (N := 6) ai_U_s rfl i_X4_sendBatch_X4 3 (by decide) (by decide +kernel) (fun _ h9 => h9) rfl dX4_sendBatch_31 ?_
        refine y_callV B 1 (q := (RX4, TX4, 6)) _ _ (k_X4_raiseAlert l G _ ai_U_s) ai_U_s rfl gX4_sendBatch_X4_raiseAlert (by decide +kernel) rfl rfl rfl rfl ⟨(Nat.le_of_ble_eq_true rfl), (Nat.le_of_ble_eq_true rfl)⟩ (Nat.le_of_ble_eq_true rfl) ⟨(Nat.le_of_ble_eq_true rfl), (Nat.le_of_ble_eq_true rfl)⟩ dX4_sendBatch_34 rfl (fun r M1 hr => ?_)
        obtain ⟨rfl, rfl⟩ := hr
        refine y_iconst B (nI 1) dX4_sendBatch_37 (by decide +kernel) ?_
        exact y_zret B dX4_sendBatch_38 (Nat.le_of_ble_eq_true rfl) (Nat.le_of_ble_eq_true rfl) rfl (⟨by rw [decide_eq_true qy]; rfl, by rw [if_pos qy, if_pos qy, if_pos qy, ai_UU]⟩)
      · have qn : ¬ (x2 = 0 ∧ x7 ≠ 0 ∧ x5 ≤ now) := fun z => c19 ((ai_b0 _).mpr (decide_eq_false (by omega)))
        refine y_iconst B (nI 0) dX4_sendBatch_22 (by decide +kernel) ?_
        exact y_zret B dX4_sendBatch_23 (Nat.le_of_ble_eq_true rfl) (Nat.le_of_ble_eq_true rfl) rfl (⟨by rw [decide_eq_false qn]; rfl, by rw [if_neg qn, if_neg qn, if_neg qn, ai_U_id hA]⟩)
set_option maxHeartbeats 4000000 in
set_option maxRecDepth 100000 in
theorem k_X4_forgetHits (l : Launch) (G : ai_G) (M : ai_M) {a q : Nat} {S : ai_S} {pa : Nat → Nat} (hQ : ai_Qd G M S pa q a) : ai_C l yX4_forgetHits wsX4_forgetHits ({ frames := 3, cells := 0, slots := 0, locals := 64 } : Room) 0 0 G M [.ref a] (fun r M1 => r = none ∧ ai_hk M M1 ∧ (∀ p, p < S 3 q → ai_ht M1 (pa (3 * q + p)) (nI 0)) ∧ ∀ (b : Nat) (v : Int32), (∀ p, p < S 3 q → b ≠ pa (3 * q + p)) → ai_ht M b v → ai_ht M1 b v) := by
  refine y_start (by decide +kernel) rfl (Nat.le_of_ble_eq_true rfl) (Nat.le_of_ble_eq_true rfl) (fun x hx => by simp only [List.mem_cons, List.not_mem_nil, or_false] at hx; rcases hx with rfl <;> rfl) ?_
  intro p e s m below meth c B hnm
  have hbd : S 3 q ≤ 40 := by obtain ⟨_, _, z, _⟩ := hQ; exact z.bd
  have lp : ∀ (d : Nat) (i : Nat) (Mi : ai_M), (S 3 q < i + d) → (i ≤ S 3 q) → (ai_hk M Mi) → (∀ p, p < i → ai_ht Mi (pa (3 * q + p)) (nI 0)) → (∀ (b : Nat) (v : Int32), (∀ p, p < i → b ≠ pa (3 * q + p)) → ai_ht M b v → ai_ht Mi b v) → ai_Y p l e ({ frames := 3, cells := 0, slots := 0, locals := 64 } : Room) s m [.ref a].toArray below meth c G (MQ below (ai_Q G (fun r M1 => r = none ∧ ai_hk M M1 ∧ (∀ p, p < S 3 q → ai_ht M1 (pa (3 * q + p)) (nI 0)) ∧ ∀ (b : Nat) (v : Int32), (∀ p, p < S 3 q → b ≠ pa (3 * q + p)) → ai_ht M b v → ai_ht M1 b v)) [.ref a].toArray s 0 0 (ai_A G)) Mi 0 0 [some (.ref a), some (.int (nI i))] 2 [] := by
    intro d
    induction d with
    | zero => intros; omega
    | succ d ih =>
      intro i Mi hm hi hk h0 hz
      obtain ⟨pl, hA, hL, hPd⟩ := hk.qd hQ
      obtain ⟨mc, arr, cap, h9, hl1, -⟩ := id hL
      refine y_iload_n B dX4_forgetHits_2 rfl ?_
      refine y_aload_n B dX4_forgetHits_3 rfl ?_
      refine y_get B (ref := "AlertIndex$Question") (ci := 5) (C := RX4) (T := TX4) (N := 6) hA rfl i_X4_forgetHits_X4 0 (by decide) (by decide +kernel) (fun _ h9 => h9) rfl dX4_forgetHits_4 ?_
      refine y_callF B 0 (x := ⟨"java/util/List", "size", "()I"⟩) (q := (RJx4a65c, TJx4a65c, 3)) _ _ (k_Jx4a65c_size_8abf5 l G _ hL) hl1 rfl gX4_forgetHits_Jx4a65c_size_8abf5_f35Jx4a65c B.2.2.2.2.2.2.2.2.1.1.2.2.2.2.2.2.1 (by decide +kernel) rfl rfl rfl rfl ⟨(Nat.le_of_ble_eq_true rfl), (Nat.le_of_ble_eq_true rfl)⟩ (Nat.le_of_ble_eq_true rfl) ⟨(Nat.le_of_ble_eq_true rfl), (Nat.le_of_ble_eq_true rfl)⟩ dX4_forgetHits_7 rfl (fun r M1 hr => ?_)
      obtain ⟨rfl, rfl⟩ := hr
      refine y_icmp_ge B 38 dX4_forgetHits_12 (by decide) (fun c12 => ?_) (fun c12 => ?_)
      · have q12 : S 3 q ≤ i := (nI_leI (by omega) (by omega)).mp c12
        have ei : i = S 3 q := by omega
        exact y_vret B dX4_forgetHits_38 (Nat.le_of_ble_eq_true rfl) (Nat.le_of_ble_eq_true rfl) (⟨rfl, hk, fun p hp => h0 p (by omega), fun b v hb hv => hz b v (fun p hp => hb p (by omega)) hv⟩)
      · have q12 : i < S 3 q := Nat.lt_of_not_le (fun z => c12 ((nI_leI (by omega) (by omega)).mpr z))
        refine y_aload_n B dX4_forgetHits_15 rfl ?_
        refine y_get B (ref := "AlertIndex$Question") (ci := 5) (C := RX4) (T := TX4) (N := 6) hA rfl i_X4_forgetHits_X4 0 (by decide) (by decide +kernel) (fun _ h9 => h9) rfl dX4_forgetHits_16 ?_
        refine y_iload_n B dX4_forgetHits_19 rfl ?_
        refine y_callF B 1 (x := ⟨"java/util/List", "get", "(I)Ljava/lang/Object;"⟩) (q := (RJx4a65c, TJx4a65c, 3)) _ _ (k_Jx4a65c_get_915e3 l G _ hL q12) hl1 rfl gX4_forgetHits_Jx4a65c_get_915e3_f41Jx4a65c B.2.2.2.2.2.2.2.2.1.1.2.2.2.2.2.2.2.2.1 (by decide +kernel) rfl rfl rfl rfl ⟨(Nat.le_of_ble_eq_true rfl), (Nat.le_of_ble_eq_true rfl)⟩ (Nat.le_of_ble_eq_true rfl) ⟨(Nat.le_of_ble_eq_true rfl), (Nat.le_of_ble_eq_true rfl)⟩ dX4_forgetHits_20 rfl (fun r M1 hr => ?_)
        obtain ⟨rfl, rfl⟩ := hr
        obtain ⟨tl, ta, hits, hPa, -⟩ := id (hPd i q12)
        refine y_cast B hPa (q := (RX3, TX3, 3)) rfl (by decide +kernel) dX4_forgetHits_25 ?_
        refine y_iconst B (nI 0) dX4_forgetHits_28 (by decide +kernel) ?_
        refine y_put B (ref := "AlertIndex$Product") (ci := 4) (C := RX3) (T := TX3) (N := 3) (ty := .int) hPa rfl i_X4_forgetHits_X3 tyX3 tyX3_ok nmX3 2 (by decide) (by decide +kernel) (fun _ h9 => h9) rfl (by decide +kernel) rfl rfl (Nat.le_of_ble_eq_true rfl) dX4_forgetHits_29 ?_
        refine y_iinc B (nI (i + 1)) dX4_forgetHits_32 rfl (nI_1 i) ?_
        refine y_goto B 2 dX4_forgetHits_35 (by decide) ?_
        have hne : ∀ p, p < i → pa (3 * q + p) ≠ pa (3 * q + i) := fun p hp => by obtain ⟨_, _, _, z, -⟩ := hPd p (by omega); exact ai_ne z hPa (by omega)
        exact ih (i + 1) _ (by omega) (by omega) (hk.tr (ai_hk.one hPa)) (fun p hp => by rcases Nat.lt_succ_iff_lt_or_eq.mp hp with z | z; exact (h0 p z).u (hne p z); rw [z]; exact ⟨_, _, _, ai_U_s⟩) (fun b v hb hv => (hz b v (fun p hp => hb p (by omega)) hv).u (hb i (by omega)))
  refine y_iconst B (nI 0) dX4_forgetHits_0 (by decide +kernel) ?_
  refine y_istore_n B dX4_forgetHits_1 (Nat.le_of_ble_eq_true rfl) ?_
  exact lp (S 3 q + 1) 0 M (by omega) (by omega) ai_hk.rf (fun p hp => absurd hp (Nat.not_lt_zero p)) (fun b v _ h => h)
end
section
/-! ===== RANGES, PIECES, REFUSALS, THE INDEX ===== -/
theorem x_bad_44 : ∀ w ∈ (vx_atS RX6 44 "java/lang/IllegalStateException" ai_Xn).filter (fun w => !goodWord w), w ∈ ai_Xw := fun _ h => List.mem_append_left _ (List.mem_append_left _ (List.mem_append_right _ h))
theorem x_bad_161 : ∀ w ∈ (vx_atS RX6 161 "java/lang/IndexOutOfBoundsException" ai_Xn).filter (fun w => !goodWord w), w ∈ ai_Xw := fun _ h => List.mem_append_left _ (List.mem_append_right _ h)
theorem x_bad_108 : ∀ w ∈ (vx_atS RX6 108 "java/lang/IllegalArgumentException" ai_Xn).filter (fun w => !goodWord w), w ∈ ai_Xw := fun _ h => List.mem_append_right _ h
theorem x_good_44 : ∀ w ∈ Cond.classLink RX6 40 "java/lang/IllegalStateException" :: Cond.initialized "java/lang/IllegalStateException" :: vx_atS RX6 44 "java/lang/IllegalStateException" ai_Xn, vx_ot w = true := by decide +kernel
theorem x_good_161 : ∀ w ∈ Cond.classLink RX6 157 "java/lang/IndexOutOfBoundsException" :: Cond.initialized "java/lang/IndexOutOfBoundsException" :: vx_atS RX6 161 "java/lang/IndexOutOfBoundsException" ai_Xn, vx_ot w = true := by decide +kernel
theorem x_good_108 : ∀ w ∈ Cond.classLink RX6 104 "java/lang/IllegalArgumentException" :: Cond.initialized "java/lang/IllegalArgumentException" :: vx_atS RX6 108 "java/lang/IllegalArgumentException" ai_Xn, vx_ot w = true := by decide +kernel
/-- a number lies in 0 .. n - 1 -/
def ai_r (x : Int32) (n : Nat) : Bool := decide (0 ≤ x.toInt ∧ x.toInt < (n : Int))
theorem ai_r_neg {x : Int32} {n : Nat} (h : x < 0) : ai_r x n = false := by
  have := Int32.lt_iff_toInt_lt.mp h
  rw [Int32.toInt_zero] at this
  exact decide_eq_false (by omega)
theorem ai_r_big {x : Int32} {n : Nat} (hn : n < 2 ^ 31) (h : nI n ≤ x) : ai_r x n = false := by
  have := Int32.le_iff_toInt_le.mp h
  rw [nI_toInt hn] at this
  exact decide_eq_false (by omega)
theorem ai_r_ok {x : Int32} {n : Nat} (hn : n < 2 ^ 31) (h : ¬ x < 0) (h2 : ¬ nI n ≤ x) : ai_r x n = true := by
  rw [Int32.lt_iff_toInt_lt, Int32.toInt_zero] at h
  rw [Int32.le_iff_toInt_le, nI_toInt hn] at h2
  exact decide_eq_true (by omega)
theorem ai_r_ok2 {x : Int32} {n : Nat} (hn : n < 2 ^ 31) (h : ¬ x < 0) (h2 : x < nI n) : ai_r x n = true := ai_r_ok hn h (fun z => by
  rw [Int32.le_iff_toInt_le] at z
  rw [Int32.lt_iff_toInt_lt] at h2
  omega)
theorem ai_r_big2 {x : Int32} {n : Nat} (hn : n < 2 ^ 31) (h : ¬ x < nI n) : ai_r x n = false := ai_r_big hn (by
  rw [Int32.le_iff_toInt_le]
  rw [Int32.lt_iff_toInt_lt] at h
  omega)
theorem ai_r_nI {j n : Nat} (hj : j < n) (hn : n < 2 ^ 31) : ai_r (nI j) n = true := by
  refine decide_eq_true ?_
  rw [nI_toInt (by omega)]
  omega
theorem ai_r_of {x : Int32} {n : Nat} (hn : n < 2 ^ 31) (h : ai_r x n = true) : ∃ j : Nat, j < n ∧ x = nI j := vp_in_of (vp_in_iff.mpr (of_decide_eq_true h)) hn
/-- the level of the greatest piece that begins at b and ends at h or ahead of it -/
def ai_lvF : Nat → Nat → Nat → Nat → Nat
  | 0, l, _, _ => l
  | n + 1, l, b, h => if b % 2 ^ (l + 1) = 0 ∧ b + 2 ^ (l + 1) ≤ h + 1 then ai_lvF n (l + 1) b h else l
def ai_lv (b h : Nat) : Nat := ai_lvF 6 0 b h
theorem ai_p2 : ∀ l, l < 7 → 2 ^ (l + 1) ≤ 128 ∧ 2 ≤ 2 ^ (l + 1) := by decide
theorem ai_p26 : ∀ l, l < 7 → ¬ 64 < 2 ^ (l + 1) → l < 6 := by decide
theorem ai_p66 : ∀ l, l < 7 → 64 < 2 ^ (l + 1) → l = 6 := by decide
theorem ai_lv_le : ∀ b, b < 64 → ∀ h, h < 64 → b ≤ h → b + 2 ^ ai_lv b h ≤ h + 1 ∧ ai_lv b h ≤ 6 ∧ b % 2 ^ ai_lv b h = 0 := by decide +kernel
set_option maxHeartbeats 4000000 in
set_option maxRecDepth 100000 in
theorem k_X6_isValue (l : Launch) (G : ai_G) (M : ai_M) {x : Int32} : ai_C l yX6_isValue wsX6_isValue ({ frames := 0, cells := 0, slots := 0, locals := 0 } : Room) 0 0 G M [.int x] (fun r M1 => r = some (.int (ai_b (ai_r x 64))) ∧ M1 = M) := by
  refine y_start (by decide +kernel) rfl (Nat.le_of_ble_eq_true rfl) (Nat.le_of_ble_eq_true rfl) (fun x hx => by simp only [List.mem_cons, List.not_mem_nil, or_false] at hx; rcases hx with rfl <;> rfl) ?_
  intro p e s m below meth c B hnm
  refine y_iload_n B dX6_isValue_0 rfl ?_
  refine y_if_lt B 14 dX6_isValue_1 (by decide) (fun c1 => ?_) (fun c1 => ?_)
  · refine y_iconst B (nI 0) dX6_isValue_14 (by decide +kernel) ?_
    exact y_zret B dX6_isValue_15 (Nat.le_of_ble_eq_true rfl) (Nat.le_of_ble_eq_true rfl) rfl (⟨by rw [ai_r_neg c1]; rfl, rfl⟩)
  · refine y_iload_n B dX6_isValue_4 rfl ?_
    refine y_bipush B (nI 64) dX6_isValue_5 (by decide +kernel) ?_
    refine y_icmp_ge B 14 dX6_isValue_7 (by decide) (fun c7 => ?_) (fun c7 => ?_)
    · refine y_iconst B (nI 0) dX6_isValue_14 (by decide +kernel) ?_
      exact y_zret B dX6_isValue_15 (Nat.le_of_ble_eq_true rfl) (Nat.le_of_ble_eq_true rfl) rfl (⟨by rw [ai_r_big (by decide) c7]; rfl, rfl⟩)
    · refine y_iconst B (nI 1) dX6_isValue_10 (by decide +kernel) ?_
      refine y_goto B 15 dX6_isValue_11 (by decide) ?_
      exact y_zret B dX6_isValue_15 (Nat.le_of_ble_eq_true rfl) (Nat.le_of_ble_eq_true rfl) rfl (⟨by rw [ai_r_ok (by decide) c1 c7]; rfl, rfl⟩)
set_option maxHeartbeats 4000000 in
set_option maxRecDepth 100000 in
theorem k_X6_levelOfPiece (l : Launch) (G : ai_G) (M : ai_M) {b h : Nat} (hb : b < 64) (hh : h < 64) : ai_C l yX6_levelOfPiece wsX6_levelOfPiece ({ frames := 0, cells := 0, slots := 0, locals := 0 } : Room) 0 0 G M [.int (nI b), .int (nI h)] (fun r M1 => r = some (.int (nI (ai_lv b h))) ∧ M1 = M) := by
  refine y_start (by decide +kernel) rfl (Nat.le_of_ble_eq_true rfl) (Nat.le_of_ble_eq_true rfl) (fun x hx => by simp only [List.mem_cons, List.not_mem_nil, or_false] at hx; rcases hx with rfl | rfl <;> rfl) ?_
  intro p e s m below meth c B hnm
  have lp : ∀ (d : Nat) (i : Nat), (6 < i + d) → (i ≤ 6) → (ai_lv b h = ai_lvF (6 - i) i b h) → ai_Y p l e ({ frames := 0, cells := 0, slots := 0, locals := 0 } : Room) s m [.int (nI b), .int (nI h)].toArray below meth c G (MQ below (ai_Q G (fun r M1 => r = some (.int (nI (ai_lv b h))) ∧ M1 = M)) [.int (nI b), .int (nI h)].toArray s 0 0 (ai_A G)) M 0 0 [some (.int (nI b)), some (.int (nI h)), some (.int (nI i)), some (.int (nI (2 ^ (i + 1))))] 4 [] := by
    intro d
    induction d with
    | zero => intros; omega
    | succ d ih =>
      intro i hm hi hl
      have hp := ai_p2 i (by omega)
      have hmod : b % 2 ^ (i + 1) < 2 ^ (i + 1) := Nat.mod_lt _ (by omega)
      refine y_iload_n B dX6_levelOfPiece_4 rfl ?_
      refine y_bipush B (nI 64) dX6_levelOfPiece_5 (by decide +kernel) ?_
      refine y_icmp_gt B 40 dX6_levelOfPiece_7 (by decide) (fun c7 => ?_) (fun c7 => ?_)
      · have q7 : i = 6 := ai_p66 i (by omega) ((nI_ltI (by decide) (by omega)).mp c7)
        refine y_iload_n B dX6_levelOfPiece_40 rfl ?_
        exact y_iret B dX6_levelOfPiece_41 (Nat.le_of_ble_eq_true rfl) (Nat.le_of_ble_eq_true rfl) (⟨by rw [hl, q7]; rfl, rfl⟩)
      · have q7 : i < 6 := ai_p26 i (by omega) (fun z => c7 ((nI_ltI (by decide) (by omega)).mpr z))
        obtain ⟨n, hn⟩ : ∃ n, 6 - i = n + 1 := ⟨5 - i, by omega⟩
        refine y_iload_n B dX6_levelOfPiece_10 rfl ?_
        refine y_iload_n B dX6_levelOfPiece_11 rfl ?_
        refine y_iconst B (nI 1) dX6_levelOfPiece_12 (by decide +kernel) ?_
        refine y_isub B (nI (2 ^ (i + 1) - 1)) dX6_levelOfPiece_13 (pk_sub (by omega)) ?_
        refine y_iand B (nI (b % 2 ^ (i + 1))) dX6_levelOfPiece_14 (pk_andN (by omega) (i + 1) (pk_tn (by omega))) ?_
        refine y_if_ne B 40 dX6_levelOfPiece_15 (by decide) (fun c15 => ?_) (fun c15 => ?_)
        · have q15 : ¬ b % 2 ^ (i + 1) = 0 := fun z => c15 (by rw [z]; rfl)
          refine y_iload_n B dX6_levelOfPiece_40 rfl ?_
          exact y_iret B dX6_levelOfPiece_41 (Nat.le_of_ble_eq_true rfl) (Nat.le_of_ble_eq_true rfl) (⟨by rw [hl, hn]; unfold ai_lvF; rw [if_neg (fun z => q15 z.1)], rfl⟩)
        · have q15 : b % 2 ^ (i + 1) = 0 := (nI_eq (by omega) (by decide)).mp c15
          refine y_iload_n B dX6_levelOfPiece_18 rfl ?_
          refine y_iload_n B dX6_levelOfPiece_19 rfl ?_
          refine y_iadd B (nI (b + 2 ^ (i + 1))) dX6_levelOfPiece_20 (nI_add _ _) ?_
          refine y_iconst B (nI 1) dX6_levelOfPiece_21 (by decide +kernel) ?_
          refine y_isub B (nI (b + 2 ^ (i + 1) - 1)) dX6_levelOfPiece_22 (pk_sub (by omega)) ?_
          refine y_iload_n B dX6_levelOfPiece_23 rfl ?_
          refine y_icmp_le B 30 dX6_levelOfPiece_24 (by decide) (fun c24 => ?_) (fun c24 => ?_)
          · have q24 : b + 2 ^ (i + 1) - 1 ≤ h := (nI_leI (by omega) (by omega)).mp c24
            refine y_iinc B (nI (i + 1)) dX6_levelOfPiece_30 rfl (nI_1 i) ?_
            refine y_iload_n B dX6_levelOfPiece_33 rfl ?_
            refine y_iconst B (nI 2) dX6_levelOfPiece_34 (by decide +kernel) ?_
            refine y_imul B (nI (2 ^ (i + 1 + 1))) dX6_levelOfPiece_35 ((pk_mul _ _).trans (congrArg nI (Nat.pow_succ 2 (i + 1)).symm)) ?_
            refine y_istore_n B dX6_levelOfPiece_36 (Nat.le_of_ble_eq_true rfl) ?_
            refine y_goto B 4 dX6_levelOfPiece_37 (by decide) ?_
            exact ih (i + 1) (by omega) (by omega) (by rw [hl, hn, show 6 - (i + 1) = n by omega]; conv => lhs; unfold ai_lvF; rw [if_pos (show _ ∧ _ from ⟨q15, by omega⟩)])
          · have q24 : ¬ b + 2 ^ (i + 1) - 1 ≤ h := fun z => c24 ((nI_leI (by omega) (by omega)).mpr z)
            refine y_goto B 40 dX6_levelOfPiece_27 (by decide) ?_
            refine y_iload_n B dX6_levelOfPiece_40 rfl ?_
            exact y_iret B dX6_levelOfPiece_41 (Nat.le_of_ble_eq_true rfl) (Nat.le_of_ble_eq_true rfl) (⟨by rw [hl, hn]; unfold ai_lvF; rw [if_neg (fun z => q24 (by omega))], rfl⟩)
  refine y_iconst B (nI 0) dX6_levelOfPiece_0 (by decide +kernel) ?_
  refine y_istore_n B dX6_levelOfPiece_1 (Nat.le_of_ble_eq_true rfl) ?_
  refine y_iconst B (nI 2) dX6_levelOfPiece_2 (by decide +kernel) ?_
  refine y_istore_n B dX6_levelOfPiece_3 (Nat.le_of_ble_eq_true rfl) ?_
  exact lp 7 0 (by omega) (by omega) rfl
set_option maxHeartbeats 4000000 in
set_option maxRecDepth 100000 in
theorem k_X6_refuseNoName (l : Launch) (G : ai_G) (M : ai_M) (hst : l.stackTraces = false) {x : Int32} : ai_D l yX6_refuseNoName wsX6_refuseNoName ({ frames := 6, cells := 1, slots := 6, locals := 90 } : Room) 1 6 G M [.int x] (fun r M1 => r = none ∧ M1 = M ∧ ai_r x 6 = true) (fun E M1 => E = "java/lang/IndexOutOfBoundsException" ∧ M1 = M ∧ ai_r x 6 = false) := by
  refine x_start (by decide +kernel) rfl (Nat.le_of_ble_eq_true rfl) (Nat.le_of_ble_eq_true rfl) (fun x hx => by simp only [List.mem_cons, List.not_mem_nil, or_false] at hx; rcases hx with rfl <;> rfl) ?_
  intro p e s m below meth c B htab
  refine y_iload_n B dX6_refuseNoName_0 rfl ?_
  refine y_if_lt B 10 dX6_refuseNoName_1 (by decide) (fun c1 => ?_) (fun c1 => ?_)
  · exact x_throw B (E := "java/lang/IndexOutOfBoundsException") (text := "a name is 0 to 5") (sv := 21) hst htab (by decide +kernel) (by decide +kernel) (by decide +kernel) (by decide +kernel) (fun w h => List.mem_cons_of_mem _ (List.mem_append_right _ h)) x_bad_161 x_good_161 dX6_refuseNoName_10 dX6_refuseNoName_13 dX6_refuseNoName_14 dX6_refuseNoName_16 dX6_refuseNoName_19 (Nat.le_of_ble_eq_true rfl) (Nat.le_of_ble_eq_true rfl) (Nat.le_of_ble_eq_true rfl) (Nat.le_of_ble_eq_true rfl) (Nat.le_of_ble_eq_true rfl) (Nat.le_of_ble_eq_true rfl) (⟨rfl, rfl, ai_r_neg c1⟩)
  · refine y_iload_n B dX6_refuseNoName_4 rfl ?_
    refine y_bipush B (nI 6) dX6_refuseNoName_5 (by decide +kernel) ?_
    refine y_icmp_lt B 20 dX6_refuseNoName_7 (by decide) (fun c7 => ?_) (fun c7 => ?_)
    · exact x_vret B dX6_refuseNoName_20 (Nat.le_of_ble_eq_true rfl) (Nat.le_of_ble_eq_true rfl) (⟨rfl, rfl, ai_r_ok2 (by decide) c1 c7⟩)
    · exact x_throw B (E := "java/lang/IndexOutOfBoundsException") (text := "a name is 0 to 5") (sv := 21) hst htab (by decide +kernel) (by decide +kernel) (by decide +kernel) (by decide +kernel) (fun w h => List.mem_cons_of_mem _ (List.mem_append_right _ h)) x_bad_161 x_good_161 dX6_refuseNoName_10 dX6_refuseNoName_13 dX6_refuseNoName_14 dX6_refuseNoName_16 dX6_refuseNoName_19 (Nat.le_of_ble_eq_true rfl) (Nat.le_of_ble_eq_true rfl) (Nat.le_of_ble_eq_true rfl) (Nat.le_of_ble_eq_true rfl) (Nat.le_of_ble_eq_true rfl) (Nat.le_of_ble_eq_true rfl) (⟨rfl, rfl, ai_r_big2 (by decide) c7⟩)
/-- low and high are a range -/
def ai_rg (lo hi : Int32) : Bool := ai_r lo 64 && (ai_r hi 64 && decide (lo ≤ hi))
set_option maxHeartbeats 4000000 in
set_option maxRecDepth 100000 in
theorem k_X6_refuseNoRange (l : Launch) (G : ai_G) (M : ai_M) (hst : l.stackTraces = false) {x y : Int32} : ai_D l yX6_refuseNoRange wsX6_refuseNoRange ({ frames := 6, cells := 1, slots := 6, locals := 90 } : Room) 1 6 G M [.int x, .int y] (fun r M1 => r = none ∧ M1 = M ∧ ai_rg x y = true) (fun E M1 => E = "java/lang/IllegalArgumentException" ∧ M1 = M ∧ ai_rg x y = false) := by
  refine x_start (by decide +kernel) rfl (Nat.le_of_ble_eq_true rfl) (Nat.le_of_ble_eq_true rfl) (fun x hx => by simp only [List.mem_cons, List.not_mem_nil, or_false] at hx; rcases hx with rfl | rfl <;> rfl) ?_
  intro p e s m below meth c B htab
  refine y_iload_n B dX6_refuseNoRange_0 rfl ?_
  refine y_callS B 1 _ _ (k_X6_isValue l G _) gX6_refuseNoRange_X6_isValue (by decide +kernel) rfl rfl rfl rfl ⟨(Nat.le_of_ble_eq_true rfl), (Nat.le_of_ble_eq_true rfl)⟩ (Nat.le_of_ble_eq_true rfl) ⟨(Nat.le_of_ble_eq_true rfl), (Nat.le_of_ble_eq_true rfl)⟩ dX6_refuseNoRange_1 rfl (fun r M1 hr => ?_)
  obtain ⟨rfl, rfl⟩ := hr
  refine y_if_eq B 19 dX6_refuseNoRange_4 (by decide) (fun c4 => ?_) (fun c4 => ?_)
  · have q4 := (ai_b0 _).mp c4
    exact x_throw B (E := "java/lang/IllegalArgumentException") (text := "a range is from 0 to 63, its low not above its high") (sv := 22) hst htab (by decide +kernel) (by decide +kernel) (by decide +kernel) (by decide +kernel) (fun w h => List.mem_cons_of_mem _ (List.mem_append_right _ h)) x_bad_108 x_good_108 dX6_refuseNoRange_19 dX6_refuseNoRange_22 dX6_refuseNoRange_23 dX6_refuseNoRange_25 dX6_refuseNoRange_28 (Nat.le_of_ble_eq_true rfl) (Nat.le_of_ble_eq_true rfl) (Nat.le_of_ble_eq_true rfl) (Nat.le_of_ble_eq_true rfl) (Nat.le_of_ble_eq_true rfl) (Nat.le_of_ble_eq_true rfl) (⟨rfl, rfl, by unfold ai_rg; rw [q4]; rfl⟩)
  · have q4 : ai_r x 64 = true := by cases z : ai_r x 64 with | true => rfl | false => exact absurd ((ai_b0 _).mpr z) c4
    refine y_iload_n B dX6_refuseNoRange_7 rfl ?_
    refine y_callS B 1 _ _ (k_X6_isValue l G _) gX6_refuseNoRange_X6_isValue (by decide +kernel) rfl rfl rfl rfl ⟨(Nat.le_of_ble_eq_true rfl), (Nat.le_of_ble_eq_true rfl)⟩ (Nat.le_of_ble_eq_true rfl) ⟨(Nat.le_of_ble_eq_true rfl), (Nat.le_of_ble_eq_true rfl)⟩ dX6_refuseNoRange_8 rfl (fun r M1 hr => ?_)
    obtain ⟨rfl, rfl⟩ := hr
    refine y_if_eq B 19 dX6_refuseNoRange_11 (by decide) (fun c11 => ?_) (fun c11 => ?_)
    · have q11 := (ai_b0 _).mp c11
      exact x_throw B (E := "java/lang/IllegalArgumentException") (text := "a range is from 0 to 63, its low not above its high") (sv := 22) hst htab (by decide +kernel) (by decide +kernel) (by decide +kernel) (by decide +kernel) (fun w h => List.mem_cons_of_mem _ (List.mem_append_right _ h)) x_bad_108 x_good_108 dX6_refuseNoRange_19 dX6_refuseNoRange_22 dX6_refuseNoRange_23 dX6_refuseNoRange_25 dX6_refuseNoRange_28 (Nat.le_of_ble_eq_true rfl) (Nat.le_of_ble_eq_true rfl) (Nat.le_of_ble_eq_true rfl) (Nat.le_of_ble_eq_true rfl) (Nat.le_of_ble_eq_true rfl) (Nat.le_of_ble_eq_true rfl) (⟨rfl, rfl, by unfold ai_rg; rw [q4, q11]; rfl⟩)
    · have q11 : ai_r y 64 = true := by cases z : ai_r y 64 with | true => rfl | false => exact absurd ((ai_b0 _).mpr z) c11
      refine y_iload_n B dX6_refuseNoRange_14 rfl ?_
      refine y_iload_n B dX6_refuseNoRange_15 rfl ?_
      refine y_icmp_le B 29 dX6_refuseNoRange_16 (by decide) (fun c16 => ?_) (fun c16 => ?_)
      · exact x_vret B dX6_refuseNoRange_29 (Nat.le_of_ble_eq_true rfl) (Nat.le_of_ble_eq_true rfl) (⟨rfl, rfl, by unfold ai_rg; rw [q4, q11, decide_eq_true c16]; rfl⟩)
      · exact x_throw B (E := "java/lang/IllegalArgumentException") (text := "a range is from 0 to 63, its low not above its high") (sv := 22) hst htab (by decide +kernel) (by decide +kernel) (by decide +kernel) (by decide +kernel) (fun w h => List.mem_cons_of_mem _ (List.mem_append_right _ h)) x_bad_108 x_good_108 dX6_refuseNoRange_19 dX6_refuseNoRange_22 dX6_refuseNoRange_23 dX6_refuseNoRange_25 dX6_refuseNoRange_28 (Nat.le_of_ble_eq_true rfl) (Nat.le_of_ble_eq_true rfl) (Nat.le_of_ble_eq_true rfl) (Nat.le_of_ble_eq_true rfl) (Nat.le_of_ble_eq_true rfl) (Nat.le_of_ble_eq_true rfl) (⟨rfl, rfl, by unfold ai_rg; rw [q4, q11, decide_eq_false c16]; rfl⟩)
end
