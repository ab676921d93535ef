section
-- ===== PART A: goes FIRST, ahead of the names: the tables' words, and 'selects' of the private methods out of them =====
/-- a private method of a class that the tables say can be made, by its rows of tables_1 -/
def lw_okq (q : MethodName × Nat) : Prop := (q.1.cls ≠ "java/lang/invoke/MethodHandle" ∧ q.1.cls ≠ "java/lang/invoke/VarHandle") ∧ Cond.instantiable q.1.cls q.2 ∈ tables_1 ∧ Cond.privateMethod q.1 ∈ tables_1 ∧ Cond.instanceMethod q.1 ∈ tables_1
theorem lw_p0 : lw_okq (⟨"AlertIndex$Question", "raiseAlert", "(I)V"⟩, 6) := ⟨⟨by decide +kernel, by decide +kernel⟩, List.mem_of_getElem? (i := 168) (by decide +kernel), List.mem_of_getElem? (i := 166) (by decide +kernel), List.mem_of_getElem? (i := 167) (by decide +kernel)⟩
theorem lw_p1 : lw_okq (⟨"AlertIndex$PieceIndex", "hitAbove", "(II)V"⟩, 1) := ⟨⟨by decide +kernel, by decide +kernel⟩, List.mem_of_getElem? (i := 73) (by decide +kernel), List.mem_of_getElem? (i := 191) (by decide +kernel), List.mem_of_getElem? (i := 192) (by decide +kernel)⟩
theorem lw_p2 : lw_okq (⟨"AlertIndex$PieceIndex", "firstAt", "(I)LAlertIndex$Posting;"⟩, 1) := ⟨⟨by decide +kernel, by decide +kernel⟩, List.mem_of_getElem? (i := 73) (by decide +kernel), List.mem_of_getElem? (i := 195) (by decide +kernel), List.mem_of_getElem? (i := 196) (by decide +kernel)⟩
theorem lw_p3 : lw_okq (⟨"java/lang/Throwable", "fillInStackTrace", "(I)Ljava/lang/Throwable;"⟩, 6) := ⟨⟨by decide +kernel, by decide +kernel⟩, List.mem_of_getElem? (i := 277) (by decide +kernel), List.mem_of_getElem? (i := 275) (by decide +kernel), List.mem_of_getElem? (i := 276) (by decide +kernel)⟩
theorem lw_p4 : lw_okq (⟨"java/util/ArrayList", "add", "(Ljava/lang/Object;[Ljava/lang/Object;I)V"⟩, 3) := ⟨⟨by decide +kernel, by decide +kernel⟩, List.mem_of_getElem? (i := 33) (by decide +kernel), List.mem_of_getElem? (i := 346) (by decide +kernel), List.mem_of_getElem? (i := 347) (by decide +kernel)⟩
theorem lw_p5 : lw_okq (⟨"java/util/ArrayList", "grow", "()[Ljava/lang/Object;"⟩, 3) := ⟨⟨by decide +kernel, by decide +kernel⟩, List.mem_of_getElem? (i := 33) (by decide +kernel), List.mem_of_getElem? (i := 350) (by decide +kernel), List.mem_of_getElem? (i := 351) (by decide +kernel)⟩
theorem lw_p6 : lw_okq (⟨"java/util/ArrayList", "grow", "(I)[Ljava/lang/Object;"⟩, 3) := ⟨⟨by decide +kernel, by decide +kernel⟩, List.mem_of_getElem? (i := 33) (by decide +kernel), List.mem_of_getElem? (i := 354) (by decide +kernel), List.mem_of_getElem? (i := 355) (by decide +kernel)⟩
theorem lw_p7 : lw_okq (⟨"AlertIndex", "questionOf", "(I)LAlertIndex$Question;"⟩, 4) := ⟨⟨by decide +kernel, by decide +kernel⟩, List.mem_of_getElem? (i := 25) (by decide +kernel), List.mem_of_getElem? (i := 407) (by decide +kernel), List.mem_of_getElem? (i := 408) (by decide +kernel)⟩
theorem lw_p8 : lw_okq (⟨"AlertIndex$PieceIndex", "post", "(LAlertIndex$Product;I)V"⟩, 1) := ⟨⟨by decide +kernel, by decide +kernel⟩, List.mem_of_getElem? (i := 73) (by decide +kernel), List.mem_of_getElem? (i := 517) (by decide +kernel), List.mem_of_getElem? (i := 518) (by decide +kernel)⟩
theorem lw_p9 : lw_okq (⟨"AlertIndexModel", "holds", "(I)Z"⟩, 15) := ⟨⟨by decide +kernel, by decide +kernel⟩, List.mem_of_getElem? (i := 629) (by decide +kernel), List.mem_of_getElem? (i := 690) (by decide +kernel), List.mem_of_getElem? (i := 691) (by decide +kernel)⟩
theorem lw_p10 : lw_okq (⟨"AlertIndexModel", "isQuestion", "(I)Z"⟩, 15) := ⟨⟨by decide +kernel, by decide +kernel⟩, List.mem_of_getElem? (i := 629) (by decide +kernel), List.mem_of_getElem? (i := 698) (by decide +kernel), List.mem_of_getElem? (i := 699) (by decide +kernel)⟩
theorem lw_p11 : lw_okq (⟨"AlertIndexModel", "does", "(I)Z"⟩, 15) := ⟨⟨by decide +kernel, by decide +kernel⟩, List.mem_of_getElem? (i := 629) (by decide +kernel), List.mem_of_getElem? (i := 731) (by decide +kernel), List.mem_of_getElem? (i := 732) (by decide +kernel)⟩
theorem lw_p12 : lw_okq (⟨"AlertIndexModel", "isTrue", "(I)Z"⟩, 15) := ⟨⟨by decide +kernel, by decide +kernel⟩, List.mem_of_getElem? (i := 629) (by decide +kernel), List.mem_of_getElem? (i := 735) (by decide +kernel), List.mem_of_getElem? (i := 736) (by decide +kernel)⟩
theorem lw_p13 : lw_okq (⟨"AlertIndexModel", "quietNow", "(I)Z"⟩, 15) := ⟨⟨by decide +kernel, by decide +kernel⟩, List.mem_of_getElem? (i := 629) (by decide +kernel), List.mem_of_getElem? (i := 739) (by decide +kernel), List.mem_of_getElem? (i := 740) (by decide +kernel)⟩
theorem lw_p14 : lw_okq (⟨"AlertIndexModel", "raises", "(I)V"⟩, 15) := ⟨⟨by decide +kernel, by decide +kernel⟩, List.mem_of_getElem? (i := 629) (by decide +kernel), List.mem_of_getElem? (i := 743) (by decide +kernel), List.mem_of_getElem? (i := 744) (by decide +kernel)⟩
theorem lw_p15 : lw_okq (⟨"AlertIndexModel", "found", "()I"⟩, 15) := ⟨⟨by decide +kernel, by decide +kernel⟩, List.mem_of_getElem? (i := 629) (by decide +kernel), List.mem_of_getElem? (i := 760) (by decide +kernel), List.mem_of_getElem? (i := 761) (by decide +kernel)⟩
def lw_privs_1 : List (MethodName × Nat) := [(⟨"AlertIndex$Question", "raiseAlert", "(I)V"⟩, 6), (⟨"AlertIndex$PieceIndex", "hitAbove", "(II)V"⟩, 1), (⟨"AlertIndex$PieceIndex", "firstAt", "(I)LAlertIndex$Posting;"⟩, 1), (⟨"java/lang/Throwable", "fillInStackTrace", "(I)Ljava/lang/Throwable;"⟩, 6), (⟨"java/util/ArrayList", "add", "(Ljava/lang/Object;[Ljava/lang/Object;I)V"⟩, 3), (⟨"java/util/ArrayList", "grow", "()[Ljava/lang/Object;"⟩, 3), (⟨"java/util/ArrayList", "grow", "(I)[Ljava/lang/Object;"⟩, 3), (⟨"AlertIndex", "questionOf", "(I)LAlertIndex$Question;"⟩, 4), (⟨"AlertIndex$PieceIndex", "post", "(LAlertIndex$Product;I)V"⟩, 1), (⟨"AlertIndexModel", "holds", "(I)Z"⟩, 15), (⟨"AlertIndexModel", "isQuestion", "(I)Z"⟩, 15), (⟨"AlertIndexModel", "does", "(I)Z"⟩, 15), (⟨"AlertIndexModel", "isTrue", "(I)Z"⟩, 15), (⟨"AlertIndexModel", "quietNow", "(I)Z"⟩, 15), (⟨"AlertIndexModel", "raises", "(I)V"⟩, 15), (⟨"AlertIndexModel", "found", "()I"⟩, 15)]
theorem lw_r1 : ∀ q ∈ lw_privs_1, lw_okq q := List.forall_mem_cons.mpr ⟨lw_p0, List.forall_mem_cons.mpr ⟨lw_p1, List.forall_mem_cons.mpr ⟨lw_p2, List.forall_mem_cons.mpr ⟨lw_p3, List.forall_mem_cons.mpr ⟨lw_p4, List.forall_mem_cons.mpr ⟨lw_p5, List.forall_mem_cons.mpr ⟨lw_p6, List.forall_mem_cons.mpr ⟨lw_p7, List.forall_mem_cons.mpr ⟨lw_p8, List.forall_mem_cons.mpr ⟨lw_p9, List.forall_mem_cons.mpr ⟨lw_p10, List.forall_mem_cons.mpr ⟨lw_p11, List.forall_mem_cons.mpr ⟨lw_p12, List.forall_mem_cons.mpr ⟨lw_p13, List.forall_mem_cons.mpr ⟨lw_p14, List.forall_mem_cons.mpr ⟨lw_p15, fun _ h => absurd h List.not_mem_nil⟩⟩⟩⟩⟩⟩⟩⟩⟩⟩⟩⟩⟩⟩⟩⟩
theorem lw_p16 : lw_okq (⟨"AlertIndexModel", "size", "(I)I"⟩, 15) := ⟨⟨by decide +kernel, by decide +kernel⟩, List.mem_of_getElem? (i := 629) (by decide +kernel), List.mem_of_getElem? (i := 772) (by decide +kernel), List.mem_of_getElem? (i := 773) (by decide +kernel)⟩
def lw_privs_2 : List (MethodName × Nat) := [(⟨"AlertIndexModel", "size", "(I)I"⟩, 15)]
theorem lw_r2 : ∀ q ∈ lw_privs_2, lw_okq q := List.forall_mem_cons.mpr ⟨lw_p16, fun _ h => absurd h List.not_mem_nil⟩
def lw_privs : List (MethodName × Nat) := lw_privs_1 ++ (lw_privs_2)
def lw_tbl : List Cond := k2_sels lw_privs ++ tables_1
theorem lw_privs_ok : ∀ q ∈ lw_privs, lw_okq q := by
  show ∀ q ∈ lw_privs_1 ++ (lw_privs_2), lw_okq q
  exact List.forall_mem_append.mpr ⟨lw_r1, lw_r2⟩
end
section
/-! ===== BEGIN words of one list among another's, by their places ===== -/
theorem goodIn_r {big : List Cond} (ws : List Cond) (ps : List Nat) (hp : ws = ps.filterMap (fun i => big[i]?)) (h : ws.all goodWord = true) : GoodIn big ws := by
  intro w hw
  have h1 := List.all_eq_true.mp h w hw
  rw [hp] at hw
  obtain ⟨i, -, hi⟩ := List.mem_filterMap.mp hw
  have hm : w ∈ big := by first | exact List.mem_of_getElem? hi | exact List.getElem?_mem hi
  exact ⟨hm, good_of_word h1⟩
theorem goodIn_app {big a b : List Cond} (ha : GoodIn big a) (hb : GoodIn big b) : GoodIn big (a ++ b) := fun w h => (List.mem_append.mp h).elim (ha w) (hb w)
theorem goodIn_ca {big a b : List Cond} {c : Cond} (ha : GoodIn big (c :: a)) (hb : GoodIn big b) : GoodIn big (c :: (a ++ b)) := fun w h => (List.mem_cons.mp h).elim (fun e => ha w (List.mem_cons.mpr (Or.inl e))) (fun h => (List.mem_append.mp h).elim (fun h => ha w (List.mem_cons.mpr (Or.inr h))) (hb w))
theorem goodIn_sub {big ws : List Cond} (hm : ∀ w ∈ ws, w ∈ big) (h : ws.all goodWord = true) : GoodIn big ws := fun w hw => ⟨hm w hw, good_of_word (List.all_eq_true.mp h w hw)⟩
/-! ===== END ===== -/

/-! ===== BEGIN exceptions that leave a method, and their catching by the caller (launches without stack traces) ===== -/
section VXA
/-! The laws vx_back, vx_callV, vx_callS, vx_callSW, vx_throw0, vx_throwS follow proofs of the library, with one case more: JvmDerived/Free/Laws.lean (Back.of_free), Shelf42/LK1.lean (callV, callS), Shelf/KitTraced.lean (throwNew0V, throwNewS). -/
/-- where a method has thrown q: the class by its name, the cell, what was written, the world -/
def vx_T (XC : String → State → State → Prop) (st : State) (q : Addr) (t : State) (mc ms : Nat) (free : Addr → Prop) : Prop :=
  ∃ (E : String) (ce : Cell) (L : List Loc), XC E st t ∧ t.heap[q]? = some ce ∧ ce.vm = .none ∧ st.vm.findClass E = some ce.cls ∧ st.WarmedH t.vm ∧ st.sameButNew ({ t with vm := st.vm } : State) L mc ms ∧ ∀ z ∈ L, free z.base
def vx_Q (Qc : Array Value → State → Outcome → State → Prop) (XC : String → State → State → Prop) (mc ms : Nat) (free : Addr → Prop) : Array Value → State → Outcome → State → Prop := fun a st o t =>
  (Qc a st o t ∧ ∃ L, FrameEnd st o t L mc ms ∧ ∀ q ∈ L, free q.base) ∨ ∃ q, o = .threw q ∧ vx_T XC st q t mc ms free
/-- a callee that returns or throws -/
def vx_Met (l : Launch) (y : MethodName) (ws : List Cond) (rm : Room) (Pc : Array Value → State → Prop) (Qc : Array Value → State → Outcome → State → Prop) (XC : String → State → State → Prop) (mc ms : Nat) (free : Addr → Prop) : Prop :=
  MetFree l y (headSpec ws rm) Pc (fun _ _ _ _ _ => True) (vx_Q Qc XC mc ms free)
def vx_Post (XC : String → State → State → Prop) (mc ms : Nat) (free : Addr → Prop) : Pt → Array Value → Addr → Pt → Prop := fun A a q B =>
  ∃ (g : JFrame) (mk : MethodId) (t : State) (L : List Loc) (E : String) (ce : Cell), B.U.heap = t.heap ∧ B.U.vm = t.vm ∧ XC E (A.U.calling g mk a) t ∧ t.heap[q]? = some ce ∧ ce.vm = .none ∧ A.U.vm.findClass E = some ce.cls ∧ B.locs = A.locs ++ L ∧ (∀ z ∈ L, free z.base) ∧ B.cells = A.cells + mc ∧ B.slots = A.slots + ms
def vx_Back (l : Launch) (R : Room) (p : Program) (e : Env) (below : List Frame) (s : State) (sargs : Array Value) (y : MethodName) (len W9 : Nat)
    (Pre : Pt → Array Value → Prop) (Post : Pt → Array Value → Option Value → Pt → Prop) (PostX : Pt → Array Value → Addr → Pt → Prop) : Prop :=
  ∀ (m : MethodId) (meth : Method) (c : Code) (A : Pt) (g : JFrame) (ig : Instr) (mk : MethodId) (a : Array Value),
    Stand p l e R s m sargs below meth c A.U A.locs A.cells A.slots → g.method = m → g.locals.size = c.maxLocals → decode c.code g.pc = .ok (ig, len) →
    2 * g.monitorRoom + (g.stack.map fun v => v.category).sum ≤ W9 → A.U.methodNamed? y = some mk → Pre A a →
    (∃ (v : Option Value) (B : Pt), Stand p l e R s m sargs below meth c B.U B.locs B.cells B.slots ∧ Post A a v B ∧
      Steps p.tables e below (doInvoke e (A.U.setTop g) [] mk a).1 (B.U.setTop { g with pc := g.pc + len, stack := v.toList ++ g.stack })) ∨
    (∃ (q : Addr) (B : Pt), Stand p l e R s m sargs below meth c B.U B.locs B.cells B.slots ∧ PostX A a q B ∧
      Steps p.tables e below (doInvoke e (A.U.setTop g) [] mk a).1 ((B.U.setTop g).pushFrame (.throwing q)))
section Payer
variable {l : Launch} {R : Room} {p : Program} {e : Env} {below : List Frame} {s : State} {sargs : Array Value} {y : MethodName} {len W9 : Nat}
theorem vx_back {ws : List Cond} {rm : Room} {Pc : Array Value → State → Prop} {Qc : Array Value → State → Outcome → State → Prop} {XC : String → State → State → Prop} {mc ms : Nat} {free : Addr → Prop} {bytes : ByteArray} {maxL : Nat} {ret : Option FieldType}
    (hM : vx_Met l y ws rm Pc Qc XC mc ms free) (hblind : FrameBlind Pc) (hrc : rm.cells = mc) (hrs : rm.slots = ms)
    (hframes : rm.frames + 1 ≤ R.frames) (hlocals : W9 + (maxL + 11) + rm.locals ≤ R.locals)
    (hws : ∀ w ∈ ws, ∀ a' U, s.WarmedH U.vm → w.before a' U = true) (hcode : Cond.code y bytes maxL ret ∈ ws) (hinit : ∀ a' U, s.WarmedH U.vm → (Cond.initialized y.cls).before a' U = true) :
    vx_Back l R p e below s sargs y len W9 (PreOf R mc ms Pc) (PostOf Qc mc ms free) (vx_Post XC mc ms free) := by
  intro m meth c A g ig mk a X hg hsize hdg hW hn hp
  have h1 : (headSpec ws rm).pre.before a A.U = true := atoms_intro fun w hw => hws w hw _ _ X.warmed
  have h2 : (Cond.code y bytes maxL ret).before a A.U = true := hws _ hcode _ _ X.warmed
  have h3 : (Cond.initialized y.cls).before a A.U = true := hinit _ _ X.warmed
  have h4 : A.cells + (headSpec ws rm).room.cells ≤ R.cells := by rw [show (headSpec ws rm).room.cells = mc from hrc]; exact hp.1
  have h5 : A.slots + (headSpec ws rm).room.slots ≤ R.slots := by rw [show (headSpec ws rm).room.slots = ms from hrs]; exact hp.2.1
  have hPc : Pc a (A.U.calling g mk a) := hblind _ _ _ _ hp.2.2
  obtain ⟨U, Ls, c0, s0⟩ := A
  dsimp only [Pt.U, Pt.locs, Pt.cells, Pt.slots] at h1 h2 h3 h4 h5 X hn hPc ⊢
  obtain ⟨methY, cY, hmY, hcY, -, hlY, -, -, -, -⟩ := Cond.code_spec hn h2
  obtain ⟨kY, hkY, -⟩ := className_of_methodNamed hn
  have hinitY : kY.init = .initialized := Cond.initialized_spec (findClass_of_methodNamed hn) hkY h3
  have h : At U g.method c below := by rw [hg]; exact X.here
  have hlocals9 : W9 + (maxL + 11) + (headSpec ws rm).room.locals ≤ R.locals := hlocals
  have happ : (headSpec ws rm).appliesLoose y e.platform (U.calling g mk a) = true :=
    Spec.appliesLoose_calling (g := g) h hdg hn hkY hinitY
      (X.room_calling (g := g) (R' := (headSpec ws rm).room) hsize hmY hcY hframes (by rw [hlY]; omega) h4 h5) h1
  obtain ⟨mid, hmid⟩ := h.above
  have hfr : (U.setTop g).frames = (.java g :: mid) ++ below := by rw [State.frames_setTop' g h.top, hmid]; rfl
  obtain ⟨o, s₂, hsteps, -, hend, hq⟩ := Steps.callFree hM p X.admits X.cas X.clock (acts := []) hfr happ hPc trivial
  have hq' : vx_Q Qc XC mc ms free a (U.calling g mk a) o s₂ := hq
  rw [State.frames_setTop' g h.top] at hend
  obtain ⟨g₀, hg0⟩ := Option.isSome_iff_exists.mp h.top
  obtain ⟨r, hr⟩ := State.topJava?_eq_some.mp hg0
  have hr' : (({ U with heap := s₂.heap, slotsUsed := s₂.slotsUsed } : State).setVm s₂.vm).frames = .java g₀ :: r := hr
  rcases hq' with ⟨hqc, L, hfe, hL⟩ | ⟨q, rfl, E, ce, L, hx, hce, hcv, hcl, hW₂, hsm, hL⟩
  · obtain ⟨⟨v, rfl⟩, hW₂, e2, q2, q3, q4, q5, q6⟩ := id hfe
    have e3 : s₂ = ({ (U.calling g mk a).setFrames s₂.frames with heap := s₂.heap, slotsUsed := s₂.slotsUsed } : State).setVm s₂.vm := by
      have : s₂ = ({ s₂ with vm := (U.calling g mk a).vm } : State).setVm s₂.vm := rfl
      rw [e2] at this
      exact this
    obtain ⟨c₂, i₂, len₂, hc₂, hd₂, hf₂⟩ := hend
    have hW' : U.WarmedH s₂.vm := hW₂
    have hcc : c₂ = c := by
      have h1 : s₂.code? g.method = U.code? g.method := by
        rw [State.code?_eq, State.code?_eq, hW'.alike.method?]
      exact Option.some.inj (hc₂.symm.trans (h1.trans h.code))
    subst hcc
    have hlen : len₂ = len := by rw [hdg] at hd₂; cases hd₂; rfl
    subst hlen
    have hs₂ : s₂ = (({ U with heap := s₂.heap, slotsUsed := s₂.slotsUsed } : State).setVm s₂.vm).setTop { g with pc := g.pc + len₂, stack := v.toList ++ g.stack } := by
      refine e3.trans ?_
      rw [hf₂, State.calling_eq h.top, State.setFrames_setFrames, State.setTop_of_frames _ hr', hr]
      rfl
    have hsame : U.sameButNew ({ U with heap := s₂.heap, slotsUsed := s₂.slotsUsed } : State) L mc ms := by
      refine ⟨?_, q2, q3, q4, q5, q6⟩
      obtain ⟨t, ht, -⟩ := State.frames_cons hr
      show ({ U with heap := s₂.heap, slotsUsed := s₂.slotsUsed } : State) = { U.setFrames U.frames with heap := s₂.heap, slotsUsed := s₂.slotsUsed }
      rw [State.setFrames_self ht]
    subst hg
    refine Or.inl ⟨v, ⟨(({ U with heap := s₂.heap, slotsUsed := s₂.slotsUsed } : State).setVm s₂.vm), Ls ++ L, c0 + mc, s0 + ms⟩,
      ⟨X.admits, X.cas, X.clock, X.frames, X.room, X.hears, X.method, X.code, (X.here.setHeapUsed s₂.heap s₂.slotsUsed).setVm hW'.alike, X.tail, State.WarmedH.trans X.warmed hW', X.limits, X.bytes, X.same.trans (hsame.setVm s.vm)⟩,
      ⟨g, mk, s₂, L, rfl, rfl, hqc, rfl, hL, rfl, rfl⟩, ?_⟩
    show Steps p.tables e below _ ((({ U with heap := s₂.heap, slotsUsed := s₂.slotsUsed } : State).setVm s₂.vm).setTop { g with pc := g.pc + len₂, stack := v.toList ++ g.stack })
    rw [← hs₂]
    exact hsteps
  · obtain ⟨e2, q2, q3, q4, q5, q6⟩ := id hsm
    have e3 : s₂ = ({ (U.calling g mk a).setFrames s₂.frames with heap := s₂.heap, slotsUsed := s₂.slotsUsed } : State).setVm s₂.vm := by
      have : s₂ = ({ s₂ with vm := (U.calling g mk a).vm } : State).setVm s₂.vm := rfl
      rw [e2] at this
      exact this
    have hf₂ : s₂.frames = .throwing q :: .java g :: U.frames.tail := hend
    have hW' : U.WarmedH s₂.vm := hW₂
    have hs₂ : s₂ = ((({ U with heap := s₂.heap, slotsUsed := s₂.slotsUsed } : State).setVm s₂.vm).setTop g).pushFrame (.throwing q) := by
      refine e3.trans ?_
      rw [hf₂, State.calling_eq h.top, State.setFrames_setFrames, State.pushFrame, State.frames_setTop _ hr', State.setTop_of_frames _ hr', State.setFrames_setFrames, hr]
      rfl
    have hsame : U.sameButNew ({ U with heap := s₂.heap, slotsUsed := s₂.slotsUsed } : State) L mc ms := by
      refine ⟨?_, q2, q3, q4, q5, q6⟩
      obtain ⟨t, ht, -⟩ := State.frames_cons hr
      show ({ U with heap := s₂.heap, slotsUsed := s₂.slotsUsed } : State) = { U.setFrames U.frames with heap := s₂.heap, slotsUsed := s₂.slotsUsed }
      rw [State.setFrames_self ht]
    subst hg
    refine Or.inr ⟨q, ⟨(({ U with heap := s₂.heap, slotsUsed := s₂.slotsUsed } : State).setVm s₂.vm), Ls ++ L, c0 + mc, s0 + ms⟩,
      ⟨X.admits, X.cas, X.clock, X.frames, X.room, X.hears, X.method, X.code, (X.here.setHeapUsed s₂.heap s₂.slotsUsed).setVm hW'.alike, X.tail, State.WarmedH.trans X.warmed hW', X.limits, X.bytes, X.same.trans (hsame.setVm s.vm)⟩,
      ⟨g, mk, s₂, L, E, ce, rfl, rfl, hx, hce, hcv, hcl, rfl, hL, rfl, rfl⟩, ?_⟩
    show Steps p.tables e below _ (((({ U with heap := s₂.heap, slotsUsed := s₂.slotsUsed } : State).setVm s₂.vm).setTop g).pushFrame (.throwing q))
    rw [← hs₂]
    exact hsteps
end Payer
section Calls
variable {p : Program} {l : Launch} {e : Env} {R : Room} {s : State} {m : MethodId} {args : Array Value} {below : List Frame} {meth : Method} {c : Code} {T : State} {locs : List Loc} {cells slots : Nat}
theorem vx_callV (X : Stand p l e R s m args below meth c T locs cells slots) (hexec : p.tables.exec = Jvm.exec) {own C : String} {index : Nat} {y : MethodName} {bytes : ByteArray} {maxL : Nat} {ret : Option FieldType}
    (hown : s.vm.findClass own = some m.cls) (hlink : (Cond.methodLink own index y).before args s = true) (hinst : (Cond.instanceMethod y).before args s = true) (hsel : (Cond.selects C y y).before args s = true)
    (hcode : (Cond.code y bytes maxL ret).before args s = true) (hy : y.cls ≠ "java/lang/invoke/MethodHandle" ∧ y.cls ≠ "java/lang/invoke/VarHandle")
    {W9 : Nat} {Pre : Pt → Array Value → Prop} {Post : Pt → Array Value → Option Value → Pt → Prop} {PostX : Pt → Array Value → Addr → Pt → Prop} (hK : vx_Back l R p e below s args y 3 W9 Pre Post PostX)
    {b : Addr} {cellB : Cell} (hcell : T.heap[b]? = some cellB) (hobj : cellB.vm.isStatics = false) (hcls : s.vm.findClass C = some cellB.cls)
    {g : JFrame} (hg : g.method = m) (hsize : g.locals.size = c.maxLocals) {argsL rest : List Value} (hlen : ∀ sig, parseMethodDescriptor y.desc = some sig → argsL.length = sig.parameters.length)
    (hstack : g.stack = argsL.reverse ++ .ref b :: rest) (hW : 2 * g.monitorRoom + (rest.map fun v => v.category).sum ≤ W9) (hdg : decode c.code g.pc = .ok (.invokevirtual index, 3))
    (hpre : ∀ vm₁, s.WarmedH vm₁ → Pre ⟨T.setVm vm₁, locs, cells, slots⟩ (Value.ref b :: argsL).toArray) :
    (∃ (v : Option Value) (vm₁ : Vm) (B : Pt), s.WarmedH vm₁ ∧ Stand p l e R s m args below meth c B.U B.locs B.cells B.slots ∧ Post ⟨T.setVm vm₁, locs, cells, slots⟩ (Value.ref b :: argsL).toArray v B ∧
      ∀ target, Steps p.tables e below (B.U.setTop { g with pc := g.pc + 3, stack := v.toList ++ rest }) target → Steps p.tables e below (T.setTop g) target) ∨
    (∃ (q : Addr) (vm₁ : Vm) (B : Pt), s.WarmedH vm₁ ∧ Stand p l e R s m args below meth c B.U B.locs B.cells B.slots ∧ PostX ⟨T.setVm vm₁, locs, cells, slots⟩ (Value.ref b :: argsL).toArray q B ∧
      Steps p.tables e below (T.setTop g) ((B.U.setTop { g with stack := rest }).pushFrame (.throwing q))) := by
  obtain ⟨mk, methM, hnamed, hmethM, hstM, habM⟩ := Cond.instanceMethod_spec hinst
  obtain ⟨methM', cM, hmethM', -, -, -, -, -, -, hsigM⟩ := Cond.code_spec hnamed hcode
  cases hmethM.symm.trans hmethM'
  obtain ⟨c2, r2, m2, q1, q2, q3, q4, kP, hkP, hkPi⟩ := Cond.selects_spec hsel
  cases hcls.symm.trans q1
  cases (State.methodFound?_of_named hnamed hy).symm.trans q2
  cases hnamed.symm.trans q3
  have hselP : selectMethod e.platform s.vm cellB.cls mk = .method mk := by rw [Launch.admits_selectMethod X.admits]; exact q4
  obtain ⟨vm₁, X₁, hstep₁⟩ := X.invokevirtual hexec hown hlink hnamed hmethM hstM hkP hkPi hy (a := b) (cell := cellB) hcell
    (fun z h => by rw [h] at hobj; cases hobj) hselP hmethM habM hkP hkPi (g := g) hg (argsL := argsL) (rest := rest) (hlen _ hsigM) hstack hdg
  rcases hK m meth c ⟨T.setVm vm₁, locs, cells, slots⟩ { g with stack := rest } (.invokevirtual index) mk (Value.ref b :: argsL).toArray X₁ hg hsize hdg hW (X₁.named hnamed) (hpre vm₁ X₁.warmed) with ⟨v, B, X', hpost, hsteps⟩ | ⟨q, B, X', hpost, hsteps⟩
  · exact Or.inl ⟨v, vm₁, B, X₁.warmed, X', hpost, fun target h => hstep₁ _ fun acts => by rw [doInvoke_state]; exact hsteps.trans h⟩
  · exact Or.inr ⟨q, vm₁, B, X₁.warmed, X', hpost, hstep₁ _ fun acts => by rw [doInvoke_state]; exact hsteps⟩
theorem vx_callS (X : Stand p l e R s m args below meth c T locs cells slots) (hexec : p.tables.exec = Jvm.exec) {own : String} {index : Nat} {y : MethodName} {bytes : ByteArray} {maxL : Nat} {ret : Option FieldType}
    (hown : s.vm.findClass own = some m.cls) (hlink : (Cond.methodLink own index y).before args s = true) (hstat : (Cond.static y).before args s = true) (hinit : (Cond.initialized y.cls).before args s = true)
    (hcode : (Cond.code y bytes maxL ret).before args s = true) (hy : y.cls ≠ "java/lang/invoke/MethodHandle" ∧ y.cls ≠ "java/lang/invoke/VarHandle")
    {W9 : Nat} {Pre : Pt → Array Value → Prop} {Post : Pt → Array Value → Option Value → Pt → Prop} {PostX : Pt → Array Value → Addr → Pt → Prop} (hK : vx_Back l R p e below s args y 3 W9 Pre Post PostX)
    {g : JFrame} (hg : g.method = m) (hsize : g.locals.size = c.maxLocals) {argsL rest : List Value} (hlen : ∀ sig, parseMethodDescriptor y.desc = some sig → argsL.length = sig.parameters.length)
    (hstack : g.stack = argsL.reverse ++ rest) (hW : 2 * g.monitorRoom + (rest.map fun v => v.category).sum ≤ W9) (hdg : decode c.code g.pc = .ok (.invokestatic index, 3))
    (hpre : ∀ vm₁, s.WarmedH vm₁ → Pre ⟨T.setVm vm₁, locs, cells, slots⟩ argsL.toArray) :
    (∃ (v : Option Value) (vm₁ : Vm) (B : Pt), s.WarmedH vm₁ ∧ Stand p l e R s m args below meth c B.U B.locs B.cells B.slots ∧ Post ⟨T.setVm vm₁, locs, cells, slots⟩ argsL.toArray v B ∧
      ∀ target, Steps p.tables e below (B.U.setTop { g with pc := g.pc + 3, stack := v.toList ++ rest }) target → Steps p.tables e below (T.setTop g) target) ∨
    (∃ (q : Addr) (vm₁ : Vm) (B : Pt), s.WarmedH vm₁ ∧ Stand p l e R s m args below meth c B.U B.locs B.cells B.slots ∧ PostX ⟨T.setVm vm₁, locs, cells, slots⟩ argsL.toArray q B ∧
      Steps p.tables e below (T.setTop g) ((B.U.setTop { g with stack := rest }).pushFrame (.throwing q))) := by
  obtain ⟨mk, hnamed⟩ := Cond.code_named hcode
  obtain ⟨methM, cM, hmethM, -, -, -, -, -, -, hsigM⟩ := Cond.code_spec hnamed hcode
  have hstatic : methM.isStatic = true := Cond.static_spec hnamed hmethM hstat
  obtain ⟨kP, hkP, -⟩ := className_of_methodNamed hnamed
  have hinitP : kP.init = .initialized := Cond.initialized_spec (findClass_of_methodNamed hnamed) hkP hinit
  obtain ⟨vm₁, X₁, hstep₁⟩ := X.invokestatic hexec hown hlink hnamed hmethM hstatic hkP hinitP hy (g := g) hg (argsL := argsL) (rest := rest) (hlen _ hsigM) hstack hdg
  rcases hK m meth c ⟨T.setVm vm₁, locs, cells, slots⟩ { g with stack := rest } (.invokestatic index) mk argsL.toArray X₁ hg hsize hdg hW (X₁.named hnamed) (hpre vm₁ X₁.warmed) with ⟨v, B, X', hpost, hsteps⟩ | ⟨q, B, X', hpost, hsteps⟩
  · exact Or.inl ⟨v, vm₁, B, X₁.warmed, X', hpost, fun target h => hstep₁ _ fun acts => by rw [doInvoke_state]; exact hsteps.trans h⟩
  · exact Or.inr ⟨q, vm₁, B, X₁.warmed, X', hpost, hstep₁ _ fun acts => by rw [doInvoke_state]; exact hsteps⟩
end Calls
theorem vx_cls {s : State} {T : State} {vm₁ : Vm} {E : String} {k : ClassId} (hW : s.WarmedH vm₁) (h : (T.setVm vm₁).vm.findClass E = some k) : s.vm.findClass E = some k := by
  have h1 : vm₁.findClass E = some k := h
  rw [hW.alike.findClass] at h1
  exact h1
/-- the method's frame g, with q thrown over it -/
def vx_W (p : Program) (l : Launch) (e : Env) (R : Room) (s : State) (m : MethodId) (args : Array Value) (below : List Frame) (meth : Method) (c : Code) (H : Heap) (locs : List Loc) (cells slots : Nat) (Q : State → Prop) (g : JFrame) (q : Addr) : Prop :=
  ∀ T : State, T.heap = H → Stand p l e R s m args below meth c T locs cells slots → ∃ t, Steps p.tables e below ((T.setTop g).pushFrame (.throwing q)) t ∧ Q t
def vx_Run (p : Program) (l : Launch) (e : Env) (R : Room) (s : State) (m : MethodId) (args : Array Value) (below : List Frame) (meth : Method) (c : Code) (H : Heap) (locs : List Loc) (cells slots mc ms : Nat) (g : JFrame) (rest : List Value) (Qa : State → Outcome → State → Prop) (XC : String → State → State → Prop) (free : Addr → Prop) : Prop :=
  ∀ T : State, T.heap = H → Stand p l e R s m args below meth c T locs cells slots →
    (∃ (v : Option Value) (st₀ t T' : State) (L : List Loc), st₀.heap = H ∧ Stand p l e R s m args below meth c T' (locs ++ L) (cells + mc) (slots + ms) ∧ (∀ q ∈ L, free q.base) ∧ T'.heap = t.heap ∧ T'.vm = t.vm ∧ Qa st₀ (.returned v) t ∧
      Goes p e below T g T' { g with pc := g.pc + 3, stack := v.toList ++ rest }) ∨
    (∃ (q : Addr) (st₀ t T' : State) (L : List Loc) (E : String) (ce : Cell), st₀.heap = H ∧ Stand p l e R s m args below meth c T' (locs ++ L) (cells + mc) (slots + ms) ∧ (∀ z ∈ L, free z.base) ∧ T'.heap = t.heap ∧ T'.vm = t.vm ∧ XC E st₀ t ∧ t.heap[q]? = some ce ∧ ce.vm = .none ∧ s.vm.findClass E = some ce.cls ∧
      Steps p.tables e below (T.setTop g) ((T'.setTop { g with stack := rest }).pushFrame (.throwing q)))
def vx_X {S : Type} (px : S → Prop) (B : String → S → State → Prop) (A : Nat → Prop) : String → State → State → Prop := fun E st t => ∃ u : S, px u ∧ B E u t ∧ va_F A st t
section Runs
variable {p : Program} {l : Launch} {e : Env} {R : Room} {s : State} {m : MethodId} {args : Array Value} {below : List Frame} {meth : Method} {c : Code} {H : Heap} {locs : List Loc} {cells slots : Nat}
variable {y : MethodName} {bytes cc : ByteArray} {maxL nL mc ms n index : Nat} {ret : Option FieldType} {ws : List Cond} {rm : Room} {Pc : Array Value → State → Prop} {Qc : Array Value → State → Outcome → State → Prop} {XC : String → State → State → Prop} {free : Addr → Prop} {Ts : List Cond} {own C : String} {b : Addr} {As rest : List Value} {g : JFrame}
theorem vx_callBack (cb : CallB R s args own index y bytes maxL ret ws rm mc ms n) (hM : vx_Met l y ws rm Pc Qc XC mc ms free) (hbl : FrameBlind Pc) : vx_Back l R p e below s args y 3 8 (PreOf R mc ms Pc) (PostOf Qc mc ms free) (vx_Post XC mc ms free) := by
  obtain ⟨hrc, hrs, hfr, hlo, hws, hcw, -, hini, -⟩ := cb
  exact vx_back (bytes := bytes) (maxL := maxL) (ret := ret) hM hbl hrc hrs hfr hlo hws hcw (fun a' U hW => word_at hW (Or.inl (by first | rfl | simp [Cond.onTables, Cond.keeps, Cond.steady])) hini)
theorem vx_runV (S : CallFix p m c cc nL s args Ts own) (hM : vx_Met l y ws rm Pc Qc XC mc ms free) (cw : CallW R s args own C index y bytes maxL ret ws rm mc ms n) (hp : PreV s H C b Pc As)
    (hg : g.method = m) (hn : As.length = n) (hsize : g.locals.size = nL) (hstack : g.stack = As.reverse ++ .ref b :: rest) (hW : 2 * g.monitorRoom + (rest.map fun v => v.category).sum ≤ 8) (hdg : decode cc g.pc = .ok (.invokevirtual index, 3)) (hf : cells + mc ≤ R.cells ∧ slots + ms ≤ R.slots) :
    vx_Run p l e R s m args below meth c H locs cells slots mc ms g rest (Qc (Value.ref b :: As).toArray) XC free := by
  have hK : vx_Back l R p e below s args y 3 8 (PreOf R mc ms Pc) (PostOf Qc mc ms free) (vx_Post XC mc ms free) := vx_callBack cw.1 hM hp.1
  obtain ⟨⟨-, -, -, -, -, -, hcode, -, hy, hlen, hl⟩, hin, hse⟩ := cw
  obtain ⟨hx, hb, hml, ho, -⟩ := S
  obtain ⟨-, ⟨cellB, hcB, hoB, hclB⟩, hPc⟩ := hp
  intro T hT X
  rcases vx_callV X hx (C := C) (bytes := bytes) (maxL := maxL) (ret := ret) ho hl hin hse hcode hy hK (by rw [hT]; exact hcB) hoB hclB hg (hsize.trans hml.symm) (argsL := As) (rest := rest) (fun sig h => hn.trans (hlen sig h)) hstack hW (by rw [hb]; exact hdg)
    (fun vm₁ hW₁ => ⟨hf.1, hf.2, hPc (T.setVm vm₁) hT hW₁⟩) with ⟨v, vm₁, ⟨U', l2, c2, s2⟩, hW₁, X', ⟨g', mk, t, L, e1, e2, hq, h1, hL, h2, h3⟩, st⟩ | ⟨q, vm₁, ⟨U', l2, c2, s2⟩, hW₁, X', ⟨g', mk, t, L, E, ce, e1, e2, hq, hce, hcv, hcl, h1, hL, h2, h3⟩, st⟩
  · dsimp only [Pt.U, Pt.locs, Pt.cells, Pt.slots] at X' e1 e2 h1 h2 h3 st
    subst h1; subst h2; subst h3
    exact Or.inl ⟨v, (T.setVm vm₁).calling g' mk (Value.ref b :: As).toArray, t, U', L, hT, X', hL, e1, e2, hq, st⟩
  · dsimp only [Pt.U, Pt.locs, Pt.cells, Pt.slots] at X' e1 e2 h1 h2 h3 st hcl
    subst h1; subst h2; subst h3
    exact Or.inr ⟨q, (T.setVm vm₁).calling g' mk (Value.ref b :: As).toArray, t, U', L, E, ce, hT, X', hL, e1, e2, hq, hce, hcv, vx_cls hW₁ hcl, st⟩
theorem vx_runS (S : CallFix p m c cc nL s args Ts own) (hM : vx_Met l y ws rm Pc Qc XC mc ms free) (cw : CallB R s args own index y bytes maxL ret ws rm mc ms n ∧ (Cond.static y).before args s = true) (hp : PreS s H Pc As)
    (hg : g.method = m) (hn : As.length = n) (hsize : g.locals.size = nL) (hstack : g.stack = As.reverse ++ rest) (hW : 2 * g.monitorRoom + (rest.map fun v => v.category).sum ≤ 8) (hdg : decode cc g.pc = .ok (.invokestatic index, 3)) (hf : cells + mc ≤ R.cells ∧ slots + ms ≤ R.slots) :
    vx_Run p l e R s m args below meth c H locs cells slots mc ms g rest (Qc As.toArray) XC free := by
  have hK : vx_Back l R p e below s args y 3 8 (PreOf R mc ms Pc) (PostOf Qc mc ms free) (vx_Post XC mc ms free) := vx_callBack cw.1 hM hp.1
  obtain ⟨⟨-, -, -, -, -, -, hcode, hini, hy, hlen, hl⟩, hstt⟩ := cw
  obtain ⟨hx, hb, hml, ho, -⟩ := S
  intro T hT X
  rcases vx_callS X hx (bytes := bytes) (maxL := maxL) (ret := ret) ho hl hstt hini hcode hy hK hg (hsize.trans hml.symm) (argsL := As) (rest := rest) (fun sig h => hn.trans (hlen sig h)) hstack hW (by rw [hb]; exact hdg)
    (fun vm₁ hW₁ => ⟨hf.1, hf.2, hp.2 (T.setVm vm₁) hT hW₁⟩) with ⟨v, vm₁, ⟨U', l2, c2, s2⟩, hW₁, X', ⟨g', mk, t, L, e1, e2, hq, h1, hL, h2, h3⟩, st⟩ | ⟨q, vm₁, ⟨U', l2, c2, s2⟩, hW₁, X', ⟨g', mk, t, L, E, ce, e1, e2, hq, hce, hcv, hcl, h1, hL, h2, h3⟩, st⟩
  · dsimp only [Pt.U, Pt.locs, Pt.cells, Pt.slots] at X' e1 e2 h1 h2 h3 st
    subst h1; subst h2; subst h3
    exact Or.inl ⟨v, (T.setVm vm₁).calling g' mk As.toArray, t, U', L, hT, X', hL, e1, e2, hq, st⟩
  · dsimp only [Pt.U, Pt.locs, Pt.cells, Pt.slots] at X' e1 e2 h1 h2 h3 st hcl
    subst h1; subst h2; subst h3
    exact Or.inr ⟨q, (T.setVm vm₁).calling g' mk As.toArray, t, U', L, E, ce, hT, X', hL, e1, e2, hq, hce, hcv, vx_cls hW₁ hcl, st⟩
end Runs
section Rows
variable {p : Program} {l : Launch} {e : Env} {R : Room} {s : State} {m : MethodId} {args : Array Value} {below : List Frame} {meth : Method} {c : Code} {H : Heap} {locs : List Loc} {cells slots : Nat} {Q : State → Prop}
variable {mc ms : Nat} {free : Addr → Prop} {A0 A1 : Nat → Prop} {H0 : Heap} {a : Array Value} {pc : Nat} {ls : Array Slot} {st0 rest : List Value}
theorem vx_keep {st₀ t T' : State} {L : List Loc} (h0 : st₀.heap = H) (e1 : T'.heap = t.heap) (hS : va_S A0 H0 H locs) (hA : ∀ q, q < H.size → A1 q → A0 q) (hf : ∀ q, free q → A0 q) (hL : ∀ q ∈ L, free q.base) (hF : va_F A1 st₀ t) :
    H.size ≤ T'.heap.size ∧ (∀ q : Nat, q < H.size → ¬ A1 q → T'.heap[q]? = H[q]?) ∧ va_S A0 H0 T'.heap (locs ++ L) := by
  obtain ⟨hz, hk⟩ := hF
  rw [h0] at hz hk
  exact ⟨by rw [e1]; exact hz, fun q h1 h2 => by rw [e1]; exact hk q h1 h2,
    ⟨Nat.le_trans hS.1 (by rw [e1]; exact hz), fun q h1 h2 => by rw [e1, hk q (Nat.lt_of_lt_of_le h1 hS.1) (fun z => h2 (hA q (Nat.lt_of_lt_of_le h1 hS.1) z))]; exact hS.2.1 q h1 h2, fun q hq => by
      rcases List.mem_append.mp hq with h | h
      · exact hS.2.2 q h
      · exact hf _ (hL q h)⟩⟩
theorem vx_calli {S SX : Type} {post : Int32 → S → Prop} {px : SX → Prop} {B : S → State → Prop} {BX : String → SX → State → Prop} {AX : Nat → Prop} (hr : vx_Run p l e R s m args below meth c H locs cells slots mc ms (F0 m pc ls st0) rest (va_Qi post B A1 a) (vx_X px BX AX) free) (hS : va_S A0 H0 H locs) (hA : ∀ q, q < H.size → A1 q → A0 q) (hf : ∀ q, free q → A0 q) (hAX : ∀ q, q < H.size → AX q → A0 q)
    (kx : ∀ (E : String) (ce : Cell) (q9 : Addr) (u : SX) (t : State) (H1 : Heap) (locs1 : List Loc), t.heap = H1 → s.vm.Alike t.vm → px u → BX E u t → H.size ≤ H1.size → (∀ q : Nat, q < H.size → ¬ AX q → H1[q]? = H[q]?) → va_S A0 H0 H1 locs1 → H1[q9]? = some ce → ce.vm = .none → s.vm.findClass E = some ce.cls → vx_W p l e R s m args below meth c H1 locs1 (cells + mc) (slots + ms) Q (F0 m pc ls rest) q9)
    (kk : ∀ (r : Int32) (u : S) (t : State) (H1 : Heap) (locs1 : List Loc), t.heap = H1 → s.vm.Alike t.vm → post r u → B u t → H.size ≤ H1.size → (∀ q : Nat, q < H.size → ¬ A1 q → H1[q]? = H[q]?) → va_S A0 H0 H1 locs1 → W p l e R s m args below meth c H1 locs1 (cells + mc) (slots + ms) Q (F0 m (pc + 3) ls (.int r :: rest))) : W p l e R s m args below meth c H locs cells slots Q (F0 m pc ls st0) := by
  intro T hT X
  rcases hr T hT X with ⟨v, st₀, t, T', L, h0, X', hL, e1, e2, ⟨⟨r, u, hv, hp, hb⟩, hF⟩, st⟩ | ⟨q, st₀, t, T', L, E, ce, h0, X', hL, e1, e2, ⟨u, hp, hb, hF⟩, hce, hcv, hcl, st⟩
  · cases hv
    obtain ⟨k1, k2, k3⟩ := vx_keep h0 e1 hS hA hf hL hF
    obtain ⟨t2, a1, b1⟩ := kk r u t T'.heap (locs ++ L) e1.symm (by rw [← e2]; exact X'.warmed.alike) hp hb k1 k2 k3 T' rfl X'
    exact ⟨t2, st t2 a1, b1⟩
  · obtain ⟨k1, k2, k3⟩ := vx_keep h0 e1 hS hAX hf hL hF
    obtain ⟨t2, a1, b1⟩ := kx E ce q u t T'.heap (locs ++ L) e1.symm (by rw [← e2]; exact X'.warmed.alike) hp hb k1 k2 k3 (by rw [e1]; exact hce) hcv hcl T' rfl X'
    exact ⟨t2, st.trans a1, b1⟩
theorem vx_calll {S SX : Type} {post : Int64 → S → Prop} {px : SX → Prop} {B : S → State → Prop} {BX : String → SX → State → Prop} {AX : Nat → Prop} (hr : vx_Run p l e R s m args below meth c H locs cells slots mc ms (F0 m pc ls st0) rest (va_Ql post B A1 a) (vx_X px BX AX) free) (hS : va_S A0 H0 H locs) (hA : ∀ q, q < H.size → A1 q → A0 q) (hf : ∀ q, free q → A0 q) (hAX : ∀ q, q < H.size → AX q → A0 q)
    (kx : ∀ (E : String) (ce : Cell) (q9 : Addr) (u : SX) (t : State) (H1 : Heap) (locs1 : List Loc), t.heap = H1 → s.vm.Alike t.vm → px u → BX E u t → H.size ≤ H1.size → (∀ q : Nat, q < H.size → ¬ AX q → H1[q]? = H[q]?) → va_S A0 H0 H1 locs1 → H1[q9]? = some ce → ce.vm = .none → s.vm.findClass E = some ce.cls → vx_W p l e R s m args below meth c H1 locs1 (cells + mc) (slots + ms) Q (F0 m pc ls rest) q9)
    (kk : ∀ (r : Int64) (u : S) (t : State) (H1 : Heap) (locs1 : List Loc), t.heap = H1 → s.vm.Alike t.vm → post r u → B u t → H.size ≤ H1.size → (∀ q : Nat, q < H.size → ¬ A1 q → H1[q]? = H[q]?) → va_S A0 H0 H1 locs1 → W p l e R s m args below meth c H1 locs1 (cells + mc) (slots + ms) Q (F0 m (pc + 3) ls (.long r :: rest))) : W p l e R s m args below meth c H locs cells slots Q (F0 m pc ls st0) := by
  intro T hT X
  rcases hr T hT X with ⟨v, st₀, t, T', L, h0, X', hL, e1, e2, ⟨⟨r, u, hv, hp, hb⟩, hF⟩, st⟩ | ⟨q, st₀, t, T', L, E, ce, h0, X', hL, e1, e2, ⟨u, hp, hb, hF⟩, hce, hcv, hcl, st⟩
  · cases hv
    obtain ⟨k1, k2, k3⟩ := vx_keep h0 e1 hS hA hf hL hF
    obtain ⟨t2, a1, b1⟩ := kk r u t T'.heap (locs ++ L) e1.symm (by rw [← e2]; exact X'.warmed.alike) hp hb k1 k2 k3 T' rfl X'
    exact ⟨t2, st t2 a1, b1⟩
  · obtain ⟨k1, k2, k3⟩ := vx_keep h0 e1 hS hAX hf hL hF
    obtain ⟨t2, a1, b1⟩ := kx E ce q u t T'.heap (locs ++ L) e1.symm (by rw [← e2]; exact X'.warmed.alike) hp hb k1 k2 k3 (by rw [e1]; exact hce) hcv hcl T' rfl X'
    exact ⟨t2, st.trans a1, b1⟩
theorem vx_callf {S SX : Type} {post : UInt32 → S → Prop} {px : SX → Prop} {B : S → State → Prop} {BX : String → SX → State → Prop} {AX : Nat → Prop} (hr : vx_Run p l e R s m args below meth c H locs cells slots mc ms (F0 m pc ls st0) rest (va_Qf post B A1 a) (vx_X px BX AX) free) (hS : va_S A0 H0 H locs) (hA : ∀ q, q < H.size → A1 q → A0 q) (hf : ∀ q, free q → A0 q) (hAX : ∀ q, q < H.size → AX q → A0 q)
    (kx : ∀ (E : String) (ce : Cell) (q9 : Addr) (u : SX) (t : State) (H1 : Heap) (locs1 : List Loc), t.heap = H1 → s.vm.Alike t.vm → px u → BX E u t → H.size ≤ H1.size → (∀ q : Nat, q < H.size → ¬ AX q → H1[q]? = H[q]?) → va_S A0 H0 H1 locs1 → H1[q9]? = some ce → ce.vm = .none → s.vm.findClass E = some ce.cls → vx_W p l e R s m args below meth c H1 locs1 (cells + mc) (slots + ms) Q (F0 m pc ls rest) q9)
    (kk : ∀ (r : UInt32) (u : S) (t : State) (H1 : Heap) (locs1 : List Loc), t.heap = H1 → s.vm.Alike t.vm → post r u → B u t → H.size ≤ H1.size → (∀ q : Nat, q < H.size → ¬ A1 q → H1[q]? = H[q]?) → va_S A0 H0 H1 locs1 → W p l e R s m args below meth c H1 locs1 (cells + mc) (slots + ms) Q (F0 m (pc + 3) ls (.float r :: rest))) : W p l e R s m args below meth c H locs cells slots Q (F0 m pc ls st0) := by
  intro T hT X
  rcases hr T hT X with ⟨v, st₀, t, T', L, h0, X', hL, e1, e2, ⟨⟨r, u, hv, hp, hb⟩, hF⟩, st⟩ | ⟨q, st₀, t, T', L, E, ce, h0, X', hL, e1, e2, ⟨u, hp, hb, hF⟩, hce, hcv, hcl, st⟩
  · cases hv
    obtain ⟨k1, k2, k3⟩ := vx_keep h0 e1 hS hA hf hL hF
    obtain ⟨t2, a1, b1⟩ := kk r u t T'.heap (locs ++ L) e1.symm (by rw [← e2]; exact X'.warmed.alike) hp hb k1 k2 k3 T' rfl X'
    exact ⟨t2, st t2 a1, b1⟩
  · obtain ⟨k1, k2, k3⟩ := vx_keep h0 e1 hS hAX hf hL hF
    obtain ⟨t2, a1, b1⟩ := kx E ce q u t T'.heap (locs ++ L) e1.symm (by rw [← e2]; exact X'.warmed.alike) hp hb k1 k2 k3 (by rw [e1]; exact hce) hcv hcl T' rfl X'
    exact ⟨t2, st.trans a1, b1⟩
theorem vx_calld {S SX : Type} {post : UInt64 → S → Prop} {px : SX → Prop} {B : S → State → Prop} {BX : String → SX → State → Prop} {AX : Nat → Prop} (hr : vx_Run p l e R s m args below meth c H locs cells slots mc ms (F0 m pc ls st0) rest (va_Qd post B A1 a) (vx_X px BX AX) free) (hS : va_S A0 H0 H locs) (hA : ∀ q, q < H.size → A1 q → A0 q) (hf : ∀ q, free q → A0 q) (hAX : ∀ q, q < H.size → AX q → A0 q)
    (kx : ∀ (E : String) (ce : Cell) (q9 : Addr) (u : SX) (t : State) (H1 : Heap) (locs1 : List Loc), t.heap = H1 → s.vm.Alike t.vm → px u → BX E u t → H.size ≤ H1.size → (∀ q : Nat, q < H.size → ¬ AX q → H1[q]? = H[q]?) → va_S A0 H0 H1 locs1 → H1[q9]? = some ce → ce.vm = .none → s.vm.findClass E = some ce.cls → vx_W p l e R s m args below meth c H1 locs1 (cells + mc) (slots + ms) Q (F0 m pc ls rest) q9)
    (kk : ∀ (r : UInt64) (u : S) (t : State) (H1 : Heap) (locs1 : List Loc), t.heap = H1 → s.vm.Alike t.vm → post r u → B u t → H.size ≤ H1.size → (∀ q : Nat, q < H.size → ¬ A1 q → H1[q]? = H[q]?) → va_S A0 H0 H1 locs1 → W p l e R s m args below meth c H1 locs1 (cells + mc) (slots + ms) Q (F0 m (pc + 3) ls (.double r :: rest))) : W p l e R s m args below meth c H locs cells slots Q (F0 m pc ls st0) := by
  intro T hT X
  rcases hr T hT X with ⟨v, st₀, t, T', L, h0, X', hL, e1, e2, ⟨⟨r, u, hv, hp, hb⟩, hF⟩, st⟩ | ⟨q, st₀, t, T', L, E, ce, h0, X', hL, e1, e2, ⟨u, hp, hb, hF⟩, hce, hcv, hcl, st⟩
  · cases hv
    obtain ⟨k1, k2, k3⟩ := vx_keep h0 e1 hS hA hf hL hF
    obtain ⟨t2, a1, b1⟩ := kk r u t T'.heap (locs ++ L) e1.symm (by rw [← e2]; exact X'.warmed.alike) hp hb k1 k2 k3 T' rfl X'
    exact ⟨t2, st t2 a1, b1⟩
  · obtain ⟨k1, k2, k3⟩ := vx_keep h0 e1 hS hAX hf hL hF
    obtain ⟨t2, a1, b1⟩ := kx E ce q u t T'.heap (locs ++ L) e1.symm (by rw [← e2]; exact X'.warmed.alike) hp hb k1 k2 k3 (by rw [e1]; exact hce) hcv hcl T' rfl X'
    exact ⟨t2, st.trans a1, b1⟩
theorem vx_callv {S SX : Type} {post : S → Prop} {px : SX → Prop} {B : S → State → Prop} {BX : String → SX → State → Prop} {AX : Nat → Prop} (hr : vx_Run p l e R s m args below meth c H locs cells slots mc ms (F0 m pc ls st0) rest (va_Qv post B A1 a) (vx_X px BX AX) free) (hS : va_S A0 H0 H locs) (hA : ∀ q, q < H.size → A1 q → A0 q) (hf : ∀ q, free q → A0 q) (hAX : ∀ q, q < H.size → AX q → A0 q)
    (kx : ∀ (E : String) (ce : Cell) (q9 : Addr) (u : SX) (t : State) (H1 : Heap) (locs1 : List Loc), t.heap = H1 → s.vm.Alike t.vm → px u → BX E u t → H.size ≤ H1.size → (∀ q : Nat, q < H.size → ¬ AX q → H1[q]? = H[q]?) → va_S A0 H0 H1 locs1 → H1[q9]? = some ce → ce.vm = .none → s.vm.findClass E = some ce.cls → vx_W p l e R s m args below meth c H1 locs1 (cells + mc) (slots + ms) Q (F0 m pc ls rest) q9)
    (kk : ∀ (u : S) (t : State) (H1 : Heap) (locs1 : List Loc), t.heap = H1 → s.vm.Alike t.vm → post u → B u t → H.size ≤ H1.size → (∀ q : Nat, q < H.size → ¬ A1 q → H1[q]? = H[q]?) → va_S A0 H0 H1 locs1 → W p l e R s m args below meth c H1 locs1 (cells + mc) (slots + ms) Q (F0 m (pc + 3) ls (rest))) : W p l e R s m args below meth c H locs cells slots Q (F0 m pc ls st0) := by
  intro T hT X
  rcases hr T hT X with ⟨v, st₀, t, T', L, h0, X', hL, e1, e2, ⟨⟨u, hv, hp, hb⟩, hF⟩, st⟩ | ⟨q, st₀, t, T', L, E, ce, h0, X', hL, e1, e2, ⟨u, hp, hb, hF⟩, hce, hcv, hcl, st⟩
  · cases hv
    obtain ⟨k1, k2, k3⟩ := vx_keep h0 e1 hS hA hf hL hF
    obtain ⟨t2, a1, b1⟩ := kk u t T'.heap (locs ++ L) e1.symm (by rw [← e2]; exact X'.warmed.alike) hp hb k1 k2 k3 T' rfl X'
    exact ⟨t2, st t2 a1, b1⟩
  · obtain ⟨k1, k2, k3⟩ := vx_keep h0 e1 hS hAX hf hL hF
    obtain ⟨t2, a1, b1⟩ := kx E ce q u t T'.heap (locs ++ L) e1.symm (by rw [← e2]; exact X'.warmed.alike) hp hb k1 k2 k3 (by rw [e1]; exact hce) hcv hcl T' rfl X'
    exact ⟨t2, st.trans a1, b1⟩
/-- caught by the row x of this method's table; the rows ahead don't take it -/
theorem vx_catch {own name : String} {E : String} {ce : Cell} {q : Addr} (hown : s.vm.findClass own = some m.cls) (pre : List ExceptionTableEntry) (x : ExceptionTableEntry) (suf : List ExceptionTableEntry) (hsplit : c.exceptionTable.toList = pre ++ x :: suf)
    (hpass : ∀ z ∈ pre, covers z pc = false ∨ (z.catchType ≠ 0 ∧ ∃ nm : String, (Cond.classLink own z.catchType nm).before args s = true ∧ va_Nc E nm s)) (hx : covers x pc = true) (h0 : x.catchType ≠ 0)
    (hlink : (Cond.classLink own x.catchType name).before args s = true) (hcast : (Cond.castable E name).before args s = true) (hcell : H[q]? = some ce) (hv : ce.vm = .none) (hcl : s.vm.findClass E = some ce.cls)
    (kk : W p l e R s m args below meth c H locs cells slots Q (F0 m x.handlerPc ls [.ref q])) : vx_W p l e R s m args below meth c H locs cells slots Q (F0 m pc ls rest) q := by
  intro T hT X
  have hpl : e.platform.magicAccessors = ({} : Platform).magicAccessors := by rw [X.admits.platform]
  obtain ⟨c3, c4, hc3, hc4, hasg⟩ := Cond.castable_spec hcast
  cases Option.some.inj (hc3.symm.trans hcl)
  obtain ⟨c5, hc5, hcl5⟩ := Cond.classLink_spec hown hlink e.platform hpl
  cases Option.some.inj (hc4.symm.trans hc5)
  obtain ⟨vm', X', st⟩ := X.thenCaughtThrough q (g := F0 m pc ls rest) rfl (Steps.refl _) (by rw [hT]; exact hcell) (by rw [hv]; rfl) (by obtain ⟨k9, h9, -⟩ := Vm.findClass_spec hcl; exact ⟨k9, h9⟩) pre x suf hsplit
    (fun z hz => by
      rcases hpass z hz with h | ⟨hz0, nm, hl1, hn1⟩
      · exact Or.inl h
      · obtain ⟨c6, hc6, hcl6⟩ := Cond.classLink_spec hown hl1 e.platform hpl
        obtain ⟨a8, b8, h1, h2, h3⟩ := hn1
        cases Option.some.inj (h1.symm.trans hcl)
        cases Option.some.inj (h2.symm.trans hc6)
        exact Or.inr ⟨hz0, _, hcl6, h3⟩) hx (Or.inr ⟨h0, c4, hcl5, hasg⟩)
  obtain ⟨t, a1, b1⟩ := kk (T.setVm vm') hT X'
  exact ⟨t, st.trans a1, b1⟩
end Rows
section Ends
variable {p : Program} {l : Launch} {e : Env} {R : Room} {s : State} {m : MethodId} {args : Array Value} {below : List Frame} {meth : Method} {c : Code} {H : Heap} {locs : List Loc} {cells slots : Nat} {Q : State → Prop}
variable {mc ms : Nat} {free : Addr → Prop} {A0 A1 : Nat → Prop} {H0 : Heap} {a : Array Value} {ls : Array Slot} {st0 rest : List Value}
variable {Qc : Array Value → State → Outcome → State → Prop} {XC : String → State → State → Prop}
/-- what a body that may throw owes at its end -/
def vx_MQ (below : List Frame) (Qc : Array Value → State → Outcome → State → Prop) (XC : String → State → State → Prop) (a : Array Value) (s : State) (mc ms : Nat) (free : Addr → Prop) : State → Prop := fun t =>
  ∃ o, t.status = .running ∧ Ended t below o ∧ vx_Q Qc XC mc ms free a s o t
theorem vx_ret {g : JFrame} {mc ms : Nat} (k : W p l e R s m args below meth c H locs cells slots (MQ below Qc args s mc ms free) g) : W p l e R s m args below meth c H locs cells slots (vx_MQ below Qc XC args s mc ms free) g := by
  intro T hT X
  obtain ⟨t, a1, o, b1, b2, b3, b4⟩ := k T hT X
  exact ⟨t, a1, o, b1, b2, Or.inl ⟨b3, b4⟩⟩
/-- not caught here: it goes on to the caller -/
theorem vx_widen {g : JFrame} {q : Addr} {k n : Nat} (h1 : cells ≤ k) (h2 : slots ≤ n) (kk : vx_W p l e R s m args below meth c H locs k n Q g q) : vx_W p l e R s m args below meth c H locs cells slots Q g q := fun T hT X => kk T hT (stand_widen X h1 h2)
theorem vx_out {pc : Nat} {E : String} {ce : Cell} {q : Addr} {mc ms : Nat} (hout : ∀ x ∈ c.exceptionTable.toList, covers x pc = false) (hlocks : meth.locks = false) (hcell : H[q]? = some ce) (hv : ce.vm = .none) (hcl : s.vm.findClass E = some ce.cls)
    (hx : ∀ t : State, t.heap = H → s.vm.Alike t.vm → XC E s t) (hf : ∀ z ∈ locs, free z.base) (hc : cells ≤ mc) (hs : slots ≤ ms) :
    vx_W p l e R s m args below meth c H locs cells slots (vx_MQ below Qc XC args s mc ms free) (F0 m pc ls rest) q := by
  intro T hT X
  obtain ⟨st1, hrun, hend, hW, hsm⟩ := X.leaveThrown q (g := F0 m pc ls rest) rfl rfl rfl hout hlocks
  have hcell9 : (T.setFrames (.throwing q :: below)).heap[q]? = some ce := by
    show T.heap[q]? = some ce
    rw [hT]; exact hcell
  exact ⟨_, st1, .threw q, hrun, hend, Or.inr ⟨q, rfl, E, ce, locs, hx _ hT hW.alike, hcell9, hv, hcl, hW, hsm.mono hc hs, hf⟩⟩
theorem vx_frame {U : State} {k n : Nat} (h : s.sameButNew ({ U with vm := s.vm } : State) locs k n) : s.heap.size ≤ U.heap.size ∧ ∀ q : Nat, q < s.heap.size → (∀ z ∈ locs, z.base ≠ q) → U.heap[q]? = s.heap[q]? := by
  obtain ⟨-, h2, -, -, -, h6⟩ := h
  refine ⟨h2, fun q hq hz => ?_⟩
  obtain ⟨c9, e1, e2, e3, e4⟩ := h6 q _ (Array.getElem?_eq_getElem hq)
  have hs : c9.slots = (s.heap[q]).slots := Array.ext_getElem? fun i => e4 i fun hm => hz _ hm rfl
  have h9 : c9 = s.heap[q] := by
    rw [hs] at e2
    exact e2
  have e5 : U.heap[q]? = some c9 := e1
  rw [e5, h9, Array.getElem?_eq_getElem hq]
/-- the words of a throw but the four that speak of the heap -/
def vx_no (w : Cond) : Bool := decide (w ≠ .isRef (.static Bundle.tN "UNASSIGNED_STACK" Bundle.steD)) && decide (w ≠ .isRef (.static Bundle.tN "SUPPRESSED_SENTINEL" Bundle.listD)) && decide (w ≠ .laysStatic Bundle.tN "UNASSIGNED_STACK" Bundle.steD) && decide (w ≠ .laysStatic Bundle.tN "SUPPRESSED_SENTINEL" Bundle.listD)
def vx_at0 (own : String) (ic : Nat) (X : String) (names : List String) : List Cond := (Bundle.ownAtoms0 own ic X names).filter vx_no
def vx_atS (own : String) (ic : Nat) (X : String) (names : List String) : List Cond := (Bundle.ownAtoms own ic X names).filter vx_no
/-- a word that the tables alone decide, or a good one -/
def vx_ot (w : Cond) : Bool := w.onTables || goodWord w
theorem vx_ot_at {args a' : Array Value} {s U : State} {w : Cond} (hW : s.WarmedH U.vm) (hvm : s.vm = U.vm) (hg : vx_ot w = true) (h : w.before args s = true) : w.before a' U = true := by
  simp only [vx_ot, Bool.or_eq_true] at hg
  rcases hg with hg | hg
  · exact va_tabs hg hvm h
  · exact word_at hW (good_of_word hg) h
/-- a list's words: the good ones out of the method's own list, the others by premises of their own -/
theorem vx_hat {args : Array Value} {s : State} {L B : List Cond} (h1 : ∀ w ∈ L.filter goodWord, w.before args s = true) (h2 : ∀ w ∈ L.filter (fun w => !goodWord w), w ∈ B) (h3 : ∀ w ∈ B, w.before args s = true) : ∀ w ∈ L, w.before args s = true := by
  intro w hw
  by_cases g : goodWord w = true
  · exact h1 w (List.mem_filter.mpr ⟨hw, g⟩)
  · refine h3 w (h2 w (List.mem_filter.mpr ⟨hw, ?_⟩))
    show (!goodWord w) = true
    cases hgw : goodWord w
    · rfl
    · exact absurd hgw g
theorem vx_c {args : Array Value} {s : State} {w : Cond} {B : List Cond} (h : w.before args s = true) (t : ∀ w ∈ B, w.before args s = true) : ∀ w' ∈ w :: B, w'.before args s = true := fun w' h' => (List.mem_cons.mp h').elim (fun e => by rw [e]; exact h) (t w')
theorem vx_n {args : Array Value} {s : State} : ∀ w ∈ ([] : List Cond), w.before args s = true := fun _ h => nomatch h
theorem vx_own {args : Array Value} {s : State} {L : List Cond} (h1 : ∀ w ∈ L.filter vx_no, w.before args s = true)
    (hU : (Cond.isRef (.static Bundle.tN "UNASSIGNED_STACK" Bundle.steD)).before args s = true) (hN : (Cond.isRef (.static Bundle.tN "SUPPRESSED_SENTINEL" Bundle.listD)).before args s = true)
    (lU : (Cond.laysStatic Bundle.tN "UNASSIGNED_STACK" Bundle.steD).before args s = true) (lN : (Cond.laysStatic Bundle.tN "SUPPRESSED_SENTINEL" Bundle.listD).before args s = true) : ∀ w ∈ L, w.before args s = true := by
  intro w hw
  by_cases e1 : w = .isRef (.static Bundle.tN "UNASSIGNED_STACK" Bundle.steD)
  · rw [e1]; exact hU
  · by_cases e2 : w = .isRef (.static Bundle.tN "SUPPRESSED_SENTINEL" Bundle.listD)
    · rw [e2]; exact hN
    · by_cases e3 : w = .laysStatic Bundle.tN "UNASSIGNED_STACK" Bundle.steD
      · rw [e3]; exact lU
      · by_cases e4 : w = .laysStatic Bundle.tN "SUPPRESSED_SENTINEL" Bundle.listD
        · rw [e4]; exact lN
        · exact h1 w (List.mem_filter.mpr ⟨hw, by unfold vx_no; rw [decide_eq_true e1, decide_eq_true e2, decide_eq_true e3, decide_eq_true e4]; rfl⟩)
/-- where a static field lies, its class's statics cell in H -/
def vx_L (C n d : String) (A : Nat → Prop) (U : State) (H : Heap) : Prop := ∃ (c : ClassId) (k : Class) (i : Nat) (f : Field) (a : Nat) (cell : Cell), U.vm.findClass C = some c ∧ U.fieldFound? C n d = some (c, k, i, f) ∧ f.isStatic = true ∧ k.statics = some a ∧ H[a]? = some cell ∧ cell.vm.isStatics = true ∧ cell.cls = c ∧ f.slot < cell.slots.size ∧ k.staticTypes[f.slot]? = some f.type ∧ ¬ A a
theorem vx_L.moved {C n d : String} {A : Nat → Prop} {u U : State} {H : Heap} (hvm : u.vm.Alike U.vm) (h : vx_L C n d A u H) : vx_L C n d A U H := by
  obtain ⟨c, k, i, f, a, cell, h1, h2, h3, h4, h5, h6, h7, h8, h9, h10⟩ := h
  obtain ⟨k', hi', he⟩ := State.fieldFound?_setVm hvm h2
  exact ⟨c, k', i, f, a, cell, by rw [hvm.findClass]; exact h1, hi', h3, by rw [he]; exact h4, h5, h6, h7, h8, by rw [he]; exact h9, h10⟩
theorem vx_L.kept {C n d : String} {A : Nat → Prop} {U : State} {H H1 : Heap} (h : vx_L C n d A U H) (hq : ∀ a : Nat, a < H.size → ¬ A a → H1[a]? = H[a]?) : vx_L C n d A U H1 := by
  obtain ⟨c, k, i, f, a, cell, h1, h2, h3, h4, h5, h6, h7, h8, h9, h10⟩ := h
  exact ⟨c, k, i, f, a, cell, h1, h2, h3, h4, by rw [hq a (Array.getElem?_eq_some_iff.mp h5).1 h10]; exact h5, h6, h7, h8, h9, h10⟩
theorem vx_L.narrow {C n d : String} {A B : Nat → Prop} {U : State} {H : Heap} (h : vx_L C n d A U H) (hAB : ∀ q, B q → A q) : vx_L C n d B U H := by
  obtain ⟨c, k, i, f, a, cell, h1, h2, h3, h4, h5, h6, h7, h8, h9, h10⟩ := h
  exact ⟨c, k, i, f, a, cell, h1, h2, h3, h4, h5, h6, h7, h8, h9, fun z => h10 (hAB _ z)⟩
theorem vx_L.word {C n d : String} {A : Nat → Prop} {s : State} {args : Array Value} (h : vx_L C n d A s s.heap) : (Cond.laysStatic C n d).before args s = true := by
  obtain ⟨c, k, i, f, a, cell, h1, h2, h3, h4, h5, h6, h7, h8, h9, -⟩ := h
  show (Cond.laysStatic C n d).holds args s none s [] = true
  exact Cond.laysStatic_of h1 h2 h3 h4 h5 h6 h7 h8 h9
/-- .. and what it holds: null or some reference -/
def vx_Zq (C n d : String) (A : Nat → Prop) (U : State) (H : Heap) : Prop := va_Zq C n d A U H ∧ vx_L C n d A U H
theorem vx_Zq.moved {C n d : String} {A : Nat → Prop} {u U : State} {H : Heap} (hvm : u.vm.Alike U.vm) (h : vx_Zq C n d A u H) : vx_Zq C n d A U H := ⟨va_Zq.moved hvm h.1, vx_L.moved hvm h.2⟩
theorem vx_Zq.kept {C n d : String} {A : Nat → Prop} {U : State} {H H1 : Heap} (h : vx_Zq C n d A U H) (hq : ∀ a : Nat, a < H.size → ¬ A a → H1[a]? = H[a]?) : vx_Zq C n d A U H1 := ⟨va_Zq.kept h.1 hq, vx_L.kept h.2 hq⟩
theorem vx_Zq.narrow {C n d : String} {A B : Nat → Prop} {U : State} {H : Heap} (h : vx_Zq C n d A U H) (hAB : ∀ q, B q → A q) : vx_Zq C n d B U H := ⟨va_Zq.narrow h.1 hAB, vx_L.narrow h.2 hAB⟩
theorem vx_Zqof {args : Array Value} {s : State} {C n d : String} {A : Nat → Prop} (hl : (Cond.laysStatic C n d).before args s = true) (hini : (Cond.initialized C).before args s = true) (h : (Cond.isRef (.static C n d)).before args s = true) (hA : ∀ a : Nat, a < s.heap.size → ¬ A a) : vx_Zq C n d A s s.heap := by
  refine ⟨va_Zqof hl hini h hA, ?_⟩
  obtain ⟨c, k, i, f, a, cell, h1, h2, h3, h4, h5, h6, h7, h8, h9⟩ := Cond.laysStatic_spec hl
  exact ⟨c, k, i, f, a, cell, h1, h2, h3, h4, h5, h6, h7, h8, h9, hA a (Array.getElem?_eq_some_iff.mp h5).1⟩
theorem vx_isRef {C n d : String} {v : Value} {A : Nat → Prop} {s : State} {args : Array Value} (h : va_Z C n d v A s s.heap) (hv : v.isRef = true) : (Cond.isRef (.static C n d)).before args s = true := by
  obtain ⟨cf, kf, fi, f, a, cell, h1, h2, h3, h4, h5, h6, h7, -⟩ := h
  have he : (Term.static C n d).eval args s none [] s = some v := by
    simp [Term.eval, State.fieldNamed?, h1, h2, h4, h5, h6, h7]
  simp only [Cond.before, Cond.holds, Cond.value, he]
  cases v <;> simp_all [Value.isRef]
theorem vx_isRefq {C n d : String} {A : Nat → Prop} {s : State} {args : Array Value} (h : va_Zq C n d A s s.heap) : (Cond.isRef (.static C n d)).before args s = true := by
  rcases h with h | ⟨t, h⟩
  · exact vx_isRef h rfl
  · exact vx_isRef h rfl
/-- the same frame, seen from here: as if the method were called anew in this heap -/
theorem vx_rebase {T : State} (X : Stand p l e R s m args below meth c T locs cells slots) {R' : Room} (hf : R'.frames ≤ R.frames) (hl : R'.locals ≤ R.locals) (hc : cells + R'.cells ≤ R.cells) (hs : slots + R'.slots ≤ R.slots) :
    Stand p l e R' ((T.setVm s.vm).setFrames (.invoking m args :: below)) m args below meth c T [] 0 0 := by
  have htop : (T.setVm s.vm).topJava?.isSome := X.here.top
  have hF : ((T.setVm s.vm).setFrames (.invoking m args :: below)).frames = .invoking m args :: below := State.frames_setFrames _ (State.cur_lt_of_top htop)
  obtain ⟨g₀, hg0⟩ := Option.isSome_iff_exists.mp htop
  obtain ⟨r, hr⟩ := State.topJava?_eq_some.mp hg0
  have hl9 : e.platform.stackLimits (T.setVm s.vm).me = e.platform.stackLimits s.me := X.limits
  have hb9 : (T.setVm s.vm).me.stackBytes = s.me.stackBytes := X.bytes
  refine ⟨X.admits, X.cas, X.clock, hF, ?_, X.hears, X.method, X.code, X.here, X.tail, X.warmed, ?_, ?_, ?_⟩
  · have h := X.room
    have hU : ((T.setVm s.vm).setFrames (.invoking m args :: below)).localsInUse = s.localsInUse := by
      rw [State.localsInUse_invoking hF (meth := meth) (c := c) X.method X.code, State.localsInUse_invoking X.frames X.method X.code]
    simp only [State.hasRoom, Bool.and_eq_true, decide_eq_true_eq] at h ⊢
    obtain ⟨⟨⟨⟨h1, h2, h3, h4, h5, h6⟩, h7⟩, h8⟩, h9⟩ := h
    rw [X.frames, List.length_cons] at h2 h3
    have q1 := X.heapSize
    have q2 := X.used
    simp only [hF, hU, List.length_cons, State.stackLimits_setFrames, State.stackBytes_setFrames, hl9, hb9]
    refine ⟨⟨⟨⟨by omega, by omega, by omega, by omega, by omega, h6⟩, ?_⟩, ?_⟩, X.book⟩
    · show T.heap.size + R'.cells ≤ e.platform.maxCells
      omega
    · show T.slotsUsed + R'.slots ≤ e.platform.maxSlots
      omega
  · rw [State.stackLimits_setFrames]; rfl
  · rw [State.stackBytes_setFrames]; rfl
  · refine ⟨?_, Nat.le_refl _, Nat.le_refl _, ?_, ?_, fun a c9 h9 => ⟨c9, h9, rfl, rfl, fun _ _ => rfl⟩⟩
    · obtain ⟨t, ht, -⟩ := State.frames_cons hr
      show T.setVm s.vm = { ((T.setVm s.vm).setFrames (.invoking m args :: below)).setFrames (T.setVm s.vm).frames with heap := T.heap, slotsUsed := T.slotsUsed }
      rw [State.setFrames_setFrames, State.setFrames_self ht]
      rfl
    · show T.slotsUsed = T.slotsUsed + ((T.heap.toList.drop T.heap.size).map (·.slots.size)).sum
      rw [List.drop_eq_nil_of_le (Nat.le_of_eq Array.length_toList)]
      rfl
    · show ((T.heap.toList.drop T.heap.size).map (·.slots.size)).sum ≤ 0
      rw [List.drop_eq_nil_of_le (Nat.le_of_eq Array.length_toList)]
      exact Nat.le_refl _
/-- 'throw new E()': new; dup; invokespecial; athrow -/
theorem vx_throw0 {cc : ByteArray} {pc : Nat} (hexec : p.tables.exec = Jvm.exec) (hb : c.code = cc) (hl : l.stackTraces = false) {own cls : String} {names : List String} {ik ic mc ms : Nat} {A : Nat → Prop}
    (hown : s.vm.findClass own = some m.cls) (hcls : Bundle.fit cls = true) (hnames : ∀ n ∈ names, Bundle.fit n = true)
    (hk : (Cond.classLink own ik cls).before args s = true) (hini : (Cond.initialized cls).before args s = true) (hat : ∀ w ∈ vx_at0 own ic cls names, w.before args s = true)
    (hgood : ∀ w ∈ Cond.classLink own ik cls :: Cond.initialized cls :: vx_at0 own ic cls names, vx_ot w = true)
    (hU : vx_Zq Bundle.tN "UNASSIGNED_STACK" Bundle.steD A s s.heap) (hN : vx_Zq Bundle.tN "SUPPRESSED_SENTINEL" Bundle.listD A s s.heap) (hS : va_S A s.heap H locs) (hsize : ls.size = c.maxLocals)
    (d0 : decode cc pc = .ok (.new ik, 3)) (d3 : decode cc (pc + 3) = .ok (.dup, 1)) (d4 : decode cc (pc + 4) = .ok (.invokespecial ic, 3)) (d7 : decode cc (pc + 7) = .ok (.athrow, 1))
    (hout : ∀ x ∈ c.exceptionTable.toList, covers x (pc + 7) = false)
    (hRframes : names.length + 3 < R.frames) (hRlocals : (rest.map fun v => v.category).sum + (13 * (names.length + 1) + 42) ≤ R.locals) (hRcells : cells + 1 ≤ R.cells) (hRslots : slots + 6 ≤ R.slots) (hlocks : meth.locks = false)
    (hx : ∀ t : State, s.vm.Alike t.vm → H.size ≤ t.heap.size → (∀ q : Nat, q < H.size → t.heap[q]? = H[q]?) → XC cls s t)
    (hf : ∀ z ∈ locs, free z.base) (hc : cells + 1 ≤ mc) (hs : slots + 6 ≤ ms) :
    W p l e R s m args below meth c H locs cells slots (vx_MQ below Qc XC args s mc ms free) (F0 m pc ls rest) := by
  intro T hT X
  have htr : e.platform.stackTraces = false := (show e.platform.stackTraces = l.stackTraces by rw [X.admits.platform]).trans hl
  have Y := vx_rebase X (R' := { frames := R.frames, locals := R.locals, cells := 1, slots := 6 }) (Nat.le_refl _) (Nat.le_refl _) hRcells hRslots
  obtain ⟨s', hA⟩ : ∃ z, z = (T.setVm s.vm).setFrames (.invoking m args :: below) := ⟨_, rfl⟩
  rw [← hA] at Y
  have hvm : s'.vm = s.vm := by rw [hA]; rfl
  have hhp : s'.heap = H := by rw [hA]; exact hT
  have hW0 : s.WarmedH s'.vm := by rw [hvm]; exact State.WarmedH.refl s
  have hat' : ∀ w ∈ vx_at0 own ic cls names, w.before args s' = true := fun w hw => vx_ot_at hW0 hvm.symm (hgood w (List.mem_cons_of_mem _ (List.mem_cons_of_mem _ hw))) (hat w hw)
  have hk' : (Cond.classLink own ik cls).before args s' = true := vx_ot_at hW0 hvm.symm (hgood _ List.mem_cons_self) hk
  have hini' : (Cond.initialized cls).before args s' = true := vx_ot_at hW0 hvm.symm (hgood _ (List.mem_cons_of_mem _ List.mem_cons_self)) hini
  have hU' : vx_Zq Bundle.tN "UNASSIGNED_STACK" Bundle.steD A s' s'.heap := by rw [hhp]; exact vx_Zq.moved hW0.alike (hU.kept hS.2.1)
  have hN' : vx_Zq Bundle.tN "SUPPRESSED_SENTINEL" Bundle.listD A s' s'.heap := by rw [hhp]; exact vx_Zq.moved hW0.alike (hN.kept hS.2.1)
  have h : ∀ w ∈ Bundle.ownAtoms0 own ic cls names, w.before args s' = true := vx_own hat' (vx_isRefq hU'.1) (vx_isRefq hN'.1) hU'.2.word hN'.2.word
  have hown' : s'.vm.findClass own = some m.cls := by rw [hvm]; exact hown
  have hins : (Cond.instantiable cls 6).before args s' = true := h _ (by simp [Bundle.ownAtoms0])
  obtain ⟨vm₁, cX, kX, hfX, hkX, -, -, X₁, st1⟩ := Y.newCold hexec (own := own) (C := cls) (index := ik) (n := 6) hown' hk' hins hini'
    (g := F0 m pc ls rest) rfl (by rw [hb]; exact d0) (Nat.le_refl _) (Nat.le_refl _)
  generalize hT1 : (T.setVm vm₁).pushCell { cls := cX, slots := kX.instanceTypes.map defaultValue, vm := .none } = T1 at X₁ st1
  have hcat : (Value.ref T.heap.size).category = 1 := rfl
  have hcellA : T1.heap[T.heap.size]? = some (freshCell cX kX) := by rw [← hT1]; exact State.heap_pushCell_size _ _
  have d3' : decode c.code (pc + 3) = .ok (.dup, 1) := by rw [hb]; exact d3
  obtain ⟨U, hsteps, hrun, hend, hW, hsame, ce, hce, hO⟩ := X₁.ctorThrow0 hexec htr (own := own) (cls := cls) (names := names) (ic := ic) hown' hcls hnames h (fun x hx => nomatch hx) hfX hkX hcellA (by rw [hhp, hT]; exact Nat.le_refl _)
    (g := { method := m, pc := pc + 4, locals := ls, stack := .ref T.heap.size :: .ref T.heap.size :: rest, locked := none }) rfl hsize rfl rfl (rest := rest) rfl
    (by rw [hb]; exact d4) (by rw [hb]; exact d7) hout hRframes (by simp only [List.map_cons, List.sum_cons, hcat]; omega) hlocks
  obtain ⟨f1, f2⟩ := vx_frame hsame
  rw [hhp] at f1 f2
  have hWs : s.WarmedH U.vm := State.WarmedH.trans hW0 hW
  have hcl : s.vm.findClass cls = some ce.cls := by
    have h9 := hO.cls
    rw [hvm] at h9
    exact h9
  have hall : s.sameButNew ({ U with vm := s.vm } : State) locs mc ms := by
    subst hA
    obtain ⟨e1, e2⟩ := hsame
    rw [State.setFrames_setFrames] at e1
    have h2 : (T.setVm s.vm).sameButNew ({ U with vm := s.vm } : State) [] (0 + 1) (0 + 6) := ⟨e1, e2⟩
    have h3 := X.same.trans h2
    rw [List.append_nil] at h3
    exact h3.mono hc hs
  refine ⟨U, ?_, .threw T.heap.size, hrun, hend, Or.inr ⟨T.heap.size, rfl, cls, ce, locs, hx U hWs.alike f1 (fun q hq => f2 q hq (fun z hz => nomatch hz)), hce, hO.vm, hcl, hWs, hall, hf⟩⟩
  refine st1 _ ?_
  show Steps p.tables e below (T1.setTop { method := m, pc := pc + 3, locals := ls, stack := .ref T.heap.size :: rest, locked := none }) _
  jvm_step X₁.here [X₁.here.top, hexec, d3', Value.category]
  exact hsteps
/-- 'throw new E("text")': new; dup; ldc; invokespecial; athrow -/
theorem vx_throwS {cc : ByteArray} {pc : Nat} (hexec : p.tables.exec = Jvm.exec) (hb : c.code = cc) (hl : l.stackTraces = false) {own cls text : String} {names : List String} {ik is ic mc ms sa : Nat} {A : Nat → Prop}
    (hown : s.vm.findClass own = some m.cls) (hcls : Bundle.fit cls = true) (hnames : ∀ n ∈ names, Bundle.fit n = true)
    (hk : (Cond.classLink own ik cls).before args s = true) (hini : (Cond.initialized cls).before args s = true) (hstr : vk_R own is text sa s) (hat : ∀ w ∈ vx_atS own ic cls names, w.before args s = true)
    (hgood : ∀ w ∈ Cond.classLink own ik cls :: Cond.initialized cls :: vx_atS own ic cls names, vx_ot w = true)
    (hU : vx_Zq Bundle.tN "UNASSIGNED_STACK" Bundle.steD A s s.heap) (hN : vx_Zq Bundle.tN "SUPPRESSED_SENTINEL" Bundle.listD A s s.heap) (hS : va_S A s.heap H locs) (hsize : ls.size = c.maxLocals)
    (d0 : decode cc pc = .ok (.new ik, 3)) (d3 : decode cc (pc + 3) = .ok (.dup, 1)) (d4 : decode cc (pc + 4) = .ok (.ldc is, 2)) (d6 : decode cc (pc + 6) = .ok (.invokespecial ic, 3)) (d9 : decode cc (pc + 9) = .ok (.athrow, 1))
    (hout : ∀ x ∈ c.exceptionTable.toList, covers x (pc + 9) = false)
    (hRframes : names.length + 3 < R.frames) (hRlocals : (rest.map fun v => v.category).sum + (13 * (names.length + 1) + 43) ≤ R.locals) (hRcells : cells + 1 ≤ R.cells) (hRslots : slots + 6 ≤ R.slots) (hlocks : meth.locks = false)
    (hx : ∀ t : State, s.vm.Alike t.vm → H.size ≤ t.heap.size → (∀ q : Nat, q < H.size → t.heap[q]? = H[q]?) → XC cls s t)
    (hf : ∀ z ∈ locs, free z.base) (hc : cells + 1 ≤ mc) (hs : slots + 6 ≤ ms) :
    W p l e R s m args below meth c H locs cells slots (vx_MQ below Qc XC args s mc ms free) (F0 m pc ls rest) := by
  intro T hT X
  have htr : e.platform.stackTraces = false := (show e.platform.stackTraces = l.stackTraces by rw [X.admits.platform]).trans hl
  have Y := vx_rebase X (R' := { frames := R.frames, locals := R.locals, cells := 1, slots := 6 }) (Nat.le_refl _) (Nat.le_refl _) hRcells hRslots
  obtain ⟨s', hA⟩ : ∃ z, z = (T.setVm s.vm).setFrames (.invoking m args :: below) := ⟨_, rfl⟩
  rw [← hA] at Y
  have hvm : s'.vm = s.vm := by rw [hA]; rfl
  have hhp : s'.heap = H := by rw [hA]; exact hT
  have hW0 : s.WarmedH s'.vm := by rw [hvm]; exact State.WarmedH.refl s
  have hat' : ∀ w ∈ vx_atS own ic cls names, w.before args s' = true := fun w hw => vx_ot_at hW0 hvm.symm (hgood w (List.mem_cons_of_mem _ (List.mem_cons_of_mem _ hw))) (hat w hw)
  have hk' : (Cond.classLink own ik cls).before args s' = true := vx_ot_at hW0 hvm.symm (hgood _ List.mem_cons_self) hk
  have hini' : (Cond.initialized cls).before args s' = true := vx_ot_at hW0 hvm.symm (hgood _ (List.mem_cons_of_mem _ List.mem_cons_self)) hini
  have hU' : vx_Zq Bundle.tN "UNASSIGNED_STACK" Bundle.steD A s' s'.heap := by rw [hhp]; exact vx_Zq.moved hW0.alike (hU.kept hS.2.1)
  have hN' : vx_Zq Bundle.tN "SUPPRESSED_SENTINEL" Bundle.listD A s' s'.heap := by rw [hhp]; exact vx_Zq.moved hW0.alike (hN.kept hS.2.1)
  have h : ∀ w ∈ Bundle.ownAtoms own ic cls names, w.before args s' = true := vx_own hat' (vx_isRefq hU'.1) (vx_isRefq hN'.1) hU'.2.word hN'.2.word
  have hown' : s'.vm.findClass own = some m.cls := by rw [hvm]; exact hown
  have hins : (Cond.instantiable cls 6).before args s' = true := h _ (by simp [Bundle.ownAtoms])
  obtain ⟨vm₁, cX, kX, hfX, hkX, -, -, X₁, st1⟩ := Y.newCold hexec (own := own) (C := cls) (index := ik) (n := 6) hown' hk' hins hini'
    (g := F0 m pc ls rest) rfl (by rw [hb]; exact d0) (Nat.le_refl _) (Nat.le_refl _)
  generalize hT1 : (T.setVm vm₁).pushCell { cls := cX, slots := kX.instanceTypes.map defaultValue, vm := .none } = T1 at X₁ st1
  have hcat : (Value.ref T.heap.size).category = 1 := rfl
  have hcellA : T1.heap[T.heap.size]? = some (freshCell cX kX) := by rw [← hT1]; exact State.heap_pushCell_size _ _
  have d3' : decode c.code (pc + 3) = .ok (.dup, 1) := by rw [hb]; exact d3
  have d4' : decode c.code (pc + 4) = .ok (.ldc is, 2) := by rw [hb]; exact d4
  have hstr' : vk_R own is text sa s' := vk_R.warm hW0 hstr
  obtain ⟨U, hsteps, hrun, hend, hW, hsame, ce, hce, hO⟩ := X₁.ctorThrowS hexec htr (own := own) (cls := cls) (names := names) (ic := ic) hown' hcls hnames h (fun x hx => nomatch hx) hfX hkX hcellA (by rw [hhp, hT]; exact Nat.le_refl _) (msg := .ref sa) rfl
    (g := { method := m, pc := pc + 6, locals := ls, stack := .ref sa :: .ref T.heap.size :: .ref T.heap.size :: rest, locked := none }) rfl hsize rfl rfl (rest := rest) rfl
    (by rw [hb]; exact d6) (by rw [hb]; exact d9) hout hRframes (by simp only [List.map_cons, List.sum_cons, hcat]; omega) hlocks
  obtain ⟨f1, f2⟩ := vx_frame hsame
  rw [hhp] at f1 f2
  have hWs : s.WarmedH U.vm := State.WarmedH.trans hW0 hW
  have hcl : s.vm.findClass cls = some ce.cls := by
    have h9 := hO.cls
    rw [hvm] at h9
    exact h9
  have hall : s.sameButNew ({ U with vm := s.vm } : State) locs mc ms := by
    subst hA
    obtain ⟨e1, e2⟩ := hsame
    rw [State.setFrames_setFrames] at e1
    have h2 : (T.setVm s.vm).sameButNew ({ U with vm := s.vm } : State) [] (0 + 1) (0 + 6) := ⟨e1, e2⟩
    have h3 := X.same.trans h2
    rw [List.append_nil] at h3
    exact h3.mono hc hs
  refine ⟨U, ?_, .threw T.heap.size, hrun, hend, Or.inr ⟨T.heap.size, rfl, cls, ce, locs, hx U hWs.alike f1 (fun q hq => f2 q hq (fun z hz => nomatch hz)), hce, hO.vm, hcl, hWs, hall, hf⟩⟩
  refine st1 _ ?_
  show Steps p.tables e below (T1.setTop { method := m, pc := pc + 3, locals := ls, stack := .ref T.heap.size :: rest, locked := none }) _
  jvm_step X₁.here [X₁.here.top, hexec, d3', Value.category]
  exact X₁.ldcString hexec (own := own) (text := text) (index := is) (a := sa) hown' hstr'.1 hstr'.2
    (g := { method := m, pc := pc + 4, locals := ls, stack := .ref T.heap.size :: .ref T.heap.size :: rest, locked := none }) rfl d4' _ hsteps
/-- 'throw new E("text")', the text by a wide index -/
theorem vx_throwSW {cc : ByteArray} {pc : Nat} (hexec : p.tables.exec = Jvm.exec) (hb : c.code = cc) (hl : l.stackTraces = false) {own cls text : String} {names : List String} {ik is ic mc ms sa : Nat} {A : Nat → Prop}
    (hown : s.vm.findClass own = some m.cls) (hcls : Bundle.fit cls = true) (hnames : ∀ n ∈ names, Bundle.fit n = true)
    (hk : (Cond.classLink own ik cls).before args s = true) (hini : (Cond.initialized cls).before args s = true) (hstr : vk_R own is text sa s) (hat : ∀ w ∈ vx_atS own ic cls names, w.before args s = true)
    (hgood : ∀ w ∈ Cond.classLink own ik cls :: Cond.initialized cls :: vx_atS own ic cls names, vx_ot w = true)
    (hU : vx_Zq Bundle.tN "UNASSIGNED_STACK" Bundle.steD A s s.heap) (hN : vx_Zq Bundle.tN "SUPPRESSED_SENTINEL" Bundle.listD A s s.heap) (hS : va_S A s.heap H locs) (hsize : ls.size = c.maxLocals)
    (d0 : decode cc pc = .ok (.new ik, 3)) (d3 : decode cc (pc + 3) = .ok (.dup, 1)) (d4 : decode cc (pc + 4) = .ok (.ldc_w is, 3)) (d7 : decode cc (pc + 7) = .ok (.invokespecial ic, 3)) (d10 : decode cc (pc + 10) = .ok (.athrow, 1))
    (hout : ∀ x ∈ c.exceptionTable.toList, covers x (pc + 10) = false)
    (hRframes : names.length + 3 < R.frames) (hRlocals : (rest.map fun v => v.category).sum + (13 * (names.length + 1) + 43) ≤ R.locals) (hRcells : cells + 1 ≤ R.cells) (hRslots : slots + 6 ≤ R.slots) (hlocks : meth.locks = false)
    (hx : ∀ t : State, s.vm.Alike t.vm → H.size ≤ t.heap.size → (∀ q : Nat, q < H.size → t.heap[q]? = H[q]?) → XC cls s t)
    (hf : ∀ z ∈ locs, free z.base) (hc : cells + 1 ≤ mc) (hs : slots + 6 ≤ ms) :
    W p l e R s m args below meth c H locs cells slots (vx_MQ below Qc XC args s mc ms free) (F0 m pc ls rest) := by
  intro T hT X
  have htr : e.platform.stackTraces = false := (show e.platform.stackTraces = l.stackTraces by rw [X.admits.platform]).trans hl
  have Y := vx_rebase X (R' := { frames := R.frames, locals := R.locals, cells := 1, slots := 6 }) (Nat.le_refl _) (Nat.le_refl _) hRcells hRslots
  obtain ⟨s', hA⟩ : ∃ z, z = (T.setVm s.vm).setFrames (.invoking m args :: below) := ⟨_, rfl⟩
  rw [← hA] at Y
  have hvm : s'.vm = s.vm := by rw [hA]; rfl
  have hhp : s'.heap = H := by rw [hA]; exact hT
  have hW0 : s.WarmedH s'.vm := by rw [hvm]; exact State.WarmedH.refl s
  have hat' : ∀ w ∈ vx_atS own ic cls names, w.before args s' = true := fun w hw => vx_ot_at hW0 hvm.symm (hgood w (List.mem_cons_of_mem _ (List.mem_cons_of_mem _ hw))) (hat w hw)
  have hk' : (Cond.classLink own ik cls).before args s' = true := vx_ot_at hW0 hvm.symm (hgood _ List.mem_cons_self) hk
  have hini' : (Cond.initialized cls).before args s' = true := vx_ot_at hW0 hvm.symm (hgood _ (List.mem_cons_of_mem _ List.mem_cons_self)) hini
  have hU' : vx_Zq Bundle.tN "UNASSIGNED_STACK" Bundle.steD A s' s'.heap := by rw [hhp]; exact vx_Zq.moved hW0.alike (hU.kept hS.2.1)
  have hN' : vx_Zq Bundle.tN "SUPPRESSED_SENTINEL" Bundle.listD A s' s'.heap := by rw [hhp]; exact vx_Zq.moved hW0.alike (hN.kept hS.2.1)
  have h : ∀ w ∈ Bundle.ownAtoms own ic cls names, w.before args s' = true := vx_own hat' (vx_isRefq hU'.1) (vx_isRefq hN'.1) hU'.2.word hN'.2.word
  have hown' : s'.vm.findClass own = some m.cls := by rw [hvm]; exact hown
  have hins : (Cond.instantiable cls 6).before args s' = true := h _ (by simp [Bundle.ownAtoms])
  obtain ⟨vm₁, cX, kX, hfX, hkX, -, -, X₁, st1⟩ := Y.newCold hexec (own := own) (C := cls) (index := ik) (n := 6) hown' hk' hins hini'
    (g := F0 m pc ls rest) rfl (by rw [hb]; exact d0) (Nat.le_refl _) (Nat.le_refl _)
  generalize hT1 : (T.setVm vm₁).pushCell { cls := cX, slots := kX.instanceTypes.map defaultValue, vm := .none } = T1 at X₁ st1
  have hcat : (Value.ref T.heap.size).category = 1 := rfl
  have hcellA : T1.heap[T.heap.size]? = some (freshCell cX kX) := by rw [← hT1]; exact State.heap_pushCell_size _ _
  have d3' : decode c.code (pc + 3) = .ok (.dup, 1) := by rw [hb]; exact d3
  have d4' : decode c.code (pc + 4) = .ok (.ldc_w is, 3) := by rw [hb]; exact d4
  have hstr' : vk_R own is text sa s' := vk_R.warm hW0 hstr
  obtain ⟨U, hsteps, hrun, hend, hW, hsame, ce, hce, hO⟩ := X₁.ctorThrowS hexec htr (own := own) (cls := cls) (names := names) (ic := ic) hown' hcls hnames h (fun x hx => nomatch hx) hfX hkX hcellA (by rw [hhp, hT]; exact Nat.le_refl _) (msg := .ref sa) rfl
    (g := { method := m, pc := pc + 7, locals := ls, stack := .ref sa :: .ref T.heap.size :: .ref T.heap.size :: rest, locked := none }) rfl hsize rfl rfl (rest := rest) rfl
    (by rw [hb]; exact d7) (by rw [hb]; exact d10) hout hRframes (by simp only [List.map_cons, List.sum_cons, hcat]; omega) hlocks
  obtain ⟨f1, f2⟩ := vx_frame hsame
  rw [hhp] at f1 f2
  have hWs : s.WarmedH U.vm := State.WarmedH.trans hW0 hW
  have hcl : s.vm.findClass cls = some ce.cls := by
    have h9 := hO.cls
    rw [hvm] at h9
    exact h9
  have hall : s.sameButNew ({ U with vm := s.vm } : State) locs mc ms := by
    subst hA
    obtain ⟨e1, e2⟩ := hsame
    rw [State.setFrames_setFrames] at e1
    have h2 : (T.setVm s.vm).sameButNew ({ U with vm := s.vm } : State) [] (0 + 1) (0 + 6) := ⟨e1, e2⟩
    have h3 := X.same.trans h2
    rw [List.append_nil] at h3
    exact h3.mono hc hs
  refine ⟨U, ?_, .threw T.heap.size, hrun, hend, Or.inr ⟨T.heap.size, rfl, cls, ce, locs, hx U hWs.alike f1 (fun q hq => f2 q hq (fun z hz => nomatch hz)), hce, hO.vm, hcl, hWs, hall, hf⟩⟩
  refine st1 _ ?_
  show Steps p.tables e below (T1.setTop { method := m, pc := pc + 3, locals := ls, stack := .ref T.heap.size :: rest, locked := none }) _
  jvm_step X₁.here [X₁.here.top, hexec, d3', Value.category]
  exact X₁.ldcStringW hexec (own := own) (text := text) (index := is) (a := sa) hown' hstr'.1 hstr'.2
    (g := { method := m, pc := pc + 4, locals := ls, stack := .ref T.heap.size :: .ref T.heap.size :: rest, locked := none }) rfl d4' _ hsteps
end Ends
section Bodies
variable {l : Launch}
theorem vx_ofW {y : MethodName} {ws ws' : List Cond} {rm : Room} {Pc : Array Value → State → Prop} {Qc : Array Value → State → Outcome → State → Prop} {XC : String → State → State → Prop} {mc ms : Nat} {free : Addr → Prop} {cc : ByteArray} {maxL : Nat} {ret : Option FieldType}
    (hy : plainName y.cls = true) (hw : ws = Cond.code y cc maxL ret :: ws')
    (body : ∀ p e s m args below meth c s₁, BodyLoose p l y (headSpec ws rm) cc maxL ret e s m args below meth c s₁ → c.maxLocals = maxL → (∀ x ∈ c.exceptionTable.toList, False) → Pc args s →
      W p l e (headSpec ws rm).room s m args below meth c s.heap [] 0 0 (vx_MQ below Qc XC args s mc ms free) (entryFrame m args maxL)) : vx_Met l y ws rm Pc Qc XC mc ms free := by
  refine MetFree.of_bodyS (code := cc) (maxLocals := maxL) (ret := ret) hy ?_ ?_
  · intro args s m h hn
    obtain ⟨meth, c, h1, h2, h3, h4, h5, h6, -, -⟩ := Cond.code_spec hn (atoms_spec (ws := ws) h _ (by rw [hw]; exact List.mem_cons_self))
    exact ⟨meth, c, h1, h2, h3, h4, h5, h6⟩
  · intro p e s m args below meth c s₁ B hml hP _
    have hh0 : s₁.heap = s.heap := by rw [B.state]; rfl
    have ht : ∀ x ∈ c.exceptionTable.toList, False := by
      obtain ⟨meth9, c9, h1, h2, -, -, -, -, h7, -⟩ := Cond.code_spec B.named (atoms_spec (ws := ws) B.pre _ (by rw [hw]; exact List.mem_cons_self))
      cases Option.some.inj (h1.symm.trans B.method)
      cases Option.some.inj (h2.symm.trans (Stand.of_body B).code)
      intro x hx
      rw [Array.isEmpty_iff.mp h7] at hx
      cases hx
    obtain ⟨t, a1, o, b1, b2, b3⟩ := body p e s m args below meth c s₁ B hml ht hP s₁ hh0 (Stand.of_body B)
    exact ⟨t, o, a1, b1, b2, b3⟩
/-- the table of a body with handlers -/
theorem vx_table {p : Program} {x y : MethodName} {S : Spec} {cc bytes : ByteArray} {maxL maxL' : Nat} {ret ret' : Option FieldType} {e : Env} {s s₁ : State} {m : MethodId} {args : Array Value} {below : List Frame} {meth : Method} {c : Code} {hh : List (Nat × Nat × Nat × Nat)}
    (B : BodyLoose p l y S cc maxL ret e s m args below meth c s₁) (h : (Cond.codeWith y bytes maxL' ret' hh).before args s = true) : c.exceptionTable.toList = tableOf hh := by
  obtain ⟨m9, meth9, c9, hn9, h1, h2, -, -, h6, -⟩ := Cond.codeWith_spec h
  cases Option.some.inj (hn9.symm.trans B.named)
  cases Option.some.inj (h1.symm.trans B.method)
  cases Option.some.inj (h2.symm.trans (Stand.of_body B).code)
  rw [← h6, table_eq]
end Bodies
end VXA
/-! ===== END ===== -/
/-! ===== BEGIN a static call of a method with an exception table ===== -/
section VXS
variable {p : Program} {l : Launch} {e : Env} {R : Room} {s : State} {m : MethodId} {args : Array Value} {below : List Frame} {meth : Method} {c : Code} {T : State} {H : Heap} {locs : List Loc} {cells slots : Nat}
abbrev vx_CSW (R : Room) (s : State) (args : Array Value) (own : String) (index : Nat) (y : MethodName) (bytes : ByteArray) (maxL : Nat) (ret : Option FieldType) (hh : List (Nat × Nat × Nat × Nat)) (ws : List Cond) (rm : Room) (mc ms n : Nat) : Prop :=
  (rm.cells = mc ∧ rm.slots = ms ∧ rm.frames + 1 ≤ R.frames ∧ 8 + (maxL + 11) + rm.locals ≤ R.locals ∧ (∀ w ∈ ws, ∀ (a' : Array Value) (U : State), s.WarmedH U.vm → w.before a' U = true) ∧ Cond.codeWith y bytes maxL ret hh ∈ ws) ∧
  (Cond.codeWith y bytes maxL ret hh).before args s = true ∧ (Cond.initialized y.cls).before args s = true ∧ (y.cls ≠ "java/lang/invoke/MethodHandle" ∧ y.cls ≠ "java/lang/invoke/VarHandle") ∧
  (∀ sig, parseMethodDescriptor y.desc = some sig → n = sig.parameters.length) ∧ (Cond.methodLink own index y).before args s = true ∧ (Cond.static y).before args s = true
theorem vx_cwSW {own : String} {index maxL mc ms : Nat} {y : MethodName} {bytes : ByteArray} {ret : Option FieldType} {hh : List (Nat × Nat × Nat × Nat)} {Ts ws ws' : List Cond} {rm : Room} (n : Nat) (ht : ∀ w ∈ Ts, w.before args s = true) (hT : GoodIn Ts (va_wsS own index y ws)) (hw : ws = Cond.codeWith y bytes maxL ret hh :: ws') (hrc : rm.cells = mc) (hrs : rm.slots = ms)
    (hd : y.cls ≠ "java/lang/invoke/MethodHandle" ∧ y.cls ≠ "java/lang/invoke/VarHandle" ∧ (parseMethodDescriptor y.desc).map (fun d => d.parameters.length) = some n) (hR : rm.frames + 1 ≤ R.frames ∧ 8 + (maxL + 11) + rm.locals ≤ R.locals) :
    vx_CSW R s args own index y bytes maxL ret hh ws rm mc ms n := by
  have ok : ∀ w ∈ va_wsS own index y ws, w.before args s = true := fun w h => ht w (hT w h).1
  have hG : GoodIn Ts ws := fun w h => hT w (by unfold va_wsS; exact List.mem_append_right _ h)
  have hc : Cond.codeWith y bytes maxL ret hh ∈ ws := by rw [hw]; exact List.mem_cons_self
  refine ⟨⟨hrc, hrs, hR.1, hR.2, pay_in ht hG, hc⟩, ht _ (hG _ hc).1, ok _ (by simp [va_wsS]), ⟨hd.1, hd.2.1⟩, fun sig h => ?_, ok _ (by simp [va_wsS]), ok _ (by simp [va_wsS])⟩
  have h2 := hd.2.2
  rw [h] at h2
  exact (Option.some.inj h2).symm
theorem vx_callSW (X : Stand p l e R s m args below meth c T locs cells slots) (hexec : p.tables.exec = Jvm.exec) {own : String} {index : Nat} {y : MethodName} {bytes : ByteArray} {maxL : Nat} {ret : Option FieldType} {hh : List (Nat × Nat × Nat × Nat)}
    (hown : s.vm.findClass own = some m.cls) (hlink : (Cond.methodLink own index y).before args s = true) (hstat : (Cond.static y).before args s = true) (hinit : (Cond.initialized y.cls).before args s = true)
    (hcode : (Cond.codeWith y bytes maxL ret hh).before args s = true) (hy : y.cls ≠ "java/lang/invoke/MethodHandle" ∧ y.cls ≠ "java/lang/invoke/VarHandle")
    {W9 : Nat} {Pre : Pt → Array Value → Prop} {Post : Pt → Array Value → Option Value → Pt → Prop} (hK : Back l R p e below s args y 3 W9 Pre Post)
    {g : JFrame} (hg : g.method = m) (hsize : g.locals.size = c.maxLocals) {argsL rest : List Value} (hlen : ∀ sig, parseMethodDescriptor y.desc = some sig → argsL.length = sig.parameters.length)
    (hstack : g.stack = argsL.reverse ++ rest) (hW : 2 * g.monitorRoom + (rest.map fun v => v.category).sum ≤ W9) (hdg : decode c.code g.pc = .ok (.invokestatic index, 3))
    (hpre : ∀ vm₁, s.WarmedH vm₁ → Pre ⟨T.setVm vm₁, locs, cells, slots⟩ argsL.toArray) :
    ∃ (v : Option Value) (vm₁ : Vm) (B : Pt), s.WarmedH vm₁ ∧ Stand p l e R s m args below meth c B.U B.locs B.cells B.slots ∧ Post ⟨T.setVm vm₁, locs, cells, slots⟩ argsL.toArray v B ∧
      ∀ target, Steps p.tables e below (B.U.setTop { g with pc := g.pc + 3, stack := v.toList ++ rest }) target → Steps p.tables e below (T.setTop g) target := by
  obtain ⟨mk, methM, cM, hnamed, hmethM, -, -, -, -, -, -, hsigM⟩ := Cond.codeWith_spec hcode
  have hstatic : methM.isStatic = true := Cond.static_spec hnamed hmethM hstat
  obtain ⟨kP, hkP, -⟩ := className_of_methodNamed hnamed
  have hinitP : kP.init = .initialized := Cond.initialized_spec (findClass_of_methodNamed hnamed) hkP hinit
  obtain ⟨vm₁, X₁, hstep₁⟩ := X.invokestatic hexec hown hlink hnamed hmethM hstatic hkP hinitP hy (g := g) hg (argsL := argsL) (rest := rest) (hlen _ hsigM) hstack hdg
  obtain ⟨v, B, X', hpost, hsteps⟩ := hK m meth c ⟨T.setVm vm₁, locs, cells, slots⟩ { g with stack := rest } (.invokestatic index) mk argsL.toArray X₁ hg hsize hdg hW (X₁.named hnamed) (hpre vm₁ X₁.warmed)
  exact ⟨v, vm₁, B, X₁.warmed, X', hpost, fun target h => hstep₁ _ fun acts => by rw [doInvoke_state]; exact hsteps.trans h⟩
theorem vx_runSW {y : MethodName} {bytes cc : ByteArray} {maxL nL mc ms n index : Nat} {ret : Option FieldType} {hh : List (Nat × Nat × Nat × Nat)} {ws : List Cond} {rm : Room} {Pc : Array Value → State → Prop} {Qc : Array Value → State → Outcome → State → Prop} {free : Addr → Prop} {Ts : List Cond} {own : String} {As rest : List Value} {g : JFrame}
    (S : CallFix p m c cc nL s args Ts own) (hM : Met l y ws rm Pc Qc mc ms free) (cw : vx_CSW R s args own index y bytes maxL ret hh ws rm mc ms n) (hp : PreS s H Pc As)
    (hg : g.method = m) (hn : As.length = n) (hsize : g.locals.size = nL) (hstack : g.stack = As.reverse ++ rest) (hW : 2 * g.monitorRoom + (rest.map fun v => v.category).sum ≤ 8) (hdg : decode cc g.pc = .ok (.invokestatic index, 3)) (hf : cells + mc ≤ R.cells ∧ slots + ms ≤ R.slots) :
    va_Run p l e R s m args below meth c H locs cells slots mc ms g rest (Qc As.toArray) (free) := by
  obtain ⟨⟨hrc, hrs, hfr, hlo, hws, hcw⟩, hcode, hini, hy, hlen, hl, hstt⟩ := cw
  have hK : Back l R p e below s args y 3 8 (PreOf R mc ms Pc) (PostOf Qc mc ms free) := va_backW (hh := hh) (bytes := bytes) (maxL := maxL) (ret := ret) hM hp.1 hrc hrs hfr hlo hws hcw (fun a' U hW => word_at hW (Or.inl (by first | rfl | simp [Cond.onTables, Cond.keeps, Cond.steady])) hini)
  obtain ⟨hx, hb, hml, ho, -⟩ := S
  intro T hT X
  obtain ⟨v, vm₁, ⟨U', l2, c2, s2⟩, hW₁, X', ⟨g', mk, t, L, e1, e2, hq, h1, hL, h2, h3⟩, st⟩ := vx_callSW X hx (hh := hh) (bytes := bytes) (maxL := maxL) (ret := ret) ho hl hstt hini hcode hy hK hg (hsize.trans hml.symm) (argsL := As) (rest := rest) (fun sig h => hn.trans (hlen sig h)) hstack hW (by rw [hb]; exact hdg)
    (fun vm₁ hW₁ => ⟨hf.1, hf.2, hp.2 (T.setVm vm₁) hT hW₁⟩)
  dsimp only [Pt.U, Pt.locs, Pt.cells, Pt.slots] at X' e1 e2 h1 h2 h3 st
  subst h1; subst h2; subst h3
  exact ⟨v, (T.setVm vm₁).calling g' mk As.toArray, t, U', L, hT, X', hL, e1, e2, hq, st⟩
/-- not caught here, past rows that name other classes: it goes on to the caller -/
theorem vx_outP {p : Program} {l : Launch} {e : Env} {R : Room} {s : State} {m : MethodId} {args : Array Value} {below : List Frame} {meth : Method} {c : Code} {H : Heap} {locs : List Loc} {cells slots : Nat} {free : Addr → Prop} {ls : Array Slot} {rest : List Value} {Qc : Array Value → State → Outcome → State → Prop} {XC : String → State → State → Prop}
    {pc : Nat} {own E : String} {ce : Cell} {q : Addr} {mc ms : Nat} (hown : s.vm.findClass own = some m.cls) (hlocks : meth.locks = false)
    (hpass : ∀ z ∈ c.exceptionTable.toList, covers z pc = false ∨ (z.catchType ≠ 0 ∧ ∃ nm : String, (Cond.classLink own z.catchType nm).before args s = true ∧ va_Nc E nm s)) (hcell : H[q]? = some ce) (hv : ce.vm = .none) (hcl : s.vm.findClass E = some ce.cls)
    (hx : ∀ t : State, t.heap = H → s.vm.Alike t.vm → XC E s t) (hf : ∀ z ∈ locs, free z.base) (hc : cells ≤ mc) (hs : slots ≤ ms) :
    vx_W p l e R s m args below meth c H locs cells slots (vx_MQ below Qc XC args s mc ms free) (F0 m pc ls rest) q := by
  intro T hT X
  have hpl : e.platform.magicAccessors = ({} : Platform).magicAccessors := by rw [X.admits.platform]
  obtain ⟨vm', hW', X', st⟩ := X.outThrough hlocks q (g := F0 m pc ls rest) rfl rfl rfl (cell := ce) (by rw [hT]; exact hcell) (by rw [hv]; rfl)
    (by obtain ⟨k9, h9, -⟩ := Vm.findClass_spec hcl; exact ⟨k9, h9⟩) (fun z hz => by
      rcases hpass z hz with h | ⟨hz0, nm, hl1, hn1⟩
      · exact Or.inl h
      · obtain ⟨c6, hc6, hcl6⟩ := Cond.classLink_spec hown hl1 e.platform hpl
        obtain ⟨a8, b8, h1, h2, h3⟩ := hn1
        cases Option.some.inj (h1.symm.trans hcl)
        cases Option.some.inj (h2.symm.trans hc6)
        exact Or.inr ⟨hz0, _, hcl6, h3⟩)
  obtain ⟨g₀, hfr⟩ := X'.frames_eq
  have hcell9 : ((T.setVm vm').setFrames (.throwing q :: below)).heap[q]? = some ce := by
    show T.heap[q]? = some ce
    rw [hT]; exact hcell
  have hend : Ended ((T.setVm vm').setFrames (.throwing q :: below)) below (.threw q) := State.frames_setFrames _ (State.cur_lt_of_frames hfr)
  refine ⟨(T.setVm vm').setFrames (.throwing q :: below), ?_, .threw q, X'.here.running, hend, Or.inr ⟨q, rfl, E, ce, locs, hx _ hT (X'.ends _).1.alike, hcell9, hv, hcl, (X'.ends _).1, (X'.ends _).2.mono hc hs, hf⟩⟩
  rw [X.pushThrowing_eq]
  exact st
/-- a thing of a world lies in the heap -/
theorem vx_lt {D : va_G} {cl : List vw_C} {ws : va_W} {H1 : Heap} (h : va_P D cl ws H1) {k : Nat} {q : Nat × va_E} (hk : ws[k]? = some q) : q.1 < H1.size := (h k q hk).lt
end VXS
/-! ===== END ===== -/
/-! ===== BEGIN methods with a table of their own: called by a name, returning or throwing ===== -/
section VXH
/-! vx_backW, vx_callVX, vx_callSX, vx_callVW, vx_runVW, vx_runVX, vx_runSX, vx_ofWH follow the same proofs as their sisters above (Free/Laws.lean, Shelf42/LK1.lean); vx_outP calls Shelf42/NT130.lean (outThrough). -/
section
variable {l : Launch} {R : Room} {p : Program} {e : Env} {below : List Frame} {s : State} {sargs : Array Value} {y : MethodName} {len W9 : Nat}
theorem vx_backW {ws : List Cond} {rm : Room} {Pc : Array Value → State → Prop} {Qc : Array Value → State → Outcome → State → Prop} {XC : String → State → State → Prop} {mc ms : Nat} {free : Addr → Prop} {bytes : ByteArray} {maxL : Nat} {ret : Option FieldType} {hh : List (Nat × Nat × Nat × Nat)}
    (hM : vx_Met l y ws rm Pc Qc XC mc ms free) (hblind : FrameBlind Pc) (hrc : rm.cells = mc) (hrs : rm.slots = ms)
    (hframes : rm.frames + 1 ≤ R.frames) (hlocals : W9 + (maxL + 11) + rm.locals ≤ R.locals)
    (hws : ∀ w ∈ ws, ∀ a' U, s.WarmedH U.vm → w.before a' U = true) (hcode : Cond.codeWith y bytes maxL ret hh ∈ ws) (hinit : ∀ a' U, s.WarmedH U.vm → (Cond.initialized y.cls).before a' U = true) :
    vx_Back l R p e below s sargs y len W9 (PreOf R mc ms Pc) (PostOf Qc mc ms free) (vx_Post XC mc ms free) := by
  intro m meth c A g ig mk a X hg hsize hdg hW hn hp
  have h1 : (headSpec ws rm).pre.before a A.U = true := atoms_intro fun w hw => hws w hw _ _ X.warmed
  have h2 : (Cond.codeWith y bytes maxL ret hh).before a A.U = true := hws _ hcode _ _ X.warmed
  have h3 : (Cond.initialized y.cls).before a A.U = true := hinit _ _ X.warmed
  have h4 : A.cells + (headSpec ws rm).room.cells ≤ R.cells := by rw [show (headSpec ws rm).room.cells = mc from hrc]; exact hp.1
  have h5 : A.slots + (headSpec ws rm).room.slots ≤ R.slots := by rw [show (headSpec ws rm).room.slots = ms from hrs]; exact hp.2.1
  have hPc : Pc a (A.U.calling g mk a) := hblind _ _ _ _ hp.2.2
  obtain ⟨U, Ls, c0, s0⟩ := A
  dsimp only [Pt.U, Pt.locs, Pt.cells, Pt.slots] at h1 h2 h3 h4 h5 X hn hPc ⊢
  obtain ⟨m9, methY, cY, hn9, hmY, hcY, -, hlY, -⟩ := Cond.codeWith_spec h2
  cases Option.some.inj (hn9.symm.trans hn)
  obtain ⟨kY, hkY, -⟩ := className_of_methodNamed hn
  have hinitY : kY.init = .initialized := Cond.initialized_spec (findClass_of_methodNamed hn) hkY h3
  have h : At U g.method c below := by rw [hg]; exact X.here
  have hlocals9 : W9 + (maxL + 11) + (headSpec ws rm).room.locals ≤ R.locals := hlocals
  have happ : (headSpec ws rm).appliesLoose y e.platform (U.calling g mk a) = true :=
    Spec.appliesLoose_calling (g := g) h hdg hn hkY hinitY
      (X.room_calling (g := g) (R' := (headSpec ws rm).room) hsize hmY hcY hframes (by rw [hlY]; omega) h4 h5) h1
  obtain ⟨mid, hmid⟩ := h.above
  have hfr : (U.setTop g).frames = (.java g :: mid) ++ below := by rw [State.frames_setTop' g h.top, hmid]; rfl
  obtain ⟨o, s₂, hsteps, -, hend, hq⟩ := Steps.callFree hM p X.admits X.cas X.clock (acts := []) hfr happ hPc trivial
  have hq' : vx_Q Qc XC mc ms free a (U.calling g mk a) o s₂ := hq
  rw [State.frames_setTop' g h.top] at hend
  obtain ⟨g₀, hg0⟩ := Option.isSome_iff_exists.mp h.top
  obtain ⟨r, hr⟩ := State.topJava?_eq_some.mp hg0
  have hr' : (({ U with heap := s₂.heap, slotsUsed := s₂.slotsUsed } : State).setVm s₂.vm).frames = .java g₀ :: r := hr
  rcases hq' with ⟨hqc, L, hfe, hL⟩ | ⟨q, rfl, E, ce, L, hx, hce, hcv, hcl, hW₂, hsm, hL⟩
  · obtain ⟨⟨v, rfl⟩, hW₂, e2, q2, q3, q4, q5, q6⟩ := id hfe
    have e3 : s₂ = ({ (U.calling g mk a).setFrames s₂.frames with heap := s₂.heap, slotsUsed := s₂.slotsUsed } : State).setVm s₂.vm := by
      have : s₂ = ({ s₂ with vm := (U.calling g mk a).vm } : State).setVm s₂.vm := rfl
      rw [e2] at this
      exact this
    obtain ⟨c₂, i₂, len₂, hc₂, hd₂, hf₂⟩ := hend
    have hW' : U.WarmedH s₂.vm := hW₂
    have hcc : c₂ = c := by
      have h1 : s₂.code? g.method = U.code? g.method := by
        rw [State.code?_eq, State.code?_eq, hW'.alike.method?]
      exact Option.some.inj (hc₂.symm.trans (h1.trans h.code))
    subst hcc
    have hlen : len₂ = len := by rw [hdg] at hd₂; cases hd₂; rfl
    subst hlen
    have hs₂ : s₂ = (({ U with heap := s₂.heap, slotsUsed := s₂.slotsUsed } : State).setVm s₂.vm).setTop { g with pc := g.pc + len₂, stack := v.toList ++ g.stack } := by
      refine e3.trans ?_
      rw [hf₂, State.calling_eq h.top, State.setFrames_setFrames, State.setTop_of_frames _ hr', hr]
      rfl
    have hsame : U.sameButNew ({ U with heap := s₂.heap, slotsUsed := s₂.slotsUsed } : State) L mc ms := by
      refine ⟨?_, q2, q3, q4, q5, q6⟩
      obtain ⟨t, ht, -⟩ := State.frames_cons hr
      show ({ U with heap := s₂.heap, slotsUsed := s₂.slotsUsed } : State) = { U.setFrames U.frames with heap := s₂.heap, slotsUsed := s₂.slotsUsed }
      rw [State.setFrames_self ht]
    subst hg
    refine Or.inl ⟨v, ⟨(({ U with heap := s₂.heap, slotsUsed := s₂.slotsUsed } : State).setVm s₂.vm), Ls ++ L, c0 + mc, s0 + ms⟩,
      ⟨X.admits, X.cas, X.clock, X.frames, X.room, X.hears, X.method, X.code, (X.here.setHeapUsed s₂.heap s₂.slotsUsed).setVm hW'.alike, X.tail, State.WarmedH.trans X.warmed hW', X.limits, X.bytes, X.same.trans (hsame.setVm s.vm)⟩,
      ⟨g, mk, s₂, L, rfl, rfl, hqc, rfl, hL, rfl, rfl⟩, ?_⟩
    show Steps p.tables e below _ ((({ U with heap := s₂.heap, slotsUsed := s₂.slotsUsed } : State).setVm s₂.vm).setTop { g with pc := g.pc + len₂, stack := v.toList ++ g.stack })
    rw [← hs₂]
    exact hsteps
  · obtain ⟨e2, q2, q3, q4, q5, q6⟩ := id hsm
    have e3 : s₂ = ({ (U.calling g mk a).setFrames s₂.frames with heap := s₂.heap, slotsUsed := s₂.slotsUsed } : State).setVm s₂.vm := by
      have : s₂ = ({ s₂ with vm := (U.calling g mk a).vm } : State).setVm s₂.vm := rfl
      rw [e2] at this
      exact this
    have hf₂ : s₂.frames = .throwing q :: .java g :: U.frames.tail := hend
    have hW' : U.WarmedH s₂.vm := hW₂
    have hs₂ : s₂ = ((({ U with heap := s₂.heap, slotsUsed := s₂.slotsUsed } : State).setVm s₂.vm).setTop g).pushFrame (.throwing q) := by
      refine e3.trans ?_
      rw [hf₂, State.calling_eq h.top, State.setFrames_setFrames, State.pushFrame, State.frames_setTop _ hr', State.setTop_of_frames _ hr', State.setFrames_setFrames, hr]
      rfl
    have hsame : U.sameButNew ({ U with heap := s₂.heap, slotsUsed := s₂.slotsUsed } : State) L mc ms := by
      refine ⟨?_, q2, q3, q4, q5, q6⟩
      obtain ⟨t, ht, -⟩ := State.frames_cons hr
      show ({ U with heap := s₂.heap, slotsUsed := s₂.slotsUsed } : State) = { U.setFrames U.frames with heap := s₂.heap, slotsUsed := s₂.slotsUsed }
      rw [State.setFrames_self ht]
    subst hg
    refine Or.inr ⟨q, ⟨(({ U with heap := s₂.heap, slotsUsed := s₂.slotsUsed } : State).setVm s₂.vm), Ls ++ L, c0 + mc, s0 + ms⟩,
      ⟨X.admits, X.cas, X.clock, X.frames, X.room, X.hears, X.method, X.code, (X.here.setHeapUsed s₂.heap s₂.slotsUsed).setVm hW'.alike, X.tail, State.WarmedH.trans X.warmed hW', X.limits, X.bytes, X.same.trans (hsame.setVm s.vm)⟩,
      ⟨g, mk, s₂, L, E, ce, rfl, rfl, hx, hce, hcv, hcl, rfl, hL, rfl, rfl⟩, ?_⟩
    show Steps p.tables e below _ (((({ U with heap := s₂.heap, slotsUsed := s₂.slotsUsed } : State).setVm s₂.vm).setTop g).pushFrame (.throwing q))
    rw [← hs₂]
    exact hsteps
end
variable {p : Program} {l : Launch} {e : Env} {R : Room} {s : State} {m : MethodId} {args : Array Value} {below : List Frame} {meth : Method} {c : Code} {T : State} {H : Heap} {locs : List Loc} {cells slots : Nat}
theorem vx_callVX (X : Stand p l e R s m args below meth c T locs cells slots) (hexec : p.tables.exec = Jvm.exec) {own C : String} {index : Nat} {y : MethodName} {bytes : ByteArray} {maxL : Nat} {ret : Option FieldType} {hh : List (Nat × Nat × Nat × Nat)}
    (hown : s.vm.findClass own = some m.cls) (hlink : (Cond.methodLink own index y).before args s = true) (hinst : (Cond.instanceMethod y).before args s = true) (hsel : (Cond.selects C y y).before args s = true)
    (hcode : (Cond.codeWith y bytes maxL ret hh).before args s = true) (hy : y.cls ≠ "java/lang/invoke/MethodHandle" ∧ y.cls ≠ "java/lang/invoke/VarHandle")
    {W9 : Nat} {Pre : Pt → Array Value → Prop} {Post : Pt → Array Value → Option Value → Pt → Prop} {PostX : Pt → Array Value → Addr → Pt → Prop} (hK : vx_Back l R p e below s args y 3 W9 Pre Post PostX)
    {b : Addr} {cellB : Cell} (hcell : T.heap[b]? = some cellB) (hobj : cellB.vm.isStatics = false) (hcls : s.vm.findClass C = some cellB.cls)
    {g : JFrame} (hg : g.method = m) (hsize : g.locals.size = c.maxLocals) {argsL rest : List Value} (hlen : ∀ sig, parseMethodDescriptor y.desc = some sig → argsL.length = sig.parameters.length)
    (hstack : g.stack = argsL.reverse ++ .ref b :: rest) (hW : 2 * g.monitorRoom + (rest.map fun v => v.category).sum ≤ W9) (hdg : decode c.code g.pc = .ok (.invokevirtual index, 3))
    (hpre : ∀ vm₁, s.WarmedH vm₁ → Pre ⟨T.setVm vm₁, locs, cells, slots⟩ (Value.ref b :: argsL).toArray) :
    (∃ (v : Option Value) (vm₁ : Vm) (B : Pt), s.WarmedH vm₁ ∧ Stand p l e R s m args below meth c B.U B.locs B.cells B.slots ∧ Post ⟨T.setVm vm₁, locs, cells, slots⟩ (Value.ref b :: argsL).toArray v B ∧
      ∀ target, Steps p.tables e below (B.U.setTop { g with pc := g.pc + 3, stack := v.toList ++ rest }) target → Steps p.tables e below (T.setTop g) target) ∨
    (∃ (q : Addr) (vm₁ : Vm) (B : Pt), s.WarmedH vm₁ ∧ Stand p l e R s m args below meth c B.U B.locs B.cells B.slots ∧ PostX ⟨T.setVm vm₁, locs, cells, slots⟩ (Value.ref b :: argsL).toArray q B ∧
      Steps p.tables e below (T.setTop g) ((B.U.setTop { g with stack := rest }).pushFrame (.throwing q))) := by
  obtain ⟨mk, methM, hnamed, hmethM, hstM, habM⟩ := Cond.instanceMethod_spec hinst
  obtain ⟨m8, methM', cM, hn8, hmethM', -, -, -, -, -, -, hsigM⟩ := Cond.codeWith_spec hcode
  cases Option.some.inj (hn8.symm.trans hnamed)
  cases hmethM.symm.trans hmethM'
  obtain ⟨c2, r2, m2, q1, q2, q3, q4, kP, hkP, hkPi⟩ := Cond.selects_spec hsel
  cases hcls.symm.trans q1
  cases (State.methodFound?_of_named hnamed hy).symm.trans q2
  cases hnamed.symm.trans q3
  have hselP : selectMethod e.platform s.vm cellB.cls mk = .method mk := by rw [Launch.admits_selectMethod X.admits]; exact q4
  obtain ⟨vm₁, X₁, hstep₁⟩ := X.invokevirtual hexec hown hlink hnamed hmethM hstM hkP hkPi hy (a := b) (cell := cellB) hcell
    (fun z h => by rw [h] at hobj; cases hobj) hselP hmethM habM hkP hkPi (g := g) hg (argsL := argsL) (rest := rest) (hlen _ hsigM) hstack hdg
  rcases hK m meth c ⟨T.setVm vm₁, locs, cells, slots⟩ { g with stack := rest } (.invokevirtual index) mk (Value.ref b :: argsL).toArray X₁ hg hsize hdg hW (X₁.named hnamed) (hpre vm₁ X₁.warmed) with ⟨v, B, X', hpost, hsteps⟩ | ⟨q, B, X', hpost, hsteps⟩
  · exact Or.inl ⟨v, vm₁, B, X₁.warmed, X', hpost, fun target h => hstep₁ _ fun acts => by rw [doInvoke_state]; exact hsteps.trans h⟩
  · exact Or.inr ⟨q, vm₁, B, X₁.warmed, X', hpost, hstep₁ _ fun acts => by rw [doInvoke_state]; exact hsteps⟩
theorem vx_callSX (X : Stand p l e R s m args below meth c T locs cells slots) (hexec : p.tables.exec = Jvm.exec) {own : String} {index : Nat} {y : MethodName} {bytes : ByteArray} {maxL : Nat} {ret : Option FieldType} {hh : List (Nat × Nat × Nat × Nat)}
    (hown : s.vm.findClass own = some m.cls) (hlink : (Cond.methodLink own index y).before args s = true) (hstat : (Cond.static y).before args s = true) (hinit : (Cond.initialized y.cls).before args s = true)
    (hcode : (Cond.codeWith y bytes maxL ret hh).before args s = true) (hy : y.cls ≠ "java/lang/invoke/MethodHandle" ∧ y.cls ≠ "java/lang/invoke/VarHandle")
    {W9 : Nat} {Pre : Pt → Array Value → Prop} {Post : Pt → Array Value → Option Value → Pt → Prop} {PostX : Pt → Array Value → Addr → Pt → Prop} (hK : vx_Back l R p e below s args y 3 W9 Pre Post PostX)
    {g : JFrame} (hg : g.method = m) (hsize : g.locals.size = c.maxLocals) {argsL rest : List Value} (hlen : ∀ sig, parseMethodDescriptor y.desc = some sig → argsL.length = sig.parameters.length)
    (hstack : g.stack = argsL.reverse ++ rest) (hW : 2 * g.monitorRoom + (rest.map fun v => v.category).sum ≤ W9) (hdg : decode c.code g.pc = .ok (.invokestatic index, 3))
    (hpre : ∀ vm₁, s.WarmedH vm₁ → Pre ⟨T.setVm vm₁, locs, cells, slots⟩ argsL.toArray) :
    (∃ (v : Option Value) (vm₁ : Vm) (B : Pt), s.WarmedH vm₁ ∧ Stand p l e R s m args below meth c B.U B.locs B.cells B.slots ∧ Post ⟨T.setVm vm₁, locs, cells, slots⟩ argsL.toArray v B ∧
      ∀ target, Steps p.tables e below (B.U.setTop { g with pc := g.pc + 3, stack := v.toList ++ rest }) target → Steps p.tables e below (T.setTop g) target) ∨
    (∃ (q : Addr) (vm₁ : Vm) (B : Pt), s.WarmedH vm₁ ∧ Stand p l e R s m args below meth c B.U B.locs B.cells B.slots ∧ PostX ⟨T.setVm vm₁, locs, cells, slots⟩ argsL.toArray q B ∧
      Steps p.tables e below (T.setTop g) ((B.U.setTop { g with stack := rest }).pushFrame (.throwing q))) := by
  obtain ⟨mk, methM, cM, hnamed, hmethM, -, -, -, -, -, -, hsigM⟩ := Cond.codeWith_spec hcode
  have hstatic : methM.isStatic = true := Cond.static_spec hnamed hmethM hstat
  obtain ⟨kP, hkP, -⟩ := className_of_methodNamed hnamed
  have hinitP : kP.init = .initialized := Cond.initialized_spec (findClass_of_methodNamed hnamed) hkP hinit
  obtain ⟨vm₁, X₁, hstep₁⟩ := X.invokestatic hexec hown hlink hnamed hmethM hstatic hkP hinitP hy (g := g) hg (argsL := argsL) (rest := rest) (hlen _ hsigM) hstack hdg
  rcases hK m meth c ⟨T.setVm vm₁, locs, cells, slots⟩ { g with stack := rest } (.invokestatic index) mk argsL.toArray X₁ hg hsize hdg hW (X₁.named hnamed) (hpre vm₁ X₁.warmed) with ⟨v, B, X', hpost, hsteps⟩ | ⟨q, B, X', hpost, hsteps⟩
  · exact Or.inl ⟨v, vm₁, B, X₁.warmed, X', hpost, fun target h => hstep₁ _ fun acts => by rw [doInvoke_state]; exact hsteps.trans h⟩
  · exact Or.inr ⟨q, vm₁, B, X₁.warmed, X', hpost, hstep₁ _ fun acts => by rw [doInvoke_state]; exact hsteps⟩
theorem vx_callVW (X : Stand p l e R s m args below meth c T locs cells slots) (hexec : p.tables.exec = Jvm.exec) {own C : String} {index : Nat} {y : MethodName} {bytes : ByteArray} {maxL : Nat} {ret : Option FieldType} {hh : List (Nat × Nat × Nat × Nat)}
    (hown : s.vm.findClass own = some m.cls) (hlink : (Cond.methodLink own index y).before args s = true) (hinst : (Cond.instanceMethod y).before args s = true) (hsel : (Cond.selects C y y).before args s = true)
    (hcode : (Cond.codeWith y bytes maxL ret hh).before args s = true) (hy : y.cls ≠ "java/lang/invoke/MethodHandle" ∧ y.cls ≠ "java/lang/invoke/VarHandle")
    {W9 : Nat} {Pre : Pt → Array Value → Prop} {Post : Pt → Array Value → Option Value → Pt → Prop} (hK : Back l R p e below s args y 3 W9 Pre Post)
    {b : Addr} {cellB : Cell} (hcell : T.heap[b]? = some cellB) (hobj : cellB.vm.isStatics = false) (hcls : s.vm.findClass C = some cellB.cls)
    {g : JFrame} (hg : g.method = m) (hsize : g.locals.size = c.maxLocals) {argsL rest : List Value} (hlen : ∀ sig, parseMethodDescriptor y.desc = some sig → argsL.length = sig.parameters.length)
    (hstack : g.stack = argsL.reverse ++ .ref b :: rest) (hW : 2 * g.monitorRoom + (rest.map fun v => v.category).sum ≤ W9) (hdg : decode c.code g.pc = .ok (.invokevirtual index, 3))
    (hpre : ∀ vm₁, s.WarmedH vm₁ → Pre ⟨T.setVm vm₁, locs, cells, slots⟩ (Value.ref b :: argsL).toArray) :
    ∃ (v : Option Value) (vm₁ : Vm) (B : Pt), s.WarmedH vm₁ ∧ Stand p l e R s m args below meth c B.U B.locs B.cells B.slots ∧ Post ⟨T.setVm vm₁, locs, cells, slots⟩ (Value.ref b :: argsL).toArray v B ∧
      ∀ target, Steps p.tables e below (B.U.setTop { g with pc := g.pc + 3, stack := v.toList ++ rest }) target → Steps p.tables e below (T.setTop g) target := by
  obtain ⟨mk, methM, hnamed, hmethM, hstM, habM⟩ := Cond.instanceMethod_spec hinst
  obtain ⟨m8, methM', cM, hn8, hmethM', -, -, -, -, -, -, hsigM⟩ := Cond.codeWith_spec hcode
  cases Option.some.inj (hn8.symm.trans hnamed)
  cases hmethM.symm.trans hmethM'
  obtain ⟨c2, r2, m2, q1, q2, q3, q4, kP, hkP, hkPi⟩ := Cond.selects_spec hsel
  cases hcls.symm.trans q1
  cases (State.methodFound?_of_named hnamed hy).symm.trans q2
  cases hnamed.symm.trans q3
  have hselP : selectMethod e.platform s.vm cellB.cls mk = .method mk := by rw [Launch.admits_selectMethod X.admits]; exact q4
  obtain ⟨vm₁, X₁, hstep₁⟩ := X.invokevirtual hexec hown hlink hnamed hmethM hstM hkP hkPi hy (a := b) (cell := cellB) hcell
    (fun z h => by rw [h] at hobj; cases hobj) hselP hmethM habM hkP hkPi (g := g) hg (argsL := argsL) (rest := rest) (hlen _ hsigM) hstack hdg
  obtain ⟨v, B, X', hpost, hsteps⟩ := hK m meth c ⟨T.setVm vm₁, locs, cells, slots⟩ { g with stack := rest } (.invokevirtual index) mk (Value.ref b :: argsL).toArray X₁ hg hsize hdg hW (X₁.named hnamed) (hpre vm₁ X₁.warmed)
  exact ⟨v, vm₁, B, X₁.warmed, X', hpost, fun target h => hstep₁ _ fun acts => by rw [doInvoke_state]; exact hsteps.trans h⟩
abbrev vx_CVW (R : Room) (s : State) (args : Array Value) (own C : String) (index : Nat) (y : MethodName) (bytes : ByteArray) (maxL : Nat) (ret : Option FieldType) (hh : List (Nat × Nat × Nat × Nat)) (ws : List Cond) (rm : Room) (mc ms n : Nat) : Prop :=
  (rm.cells = mc ∧ rm.slots = ms ∧ rm.frames + 1 ≤ R.frames ∧ 8 + (maxL + 11) + rm.locals ≤ R.locals ∧ (∀ w ∈ ws, ∀ (a' : Array Value) (U : State), s.WarmedH U.vm → w.before a' U = true) ∧ Cond.codeWith y bytes maxL ret hh ∈ ws) ∧
  (Cond.codeWith y bytes maxL ret hh).before args s = true ∧ (Cond.initialized y.cls).before args s = true ∧ (y.cls ≠ "java/lang/invoke/MethodHandle" ∧ y.cls ≠ "java/lang/invoke/VarHandle") ∧
  (∀ sig, parseMethodDescriptor y.desc = some sig → n = sig.parameters.length) ∧ (Cond.methodLink own index y).before args s = true ∧ (Cond.instanceMethod y).before args s = true ∧ (Cond.selects C y y).before args s = true
theorem vx_cwVW {own C : String} {index maxL mc ms : Nat} {y : MethodName} {bytes : ByteArray} {ret : Option FieldType} {hh : List (Nat × Nat × Nat × Nat)} {Ts ws ws' : List Cond} {rm : Room} (n : Nat) (ht : ∀ w ∈ Ts, w.before args s = true) (hT : GoodIn Ts (wsV own index C y ws)) (hw : ws = Cond.codeWith y bytes maxL ret hh :: ws') (hrc : rm.cells = mc) (hrs : rm.slots = ms)
    (hd : y.cls = C ∧ y.cls ≠ "java/lang/invoke/MethodHandle" ∧ y.cls ≠ "java/lang/invoke/VarHandle" ∧ (parseMethodDescriptor y.desc).map (fun d => d.parameters.length) = some n) (hR : rm.frames + 1 ≤ R.frames ∧ 8 + (maxL + 11) + rm.locals ≤ R.locals) :
    vx_CVW R s args own C index y bytes maxL ret hh ws rm mc ms n := by
  obtain ⟨hC, hd⟩ := hd
  subst hC
  have ok : ∀ w ∈ wsV own index y.cls y ws, w.before args s = true := fun w h => ht w (hT w h).1
  have hG : GoodIn Ts ws := fun w h => hT w (by unfold wsV; exact List.mem_append_right _ h)
  have hc : Cond.codeWith y bytes maxL ret hh ∈ ws := by rw [hw]; exact List.mem_cons_self
  refine ⟨⟨hrc, hrs, hR.1, hR.2, pay_in ht hG, hc⟩, ht _ (hG _ hc).1, ok _ (by simp [wsV]), ⟨hd.1, hd.2.1⟩, fun sig h => ?_, ok _ (by simp [wsV]), ok _ (by simp [wsV]), ok _ (by simp [wsV])⟩
  have h2 := hd.2.2
  rw [h] at h2
  exact (Option.some.inj h2).symm
theorem vx_runVW {y : MethodName} {bytes cc : ByteArray} {maxL nL mc ms n index : Nat} {ret : Option FieldType} {hh : List (Nat × Nat × Nat × Nat)} {ws : List Cond} {rm : Room} {Pc : Array Value → State → Prop} {Qc : Array Value → State → Outcome → State → Prop} {free : Addr → Prop} {Ts : List Cond} {own C : String} {b : Addr} {As rest : List Value} {g : JFrame}
    (S : CallFix p m c cc nL s args Ts own) (hM : Met l y ws rm Pc Qc mc ms free) (cw : vx_CVW R s args own C index y bytes maxL ret hh ws rm mc ms n) (hp : PreV s H C b Pc As)
    (hg : g.method = m) (hn : As.length = n) (hsize : g.locals.size = nL) (hstack : g.stack = As.reverse ++ .ref b :: rest) (hW : 2 * g.monitorRoom + (rest.map fun v => v.category).sum ≤ 8) (hdg : decode cc g.pc = .ok (.invokevirtual index, 3)) (hf : cells + mc ≤ R.cells ∧ slots + ms ≤ R.slots) :
    va_Run p l e R s m args below meth c H locs cells slots mc ms g rest (Qc (Value.ref b :: As).toArray) free := by
  obtain ⟨⟨hrc, hrs, hfr, hlo, hws, hcw⟩, hcode, hini, hy, hlen, hl, hin, hse⟩ := cw
  have hK : Back l R p e below s args y 3 8 (PreOf R mc ms Pc) (PostOf Qc mc ms free) := va_backW (hh := hh) (bytes := bytes) (maxL := maxL) (ret := ret) hM hp.1 hrc hrs hfr hlo hws hcw (fun a' U hW => word_at hW (Or.inl (by first | rfl | simp [Cond.onTables, Cond.keeps, Cond.steady])) hini)
  obtain ⟨hx, hb, hml, ho, -⟩ := S
  obtain ⟨-, ⟨cellB, hcB, hoB, hclB⟩, hPc⟩ := hp
  intro T hT X
  obtain ⟨v, vm₁, ⟨U', l2, c2, s2⟩, hW₁, X', ⟨g', mk, t, L, e1, e2, hq, h1, hL, h2, h3⟩, st⟩ := vx_callVW X hx (C := C) (hh := hh) (bytes := bytes) (maxL := maxL) (ret := ret) ho hl hin hse hcode hy hK (by rw [hT]; exact hcB) hoB hclB hg (hsize.trans hml.symm) (argsL := As) (rest := rest) (fun sig h => hn.trans (hlen sig h)) hstack hW (by rw [hb]; exact hdg)
    (fun vm₁ hW₁ => ⟨hf.1, hf.2, hPc (T.setVm vm₁) hT hW₁⟩)
  dsimp only [Pt.U, Pt.locs, Pt.cells, Pt.slots] at X' e1 e2 h1 h2 h3 st
  subst h1; subst h2; subst h3
  exact ⟨v, (T.setVm vm₁).calling g' mk (Value.ref b :: As).toArray, t, U', L, hT, X', hL, e1, e2, hq, st⟩
section
variable {y : MethodName} {bytes cc : ByteArray} {maxL nL mc ms n index : Nat} {ret : Option FieldType} {ws : List Cond} {rm : Room} {Pc : Array Value → State → Prop} {Qc : Array Value → State → Outcome → State → Prop} {XC : String → State → State → Prop} {free : Addr → Prop} {Ts : List Cond} {own C : String} {b : Addr} {As rest : List Value} {g : JFrame}
theorem vx_runVX {hh : List (Nat × Nat × Nat × Nat)} (S : CallFix p m c cc nL s args Ts own) (hM : vx_Met l y ws rm Pc Qc XC mc ms free) (cw : vx_CVW R s args own C index y bytes maxL ret hh ws rm mc ms n) (hp : PreV s H C b Pc As)
    (hg : g.method = m) (hn : As.length = n) (hsize : g.locals.size = nL) (hstack : g.stack = As.reverse ++ .ref b :: rest) (hW : 2 * g.monitorRoom + (rest.map fun v => v.category).sum ≤ 8) (hdg : decode cc g.pc = .ok (.invokevirtual index, 3)) (hf : cells + mc ≤ R.cells ∧ slots + ms ≤ R.slots) :
    vx_Run p l e R s m args below meth c H locs cells slots mc ms g rest (Qc (Value.ref b :: As).toArray) XC free := by
  obtain ⟨⟨hrc, hrs, hfr, hlo, hws, hcw⟩, hcode, hini, hy, hlen, hl, hin, hse⟩ := cw
  have hK : vx_Back l R p e below s args y 3 8 (PreOf R mc ms Pc) (PostOf Qc mc ms free) (vx_Post XC mc ms free) := vx_backW (hh := hh) (bytes := bytes) (maxL := maxL) (ret := ret) hM hp.1 hrc hrs hfr hlo hws hcw (fun a' U hW => word_at hW (Or.inl (by first | rfl | simp [Cond.onTables, Cond.keeps, Cond.steady])) hini)
  obtain ⟨hx, hb, hml, ho, -⟩ := S
  obtain ⟨-, ⟨cellB, hcB, hoB, hclB⟩, hPc⟩ := hp
  intro T hT X
  rcases vx_callVX X hx (C := C) (hh := hh) (bytes := bytes) (maxL := maxL) (ret := ret) ho hl hin hse hcode hy hK (by rw [hT]; exact hcB) hoB hclB hg (hsize.trans hml.symm) (argsL := As) (rest := rest) (fun sig h => hn.trans (hlen sig h)) hstack hW (by rw [hb]; exact hdg)
    (fun vm₁ hW₁ => ⟨hf.1, hf.2, hPc (T.setVm vm₁) hT hW₁⟩) with ⟨v, vm₁, ⟨U', l2, c2, s2⟩, hW₁, X', ⟨g', mk, t, L, e1, e2, hq, h1, hL, h2, h3⟩, st⟩ | ⟨q, vm₁, ⟨U', l2, c2, s2⟩, hW₁, X', ⟨g', mk, t, L, E, ce, e1, e2, hq, hce, hcv, hcl, h1, hL, h2, h3⟩, st⟩
  · dsimp only [Pt.U, Pt.locs, Pt.cells, Pt.slots] at X' e1 e2 h1 h2 h3 st
    subst h1; subst h2; subst h3
    exact Or.inl ⟨v, (T.setVm vm₁).calling g' mk (Value.ref b :: As).toArray, t, U', L, hT, X', hL, e1, e2, hq, st⟩
  · dsimp only [Pt.U, Pt.locs, Pt.cells, Pt.slots] at X' e1 e2 h1 h2 h3 st hcl
    subst h1; subst h2; subst h3
    exact Or.inr ⟨q, (T.setVm vm₁).calling g' mk (Value.ref b :: As).toArray, t, U', L, E, ce, hT, X', hL, e1, e2, hq, hce, hcv, vx_cls hW₁ hcl, st⟩
theorem vx_runSX {hh : List (Nat × Nat × Nat × Nat)} (S : CallFix p m c cc nL s args Ts own) (hM : vx_Met l y ws rm Pc Qc XC mc ms free) (cw : vx_CSW R s args own index y bytes maxL ret hh ws rm mc ms n) (hp : PreS s H Pc As)
    (hg : g.method = m) (hn : As.length = n) (hsize : g.locals.size = nL) (hstack : g.stack = As.reverse ++ rest) (hW : 2 * g.monitorRoom + (rest.map fun v => v.category).sum ≤ 8) (hdg : decode cc g.pc = .ok (.invokestatic index, 3)) (hf : cells + mc ≤ R.cells ∧ slots + ms ≤ R.slots) :
    vx_Run p l e R s m args below meth c H locs cells slots mc ms g rest (Qc As.toArray) XC free := by
  obtain ⟨⟨hrc, hrs, hfr, hlo, hws, hcw⟩, hcode, hini, hy, hlen, hl, hstt⟩ := cw
  have hK : vx_Back l R p e below s args y 3 8 (PreOf R mc ms Pc) (PostOf Qc mc ms free) (vx_Post XC mc ms free) := vx_backW (hh := hh) (bytes := bytes) (maxL := maxL) (ret := ret) hM hp.1 hrc hrs hfr hlo hws hcw (fun a' U hW => word_at hW (Or.inl (by first | rfl | simp [Cond.onTables, Cond.keeps, Cond.steady])) hini)
  obtain ⟨hx, hb, hml, ho, -⟩ := S
  intro T hT X
  rcases vx_callSX X hx (hh := hh) (bytes := bytes) (maxL := maxL) (ret := ret) ho hl hstt hini hcode hy hK hg (hsize.trans hml.symm) (argsL := As) (rest := rest) (fun sig h => hn.trans (hlen sig h)) hstack hW (by rw [hb]; exact hdg)
    (fun vm₁ hW₁ => ⟨hf.1, hf.2, hp.2 (T.setVm vm₁) hT hW₁⟩) with ⟨v, vm₁, ⟨U', l2, c2, s2⟩, hW₁, X', ⟨g', mk, t, L, e1, e2, hq, h1, hL, h2, h3⟩, st⟩ | ⟨q, vm₁, ⟨U', l2, c2, s2⟩, hW₁, X', ⟨g', mk, t, L, E, ce, e1, e2, hq, hce, hcv, hcl, h1, hL, h2, h3⟩, st⟩
  · dsimp only [Pt.U, Pt.locs, Pt.cells, Pt.slots] at X' e1 e2 h1 h2 h3 st
    subst h1; subst h2; subst h3
    exact Or.inl ⟨v, (T.setVm vm₁).calling g' mk As.toArray, t, U', L, hT, X', hL, e1, e2, hq, st⟩
  · dsimp only [Pt.U, Pt.locs, Pt.cells, Pt.slots] at X' e1 e2 h1 h2 h3 st hcl
    subst h1; subst h2; subst h3
    exact Or.inr ⟨q, (T.setVm vm₁).calling g' mk As.toArray, t, U', L, E, ce, hT, X', hL, e1, e2, hq, hce, hcv, vx_cls hW₁ hcl, st⟩
end
end VXH
theorem vx_ofWH {l : Launch} {y : MethodName} {ws ws' : List Cond} {rm : Room} {Pc : Array Value → State → Prop} {Qc : Array Value → State → Outcome → State → Prop} {XC : String → State → State → Prop} {mc ms : Nat} {free : Addr → Prop} {cc : ByteArray} {maxL : Nat} {ret : Option FieldType} {hh : List (Nat × Nat × Nat × Nat)}
    (hy : plainName y.cls = true) (hw : ws = Cond.codeWith y cc maxL ret hh :: ws')
    (body : ∀ p e s m args below meth c s₁, BodyLoose p l y (headSpec ws rm) cc maxL ret e s m args below meth c s₁ → c.maxLocals = maxL → Pc args s →
      W p l e (headSpec ws rm).room s m args below meth c s.heap [] 0 0 (vx_MQ below Qc XC args s mc ms free) (entryFrame m args maxL)) : vx_Met l y ws rm Pc Qc XC mc ms free := by
  refine MetFree.of_bodyS (code := cc) (maxLocals := maxL) (ret := ret) hy ?_ ?_
  · intro args s m h hn
    obtain ⟨m9, meth, c, hn9, h1, h2, h3, h4, -, h5, h6, -⟩ := Cond.codeWith_spec (atoms_spec (ws := ws) h _ (by rw [hw]; exact List.mem_cons_self))
    cases hn.symm.trans hn9
    exact ⟨meth, c, h1, h2, h3, h4, h5, h6⟩
  · intro p e s m args below meth c s₁ B hml hP _
    have hh0 : s₁.heap = s.heap := by rw [B.state]; rfl
    obtain ⟨t, a1, o, b1, b2, b3⟩ := body p e s m args below meth c s₁ B hml hP s₁ hh0 (Stand.of_body B)
    exact ⟨t, o, a1, b1, b2, b3⟩
/-! ===== END ===== -/
end
section
/-! ===== BEGIN printed: names, fields, word lists, decode rows ===== -/
def RX0 : String := "AlertIndex$Draft"
def TX0 : u_T := fun k => match k with
  | _ => ("AlertIndex$Draft", "values", "[I", true)
def tyX0 : Nat → FieldType := fun k => match k with
  | _ => .array .int
abbrev wsX00 : List Cond := u_ws RX0 TX0 1
theorem nmX0 : ∀ a, a < 1 → ∀ b, b < 1 → a ≠ b → (TX0 a).2.1 ≠ (TX0 b).2.1 := by decide +kernel
theorem tyX0_ok : ∀ k, k < 1 → parseFieldDescriptor (TX0 k).2.2.1 = some (tyX0 k) := by decide +kernel
abbrev cX0_init : ByteArray := prog_2_method_1_code
def yX0_init : MethodName := ⟨RX0, "<init>", "()V"⟩
abbrev cX0_valueOf : ByteArray := prog_2_method_2_code
def yX0_valueOf : MethodName := ⟨RX0, "valueOf", "(I)I"⟩
abbrev cX0_replace : ByteArray := prog_2_method_3_code
def yX0_replace : MethodName := ⟨RX0, "replace", "(II)I"⟩
def RX1 : String := "AlertIndex$PieceIndex"
def TX1 : u_T := fun k => match k with
  | _ => ("AlertIndex$PieceIndex", "firsts", "[LAlertIndex$Posting;", true)
def tyX1 : Nat → FieldType := fun k => match k with
  | _ => .array (.object "AlertIndex$Posting")
abbrev wsX10 : List Cond := u_ws RX1 TX1 1
theorem nmX1 : ∀ a, a < 1 → ∀ b, b < 1 → a ≠ b → (TX1 a).2.1 ≠ (TX1 b).2.1 := by decide +kernel
theorem tyX1_ok : ∀ k, k < 1 → parseFieldDescriptor (TX1 k).2.2.1 = some (tyX1 k) := by decide +kernel
abbrev cX1_init : ByteArray := prog_3_method_1_code
def yX1_init : MethodName := ⟨RX1, "<init>", "()V"⟩
abbrev cX1_enter : ByteArray := prog_3_method_2_code
def yX1_enter : MethodName := ⟨RX1, "enter", "(LAlertIndex$Product;III)V"⟩
abbrev cX1_post : ByteArray := prog_3_method_3_code
def yX1_post : MethodName := ⟨RX1, "post", "(LAlertIndex$Product;I)V"⟩
abbrev cX1_countHits : ByteArray := prog_3_method_4_code
def yX1_countHits : MethodName := ⟨RX1, "countHits", "(LAlertIndex$Draft;)V"⟩
abbrev cX1_hitAbove : ByteArray := prog_3_method_5_code
def yX1_hitAbove : MethodName := ⟨RX1, "hitAbove", "(II)V"⟩
abbrev cX1_firstAt : ByteArray := prog_3_method_6_code
def yX1_firstAt : MethodName := ⟨RX1, "firstAt", "(I)LAlertIndex$Posting;"⟩
def RX2 : String := "AlertIndex$Posting"
def TX2 : u_T := fun k => match k with
  | 0 => ("AlertIndex$Posting", "product", "LAlertIndex$Product;", true)
  | _ => ("AlertIndex$Posting", "next", "LAlertIndex$Posting;", true)
def tyX2 : Nat → FieldType := fun k => match k with
  | 0 => .object "AlertIndex$Product"
  | _ => .object "AlertIndex$Posting"
abbrev wsX20 : List Cond := u_ws RX2 TX2 2
theorem nmX2 : ∀ a, a < 2 → ∀ b, b < 2 → a ≠ b → (TX2 a).2.1 ≠ (TX2 b).2.1 := by decide +kernel
theorem tyX2_ok : ∀ k, k < 2 → parseFieldDescriptor (TX2 k).2.2.1 = some (tyX2 k) := by decide +kernel
abbrev cX2_init : ByteArray := prog_4_method_1_code
def yX2_init : MethodName := ⟨RX2, "<init>", "(LAlertIndex$Product;LAlertIndex$Posting;)V"⟩
def RX3 : String := "AlertIndex$Product"
def TX3 : u_T := fun k => match k with
  | 0 => ("AlertIndex$Product", "tests", "Ljava/util/List;", true)
  | 1 => ("AlertIndex$Product", "plainTests", "I", false)
  | _ => ("AlertIndex$Product", "hits", "I", false)
def tyX3 : Nat → FieldType := fun k => match k with
  | 0 => .object "java/util/List"
  | 1 => .int
  | _ => .int
abbrev wsX30 : List Cond := u_ws RX3 TX3 3
theorem nmX3 : ∀ a, a < 3 → ∀ b, b < 3 → a ≠ b → (TX3 a).2.1 ≠ (TX3 b).2.1 := by decide +kernel
theorem tyX3_ok : ∀ k, k < 3 → parseFieldDescriptor (TX3 k).2.2.1 = some (tyX3 k) := by decide +kernel
abbrev cX3_init : ByteArray := prog_5_method_1_code
def yX3_init : MethodName := ⟨RX3, "<init>", "()V"⟩
abbrev cX3_isTrue : ByteArray := prog_5_method_2_code
def yX3_isTrue : MethodName := ⟨RX3, "isTrue", "(LAlertIndex$Draft;)Z"⟩
abbrev cX3_isTrueByHits : ByteArray := prog_5_method_3_code
def yX3_isTrueByHits : MethodName := ⟨RX3, "isTrueByHits", "(LAlertIndex$Draft;)Z"⟩
def RX4 : String := "AlertIndex$Question"
def TX4 : u_T := fun k => match k with
  | 0 => ("AlertIndex$Question", "products", "Ljava/util/List;", true)
  | 1 => ("AlertIndex$Question", "isDropped", "Z", false)
  | 2 => ("AlertIndex$Question", "quietMinutes", "I", false)
  | 3 => ("AlertIndex$Question", "quietUntil", "I", false)
  | 4 => ("AlertIndex$Question", "alerts", "I", false)
  | _ => ("AlertIndex$Question", "batch", "I", false)
def tyX4 : Nat → FieldType := fun k => match k with
  | 0 => .object "java/util/List"
  | 1 => .boolean
  | 2 => .int
  | 3 => .int
  | 4 => .int
  | _ => .int
abbrev wsX40 : List Cond := u_ws RX4 TX4 6
theorem nmX4 : ∀ a, a < 6 → ∀ b, b < 6 → a ≠ b → (TX4 a).2.1 ≠ (TX4 b).2.1 := by decide +kernel
theorem tyX4_ok : ∀ k, k < 6 → parseFieldDescriptor (TX4 k).2.2.1 = some (tyX4 k) := by decide +kernel
abbrev cX4_init : ByteArray := prog_6_method_1_code
def yX4_init : MethodName := ⟨RX4, "<init>", "()V"⟩
abbrev cX4_lastProduct : ByteArray := prog_6_method_2_code
def yX4_lastProduct : MethodName := ⟨RX4, "lastProduct", "()LAlertIndex$Product;"⟩
abbrev cX4_leastSize : ByteArray := prog_6_method_3_code
def yX4_leastSize : MethodName := ⟨RX4, "leastSize", "()I"⟩
abbrev cX4_isSatisfied : ByteArray := prog_6_method_4_code
def yX4_isSatisfied : MethodName := ⟨RX4, "isSatisfied", "(LAlertIndex$Draft;)Z"⟩
abbrev cX4_isSatisfiedByHits : ByteArray := prog_6_method_5_code
def yX4_isSatisfiedByHits : MethodName := ⟨RX4, "isSatisfiedByHits", "(LAlertIndex$Draft;)Z"⟩
abbrev cX4_forgetHits : ByteArray := prog_6_method_6_code
def yX4_forgetHits : MethodName := ⟨RX4, "forgetHits", "()V"⟩
abbrev cX4_isQuietAt : ByteArray := prog_6_method_7_code
def yX4_isQuietAt : MethodName := ⟨RX4, "isQuietAt", "(I)Z"⟩
abbrev cX4_takeDocument : ByteArray := prog_6_method_8_code
def yX4_takeDocument : MethodName := ⟨RX4, "takeDocument", "(I)Z"⟩
abbrev cX4_sendBatch : ByteArray := prog_6_method_9_code
def yX4_sendBatch : MethodName := ⟨RX4, "sendBatch", "(I)Z"⟩
abbrev cX4_raiseAlert : ByteArray := prog_6_method_10_code
def yX4_raiseAlert : MethodName := ⟨RX4, "raiseAlert", "(I)V"⟩
def RX5 : String := "AlertIndex$Test"
def TX5 : u_T := fun k => match k with
  | 0 => ("AlertIndex$Test", "name", "I", true)
  | 1 => ("AlertIndex$Test", "low", "I", true)
  | 2 => ("AlertIndex$Test", "high", "I", true)
  | _ => ("AlertIndex$Test", "isBarred", "Z", true)
def tyX5 : Nat → FieldType := fun k => match k with
  | 0 => .int
  | 1 => .int
  | 2 => .int
  | _ => .boolean
abbrev wsX50 : List Cond := u_ws RX5 TX5 4
theorem nmX5 : ∀ a, a < 4 → ∀ b, b < 4 → a ≠ b → (TX5 a).2.1 ≠ (TX5 b).2.1 := by decide +kernel
theorem tyX5_ok : ∀ k, k < 4 → parseFieldDescriptor (TX5 k).2.2.1 = some (tyX5 k) := by decide +kernel
abbrev cX5_init : ByteArray := prog_7_method_1_code
def yX5_init : MethodName := ⟨RX5, "<init>", "(IIIZ)V"⟩
abbrev cX5_isTrue : ByteArray := prog_7_method_2_code
def yX5_isTrue : MethodName := ⟨RX5, "isTrue", "(LAlertIndex$Draft;)Z"⟩
def RX6 : String := "AlertIndex"
def TX6 : u_T := fun k => match k with
  | 0 => ("AlertIndex", "questions", "Ljava/util/List;", true)
  | 1 => ("AlertIndex", "draft", "LAlertIndex$Draft;", true)
  | 2 => ("AlertIndex", "index", "LAlertIndex$PieceIndex;", true)
  | _ => ("AlertIndex", "minute", "I", false)
def tyX6 : Nat → FieldType := fun k => match k with
  | 0 => .object "java/util/List"
  | 1 => .object "AlertIndex$Draft"
  | 2 => .object "AlertIndex$PieceIndex"
  | _ => .int
abbrev wsX60 : List Cond := u_ws RX6 TX6 4
theorem nmX6 : ∀ a, a < 4 → ∀ b, b < 4 → a ≠ b → (TX6 a).2.1 ≠ (TX6 b).2.1 := by decide +kernel
theorem tyX6_ok : ∀ k, k < 4 → parseFieldDescriptor (TX6 k).2.2.1 = some (tyX6 k) := by decide +kernel
abbrev cX6_init : ByteArray := prog_1_method_1_code
def yX6_init : MethodName := ⟨RX6, "<init>", "()V"⟩
abbrev cX6_question : ByteArray := prog_1_method_2_code
def yX6_question : MethodName := ⟨RX6, "question", "()I"⟩
abbrev cX6_product : ByteArray := prog_1_method_3_code
def yX6_product : MethodName := ⟨RX6, "product", "(I)I"⟩
abbrev cX6_test : ByteArray := prog_1_method_4_code
def yX6_test : MethodName := ⟨RX6, "test", "(IIIIZ)I"⟩
abbrev cX6_drop : ByteArray := prog_1_method_5_code
def yX6_drop : MethodName := ⟨RX6, "drop", "(I)I"⟩
abbrev cX6_setQuiet : ByteArray := prog_1_method_6_code
def yX6_setQuiet : MethodName := ⟨RX6, "setQuiet", "(II)I"⟩
abbrev cX6_set : ByteArray := prog_1_method_7_code
def yX6_set : MethodName := ⟨RX6, "set", "(II)I"⟩
abbrev cX6_come : ByteArray := prog_1_method_8_code
def yX6_come : MethodName := ⟨RX6, "come", "()I"⟩
abbrev cX6_advance : ByteArray := prog_1_method_9_code
def yX6_advance : MethodName := ⟨RX6, "advance", "(I)I"⟩
abbrev cX6_satisfies : ByteArray := prog_1_method_10_code
def yX6_satisfies : MethodName := ⟨RX6, "satisfies", "(I)Z"⟩
abbrev cX6_matching : ByteArray := prog_1_method_11_code
def yX6_matching : MethodName := ⟨RX6, "matching", "()I"⟩
abbrev cX6_matchingByIndex : ByteArray := prog_1_method_12_code
def yX6_matchingByIndex : MethodName := ⟨RX6, "matchingByIndex", "()I"⟩
abbrev cX6_sizeOf : ByteArray := prog_1_method_13_code
def yX6_sizeOf : MethodName := ⟨RX6, "sizeOf", "(I)I"⟩
abbrev cX6_withSize : ByteArray := prog_1_method_14_code
def yX6_withSize : MethodName := ⟨RX6, "withSize", "(I)I"⟩
abbrev cX6_pieces : ByteArray := prog_1_method_15_code
def yX6_pieces : MethodName := ⟨RX6, "pieces", "(II)I"⟩
abbrev cX6_pieceAt : ByteArray := prog_1_method_16_code
def yX6_pieceAt : MethodName := ⟨RX6, "pieceAt", "(III)I"⟩
abbrev cX6_minute : ByteArray := prog_1_method_17_code
def yX6_minute : MethodName := ⟨RX6, "minute", "()I"⟩
abbrev cX6_isQuiet : ByteArray := prog_1_method_18_code
def yX6_isQuiet : MethodName := ⟨RX6, "isQuiet", "(I)Z"⟩
abbrev cX6_alerts : ByteArray := prog_1_method_19_code
def yX6_alerts : MethodName := ⟨RX6, "alerts", "(I)I"⟩
abbrev cX6_batch : ByteArray := prog_1_method_20_code
def yX6_batch : MethodName := ⟨RX6, "batch", "(I)I"⟩
abbrev cX6_questionOf : ByteArray := prog_1_method_21_code
def yX6_questionOf : MethodName := ⟨RX6, "questionOf", "(I)LAlertIndex$Question;"⟩
abbrev cX6_refuseNoName : ByteArray := prog_1_method_22_code
def yX6_refuseNoName : MethodName := ⟨RX6, "refuseNoName", "(I)V"⟩
abbrev cX6_refuseNoRange : ByteArray := prog_1_method_23_code
def yX6_refuseNoRange : MethodName := ⟨RX6, "refuseNoRange", "(II)V"⟩
abbrev cX6_isValue : ByteArray := prog_1_method_24_code
def yX6_isValue : MethodName := ⟨RX6, "isValue", "(I)Z"⟩
abbrev cX6_levelOfPiece : ByteArray := prog_1_method_25_code
def yX6_levelOfPiece : MethodName := ⟨RX6, "levelOfPiece", "(II)I"⟩
def RX7 : String := "AlertIndexModel"
def TX7 : u_T := fun k => match k with
  | 0 => ("AlertIndexModel", "thrown", "I", false)
  | 1 => ("AlertIndexModel", "minute", "I", false)
  | 2 => ("AlertIndexModel", "questions", "I", false)
  | 3 => ("AlertIndexModel", "draft", "[I", true)
  | 4 => ("AlertIndexModel", "isDropped", "[Z", true)
  | 5 => ("AlertIndexModel", "products", "[I", true)
  | 6 => ("AlertIndexModel", "quiets", "[I", true)
  | 7 => ("AlertIndexModel", "untils", "[I", true)
  | 8 => ("AlertIndexModel", "alerts", "[I", true)
  | 9 => ("AlertIndexModel", "batches", "[I", true)
  | 10 => ("AlertIndexModel", "tests", "[I", true)
  | 11 => ("AlertIndexModel", "names", "[I", true)
  | 12 => ("AlertIndexModel", "lows", "[I", true)
  | 13 => ("AlertIndexModel", "highs", "[I", true)
  | _ => ("AlertIndexModel", "isBarred", "[Z", true)
def tyX7 : Nat → FieldType := fun k => match k with
  | 0 => .int
  | 1 => .int
  | 2 => .int
  | 3 => .array .int
  | 4 => .array .boolean
  | 5 => .array .int
  | 6 => .array .int
  | 7 => .array .int
  | 8 => .array .int
  | 9 => .array .int
  | 10 => .array .int
  | 11 => .array .int
  | 12 => .array .int
  | 13 => .array .int
  | _ => .array .boolean
abbrev wsX70 : List Cond := u_ws RX7 TX7 15
theorem nmX7 : ∀ a, a < 15 → ∀ b, b < 15 → a ≠ b → (TX7 a).2.1 ≠ (TX7 b).2.1 := by decide +kernel
theorem tyX7_ok : ∀ k, k < 15 → parseFieldDescriptor (TX7 k).2.2.1 = some (tyX7 k) := by decide +kernel
abbrev cX7_init : ByteArray := prog_9_method_1_code
def yX7_init : MethodName := ⟨RX7, "<init>", "()V"⟩
abbrev cX7_thrown : ByteArray := prog_9_method_2_code
def yX7_thrown : MethodName := ⟨RX7, "thrown", "()I"⟩
abbrev cX7_holds : ByteArray := prog_9_method_3_code
def yX7_holds : MethodName := ⟨RX7, "holds", "(I)Z"⟩
abbrev cX7_isIn : ByteArray := prog_9_method_4_code
def yX7_isIn : MethodName := ⟨RX7, "isIn", "(III)Z"⟩
abbrev cX7_isQuestion : ByteArray := prog_9_method_5_code
def yX7_isQuestion : MethodName := ⟨RX7, "isQuestion", "(I)Z"⟩
abbrev cX7_isName : ByteArray := prog_9_method_6_code
def yX7_isName : MethodName := ⟨RX7, "isName", "(I)Z"⟩
abbrev cX7_isRange : ByteArray := prog_9_method_7_code
def yX7_isRange : MethodName := ⟨RX7, "isRange", "(II)Z"⟩
abbrev cX7_question : ByteArray := prog_9_method_8_code
def yX7_question : MethodName := ⟨RX7, "question", "()I"⟩
abbrev cX7_product : ByteArray := prog_9_method_9_code
def yX7_product : MethodName := ⟨RX7, "product", "(I)I"⟩
abbrev cX7_test : ByteArray := prog_9_method_10_code
def yX7_test : MethodName := ⟨RX7, "test", "(IIIIZ)I"⟩
abbrev cX7_drop : ByteArray := prog_9_method_11_code
def yX7_drop : MethodName := ⟨RX7, "drop", "(I)I"⟩
abbrev cX7_setQuiet : ByteArray := prog_9_method_12_code
def yX7_setQuiet : MethodName := ⟨RX7, "setQuiet", "(II)I"⟩
abbrev cX7_set : ByteArray := prog_9_method_13_code
def yX7_set : MethodName := ⟨RX7, "set", "(II)I"⟩
abbrev cX7_isTrue : ByteArray := prog_9_method_14_code
def yX7_isTrue : MethodName := ⟨RX7, "isTrue", "(I)Z"⟩
abbrev cX7_does : ByteArray := prog_9_method_15_code
def yX7_does : MethodName := ⟨RX7, "does", "(I)Z"⟩
abbrev cX7_quietNow : ByteArray := prog_9_method_16_code
def yX7_quietNow : MethodName := ⟨RX7, "quietNow", "(I)Z"⟩
abbrev cX7_raises : ByteArray := prog_9_method_17_code
def yX7_raises : MethodName := ⟨RX7, "raises", "(I)V"⟩
abbrev cX7_come : ByteArray := prog_9_method_18_code
def yX7_come : MethodName := ⟨RX7, "come", "()I"⟩
abbrev cX7_advance : ByteArray := prog_9_method_19_code
def yX7_advance : MethodName := ⟨RX7, "advance", "(I)I"⟩
abbrev cX7_satisfies : ByteArray := prog_9_method_20_code
def yX7_satisfies : MethodName := ⟨RX7, "satisfies", "(I)Z"⟩
abbrev cX7_found : ByteArray := prog_9_method_21_code
def yX7_found : MethodName := ⟨RX7, "found", "()I"⟩
abbrev cX7_matching : ByteArray := prog_9_method_22_code
def yX7_matching : MethodName := ⟨RX7, "matching", "()I"⟩
abbrev cX7_matchingByIndex : ByteArray := prog_9_method_23_code
def yX7_matchingByIndex : MethodName := ⟨RX7, "matchingByIndex", "()I"⟩
abbrev cX7_size : ByteArray := prog_9_method_24_code
def yX7_size : MethodName := ⟨RX7, "size", "(I)I"⟩
abbrev cX7_sizeOf : ByteArray := prog_9_method_25_code
def yX7_sizeOf : MethodName := ⟨RX7, "sizeOf", "(I)I"⟩
abbrev cX7_withSize : ByteArray := prog_9_method_26_code
def yX7_withSize : MethodName := ⟨RX7, "withSize", "(I)I"⟩
abbrev cX7_piece : ByteArray := prog_9_method_27_code
def yX7_piece : MethodName := ⟨RX7, "piece", "(II)I"⟩
abbrev cX7_pieces : ByteArray := prog_9_method_28_code
def yX7_pieces : MethodName := ⟨RX7, "pieces", "(II)I"⟩
abbrev cX7_pieceAt : ByteArray := prog_9_method_29_code
def yX7_pieceAt : MethodName := ⟨RX7, "pieceAt", "(III)I"⟩
abbrev cX7_minute : ByteArray := prog_9_method_30_code
def yX7_minute : MethodName := ⟨RX7, "minute", "()I"⟩
abbrev cX7_isQuiet : ByteArray := prog_9_method_31_code
def yX7_isQuiet : MethodName := ⟨RX7, "isQuiet", "(I)Z"⟩
abbrev cX7_alerts : ByteArray := prog_9_method_32_code
def yX7_alerts : MethodName := ⟨RX7, "alerts", "(I)I"⟩
abbrev cX7_batch : ByteArray := prog_9_method_33_code
def yX7_batch : MethodName := ⟨RX7, "batch", "(I)I"⟩
def RJx145de : String := "java/io/Serializable"
def TJx145de : u_T := fun k => match k with
  | _ => ("", "", "", false)
def tyJx145de : Nat → FieldType := fun k => match k with
  | _ => .int
abbrev wsJx145de0 : List Cond := u_ws RJx145de TJx145de 0
theorem nmJx145de : ∀ a, a < 0 → ∀ b, b < 0 → a ≠ b → (TJx145de a).2.1 ≠ (TJx145de b).2.1 := by decide +kernel
theorem tyJx145de_ok : ∀ k, k < 0 → parseFieldDescriptor (TJx145de k).2.2.1 = some (tyJx145de k) := by decide +kernel
def RJx8e188 : String := "java/lang/Cloneable"
def TJx8e188 : u_T := fun k => match k with
  | _ => ("", "", "", false)
def tyJx8e188 : Nat → FieldType := fun k => match k with
  | _ => .int
abbrev wsJx8e1880 : List Cond := u_ws RJx8e188 TJx8e188 0
theorem nmJx8e188 : ∀ a, a < 0 → ∀ b, b < 0 → a ≠ b → (TJx8e188 a).2.1 ≠ (TJx8e188 b).2.1 := by decide +kernel
theorem tyJx8e188_ok : ∀ k, k < 0 → parseFieldDescriptor (TJx8e188 k).2.2.1 = some (tyJx8e188 k) := by decide +kernel
def RJxab1ab : String := "java/lang/Iterable"
def TJxab1ab : u_T := fun k => match k with
  | _ => ("", "", "", false)
def tyJxab1ab : Nat → FieldType := fun k => match k with
  | _ => .int
abbrev wsJxab1ab0 : List Cond := u_ws RJxab1ab TJxab1ab 0
theorem nmJxab1ab : ∀ a, a < 0 → ∀ b, b < 0 → a ≠ b → (TJxab1ab a).2.1 ≠ (TJxab1ab b).2.1 := by decide +kernel
theorem tyJxab1ab_ok : ∀ k, k < 0 → parseFieldDescriptor (TJxab1ab k).2.2.1 = some (tyJxab1ab k) := by decide +kernel
def RJ9 : String := "java/lang/Math"
def TJ9 : u_T := fun k => match k with
  | _ => ("", "", "", false)
def tyJ9 : Nat → FieldType := fun k => match k with
  | _ => .int
abbrev wsJ90 : List Cond := u_ws RJ9 TJ9 0
theorem nmJ9 : ∀ a, a < 0 → ∀ b, b < 0 → a ≠ b → (TJ9 a).2.1 ≠ (TJ9 b).2.1 := by decide +kernel
theorem tyJ9_ok : ∀ k, k < 0 → parseFieldDescriptor (TJ9 k).2.2.1 = some (tyJ9 k) := by decide +kernel
abbrev cJ9_max_7cf53 : ByteArray := prog_17_method_65_code
def yJ9_max_7cf53 : MethodName := ⟨RJ9, "max", "(II)I"⟩
abbrev cJ9_min_7cf53 : ByteArray := prog_17_method_69_code
def yJ9_min_7cf53 : MethodName := ⟨RJ9, "min", "(II)I"⟩
def RJ0 : String := "java/lang/String"
def TJ0 : u_T := fun k => match k with
  | _ => ("", "", "", false)
def tyJ0 : Nat → FieldType := fun k => match k with
  | _ => .int
abbrev wsJ00 : List Cond := u_ws RJ0 TJ0 0
theorem nmJ0 : ∀ a, a < 0 → ∀ b, b < 0 → a ≠ b → (TJ0 a).2.1 ≠ (TJ0 b).2.1 := by decide +kernel
theorem tyJ0_ok : ∀ k, k < 0 → parseFieldDescriptor (TJ0 k).2.2.1 = some (tyJ0 k) := by decide +kernel
def RJ10 : String := "java/lang/System"
def TJ10 : u_T := fun k => match k with
  | _ => ("", "", "", false)
def tyJ10 : Nat → FieldType := fun k => match k with
  | _ => .int
abbrev wsJ100 : List Cond := u_ws RJ10 TJ10 0
theorem nmJ10 : ∀ a, a < 0 → ∀ b, b < 0 → a ≠ b → (TJ10 a).2.1 ≠ (TJ10 b).2.1 := by decide +kernel
theorem tyJ10_ok : ∀ k, k < 0 → parseFieldDescriptor (TJ10 k).2.2.1 = some (tyJ10 k) := by decide +kernel
def RJxa1e45 : String := "java/util/AbstractCollection"
def TJxa1e45 : u_T := fun k => match k with
  | _ => ("", "", "", false)
def tyJxa1e45 : Nat → FieldType := fun k => match k with
  | _ => .int
abbrev wsJxa1e450 : List Cond := u_ws RJxa1e45 TJxa1e45 0
theorem nmJxa1e45 : ∀ a, a < 0 → ∀ b, b < 0 → a ≠ b → (TJxa1e45 a).2.1 ≠ (TJxa1e45 b).2.1 := by decide +kernel
theorem tyJxa1e45_ok : ∀ k, k < 0 → parseFieldDescriptor (TJxa1e45 k).2.2.1 = some (tyJxa1e45 k) := by decide +kernel
abbrev cJxa1e45_init_da8c8 : ByteArray := prog_22_method_1_code
def yJxa1e45_init_da8c8 : MethodName := ⟨RJxa1e45, "<init>", "()V"⟩
def RJxc12de : String := "java/util/AbstractList"
def TJxc12de : u_T := fun k => match k with
  | _ => ("", "", "", false)
def tyJxc12de : Nat → FieldType := fun k => match k with
  | _ => .int
abbrev wsJxc12de0 : List Cond := u_ws RJxc12de TJxc12de 0
theorem nmJxc12de : ∀ a, a < 0 → ∀ b, b < 0 → a ≠ b → (TJxc12de a).2.1 ≠ (TJxc12de b).2.1 := by decide +kernel
theorem tyJxc12de_ok : ∀ k, k < 0 → parseFieldDescriptor (TJxc12de k).2.2.1 = some (tyJxc12de k) := by decide +kernel
abbrev cJxc12de_init_da8c8 : ByteArray := prog_23_method_1_code
def yJxc12de_init_da8c8 : MethodName := ⟨RJxc12de, "<init>", "()V"⟩
def RJx4a65c : String := "java/util/ArrayList"
def TJx4a65c : u_T := fun k => match k with
  | 0 => ("java/util/AbstractList", "modCount", "I", false)
  | 1 => ("java/util/ArrayList", "elementData", "[Ljava/lang/Object;", false)
  | _ => ("java/util/ArrayList", "size", "I", false)
def tyJx4a65c : Nat → FieldType := fun k => match k with
  | 0 => .int
  | 1 => .array (.object "java/lang/Object")
  | _ => .int
abbrev wsJx4a65c0 : List Cond := u_ws RJx4a65c TJx4a65c 3
theorem nmJx4a65c : ∀ a, a < 3 → ∀ b, b < 3 → a ≠ b → (TJx4a65c a).2.1 ≠ (TJx4a65c b).2.1 := by decide +kernel
theorem tyJx4a65c_ok : ∀ k, k < 3 → parseFieldDescriptor (TJx4a65c k).2.2.1 = some (tyJx4a65c k) := by decide +kernel
abbrev cJx4a65c_init_da8c8 : ByteArray := prog_24_method_2_code
def yJx4a65c_init_da8c8 : MethodName := ⟨RJx4a65c, "<init>", "()V"⟩
abbrev cJx4a65c_grow_92f84 : ByteArray := prog_24_method_6_code
def yJx4a65c_grow_92f84 : MethodName := ⟨RJx4a65c, "grow", "(I)[Ljava/lang/Object;"⟩
abbrev cJx4a65c_grow_d5877 : ByteArray := prog_24_method_7_code
def yJx4a65c_grow_d5877 : MethodName := ⟨RJx4a65c, "grow", "()[Ljava/lang/Object;"⟩
abbrev cJx4a65c_size_8abf5 : ByteArray := prog_24_method_8_code
def yJx4a65c_size_8abf5 : MethodName := ⟨RJx4a65c, "size", "()I"⟩
abbrev cJx4a65c_isEmpty_aae02 : ByteArray := prog_24_method_9_code
def yJx4a65c_isEmpty_aae02 : MethodName := ⟨RJx4a65c, "isEmpty", "()Z"⟩
abbrev cJx4a65c_elementData_915e3 : ByteArray := prog_24_method_18_code
def yJx4a65c_elementData_915e3 : MethodName := ⟨RJx4a65c, "elementData", "(I)Ljava/lang/Object;"⟩
abbrev cJx4a65c_get_915e3 : ByteArray := prog_24_method_20_code
def yJx4a65c_get_915e3 : MethodName := ⟨RJx4a65c, "get", "(I)Ljava/lang/Object;"⟩
abbrev cJx4a65c_add_72be8 : ByteArray := prog_24_method_24_code
def yJx4a65c_add_72be8 : MethodName := ⟨RJx4a65c, "add", "(Ljava/lang/Object;[Ljava/lang/Object;I)V"⟩
abbrev cJx4a65c_add_9ea2d : ByteArray := prog_24_method_25_code
def yJx4a65c_add_9ea2d : MethodName := ⟨RJx4a65c, "add", "(Ljava/lang/Object;)Z"⟩
def RJ7 : String := "java/util/Arrays"
def TJ7 : u_T := fun k => match k with
  | _ => ("", "", "", false)
def tyJ7 : Nat → FieldType := fun k => match k with
  | _ => .int
abbrev wsJ70 : List Cond := u_ws RJ7 TJ7 0
theorem nmJ7 : ∀ a, a < 0 → ∀ b, b < 0 → a ≠ b → (TJ7 a).2.1 ≠ (TJ7 b).2.1 := by decide +kernel
theorem tyJ7_ok : ∀ k, k < 0 → parseFieldDescriptor (TJ7 k).2.2.1 = some (tyJ7 k) := by decide +kernel
abbrev cJ7_fill_53178 : ByteArray := prog_25_method_103_code
def yJ7_fill_53178 : MethodName := ⟨RJ7, "fill", "([II)V"⟩
abbrev cJ7_copyOf_1904c : ByteArray := prog_25_method_119_code
def yJ7_copyOf_1904c : MethodName := ⟨RJ7, "copyOf", "([Ljava/lang/Object;I)[Ljava/lang/Object;"⟩
abbrev cJ7_copyOf_6403c : ByteArray := prog_25_method_120_code
def yJ7_copyOf_6403c : MethodName := ⟨RJ7, "copyOf", "([Ljava/lang/Object;ILjava/lang/Class;)[Ljava/lang/Object;"⟩
def RJx5ef63 : String := "java/util/Collection"
def TJx5ef63 : u_T := fun k => match k with
  | _ => ("", "", "", false)
def tyJx5ef63 : Nat → FieldType := fun k => match k with
  | _ => .int
abbrev wsJx5ef630 : List Cond := u_ws RJx5ef63 TJx5ef63 0
theorem nmJx5ef63 : ∀ a, a < 0 → ∀ b, b < 0 → a ≠ b → (TJx5ef63 a).2.1 ≠ (TJx5ef63 b).2.1 := by decide +kernel
theorem tyJx5ef63_ok : ∀ k, k < 0 → parseFieldDescriptor (TJx5ef63 k).2.2.1 = some (tyJx5ef63 k) := by decide +kernel
def RJxbd725 : String := "java/util/List"
def TJxbd725 : u_T := fun k => match k with
  | _ => ("", "", "", false)
def tyJxbd725 : Nat → FieldType := fun k => match k with
  | _ => .int
abbrev wsJxbd7250 : List Cond := u_ws RJxbd725 TJxbd725 0
theorem nmJxbd725 : ∀ a, a < 0 → ∀ b, b < 0 → a ≠ b → (TJxbd725 a).2.1 ≠ (TJxbd725 b).2.1 := by decide +kernel
theorem tyJxbd725_ok : ∀ k, k < 0 → parseFieldDescriptor (TJxbd725 k).2.2.1 = some (tyJxbd725 k) := by decide +kernel
def RJ15 : String := "java/util/Objects"
def TJ15 : u_T := fun k => match k with
  | _ => ("", "", "", false)
def tyJ15 : Nat → FieldType := fun k => match k with
  | _ => .int
abbrev wsJ150 : List Cond := u_ws RJ15 TJ15 0
theorem nmJ15 : ∀ a, a < 0 → ∀ b, b < 0 → a ≠ b → (TJ15 a).2.1 ≠ (TJ15 b).2.1 := by decide +kernel
theorem tyJ15_ok : ∀ k, k < 0 → parseFieldDescriptor (TJ15 k).2.2.1 = some (tyJ15 k) := by decide +kernel
abbrev cJ15_checkIndex_7cf53 : ByteArray := prog_28_method_17_code
def yJ15_checkIndex_7cf53 : MethodName := ⟨RJ15, "checkIndex", "(II)I"⟩
def RJxf0a74 : String := "java/util/RandomAccess"
def TJxf0a74 : u_T := fun k => match k with
  | _ => ("", "", "", false)
def tyJxf0a74 : Nat → FieldType := fun k => match k with
  | _ => .int
abbrev wsJxf0a740 : List Cond := u_ws RJxf0a74 TJxf0a74 0
theorem nmJxf0a74 : ∀ a, a < 0 → ∀ b, b < 0 → a ≠ b → (TJxf0a74 a).2.1 ≠ (TJxf0a74 b).2.1 := by decide +kernel
theorem tyJxf0a74_ok : ∀ k, k < 0 → parseFieldDescriptor (TJxf0a74 k).2.2.1 = some (tyJxf0a74 k) := by decide +kernel
def RJxa66e6 : String := "java/util/SequencedCollection"
def TJxa66e6 : u_T := fun k => match k with
  | _ => ("", "", "", false)
def tyJxa66e6 : Nat → FieldType := fun k => match k with
  | _ => .int
abbrev wsJxa66e60 : List Cond := u_ws RJxa66e6 TJxa66e6 0
theorem nmJxa66e6 : ∀ a, a < 0 → ∀ b, b < 0 → a ≠ b → (TJxa66e6 a).2.1 ≠ (TJxa66e6 b).2.1 := by decide +kernel
theorem tyJxa66e6_ok : ∀ k, k < 0 → parseFieldDescriptor (TJxa66e6 k).2.2.1 = some (tyJxa66e6 k) := by decide +kernel
def RJ8 : String := "jdk/internal/util/ArraysSupport"
def TJ8 : u_T := fun k => match k with
  | _ => ("", "", "", false)
def tyJ8 : Nat → FieldType := fun k => match k with
  | _ => .int
abbrev wsJ80 : List Cond := u_ws RJ8 TJ8 0
theorem nmJ8 : ∀ a, a < 0 → ∀ b, b < 0 → a ≠ b → (TJ8 a).2.1 ≠ (TJ8 b).2.1 := by decide +kernel
theorem tyJ8_ok : ∀ k, k < 0 → parseFieldDescriptor (TJ8 k).2.2.1 = some (tyJ8 k) := by decide +kernel
abbrev cJ8_newLength_cabcc : ByteArray := prog_31_method_27_code
def yJ8_newLength_cabcc : MethodName := ⟨RJ8, "newLength", "(III)I"⟩
abbrev cJ8_hugeLength_7cf53 : ByteArray := prog_31_method_28_code
def yJ8_hugeLength_7cf53 : MethodName := ⟨RJ8, "hugeLength", "(II)I"⟩
def RJ3 : String := "jdk/internal/util/Preconditions"
def TJ3 : u_T := fun k => match k with
  | _ => ("", "", "", false)
def tyJ3 : Nat → FieldType := fun k => match k with
  | _ => .int
abbrev wsJ30 : List Cond := u_ws RJ3 TJ3 0
theorem nmJ3 : ∀ a, a < 0 → ∀ b, b < 0 → a ≠ b → (TJ3 a).2.1 ≠ (TJ3 b).2.1 := by decide +kernel
theorem tyJ3_ok : ∀ k, k < 0 → parseFieldDescriptor (TJ3 k).2.2.1 = some (tyJ3 k) := by decide +kernel
abbrev cJ3_checkIndex_8e157 : ByteArray := prog_32_method_11_code
def yJ3_checkIndex_8e157 : MethodName := ⟨RJ3, "checkIndex", "(IILjava/util/function/BiFunction;)I"⟩
def RL : String := "AlertIndexLaw"
abbrev cL_question : ByteArray := method_3_code
def yL_question : MethodName := ⟨RL, "question", "(LAlertIndex;[J)I"⟩
abbrev cL_product : ByteArray := method_4_code
def yL_product : MethodName := ⟨RL, "product", "(LAlertIndex;I[J)I"⟩
abbrev cL_test : ByteArray := method_5_code
def yL_test : MethodName := ⟨RL, "test", "(LAlertIndex;IIIIZ[J)I"⟩
abbrev cL_drop : ByteArray := method_6_code
def yL_drop : MethodName := ⟨RL, "drop", "(LAlertIndex;I[J)I"⟩
abbrev cL_setQuiet : ByteArray := method_7_code
def yL_setQuiet : MethodName := ⟨RL, "setQuiet", "(LAlertIndex;II[J)I"⟩
abbrev cL_set : ByteArray := method_8_code
def yL_set : MethodName := ⟨RL, "set", "(LAlertIndex;II[J)I"⟩
abbrev cL_advance : ByteArray := method_9_code
def yL_advance : MethodName := ⟨RL, "advance", "(LAlertIndex;I[J)I"⟩
abbrev cL_satisfies : ByteArray := method_10_code
def yL_satisfies : MethodName := ⟨RL, "satisfies", "(LAlertIndex;I[J)I"⟩
abbrev cL_sizeOf : ByteArray := method_11_code
def yL_sizeOf : MethodName := ⟨RL, "sizeOf", "(LAlertIndex;I[J)I"⟩
abbrev cL_pieces : ByteArray := method_12_code
def yL_pieces : MethodName := ⟨RL, "pieces", "(LAlertIndex;II[J)I"⟩
abbrev cL_pieceAt : ByteArray := method_13_code
def yL_pieceAt : MethodName := ⟨RL, "pieceAt", "(LAlertIndex;III[J)I"⟩
abbrev cL_isQuiet : ByteArray := method_14_code
def yL_isQuiet : MethodName := ⟨RL, "isQuiet", "(LAlertIndex;I[J)I"⟩
abbrev cL_alerts : ByteArray := method_15_code
def yL_alerts : MethodName := ⟨RL, "alerts", "(LAlertIndex;I[J)I"⟩
abbrev cL_batch : ByteArray := method_16_code
def yL_batch : MethodName := ⟨RL, "batch", "(LAlertIndex;I[J)I"⟩
abbrev cL_law : ByteArray := code
def yL_law : MethodName := ⟨RL, "law", "([I)Z"⟩
def wsJ7_fill_53178 : List Cond := .code yJ7_fill_53178 cJ7_fill_53178 4 none :: ([])
def wsX0_init : List Cond := .code yX0_init cX0_init 1 none :: ([.methodLink RX0 3 objectInit, .instanceMethod objectInit, .code objectInit ⟨#[0xb1]⟩ 1 none, .arrayClass .int, .fieldLink RX0 9 "AlertIndex$Draft" "values" "[I", .methodLink RX0 15 yJ7_fill_53178, .static yJ7_fill_53178, .initialized RJ7, .code yJ7_fill_53178 cJ7_fill_53178 4 none] ++ wsX00)
def wsX0_valueOf : List Cond := .code yX0_valueOf cX0_valueOf 2 (some .int) :: ([.fieldLink RX0 9 "AlertIndex$Draft" "values" "[I"] ++ wsX00)
def wsX0_replace : List Cond := .code yX0_replace cX0_replace 4 (some .int) :: ([.fieldLink RX0 9 "AlertIndex$Draft" "values" "[I", .methodLink RX0 21 yX0_valueOf, .instanceMethod yX0_valueOf, .selects RX0 yX0_valueOf yX0_valueOf, .initialized RX0, .code yX0_valueOf cX0_valueOf 2 (some .int)] ++ wsX00)
def wsX1_init : List Cond := .code yX1_init cX1_init 1 none :: ([.methodLink RX1 3 objectInit, .instanceMethod objectInit, .code objectInit ⟨#[0xb1]⟩ 1 none, .classLink RX1 11 RX2, .fieldLink RX1 13 "AlertIndex$PieceIndex" "firsts" "[LAlertIndex$Posting;"] ++ wsX10)
def wsX6_levelOfPiece : List Cond := .code yX6_levelOfPiece cX6_levelOfPiece 4 (some .int) :: ([])
def wsX2_init : List Cond := .code yX2_init cX2_init 3 none :: ([.methodLink RX2 1 objectInit, .instanceMethod objectInit, .code objectInit ⟨#[0xb1]⟩ 1 none, .fieldLink RX2 7 "AlertIndex$Posting" "product" "LAlertIndex$Product;", .fieldLink RX2 13 "AlertIndex$Posting" "next" "LAlertIndex$Posting;"] ++ wsX20)
def wsX1_post : List Cond := .code yX1_post cX1_post 3 none :: ([.fieldLink RX1 13 "AlertIndex$PieceIndex" "firsts" "[LAlertIndex$Posting;", .classLink RX1 11 RX2, .instantiable RX2 2, .initialized RX2, .methodLink RX1 25 yX2_init, .instanceMethod yX2_init, .code yX2_init cX2_init 3 none, .methodLink RX2 1 objectInit, .instanceMethod objectInit, .code objectInit ⟨#[0xb1]⟩ 1 none, .fieldLink RX2 7 "AlertIndex$Posting" "product" "LAlertIndex$Product;", .fieldLink RX2 13 "AlertIndex$Posting" "next" "LAlertIndex$Posting;"] ++ wsX10 ++ wsX20)
def wsX1_enter : List Cond := .code yX1_enter cX1_enter 8 none :: ([.static yX6_levelOfPiece, .initialized RX6, .code yX6_levelOfPiece cX6_levelOfPiece 4 (some .int), .methodLink RX1 21 yX1_post, .instanceMethod yX1_post, .selects RX1 yX1_post yX1_post, .initialized RX1, .code yX1_post cX1_post 3 none, .fieldLink RX1 13 "AlertIndex$PieceIndex" "firsts" "[LAlertIndex$Posting;", .classLink RX1 11 RX2, .instantiable RX2 2, .initialized RX2, .methodLink RX1 25 yX2_init, .instanceMethod yX2_init, .code yX2_init cX2_init 3 none, .methodLink RX2 1 objectInit, .instanceMethod objectInit, .code objectInit ⟨#[0xb1]⟩ 1 none, .fieldLink RX2 7 "AlertIndex$Posting" "product" "LAlertIndex$Product;", .fieldLink RX2 13 "AlertIndex$Posting" "next" "LAlertIndex$Posting;"] ++ wsX10 ++ wsX20)
def wsX6_isValue : List Cond := .code yX6_isValue cX6_isValue 1 (some .boolean) :: ([])
def wsX1_firstAt : List Cond := .code yX1_firstAt cX1_firstAt 2 (some (.object "AlertIndex$Posting")) :: ([.fieldLink RX1 13 "AlertIndex$PieceIndex" "firsts" "[LAlertIndex$Posting;"] ++ wsX10)
def wsX1_hitAbove : List Cond := .code yX1_hitAbove cX1_hitAbove 5 none :: ([.fieldLink RX1 46 "AlertIndex$Posting" "product" "LAlertIndex$Product;", .fieldLink RX1 50 "AlertIndex$Product" "hits" "I", .fieldLink RX1 56 "AlertIndex$Posting" "next" "LAlertIndex$Posting;", .methodLink RX1 42 yX1_firstAt, .instanceMethod yX1_firstAt, .selects RX1 yX1_firstAt yX1_firstAt, .initialized RX1, .code yX1_firstAt cX1_firstAt 2 (some (.object "AlertIndex$Posting")), .fieldLink RX1 13 "AlertIndex$PieceIndex" "firsts" "[LAlertIndex$Posting;"] ++ wsX20 ++ wsX30 ++ wsX10)
def wsX1_countHits : List Cond := .code yX1_countHits cX1_countHits 4 none :: ([.methodLink RX1 28 yX0_valueOf, .instanceMethod yX0_valueOf, .selects RX0 yX0_valueOf yX0_valueOf, .initialized RX0, .code yX0_valueOf cX0_valueOf 2 (some .int), .fieldLink RX0 9 "AlertIndex$Draft" "values" "[I", .static yX6_isValue, .initialized RX6, .code yX6_isValue cX6_isValue 1 (some .boolean), .methodLink RX1 38 yX1_hitAbove, .instanceMethod yX1_hitAbove, .selects RX1 yX1_hitAbove yX1_hitAbove, .initialized RX1, .code yX1_hitAbove cX1_hitAbove 5 none, .fieldLink RX1 46 "AlertIndex$Posting" "product" "LAlertIndex$Product;", .fieldLink RX1 50 "AlertIndex$Product" "hits" "I", .fieldLink RX1 56 "AlertIndex$Posting" "next" "LAlertIndex$Posting;", .methodLink RX1 42 yX1_firstAt, .instanceMethod yX1_firstAt, .selects RX1 yX1_firstAt yX1_firstAt, .code yX1_firstAt cX1_firstAt 2 (some (.object "AlertIndex$Posting")), .fieldLink RX1 13 "AlertIndex$PieceIndex" "firsts" "[LAlertIndex$Posting;"] ++ wsX00 ++ wsX20 ++ wsX30 ++ wsX10)
def wsJxa1e45_init_da8c8 : List Cond := .code yJxa1e45_init_da8c8 cJxa1e45_init_da8c8 1 none :: ([.methodLink RJxa1e45 1 objectInit, .instanceMethod objectInit, .code objectInit ⟨#[0xb1]⟩ 1 none])
def wsJxc12de_init_da8c8 : List Cond := .code yJxc12de_init_da8c8 cJxc12de_init_da8c8 1 none :: ([.fieldLink RJxc12de 7 "java/util/AbstractList" "modCount" "I", .methodLink RJxc12de 1 yJxa1e45_init_da8c8, .instanceMethod yJxa1e45_init_da8c8, .initialized RJxa1e45, .code yJxa1e45_init_da8c8 cJxa1e45_init_da8c8 1 none, .methodLink RJxa1e45 1 objectInit, .instanceMethod objectInit, .code objectInit ⟨#[0xb1]⟩ 1 none] ++ wsJx4a65c0)
def wsJx4a65c_init_da8c8 : List Cond := .code yJx4a65c_init_da8c8 cJx4a65c_init_da8c8 1 none :: ([.fieldLink RJx4a65c 39 "java/util/ArrayList" "DEFAULTCAPACITY_EMPTY_ELEMENTDATA" "[Ljava/lang/Object;", .fieldLink RJx4a65c 9 "java/util/ArrayList" "elementData" "[Ljava/lang/Object;", .methodLink RJx4a65c 1 yJxc12de_init_da8c8, .instanceMethod yJxc12de_init_da8c8, .initialized RJxc12de, .code yJxc12de_init_da8c8 cJxc12de_init_da8c8 1 none, .fieldLink RJxc12de 7 "java/util/AbstractList" "modCount" "I", .methodLink RJxc12de 1 yJxa1e45_init_da8c8, .instanceMethod yJxa1e45_init_da8c8, .initialized RJxa1e45, .code yJxa1e45_init_da8c8 cJxa1e45_init_da8c8 1 none, .methodLink RJxa1e45 1 objectInit, .instanceMethod objectInit, .code objectInit ⟨#[0xb1]⟩ 1 none] ++ wsJx4a65c0)
def wsX3_init : List Cond := .code yX3_init cX3_init 1 none :: ([.methodLink RX3 1 objectInit, .instanceMethod objectInit, .code objectInit ⟨#[0xb1]⟩ 1 none, .classLink RX3 7 RJx4a65c, .instantiable RJx4a65c 3, .initialized RJx4a65c, .fieldLink RX3 10 "AlertIndex$Product" "tests" "Ljava/util/List;", .fieldLink RX3 16 "AlertIndex$Product" "plainTests" "I", .fieldLink RX3 20 "AlertIndex$Product" "hits" "I", .methodLink RX3 9 yJx4a65c_init_da8c8, .instanceMethod yJx4a65c_init_da8c8, .code yJx4a65c_init_da8c8 cJx4a65c_init_da8c8 1 none, .fieldLink RJx4a65c 39 "java/util/ArrayList" "DEFAULTCAPACITY_EMPTY_ELEMENTDATA" "[Ljava/lang/Object;", .fieldLink RJx4a65c 9 "java/util/ArrayList" "elementData" "[Ljava/lang/Object;", .methodLink RJx4a65c 1 yJxc12de_init_da8c8, .instanceMethod yJxc12de_init_da8c8, .initialized RJxc12de, .code yJxc12de_init_da8c8 cJxc12de_init_da8c8 1 none, .fieldLink RJxc12de 7 "java/util/AbstractList" "modCount" "I", .methodLink RJxc12de 1 yJxa1e45_init_da8c8, .instanceMethod yJxa1e45_init_da8c8, .initialized RJxa1e45, .code yJxa1e45_init_da8c8 cJxa1e45_init_da8c8 1 none, .methodLink RJxa1e45 1 objectInit] ++ wsJx4a65c0 ++ wsX30)
def wsJx4a65c_size_8abf5 : List Cond := .code yJx4a65c_size_8abf5 cJx4a65c_size_8abf5 1 (some .int) :: ([.fieldLink RJx4a65c 48 "java/util/ArrayList" "size" "I"] ++ wsJx4a65c0)
def wsJ3_checkIndex_8e157 : List Cond := .code yJ3_checkIndex_8e157 cJ3_checkIndex_8e157 3 (some .int) :: ([])
def wsJ15_checkIndex_7cf53 : List Cond := .code yJ15_checkIndex_7cf53 cJ15_checkIndex_7cf53 2 (some .int) :: ([.methodLink RJ15 105 yJ3_checkIndex_8e157, .static yJ3_checkIndex_8e157, .initialized RJ3, .code yJ3_checkIndex_8e157 cJ3_checkIndex_8e157 3 (some .int)])
def wsJx4a65c_elementData_915e3 : List Cond := .code yJx4a65c_elementData_915e3 cJx4a65c_elementData_915e3 2 (some (.object "java/lang/Object")) :: ([.fieldLink RJx4a65c 9 "java/util/ArrayList" "elementData" "[Ljava/lang/Object;"] ++ wsJx4a65c0)
def wsJx4a65c_get_915e3 : List Cond := .code yJx4a65c_get_915e3 cJx4a65c_get_915e3 2 (some (.object "java/lang/Object")) :: ([.fieldLink RJx4a65c 48 "java/util/ArrayList" "size" "I", .methodLink RJx4a65c 118 yJ15_checkIndex_7cf53, .static yJ15_checkIndex_7cf53, .initialized RJ15, .code yJ15_checkIndex_7cf53 cJ15_checkIndex_7cf53 2 (some .int), .methodLink RJ15 105 yJ3_checkIndex_8e157, .static yJ3_checkIndex_8e157, .initialized RJ3, .code yJ3_checkIndex_8e157 cJ3_checkIndex_8e157 3 (some .int), .methodLink RJx4a65c 123 yJx4a65c_elementData_915e3, .instanceMethod yJx4a65c_elementData_915e3, .selects RJx4a65c yJx4a65c_elementData_915e3 yJx4a65c_elementData_915e3, .initialized RJx4a65c, .code yJx4a65c_elementData_915e3 cJx4a65c_elementData_915e3 2 (some (.object "java/lang/Object")), .fieldLink RJx4a65c 9 "java/util/ArrayList" "elementData" "[Ljava/lang/Object;"] ++ wsJx4a65c0)
def wsX5_isTrue : List Cond := .code yX5_isTrue cX5_isTrue 4 (some .boolean) :: ([.fieldLink RX5 9 "AlertIndex$Test" "name" "I", .fieldLink RX5 15 "AlertIndex$Test" "low" "I", .fieldLink RX5 18 "AlertIndex$Test" "high" "I", .fieldLink RX5 21 "AlertIndex$Test" "isBarred" "Z", .methodLink RX5 25 yX0_valueOf, .instanceMethod yX0_valueOf, .selects RX0 yX0_valueOf yX0_valueOf, .initialized RX0, .code yX0_valueOf cX0_valueOf 2 (some .int), .fieldLink RX0 9 "AlertIndex$Draft" "values" "[I"] ++ wsX50 ++ wsX00)
def wsX3_isTrue_r1 : List Cond := [Cond.fieldLink RX3 10 "AlertIndex$Product" "tests" "Ljava/util/List;", Cond.classLink RX3 33 "AlertIndex$Test", Cond.methodLink RX3 23 ⟨"java/util/List", "size", "()I"⟩, Cond.selects RJx4a65c ⟨"java/util/List", "size", "()I"⟩ yJx4a65c_size_8abf5, Cond.instanceMethod yJx4a65c_size_8abf5, Cond.initialized RJx4a65c, Cond.code yJx4a65c_size_8abf5 cJx4a65c_size_8abf5 1 (some .int), Cond.fieldLink RJx4a65c 48 "java/util/ArrayList" "size" "I", Cond.methodLink RX3 29 ⟨"java/util/List", "get", "(I)Ljava/lang/Object;"⟩, Cond.selects RJx4a65c ⟨"java/util/List", "get", "(I)Ljava/lang/Object;"⟩ yJx4a65c_get_915e3, Cond.instanceMethod yJx4a65c_get_915e3, Cond.code yJx4a65c_get_915e3 cJx4a65c_get_915e3 2 (some (.object "java/lang/Object")), Cond.methodLink RJx4a65c 118 yJ15_checkIndex_7cf53, Cond.static yJ15_checkIndex_7cf53, Cond.initialized RJ15, Cond.code yJ15_checkIndex_7cf53 cJ15_checkIndex_7cf53 2 (some .int), Cond.methodLink RJ15 105 yJ3_checkIndex_8e157, Cond.static yJ3_checkIndex_8e157, Cond.initialized RJ3, Cond.code yJ3_checkIndex_8e157 cJ3_checkIndex_8e157 3 (some .int), Cond.methodLink RJx4a65c 123 yJx4a65c_elementData_915e3, Cond.instanceMethod yJx4a65c_elementData_915e3, Cond.selects RJx4a65c yJx4a65c_elementData_915e3 yJx4a65c_elementData_915e3, Cond.code yJx4a65c_elementData_915e3 cJx4a65c_elementData_915e3 2 (some (.object "java/lang/Object"))]
def wsX3_isTrue_r2 : List Cond := [Cond.fieldLink RJx4a65c 9 "java/util/ArrayList" "elementData" "[Ljava/lang/Object;", Cond.methodLink RX3 35 yX5_isTrue, Cond.instanceMethod yX5_isTrue, Cond.selects RX5 yX5_isTrue yX5_isTrue, Cond.initialized RX5, Cond.code yX5_isTrue cX5_isTrue 4 (some .boolean), Cond.fieldLink RX5 9 "AlertIndex$Test" "name" "I", Cond.fieldLink RX5 15 "AlertIndex$Test" "low" "I", Cond.fieldLink RX5 18 "AlertIndex$Test" "high" "I", Cond.fieldLink RX5 21 "AlertIndex$Test" "isBarred" "Z", Cond.methodLink RX5 25 yX0_valueOf, Cond.instanceMethod yX0_valueOf, Cond.selects RX0 yX0_valueOf yX0_valueOf, Cond.initialized RX0, Cond.code yX0_valueOf cX0_valueOf 2 (some .int), Cond.fieldLink RX0 9 "AlertIndex$Draft" "values" "[I"]
def wsX3_isTrue : List Cond := .code yX3_isTrue cX3_isTrue 3 (some .boolean) :: ((wsX3_isTrue_r1 ++ wsX3_isTrue_r2) ++ wsX30 ++ wsJx4a65c0 ++ wsX50 ++ wsX00)
def wsX3_isTrueByHits_r1 : List Cond := [Cond.fieldLink RX3 20 "AlertIndex$Product" "hits" "I", Cond.fieldLink RX3 16 "AlertIndex$Product" "plainTests" "I", Cond.fieldLink RX3 10 "AlertIndex$Product" "tests" "Ljava/util/List;", Cond.classLink RX3 33 "AlertIndex$Test", Cond.fieldLink RX3 39 "AlertIndex$Test" "isBarred" "Z", Cond.methodLink RX3 23 ⟨"java/util/List", "size", "()I"⟩, Cond.selects RJx4a65c ⟨"java/util/List", "size", "()I"⟩ yJx4a65c_size_8abf5, Cond.instanceMethod yJx4a65c_size_8abf5, Cond.initialized RJx4a65c, Cond.code yJx4a65c_size_8abf5 cJx4a65c_size_8abf5 1 (some .int), Cond.fieldLink RJx4a65c 48 "java/util/ArrayList" "size" "I", Cond.methodLink RX3 29 ⟨"java/util/List", "get", "(I)Ljava/lang/Object;"⟩, Cond.selects RJx4a65c ⟨"java/util/List", "get", "(I)Ljava/lang/Object;"⟩ yJx4a65c_get_915e3, Cond.instanceMethod yJx4a65c_get_915e3, Cond.code yJx4a65c_get_915e3 cJx4a65c_get_915e3 2 (some (.object "java/lang/Object")), Cond.methodLink RJx4a65c 118 yJ15_checkIndex_7cf53, Cond.static yJ15_checkIndex_7cf53, Cond.initialized RJ15, Cond.code yJ15_checkIndex_7cf53 cJ15_checkIndex_7cf53 2 (some .int), Cond.methodLink RJ15 105 yJ3_checkIndex_8e157, Cond.static yJ3_checkIndex_8e157, Cond.initialized RJ3, Cond.code yJ3_checkIndex_8e157 cJ3_checkIndex_8e157 3 (some .int), Cond.methodLink RJx4a65c 123 yJx4a65c_elementData_915e3]
def wsX3_isTrueByHits_r2 : List Cond := [Cond.instanceMethod yJx4a65c_elementData_915e3, Cond.selects RJx4a65c yJx4a65c_elementData_915e3 yJx4a65c_elementData_915e3, Cond.code yJx4a65c_elementData_915e3 cJx4a65c_elementData_915e3 2 (some (.object "java/lang/Object")), Cond.fieldLink RJx4a65c 9 "java/util/ArrayList" "elementData" "[Ljava/lang/Object;", Cond.methodLink RX3 35 yX5_isTrue, Cond.instanceMethod yX5_isTrue, Cond.selects RX5 yX5_isTrue yX5_isTrue, Cond.initialized RX5, Cond.code yX5_isTrue cX5_isTrue 4 (some .boolean), Cond.fieldLink RX5 9 "AlertIndex$Test" "name" "I", Cond.fieldLink RX5 15 "AlertIndex$Test" "low" "I", Cond.fieldLink RX5 18 "AlertIndex$Test" "high" "I", Cond.fieldLink RX5 21 "AlertIndex$Test" "isBarred" "Z", Cond.methodLink RX5 25 yX0_valueOf, Cond.instanceMethod yX0_valueOf, Cond.selects RX0 yX0_valueOf yX0_valueOf, Cond.initialized RX0, Cond.code yX0_valueOf cX0_valueOf 2 (some .int), Cond.fieldLink RX0 9 "AlertIndex$Draft" "values" "[I"]
def wsX3_isTrueByHits : List Cond := .code yX3_isTrueByHits cX3_isTrueByHits 4 (some .boolean) :: ((wsX3_isTrueByHits_r1 ++ wsX3_isTrueByHits_r2) ++ wsX30 ++ wsX50 ++ wsJx4a65c0 ++ wsX00)
def wsX4_init_r1 : List Cond := [Cond.methodLink RX4 3 objectInit, Cond.instanceMethod objectInit, Cond.code objectInit ⟨#[0xb1]⟩ 1 none, Cond.classLink RX4 9 RJx4a65c, Cond.instantiable RJx4a65c 3, Cond.initialized RJx4a65c, Cond.fieldLink RX4 12 "AlertIndex$Question" "products" "Ljava/util/List;", Cond.fieldLink RX4 18 "AlertIndex$Question" "isDropped" "Z", Cond.fieldLink RX4 22 "AlertIndex$Question" "quietMinutes" "I", Cond.fieldLink RX4 26 "AlertIndex$Question" "quietUntil" "I", Cond.fieldLink RX4 29 "AlertIndex$Question" "alerts" "I", Cond.fieldLink RX4 32 "AlertIndex$Question" "batch" "I", Cond.methodLink RX4 11 yJx4a65c_init_da8c8, Cond.instanceMethod yJx4a65c_init_da8c8, Cond.code yJx4a65c_init_da8c8 cJx4a65c_init_da8c8 1 none, Cond.fieldLink RJx4a65c 39 "java/util/ArrayList" "DEFAULTCAPACITY_EMPTY_ELEMENTDATA" "[Ljava/lang/Object;", Cond.fieldLink RJx4a65c 9 "java/util/ArrayList" "elementData" "[Ljava/lang/Object;", Cond.methodLink RJx4a65c 1 yJxc12de_init_da8c8, Cond.instanceMethod yJxc12de_init_da8c8, Cond.initialized RJxc12de, Cond.code yJxc12de_init_da8c8 cJxc12de_init_da8c8 1 none, Cond.fieldLink RJxc12de 7 "java/util/AbstractList" "modCount" "I", Cond.methodLink RJxc12de 1 yJxa1e45_init_da8c8, Cond.instanceMethod yJxa1e45_init_da8c8]
def wsX4_init_r2 : List Cond := [Cond.initialized RJxa1e45, Cond.code yJxa1e45_init_da8c8 cJxa1e45_init_da8c8 1 none, Cond.methodLink RJxa1e45 1 objectInit]
def wsX4_init : List Cond := .code yX4_init cX4_init 1 none :: ((wsX4_init_r1 ++ wsX4_init_r2) ++ wsJx4a65c0 ++ wsX40)
def wsX4_lastProduct_r1 : List Cond := [Cond.fieldLink RX4 12 "AlertIndex$Question" "products" "Ljava/util/List;", Cond.classLink RX4 45 "AlertIndex$Product", Cond.methodLink RX4 35 ⟨"java/util/List", "size", "()I"⟩, Cond.selects RJx4a65c ⟨"java/util/List", "size", "()I"⟩ yJx4a65c_size_8abf5, Cond.instanceMethod yJx4a65c_size_8abf5, Cond.initialized RJx4a65c, Cond.code yJx4a65c_size_8abf5 cJx4a65c_size_8abf5 1 (some .int), Cond.fieldLink RJx4a65c 48 "java/util/ArrayList" "size" "I", Cond.methodLink RX4 41 ⟨"java/util/List", "get", "(I)Ljava/lang/Object;"⟩, Cond.selects RJx4a65c ⟨"java/util/List", "get", "(I)Ljava/lang/Object;"⟩ yJx4a65c_get_915e3, Cond.instanceMethod yJx4a65c_get_915e3, Cond.code yJx4a65c_get_915e3 cJx4a65c_get_915e3 2 (some (.object "java/lang/Object")), Cond.methodLink RJx4a65c 118 yJ15_checkIndex_7cf53, Cond.static yJ15_checkIndex_7cf53, Cond.initialized RJ15, Cond.code yJ15_checkIndex_7cf53 cJ15_checkIndex_7cf53 2 (some .int), Cond.methodLink RJ15 105 yJ3_checkIndex_8e157, Cond.static yJ3_checkIndex_8e157, Cond.initialized RJ3, Cond.code yJ3_checkIndex_8e157 cJ3_checkIndex_8e157 3 (some .int), Cond.methodLink RJx4a65c 123 yJx4a65c_elementData_915e3, Cond.instanceMethod yJx4a65c_elementData_915e3, Cond.selects RJx4a65c yJx4a65c_elementData_915e3 yJx4a65c_elementData_915e3, Cond.code yJx4a65c_elementData_915e3 cJx4a65c_elementData_915e3 2 (some (.object "java/lang/Object"))]
def wsX4_lastProduct_r2 : List Cond := [Cond.fieldLink RJx4a65c 9 "java/util/ArrayList" "elementData" "[Ljava/lang/Object;"]
def wsX4_lastProduct : List Cond := .code yX4_lastProduct cX4_lastProduct 2 (some (.object "AlertIndex$Product")) :: ((wsX4_lastProduct_r1 ++ wsX4_lastProduct_r2) ++ wsX40 ++ wsJx4a65c0)
def wsJx4a65c_isEmpty_aae02 : List Cond := .code yJx4a65c_isEmpty_aae02 cJx4a65c_isEmpty_aae02 1 (some .boolean) :: ([.fieldLink RJx4a65c 48 "java/util/ArrayList" "size" "I"] ++ wsJx4a65c0)
def wsX4_leastSize_r1 : List Cond := [Cond.fieldLink RX4 12 "AlertIndex$Question" "products" "Ljava/util/List;", Cond.classLink RX4 45 "AlertIndex$Product", Cond.fieldLink RX4 47 "AlertIndex$Product" "plainTests" "I", Cond.methodLink RX4 50 Lib.Math.min.name, Cond.static Lib.Math.min.name, Cond.initialized "java/lang/Math", Cond.code Lib.Math.min.name Lib.Math.min.code 2 (some .int), Cond.methodLink RX4 35 ⟨"java/util/List", "size", "()I"⟩, Cond.selects RJx4a65c ⟨"java/util/List", "size", "()I"⟩ yJx4a65c_size_8abf5, Cond.instanceMethod yJx4a65c_size_8abf5, Cond.initialized RJx4a65c, Cond.code yJx4a65c_size_8abf5 cJx4a65c_size_8abf5 1 (some .int), Cond.fieldLink RJx4a65c 48 "java/util/ArrayList" "size" "I", Cond.methodLink RX4 41 ⟨"java/util/List", "get", "(I)Ljava/lang/Object;"⟩, Cond.selects RJx4a65c ⟨"java/util/List", "get", "(I)Ljava/lang/Object;"⟩ yJx4a65c_get_915e3, Cond.instanceMethod yJx4a65c_get_915e3, Cond.code yJx4a65c_get_915e3 cJx4a65c_get_915e3 2 (some (.object "java/lang/Object")), Cond.methodLink RJx4a65c 118 yJ15_checkIndex_7cf53, Cond.static yJ15_checkIndex_7cf53, Cond.initialized RJ15, Cond.code yJ15_checkIndex_7cf53 cJ15_checkIndex_7cf53 2 (some .int), Cond.methodLink RJ15 105 yJ3_checkIndex_8e157, Cond.static yJ3_checkIndex_8e157, Cond.initialized RJ3]
def wsX4_leastSize_r2 : List Cond := [Cond.code yJ3_checkIndex_8e157 cJ3_checkIndex_8e157 3 (some .int), Cond.methodLink RJx4a65c 123 yJx4a65c_elementData_915e3, Cond.instanceMethod yJx4a65c_elementData_915e3, Cond.selects RJx4a65c yJx4a65c_elementData_915e3 yJx4a65c_elementData_915e3, Cond.code yJx4a65c_elementData_915e3 cJx4a65c_elementData_915e3 2 (some (.object "java/lang/Object")), Cond.fieldLink RJx4a65c 9 "java/util/ArrayList" "elementData" "[Ljava/lang/Object;", Cond.methodLink RX4 56 ⟨"java/util/List", "isEmpty", "()Z"⟩, Cond.selects RJx4a65c ⟨"java/util/List", "isEmpty", "()Z"⟩ yJx4a65c_isEmpty_aae02, Cond.instanceMethod yJx4a65c_isEmpty_aae02, Cond.code yJx4a65c_isEmpty_aae02 cJx4a65c_isEmpty_aae02 1 (some .boolean)]
def wsX4_leastSize : List Cond := .code yX4_leastSize cX4_leastSize 3 (some .int) :: ((wsX4_leastSize_r1 ++ wsX4_leastSize_r2) ++ wsX40 ++ wsX30 ++ wsJx4a65c0)
def wsX4_isSatisfied_r1 : List Cond := [Cond.fieldLink RX4 18 "AlertIndex$Question" "isDropped" "Z", Cond.fieldLink RX4 12 "AlertIndex$Question" "products" "Ljava/util/List;", Cond.classLink RX4 45 "AlertIndex$Product", Cond.methodLink RX4 35 ⟨"java/util/List", "size", "()I"⟩, Cond.selects RJx4a65c ⟨"java/util/List", "size", "()I"⟩ yJx4a65c_size_8abf5, Cond.instanceMethod yJx4a65c_size_8abf5, Cond.initialized RJx4a65c, Cond.code yJx4a65c_size_8abf5 cJx4a65c_size_8abf5 1 (some .int), Cond.fieldLink RJx4a65c 48 "java/util/ArrayList" "size" "I", Cond.methodLink RX4 41 ⟨"java/util/List", "get", "(I)Ljava/lang/Object;"⟩, Cond.selects RJx4a65c ⟨"java/util/List", "get", "(I)Ljava/lang/Object;"⟩ yJx4a65c_get_915e3, Cond.instanceMethod yJx4a65c_get_915e3, Cond.code yJx4a65c_get_915e3 cJx4a65c_get_915e3 2 (some (.object "java/lang/Object")), Cond.methodLink RJx4a65c 118 yJ15_checkIndex_7cf53, Cond.static yJ15_checkIndex_7cf53, Cond.initialized RJ15, Cond.code yJ15_checkIndex_7cf53 cJ15_checkIndex_7cf53 2 (some .int), Cond.methodLink RJ15 105 yJ3_checkIndex_8e157, Cond.static yJ3_checkIndex_8e157, Cond.initialized RJ3, Cond.code yJ3_checkIndex_8e157 cJ3_checkIndex_8e157 3 (some .int), Cond.methodLink RJx4a65c 123 yJx4a65c_elementData_915e3, Cond.instanceMethod yJx4a65c_elementData_915e3, Cond.selects RJx4a65c yJx4a65c_elementData_915e3 yJx4a65c_elementData_915e3]
def wsX4_isSatisfied_r2 : List Cond := [Cond.code yJx4a65c_elementData_915e3 cJx4a65c_elementData_915e3 2 (some (.object "java/lang/Object")), Cond.fieldLink RJx4a65c 9 "java/util/ArrayList" "elementData" "[Ljava/lang/Object;", Cond.methodLink RX4 60 yX3_isTrue, Cond.instanceMethod yX3_isTrue, Cond.selects RX3 yX3_isTrue yX3_isTrue, Cond.initialized RX3, Cond.code yX3_isTrue cX3_isTrue 3 (some .boolean), Cond.fieldLink RX3 10 "AlertIndex$Product" "tests" "Ljava/util/List;", Cond.classLink RX3 33 "AlertIndex$Test", Cond.methodLink RX3 23 ⟨"java/util/List", "size", "()I"⟩, Cond.methodLink RX3 29 ⟨"java/util/List", "get", "(I)Ljava/lang/Object;"⟩, Cond.methodLink RX3 35 yX5_isTrue, Cond.instanceMethod yX5_isTrue, Cond.selects RX5 yX5_isTrue yX5_isTrue, Cond.initialized RX5, Cond.code yX5_isTrue cX5_isTrue 4 (some .boolean), Cond.fieldLink RX5 9 "AlertIndex$Test" "name" "I", Cond.fieldLink RX5 15 "AlertIndex$Test" "low" "I", Cond.fieldLink RX5 18 "AlertIndex$Test" "high" "I", Cond.fieldLink RX5 21 "AlertIndex$Test" "isBarred" "Z", Cond.methodLink RX5 25 yX0_valueOf, Cond.instanceMethod yX0_valueOf, Cond.selects RX0 yX0_valueOf yX0_valueOf, Cond.initialized RX0]
def wsX4_isSatisfied_r3 : List Cond := [Cond.code yX0_valueOf cX0_valueOf 2 (some .int), Cond.fieldLink RX0 9 "AlertIndex$Draft" "values" "[I"]
def wsX4_isSatisfied : List Cond := .code yX4_isSatisfied cX4_isSatisfied 3 (some .boolean) :: ((wsX4_isSatisfied_r1 ++ (wsX4_isSatisfied_r2 ++ wsX4_isSatisfied_r3)) ++ wsX40 ++ wsJx4a65c0 ++ wsX30 ++ wsX50 ++ wsX00)
def wsX4_isSatisfiedByHits_r1 : List Cond := [Cond.fieldLink RX4 18 "AlertIndex$Question" "isDropped" "Z", Cond.fieldLink RX4 12 "AlertIndex$Question" "products" "Ljava/util/List;", Cond.classLink RX4 45 "AlertIndex$Product", Cond.methodLink RX4 35 ⟨"java/util/List", "size", "()I"⟩, Cond.selects RJx4a65c ⟨"java/util/List", "size", "()I"⟩ yJx4a65c_size_8abf5, Cond.instanceMethod yJx4a65c_size_8abf5, Cond.initialized RJx4a65c, Cond.code yJx4a65c_size_8abf5 cJx4a65c_size_8abf5 1 (some .int), Cond.fieldLink RJx4a65c 48 "java/util/ArrayList" "size" "I", Cond.methodLink RX4 41 ⟨"java/util/List", "get", "(I)Ljava/lang/Object;"⟩, Cond.selects RJx4a65c ⟨"java/util/List", "get", "(I)Ljava/lang/Object;"⟩ yJx4a65c_get_915e3, Cond.instanceMethod yJx4a65c_get_915e3, Cond.code yJx4a65c_get_915e3 cJx4a65c_get_915e3 2 (some (.object "java/lang/Object")), Cond.methodLink RJx4a65c 118 yJ15_checkIndex_7cf53, Cond.static yJ15_checkIndex_7cf53, Cond.initialized RJ15, Cond.code yJ15_checkIndex_7cf53 cJ15_checkIndex_7cf53 2 (some .int), Cond.methodLink RJ15 105 yJ3_checkIndex_8e157, Cond.static yJ3_checkIndex_8e157, Cond.initialized RJ3, Cond.code yJ3_checkIndex_8e157 cJ3_checkIndex_8e157 3 (some .int), Cond.methodLink RJx4a65c 123 yJx4a65c_elementData_915e3, Cond.instanceMethod yJx4a65c_elementData_915e3, Cond.selects RJx4a65c yJx4a65c_elementData_915e3 yJx4a65c_elementData_915e3]
def wsX4_isSatisfiedByHits_r2 : List Cond := [Cond.code yJx4a65c_elementData_915e3 cJx4a65c_elementData_915e3 2 (some (.object "java/lang/Object")), Cond.fieldLink RJx4a65c 9 "java/util/ArrayList" "elementData" "[Ljava/lang/Object;", Cond.methodLink RX4 64 yX3_isTrueByHits, Cond.instanceMethod yX3_isTrueByHits, Cond.selects RX3 yX3_isTrueByHits yX3_isTrueByHits, Cond.initialized RX3, Cond.code yX3_isTrueByHits cX3_isTrueByHits 4 (some .boolean), Cond.fieldLink RX3 20 "AlertIndex$Product" "hits" "I", Cond.fieldLink RX3 16 "AlertIndex$Product" "plainTests" "I", Cond.fieldLink RX3 10 "AlertIndex$Product" "tests" "Ljava/util/List;", Cond.classLink RX3 33 "AlertIndex$Test", Cond.fieldLink RX3 39 "AlertIndex$Test" "isBarred" "Z", Cond.methodLink RX3 23 ⟨"java/util/List", "size", "()I"⟩, Cond.methodLink RX3 29 ⟨"java/util/List", "get", "(I)Ljava/lang/Object;"⟩, Cond.methodLink RX3 35 yX5_isTrue, Cond.instanceMethod yX5_isTrue, Cond.selects RX5 yX5_isTrue yX5_isTrue, Cond.initialized RX5, Cond.code yX5_isTrue cX5_isTrue 4 (some .boolean), Cond.fieldLink RX5 9 "AlertIndex$Test" "name" "I", Cond.fieldLink RX5 15 "AlertIndex$Test" "low" "I", Cond.fieldLink RX5 18 "AlertIndex$Test" "high" "I", Cond.fieldLink RX5 21 "AlertIndex$Test" "isBarred" "Z", Cond.methodLink RX5 25 yX0_valueOf]
def wsX4_isSatisfiedByHits_r3 : List Cond := [Cond.instanceMethod yX0_valueOf, Cond.selects RX0 yX0_valueOf yX0_valueOf, Cond.initialized RX0, Cond.code yX0_valueOf cX0_valueOf 2 (some .int), Cond.fieldLink RX0 9 "AlertIndex$Draft" "values" "[I"]
def wsX4_isSatisfiedByHits : List Cond := .code yX4_isSatisfiedByHits cX4_isSatisfiedByHits 3 (some .boolean) :: ((wsX4_isSatisfiedByHits_r1 ++ (wsX4_isSatisfiedByHits_r2 ++ wsX4_isSatisfiedByHits_r3)) ++ wsX40 ++ wsJx4a65c0 ++ wsX30 ++ wsX50 ++ wsX00)
def wsX4_forgetHits_r1 : List Cond := [Cond.fieldLink RX4 12 "AlertIndex$Question" "products" "Ljava/util/List;", Cond.classLink RX4 45 "AlertIndex$Product", Cond.fieldLink RX4 67 "AlertIndex$Product" "hits" "I", Cond.methodLink RX4 35 ⟨"java/util/List", "size", "()I"⟩, Cond.selects RJx4a65c ⟨"java/util/List", "size", "()I"⟩ yJx4a65c_size_8abf5, Cond.instanceMethod yJx4a65c_size_8abf5, Cond.initialized RJx4a65c, Cond.code yJx4a65c_size_8abf5 cJx4a65c_size_8abf5 1 (some .int), Cond.fieldLink RJx4a65c 48 "java/util/ArrayList" "size" "I", Cond.methodLink RX4 41 ⟨"java/util/List", "get", "(I)Ljava/lang/Object;"⟩, Cond.selects RJx4a65c ⟨"java/util/List", "get", "(I)Ljava/lang/Object;"⟩ yJx4a65c_get_915e3, Cond.instanceMethod yJx4a65c_get_915e3, Cond.code yJx4a65c_get_915e3 cJx4a65c_get_915e3 2 (some (.object "java/lang/Object")), Cond.methodLink RJx4a65c 118 yJ15_checkIndex_7cf53, Cond.static yJ15_checkIndex_7cf53, Cond.initialized RJ15, Cond.code yJ15_checkIndex_7cf53 cJ15_checkIndex_7cf53 2 (some .int), Cond.methodLink RJ15 105 yJ3_checkIndex_8e157, Cond.static yJ3_checkIndex_8e157, Cond.initialized RJ3, Cond.code yJ3_checkIndex_8e157 cJ3_checkIndex_8e157 3 (some .int), Cond.methodLink RJx4a65c 123 yJx4a65c_elementData_915e3, Cond.instanceMethod yJx4a65c_elementData_915e3, Cond.selects RJx4a65c yJx4a65c_elementData_915e3 yJx4a65c_elementData_915e3]
def wsX4_forgetHits_r2 : List Cond := [Cond.code yJx4a65c_elementData_915e3 cJx4a65c_elementData_915e3 2 (some (.object "java/lang/Object")), Cond.fieldLink RJx4a65c 9 "java/util/ArrayList" "elementData" "[Ljava/lang/Object;"]
def wsX4_forgetHits : List Cond := .code yX4_forgetHits cX4_forgetHits 2 none :: ((wsX4_forgetHits_r1 ++ wsX4_forgetHits_r2) ++ wsX40 ++ wsX30 ++ wsJx4a65c0)
def wsX4_isQuietAt : List Cond := .code yX4_isQuietAt cX4_isQuietAt 2 (some .boolean) :: ([.fieldLink RX4 26 "AlertIndex$Question" "quietUntil" "I"] ++ wsX40)
def wsX4_raiseAlert : List Cond := .code yX4_raiseAlert cX4_raiseAlert 2 none :: ([.fieldLink RX4 29 "AlertIndex$Question" "alerts" "I", .fieldLink RX4 22 "AlertIndex$Question" "quietMinutes" "I", .fieldLink RX4 26 "AlertIndex$Question" "quietUntil" "I"] ++ wsX40)
def wsX4_takeDocument : List Cond := .code yX4_takeDocument cX4_takeDocument 2 (some .boolean) :: ([.fieldLink RX4 32 "AlertIndex$Question" "batch" "I", .methodLink RX4 70 yX4_isQuietAt, .instanceMethod yX4_isQuietAt, .selects RX4 yX4_isQuietAt yX4_isQuietAt, .initialized RX4, .code yX4_isQuietAt cX4_isQuietAt 2 (some .boolean), .fieldLink RX4 26 "AlertIndex$Question" "quietUntil" "I", .methodLink RX4 74 yX4_raiseAlert, .instanceMethod yX4_raiseAlert, .selects RX4 yX4_raiseAlert yX4_raiseAlert, .code yX4_raiseAlert cX4_raiseAlert 2 none, .fieldLink RX4 29 "AlertIndex$Question" "alerts" "I", .fieldLink RX4 22 "AlertIndex$Question" "quietMinutes" "I"] ++ wsX40)
def wsX4_sendBatch : List Cond := .code yX4_sendBatch cX4_sendBatch 2 (some .boolean) :: ([.fieldLink RX4 18 "AlertIndex$Question" "isDropped" "Z", .fieldLink RX4 32 "AlertIndex$Question" "batch" "I", .fieldLink RX4 26 "AlertIndex$Question" "quietUntil" "I", .methodLink RX4 70 yX4_isQuietAt, .instanceMethod yX4_isQuietAt, .selects RX4 yX4_isQuietAt yX4_isQuietAt, .initialized RX4, .code yX4_isQuietAt cX4_isQuietAt 2 (some .boolean), .methodLink RX4 74 yX4_raiseAlert, .instanceMethod yX4_raiseAlert, .selects RX4 yX4_raiseAlert yX4_raiseAlert, .code yX4_raiseAlert cX4_raiseAlert 2 none, .fieldLink RX4 29 "AlertIndex$Question" "alerts" "I", .fieldLink RX4 22 "AlertIndex$Question" "quietMinutes" "I"] ++ wsX40)
def wsX5_init : List Cond := .code yX5_init cX5_init 5 none :: ([.methodLink RX5 3 objectInit, .instanceMethod objectInit, .code objectInit ⟨#[0xb1]⟩ 1 none, .fieldLink RX5 9 "AlertIndex$Test" "name" "I", .fieldLink RX5 15 "AlertIndex$Test" "low" "I", .fieldLink RX5 18 "AlertIndex$Test" "high" "I", .fieldLink RX5 21 "AlertIndex$Test" "isBarred" "Z"] ++ wsX50)
def wsX6_init_r1 : List Cond := [Cond.methodLink RX6 1 objectInit, Cond.instanceMethod objectInit, Cond.code objectInit ⟨#[0xb1]⟩ 1 none, Cond.classLink RX6 7 RJx4a65c, Cond.instantiable RJx4a65c 3, Cond.initialized RJx4a65c, Cond.fieldLink RX6 10 "AlertIndex" "questions" "Ljava/util/List;", Cond.classLink RX6 16 RX0, Cond.instantiable RX0 1, Cond.initialized RX0, Cond.fieldLink RX6 19 "AlertIndex" "draft" "LAlertIndex$Draft;", Cond.classLink RX6 23 RX1, Cond.instantiable RX1 1, Cond.initialized RX1, Cond.fieldLink RX6 26 "AlertIndex" "index" "LAlertIndex$PieceIndex;", Cond.fieldLink RX6 30 "AlertIndex" "minute" "I", Cond.methodLink RX6 9 yJx4a65c_init_da8c8, Cond.instanceMethod yJx4a65c_init_da8c8, Cond.code yJx4a65c_init_da8c8 cJx4a65c_init_da8c8 1 none, Cond.fieldLink RJx4a65c 39 "java/util/ArrayList" "DEFAULTCAPACITY_EMPTY_ELEMENTDATA" "[Ljava/lang/Object;", Cond.fieldLink RJx4a65c 9 "java/util/ArrayList" "elementData" "[Ljava/lang/Object;", Cond.methodLink RJx4a65c 1 yJxc12de_init_da8c8, Cond.instanceMethod yJxc12de_init_da8c8, Cond.initialized RJxc12de]
def wsX6_init_r2 : List Cond := [Cond.code yJxc12de_init_da8c8 cJxc12de_init_da8c8 1 none, Cond.fieldLink RJxc12de 7 "java/util/AbstractList" "modCount" "I", Cond.methodLink RJxc12de 1 yJxa1e45_init_da8c8, Cond.instanceMethod yJxa1e45_init_da8c8, Cond.initialized RJxa1e45, Cond.code yJxa1e45_init_da8c8 cJxa1e45_init_da8c8 1 none, Cond.methodLink RJxa1e45 1 objectInit, Cond.methodLink RX6 18 yX0_init, Cond.instanceMethod yX0_init, Cond.code yX0_init cX0_init 1 none, Cond.methodLink RX0 3 objectInit, Cond.arrayClass .int, Cond.fieldLink RX0 9 "AlertIndex$Draft" "values" "[I", Cond.methodLink RX0 15 yJ7_fill_53178, Cond.static yJ7_fill_53178, Cond.initialized RJ7, Cond.code yJ7_fill_53178 cJ7_fill_53178 4 none, Cond.methodLink RX6 25 yX1_init, Cond.instanceMethod yX1_init, Cond.code yX1_init cX1_init 1 none, Cond.methodLink RX1 3 objectInit, Cond.classLink RX1 11 RX2, Cond.fieldLink RX1 13 "AlertIndex$PieceIndex" "firsts" "[LAlertIndex$Posting;"]
def wsX6_init : List Cond := .code yX6_init cX6_init 1 none :: ((wsX6_init_r1 ++ wsX6_init_r2) ++ wsJx4a65c0 ++ wsX60 ++ wsX00 ++ wsX10)
def wsJ8_hugeLength_7cf53 : List Cond := .code yJ8_hugeLength_7cf53 cJ8_hugeLength_7cf53 3 (some .int) :: ([.constant RJ8 200 (2147483639)])
def wsJ8_newLength_cabcc : List Cond := .code yJ8_newLength_cabcc cJ8_newLength_cabcc 4 (some .int) :: ([.methodLink RJ8 194 Lib.Math.max.name, .static Lib.Math.max.name, .initialized "java/lang/Math", .code Lib.Math.max.name Lib.Math.max.code 2 (some .int), .constant RJ8 200 (2147483639), .methodLink RJ8 201 yJ8_hugeLength_7cf53, .static yJ8_hugeLength_7cf53, .initialized RJ8, .code yJ8_hugeLength_7cf53 cJ8_hugeLength_7cf53 3 (some .int)])
def wsJ7_copyOf_6403c : List Cond := .code yJ7_copyOf_6403c cJ7_copyOf_6403c 4 (some (.array (.object "java/lang/Object"))) :: ([.classLink RJ7 110 "[Ljava/lang/Object;", .classLink RJ7 2 "java/lang/Object", .methodLink RJ7 304 Lib.Math.min.name, .static Lib.Math.min.name, .initialized "java/lang/Math", .code Lib.Math.min.name Lib.Math.min.code 2 (some .int), .methodLink RJ7 150 arraycopyName, .native arraycopyName, .static arraycopyName, .initialized "java/lang/System"])
def wsJ7_copyOf_1904c : List Cond := .code yJ7_copyOf_1904c cJ7_copyOf_1904c 2 (some (.array (.object "java/lang/Object"))) :: ([.methodLink RJ7 86 ⟨"java/lang/Object", "getClass", "()Ljava/lang/Class;"⟩, .selects "[Ljava/lang/Object;" ⟨"java/lang/Object", "getClass", "()Ljava/lang/Class;"⟩ ⟨"java/lang/Object", "getClass", "()Ljava/lang/Class;"⟩, .instanceMethod ⟨"java/lang/Object", "getClass", "()Ljava/lang/Class;"⟩, .native ⟨"java/lang/Object", "getClass", "()Ljava/lang/Class;"⟩, .methodLink RJ7 300 yJ7_copyOf_6403c, .static yJ7_copyOf_6403c, .initialized RJ7, .code yJ7_copyOf_6403c cJ7_copyOf_6403c 4 (some (.array (.object "java/lang/Object"))), .classLink RJ7 110 "[Ljava/lang/Object;", .classLink RJ7 2 "java/lang/Object", .methodLink RJ7 304 Lib.Math.min.name, .static Lib.Math.min.name, .initialized "java/lang/Math", .code Lib.Math.min.name Lib.Math.min.code 2 (some .int), .methodLink RJ7 150 arraycopyName, .native arraycopyName, .static arraycopyName, .initialized "java/lang/System"])
def wsJx4a65c_grow_92f84_r1 : List Cond := [Cond.fieldLink RJx4a65c 9 "java/util/ArrayList" "elementData" "[Ljava/lang/Object;", Cond.fieldLink RJx4a65c 39 "java/util/ArrayList" "DEFAULTCAPACITY_EMPTY_ELEMENTDATA" "[Ljava/lang/Object;", Cond.methodLink RJx4a65c 79 Lib.Math.max.name, Cond.static Lib.Math.max.name, Cond.initialized "java/lang/Math", Cond.code Lib.Math.max.name Lib.Math.max.code 2 (some .int), Cond.classLink RJx4a65c 7 "java/lang/Object", Cond.methodLink RJx4a65c 73 yJ8_newLength_cabcc, Cond.static yJ8_newLength_cabcc, Cond.initialized RJ8, Cond.code yJ8_newLength_cabcc cJ8_newLength_cabcc 4 (some .int), Cond.methodLink RJ8 194 Lib.Math.max.name, Cond.constant RJ8 200 (2147483639), Cond.methodLink RJ8 201 yJ8_hugeLength_7cf53, Cond.static yJ8_hugeLength_7cf53, Cond.code yJ8_hugeLength_7cf53 cJ8_hugeLength_7cf53 3 (some .int), Cond.methodLink RJx4a65c 66 yJ7_copyOf_1904c, Cond.static yJ7_copyOf_1904c, Cond.initialized RJ7, Cond.code yJ7_copyOf_1904c cJ7_copyOf_1904c 2 (some (.array (.object "java/lang/Object"))), Cond.methodLink RJ7 86 ⟨"java/lang/Object", "getClass", "()Ljava/lang/Class;"⟩, Cond.selects "[Ljava/lang/Object;" ⟨"java/lang/Object", "getClass", "()Ljava/lang/Class;"⟩ ⟨"java/lang/Object", "getClass", "()Ljava/lang/Class;"⟩, Cond.instanceMethod ⟨"java/lang/Object", "getClass", "()Ljava/lang/Class;"⟩, Cond.native ⟨"java/lang/Object", "getClass", "()Ljava/lang/Class;"⟩]
def wsJx4a65c_grow_92f84_r2 : List Cond := [Cond.methodLink RJ7 300 yJ7_copyOf_6403c, Cond.static yJ7_copyOf_6403c, Cond.code yJ7_copyOf_6403c cJ7_copyOf_6403c 4 (some (.array (.object "java/lang/Object"))), Cond.classLink RJ7 110 "[Ljava/lang/Object;", Cond.classLink RJ7 2 "java/lang/Object", Cond.methodLink RJ7 304 Lib.Math.min.name, Cond.static Lib.Math.min.name, Cond.code Lib.Math.min.name Lib.Math.min.code 2 (some .int), Cond.methodLink RJ7 150 arraycopyName, Cond.native arraycopyName, Cond.static arraycopyName, Cond.initialized "java/lang/System"]
def wsJx4a65c_grow_92f84 : List Cond := .code yJx4a65c_grow_92f84 cJx4a65c_grow_92f84 4 (some (.array (.object "java/lang/Object"))) :: ((wsJx4a65c_grow_92f84_r1 ++ wsJx4a65c_grow_92f84_r2) ++ wsJx4a65c0)
def wsJx4a65c_grow_d5877_r1 : List Cond := [Cond.fieldLink RJx4a65c 48 "java/util/ArrayList" "size" "I", Cond.methodLink RJx4a65c 69 yJx4a65c_grow_92f84, Cond.instanceMethod yJx4a65c_grow_92f84, Cond.selects RJx4a65c yJx4a65c_grow_92f84 yJx4a65c_grow_92f84, Cond.initialized RJx4a65c, Cond.code yJx4a65c_grow_92f84 cJx4a65c_grow_92f84 4 (some (.array (.object "java/lang/Object"))), Cond.fieldLink RJx4a65c 9 "java/util/ArrayList" "elementData" "[Ljava/lang/Object;", Cond.fieldLink RJx4a65c 39 "java/util/ArrayList" "DEFAULTCAPACITY_EMPTY_ELEMENTDATA" "[Ljava/lang/Object;", Cond.methodLink RJx4a65c 79 Lib.Math.max.name, Cond.static Lib.Math.max.name, Cond.initialized "java/lang/Math", Cond.code Lib.Math.max.name Lib.Math.max.code 2 (some .int), Cond.classLink RJx4a65c 7 "java/lang/Object", Cond.methodLink RJx4a65c 73 yJ8_newLength_cabcc, Cond.static yJ8_newLength_cabcc, Cond.initialized RJ8, Cond.code yJ8_newLength_cabcc cJ8_newLength_cabcc 4 (some .int), Cond.methodLink RJ8 194 Lib.Math.max.name, Cond.constant RJ8 200 (2147483639), Cond.methodLink RJ8 201 yJ8_hugeLength_7cf53, Cond.static yJ8_hugeLength_7cf53, Cond.code yJ8_hugeLength_7cf53 cJ8_hugeLength_7cf53 3 (some .int), Cond.methodLink RJx4a65c 66 yJ7_copyOf_1904c, Cond.static yJ7_copyOf_1904c]
def wsJx4a65c_grow_d5877_r2 : List Cond := [Cond.initialized RJ7, Cond.code yJ7_copyOf_1904c cJ7_copyOf_1904c 2 (some (.array (.object "java/lang/Object"))), Cond.methodLink RJ7 86 ⟨"java/lang/Object", "getClass", "()Ljava/lang/Class;"⟩, Cond.selects "[Ljava/lang/Object;" ⟨"java/lang/Object", "getClass", "()Ljava/lang/Class;"⟩ ⟨"java/lang/Object", "getClass", "()Ljava/lang/Class;"⟩, Cond.instanceMethod ⟨"java/lang/Object", "getClass", "()Ljava/lang/Class;"⟩, Cond.native ⟨"java/lang/Object", "getClass", "()Ljava/lang/Class;"⟩, Cond.methodLink RJ7 300 yJ7_copyOf_6403c, Cond.static yJ7_copyOf_6403c, Cond.code yJ7_copyOf_6403c cJ7_copyOf_6403c 4 (some (.array (.object "java/lang/Object"))), Cond.classLink RJ7 110 "[Ljava/lang/Object;", Cond.classLink RJ7 2 "java/lang/Object", Cond.methodLink RJ7 304 Lib.Math.min.name, Cond.static Lib.Math.min.name, Cond.code Lib.Math.min.name Lib.Math.min.code 2 (some .int), Cond.methodLink RJ7 150 arraycopyName, Cond.native arraycopyName, Cond.static arraycopyName, Cond.initialized "java/lang/System"]
def wsJx4a65c_grow_d5877 : List Cond := .code yJx4a65c_grow_d5877 cJx4a65c_grow_d5877 1 (some (.array (.object "java/lang/Object"))) :: ((wsJx4a65c_grow_d5877_r1 ++ wsJx4a65c_grow_d5877_r2) ++ wsJx4a65c0)
def wsJx4a65c_add_72be8_r1 : List Cond := [Cond.fieldLink RJx4a65c 48 "java/util/ArrayList" "size" "I", Cond.methodLink RJx4a65c 129 yJx4a65c_grow_d5877, Cond.instanceMethod yJx4a65c_grow_d5877, Cond.selects RJx4a65c yJx4a65c_grow_d5877 yJx4a65c_grow_d5877, Cond.initialized RJx4a65c, Cond.code yJx4a65c_grow_d5877 cJx4a65c_grow_d5877 1 (some (.array (.object "java/lang/Object"))), Cond.methodLink RJx4a65c 69 yJx4a65c_grow_92f84, Cond.instanceMethod yJx4a65c_grow_92f84, Cond.selects RJx4a65c yJx4a65c_grow_92f84 yJx4a65c_grow_92f84, Cond.code yJx4a65c_grow_92f84 cJx4a65c_grow_92f84 4 (some (.array (.object "java/lang/Object"))), Cond.fieldLink RJx4a65c 9 "java/util/ArrayList" "elementData" "[Ljava/lang/Object;", Cond.fieldLink RJx4a65c 39 "java/util/ArrayList" "DEFAULTCAPACITY_EMPTY_ELEMENTDATA" "[Ljava/lang/Object;", Cond.methodLink RJx4a65c 79 Lib.Math.max.name, Cond.static Lib.Math.max.name, Cond.initialized "java/lang/Math", Cond.code Lib.Math.max.name Lib.Math.max.code 2 (some .int), Cond.classLink RJx4a65c 7 "java/lang/Object", Cond.methodLink RJx4a65c 73 yJ8_newLength_cabcc, Cond.static yJ8_newLength_cabcc, Cond.initialized RJ8, Cond.code yJ8_newLength_cabcc cJ8_newLength_cabcc 4 (some .int), Cond.methodLink RJ8 194 Lib.Math.max.name, Cond.constant RJ8 200 (2147483639), Cond.methodLink RJ8 201 yJ8_hugeLength_7cf53]
def wsJx4a65c_add_72be8_r2 : List Cond := [Cond.static yJ8_hugeLength_7cf53, Cond.code yJ8_hugeLength_7cf53 cJ8_hugeLength_7cf53 3 (some .int), Cond.methodLink RJx4a65c 66 yJ7_copyOf_1904c, Cond.static yJ7_copyOf_1904c, Cond.initialized RJ7, Cond.code yJ7_copyOf_1904c cJ7_copyOf_1904c 2 (some (.array (.object "java/lang/Object"))), Cond.methodLink RJ7 86 ⟨"java/lang/Object", "getClass", "()Ljava/lang/Class;"⟩, Cond.selects "[Ljava/lang/Object;" ⟨"java/lang/Object", "getClass", "()Ljava/lang/Class;"⟩ ⟨"java/lang/Object", "getClass", "()Ljava/lang/Class;"⟩, Cond.instanceMethod ⟨"java/lang/Object", "getClass", "()Ljava/lang/Class;"⟩, Cond.native ⟨"java/lang/Object", "getClass", "()Ljava/lang/Class;"⟩, Cond.methodLink RJ7 300 yJ7_copyOf_6403c, Cond.static yJ7_copyOf_6403c, Cond.code yJ7_copyOf_6403c cJ7_copyOf_6403c 4 (some (.array (.object "java/lang/Object"))), Cond.classLink RJ7 110 "[Ljava/lang/Object;", Cond.classLink RJ7 2 "java/lang/Object", Cond.methodLink RJ7 304 Lib.Math.min.name, Cond.static Lib.Math.min.name, Cond.code Lib.Math.min.name Lib.Math.min.code 2 (some .int), Cond.methodLink RJ7 150 arraycopyName, Cond.native arraycopyName, Cond.static arraycopyName, Cond.initialized "java/lang/System"]
def wsJx4a65c_add_72be8 : List Cond := .code yJx4a65c_add_72be8 cJx4a65c_add_72be8 4 none :: ((wsJx4a65c_add_72be8_r1 ++ wsJx4a65c_add_72be8_r2) ++ wsJx4a65c0)
def wsJx4a65c_add_9ea2d_r1 : List Cond := [Cond.fieldLink RJx4a65c 63 "java/util/ArrayList" "modCount" "I", Cond.sameField "java/util/ArrayList" "java/util/AbstractList" "modCount" "I", Cond.fieldLink RJx4a65c 9 "java/util/ArrayList" "elementData" "[Ljava/lang/Object;", Cond.fieldLink RJx4a65c 48 "java/util/ArrayList" "size" "I", Cond.methodLink RJx4a65c 131 yJx4a65c_add_72be8, Cond.instanceMethod yJx4a65c_add_72be8, Cond.selects RJx4a65c yJx4a65c_add_72be8 yJx4a65c_add_72be8, Cond.initialized RJx4a65c, Cond.code yJx4a65c_add_72be8 cJx4a65c_add_72be8 4 none, Cond.methodLink RJx4a65c 129 yJx4a65c_grow_d5877, Cond.instanceMethod yJx4a65c_grow_d5877, Cond.selects RJx4a65c yJx4a65c_grow_d5877 yJx4a65c_grow_d5877, Cond.code yJx4a65c_grow_d5877 cJx4a65c_grow_d5877 1 (some (.array (.object "java/lang/Object"))), Cond.methodLink RJx4a65c 69 yJx4a65c_grow_92f84, Cond.instanceMethod yJx4a65c_grow_92f84, Cond.selects RJx4a65c yJx4a65c_grow_92f84 yJx4a65c_grow_92f84, Cond.code yJx4a65c_grow_92f84 cJx4a65c_grow_92f84 4 (some (.array (.object "java/lang/Object"))), Cond.fieldLink RJx4a65c 39 "java/util/ArrayList" "DEFAULTCAPACITY_EMPTY_ELEMENTDATA" "[Ljava/lang/Object;", Cond.methodLink RJx4a65c 79 Lib.Math.max.name, Cond.static Lib.Math.max.name, Cond.initialized "java/lang/Math", Cond.code Lib.Math.max.name Lib.Math.max.code 2 (some .int), Cond.classLink RJx4a65c 7 "java/lang/Object", Cond.methodLink RJx4a65c 73 yJ8_newLength_cabcc]
def wsJx4a65c_add_9ea2d_r2 : List Cond := [Cond.static yJ8_newLength_cabcc, Cond.initialized RJ8, Cond.code yJ8_newLength_cabcc cJ8_newLength_cabcc 4 (some .int), Cond.methodLink RJ8 194 Lib.Math.max.name, Cond.constant RJ8 200 (2147483639), Cond.methodLink RJ8 201 yJ8_hugeLength_7cf53, Cond.static yJ8_hugeLength_7cf53, Cond.code yJ8_hugeLength_7cf53 cJ8_hugeLength_7cf53 3 (some .int), Cond.methodLink RJx4a65c 66 yJ7_copyOf_1904c, Cond.static yJ7_copyOf_1904c, Cond.initialized RJ7, Cond.code yJ7_copyOf_1904c cJ7_copyOf_1904c 2 (some (.array (.object "java/lang/Object"))), Cond.methodLink RJ7 86 ⟨"java/lang/Object", "getClass", "()Ljava/lang/Class;"⟩, Cond.selects "[Ljava/lang/Object;" ⟨"java/lang/Object", "getClass", "()Ljava/lang/Class;"⟩ ⟨"java/lang/Object", "getClass", "()Ljava/lang/Class;"⟩, Cond.instanceMethod ⟨"java/lang/Object", "getClass", "()Ljava/lang/Class;"⟩, Cond.native ⟨"java/lang/Object", "getClass", "()Ljava/lang/Class;"⟩, Cond.methodLink RJ7 300 yJ7_copyOf_6403c, Cond.static yJ7_copyOf_6403c, Cond.code yJ7_copyOf_6403c cJ7_copyOf_6403c 4 (some (.array (.object "java/lang/Object"))), Cond.classLink RJ7 110 "[Ljava/lang/Object;", Cond.classLink RJ7 2 "java/lang/Object", Cond.methodLink RJ7 304 Lib.Math.min.name, Cond.static Lib.Math.min.name, Cond.code Lib.Math.min.name Lib.Math.min.code 2 (some .int)]
def wsJx4a65c_add_9ea2d_r3 : List Cond := [Cond.methodLink RJ7 150 arraycopyName, Cond.native arraycopyName, Cond.static arraycopyName, Cond.initialized "java/lang/System"]
def wsJx4a65c_add_9ea2d : List Cond := .code yJx4a65c_add_9ea2d cJx4a65c_add_9ea2d 2 (some .boolean) :: ((wsJx4a65c_add_9ea2d_r1 ++ (wsJx4a65c_add_9ea2d_r2 ++ wsJx4a65c_add_9ea2d_r3)) ++ wsJx4a65c0)
def wsX6_question_r1 : List Cond := [Cond.classLink RX6 40 "java/lang/IllegalStateException", Cond.initialized "java/lang/IllegalStateException", Cond.fieldLink RX6 10 "AlertIndex" "questions" "Ljava/util/List;", Cond.classLink RX6 47 RX4, Cond.instantiable RX4 6, Cond.initialized RX4, Cond.methodLink RX6 34 ⟨"java/util/List", "size", "()I"⟩, Cond.selects RJx4a65c ⟨"java/util/List", "size", "()I"⟩ yJx4a65c_size_8abf5, Cond.instanceMethod yJx4a65c_size_8abf5, Cond.initialized RJx4a65c, Cond.code yJx4a65c_size_8abf5 cJx4a65c_size_8abf5 1 (some .int), Cond.fieldLink RJx4a65c 48 "java/util/ArrayList" "size" "I", Cond.methodLink RX6 49 yX4_init, Cond.instanceMethod yX4_init, Cond.code yX4_init cX4_init 1 none, Cond.methodLink RX4 3 objectInit, Cond.instanceMethod objectInit, Cond.code objectInit ⟨#[0xb1]⟩ 1 none, Cond.classLink RX4 9 RJx4a65c, Cond.instantiable RJx4a65c 3, Cond.fieldLink RX4 12 "AlertIndex$Question" "products" "Ljava/util/List;", Cond.fieldLink RX4 18 "AlertIndex$Question" "isDropped" "Z", Cond.fieldLink RX4 22 "AlertIndex$Question" "quietMinutes" "I", Cond.fieldLink RX4 26 "AlertIndex$Question" "quietUntil" "I"]
def wsX6_question_r2 : List Cond := [Cond.fieldLink RX4 29 "AlertIndex$Question" "alerts" "I", Cond.fieldLink RX4 32 "AlertIndex$Question" "batch" "I", Cond.methodLink RX4 11 yJx4a65c_init_da8c8, Cond.instanceMethod yJx4a65c_init_da8c8, Cond.code yJx4a65c_init_da8c8 cJx4a65c_init_da8c8 1 none, Cond.fieldLink RJx4a65c 39 "java/util/ArrayList" "DEFAULTCAPACITY_EMPTY_ELEMENTDATA" "[Ljava/lang/Object;", Cond.fieldLink RJx4a65c 9 "java/util/ArrayList" "elementData" "[Ljava/lang/Object;", Cond.methodLink RJx4a65c 1 yJxc12de_init_da8c8, Cond.instanceMethod yJxc12de_init_da8c8, Cond.initialized RJxc12de, Cond.code yJxc12de_init_da8c8 cJxc12de_init_da8c8 1 none, Cond.fieldLink RJxc12de 7 "java/util/AbstractList" "modCount" "I", Cond.methodLink RJxc12de 1 yJxa1e45_init_da8c8, Cond.instanceMethod yJxa1e45_init_da8c8, Cond.initialized RJxa1e45, Cond.code yJxa1e45_init_da8c8 cJxa1e45_init_da8c8 1 none, Cond.methodLink RJxa1e45 1 objectInit, Cond.methodLink RX6 50 ⟨"java/util/List", "add", "(Ljava/lang/Object;)Z"⟩, Cond.selects RJx4a65c ⟨"java/util/List", "add", "(Ljava/lang/Object;)Z"⟩ yJx4a65c_add_9ea2d, Cond.instanceMethod yJx4a65c_add_9ea2d, Cond.code yJx4a65c_add_9ea2d cJx4a65c_add_9ea2d 2 (some .boolean), Cond.fieldLink RJx4a65c 63 "java/util/ArrayList" "modCount" "I", Cond.sameField "java/util/ArrayList" "java/util/AbstractList" "modCount" "I", Cond.methodLink RJx4a65c 131 yJx4a65c_add_72be8]
def wsX6_question_r3 : List Cond := [Cond.instanceMethod yJx4a65c_add_72be8, Cond.selects RJx4a65c yJx4a65c_add_72be8 yJx4a65c_add_72be8, Cond.code yJx4a65c_add_72be8 cJx4a65c_add_72be8 4 none, Cond.methodLink RJx4a65c 129 yJx4a65c_grow_d5877, Cond.instanceMethod yJx4a65c_grow_d5877, Cond.selects RJx4a65c yJx4a65c_grow_d5877 yJx4a65c_grow_d5877, Cond.code yJx4a65c_grow_d5877 cJx4a65c_grow_d5877 1 (some (.array (.object "java/lang/Object"))), Cond.methodLink RJx4a65c 69 yJx4a65c_grow_92f84, Cond.instanceMethod yJx4a65c_grow_92f84, Cond.selects RJx4a65c yJx4a65c_grow_92f84 yJx4a65c_grow_92f84, Cond.code yJx4a65c_grow_92f84 cJx4a65c_grow_92f84 4 (some (.array (.object "java/lang/Object"))), Cond.methodLink RJx4a65c 79 Lib.Math.max.name, Cond.static Lib.Math.max.name, Cond.initialized "java/lang/Math", Cond.code Lib.Math.max.name Lib.Math.max.code 2 (some .int), Cond.classLink RJx4a65c 7 "java/lang/Object", Cond.methodLink RJx4a65c 73 yJ8_newLength_cabcc, Cond.static yJ8_newLength_cabcc, Cond.initialized RJ8, Cond.code yJ8_newLength_cabcc cJ8_newLength_cabcc 4 (some .int), Cond.methodLink RJ8 194 Lib.Math.max.name, Cond.constant RJ8 200 (2147483639), Cond.methodLink RJ8 201 yJ8_hugeLength_7cf53, Cond.static yJ8_hugeLength_7cf53]
def wsX6_question_r4 : List Cond := [Cond.code yJ8_hugeLength_7cf53 cJ8_hugeLength_7cf53 3 (some .int), Cond.methodLink RJx4a65c 66 yJ7_copyOf_1904c, Cond.static yJ7_copyOf_1904c, Cond.initialized RJ7, Cond.code yJ7_copyOf_1904c cJ7_copyOf_1904c 2 (some (.array (.object "java/lang/Object"))), Cond.methodLink RJ7 86 ⟨"java/lang/Object", "getClass", "()Ljava/lang/Class;"⟩, Cond.selects "[Ljava/lang/Object;" ⟨"java/lang/Object", "getClass", "()Ljava/lang/Class;"⟩ ⟨"java/lang/Object", "getClass", "()Ljava/lang/Class;"⟩, Cond.instanceMethod ⟨"java/lang/Object", "getClass", "()Ljava/lang/Class;"⟩, Cond.native ⟨"java/lang/Object", "getClass", "()Ljava/lang/Class;"⟩, Cond.methodLink RJ7 300 yJ7_copyOf_6403c, Cond.static yJ7_copyOf_6403c, Cond.code yJ7_copyOf_6403c cJ7_copyOf_6403c 4 (some (.array (.object "java/lang/Object"))), Cond.classLink RJ7 110 "[Ljava/lang/Object;", Cond.classLink RJ7 2 "java/lang/Object", Cond.methodLink RJ7 304 Lib.Math.min.name, Cond.static Lib.Math.min.name, Cond.code Lib.Math.min.name Lib.Math.min.code 2 (some .int), Cond.methodLink RJ7 150 arraycopyName, Cond.native arraycopyName, Cond.static arraycopyName, Cond.initialized "java/lang/System"]
def wsX6_question : List Cond := .code yX6_question cX6_question 1 (some .int) :: ((wsX6_question_r1 ++ (wsX6_question_r2 ++ (wsX6_question_r3 ++ wsX6_question_r4))) ++ wsX60 ++ wsX40 ++ wsJx4a65c0 ++ (vx_atS RX6 44 "java/lang/IllegalStateException" ["java/lang/RuntimeException", "java/lang/Exception"]).filter goodWord)
def wsX6_questionOf_r1 : List Cond := [Cond.classLink RX6 157 "java/lang/IndexOutOfBoundsException", Cond.initialized "java/lang/IndexOutOfBoundsException", Cond.fieldLink RX6 10 "AlertIndex" "questions" "Ljava/util/List;", Cond.classLink RX6 47 "AlertIndex$Question", Cond.fieldLink RX6 97 "AlertIndex$Question" "isDropped" "Z", Cond.methodLink RX6 34 ⟨"java/util/List", "size", "()I"⟩, Cond.selects RJx4a65c ⟨"java/util/List", "size", "()I"⟩ yJx4a65c_size_8abf5, Cond.instanceMethod yJx4a65c_size_8abf5, Cond.initialized RJx4a65c, Cond.code yJx4a65c_size_8abf5 cJx4a65c_size_8abf5 1 (some .int), Cond.fieldLink RJx4a65c 48 "java/util/ArrayList" "size" "I", Cond.methodLink RX6 122 ⟨"java/util/List", "get", "(I)Ljava/lang/Object;"⟩, Cond.selects RJx4a65c ⟨"java/util/List", "get", "(I)Ljava/lang/Object;"⟩ yJx4a65c_get_915e3, Cond.instanceMethod yJx4a65c_get_915e3, Cond.code yJx4a65c_get_915e3 cJx4a65c_get_915e3 2 (some (.object "java/lang/Object")), Cond.methodLink RJx4a65c 118 yJ15_checkIndex_7cf53, Cond.static yJ15_checkIndex_7cf53, Cond.initialized RJ15, Cond.code yJ15_checkIndex_7cf53 cJ15_checkIndex_7cf53 2 (some .int), Cond.methodLink RJ15 105 yJ3_checkIndex_8e157, Cond.static yJ3_checkIndex_8e157, Cond.initialized RJ3, Cond.code yJ3_checkIndex_8e157 cJ3_checkIndex_8e157 3 (some .int), Cond.methodLink RJx4a65c 123 yJx4a65c_elementData_915e3]
def wsX6_questionOf_r2 : List Cond := [Cond.instanceMethod yJx4a65c_elementData_915e3, Cond.selects RJx4a65c yJx4a65c_elementData_915e3 yJx4a65c_elementData_915e3, Cond.code yJx4a65c_elementData_915e3 cJx4a65c_elementData_915e3 2 (some (.object "java/lang/Object")), Cond.fieldLink RJx4a65c 9 "java/util/ArrayList" "elementData" "[Ljava/lang/Object;"]
def wsX6_questionOf : List Cond := .code yX6_questionOf cX6_questionOf 3 (some (.object "AlertIndex$Question")) :: ((wsX6_questionOf_r1 ++ wsX6_questionOf_r2) ++ wsX60 ++ wsX40 ++ wsJx4a65c0 ++ (vx_atS RX6 161 "java/lang/IndexOutOfBoundsException" ["java/lang/RuntimeException", "java/lang/Exception"]).filter goodWord)
def wsX6_product_r1 : List Cond := [Cond.classLink RX6 40 "java/lang/IllegalStateException", Cond.initialized "java/lang/IllegalStateException", Cond.fieldLink RX6 58 "AlertIndex$Question" "products" "Ljava/util/List;", Cond.classLink RX6 63 RX3, Cond.instantiable RX3 3, Cond.initialized RX3, Cond.methodLink RX6 54 yX6_questionOf, Cond.instanceMethod yX6_questionOf, Cond.selects RX6 yX6_questionOf yX6_questionOf, Cond.initialized RX6, Cond.code yX6_questionOf cX6_questionOf 3 (some (.object "AlertIndex$Question")), Cond.classLink RX6 157 "java/lang/IndexOutOfBoundsException", Cond.initialized "java/lang/IndexOutOfBoundsException", Cond.fieldLink RX6 10 "AlertIndex" "questions" "Ljava/util/List;", Cond.classLink RX6 47 "AlertIndex$Question", Cond.fieldLink RX6 97 "AlertIndex$Question" "isDropped" "Z", Cond.methodLink RX6 34 ⟨"java/util/List", "size", "()I"⟩, Cond.selects RJx4a65c ⟨"java/util/List", "size", "()I"⟩ yJx4a65c_size_8abf5, Cond.instanceMethod yJx4a65c_size_8abf5, Cond.initialized RJx4a65c, Cond.code yJx4a65c_size_8abf5 cJx4a65c_size_8abf5 1 (some .int), Cond.fieldLink RJx4a65c 48 "java/util/ArrayList" "size" "I", Cond.methodLink RX6 122 ⟨"java/util/List", "get", "(I)Ljava/lang/Object;"⟩, Cond.selects RJx4a65c ⟨"java/util/List", "get", "(I)Ljava/lang/Object;"⟩ yJx4a65c_get_915e3]
def wsX6_product_r2 : List Cond := [Cond.instanceMethod yJx4a65c_get_915e3, Cond.code yJx4a65c_get_915e3 cJx4a65c_get_915e3 2 (some (.object "java/lang/Object")), Cond.methodLink RJx4a65c 118 yJ15_checkIndex_7cf53, Cond.static yJ15_checkIndex_7cf53, Cond.initialized RJ15, Cond.code yJ15_checkIndex_7cf53 cJ15_checkIndex_7cf53 2 (some .int), Cond.methodLink RJ15 105 yJ3_checkIndex_8e157, Cond.static yJ3_checkIndex_8e157, Cond.initialized RJ3, Cond.code yJ3_checkIndex_8e157 cJ3_checkIndex_8e157 3 (some .int), Cond.methodLink RJx4a65c 123 yJx4a65c_elementData_915e3, Cond.instanceMethod yJx4a65c_elementData_915e3, Cond.selects RJx4a65c yJx4a65c_elementData_915e3 yJx4a65c_elementData_915e3, Cond.code yJx4a65c_elementData_915e3 cJx4a65c_elementData_915e3 2 (some (.object "java/lang/Object")), Cond.fieldLink RJx4a65c 9 "java/util/ArrayList" "elementData" "[Ljava/lang/Object;", Cond.methodLink RX6 65 yX3_init, Cond.instanceMethod yX3_init, Cond.code yX3_init cX3_init 1 none, Cond.methodLink RX3 1 objectInit, Cond.instanceMethod objectInit, Cond.code objectInit ⟨#[0xb1]⟩ 1 none, Cond.classLink RX3 7 RJx4a65c, Cond.instantiable RJx4a65c 3, Cond.fieldLink RX3 10 "AlertIndex$Product" "tests" "Ljava/util/List;"]
def wsX6_product_r3 : List Cond := [Cond.fieldLink RX3 16 "AlertIndex$Product" "plainTests" "I", Cond.fieldLink RX3 20 "AlertIndex$Product" "hits" "I", Cond.methodLink RX3 9 yJx4a65c_init_da8c8, Cond.instanceMethod yJx4a65c_init_da8c8, Cond.code yJx4a65c_init_da8c8 cJx4a65c_init_da8c8 1 none, Cond.fieldLink RJx4a65c 39 "java/util/ArrayList" "DEFAULTCAPACITY_EMPTY_ELEMENTDATA" "[Ljava/lang/Object;", Cond.methodLink RJx4a65c 1 yJxc12de_init_da8c8, Cond.instanceMethod yJxc12de_init_da8c8, Cond.initialized RJxc12de, Cond.code yJxc12de_init_da8c8 cJxc12de_init_da8c8 1 none, Cond.fieldLink RJxc12de 7 "java/util/AbstractList" "modCount" "I", Cond.methodLink RJxc12de 1 yJxa1e45_init_da8c8, Cond.instanceMethod yJxa1e45_init_da8c8, Cond.initialized RJxa1e45, Cond.code yJxa1e45_init_da8c8 cJxa1e45_init_da8c8 1 none, Cond.methodLink RJxa1e45 1 objectInit, Cond.methodLink RX6 50 ⟨"java/util/List", "add", "(Ljava/lang/Object;)Z"⟩, Cond.selects RJx4a65c ⟨"java/util/List", "add", "(Ljava/lang/Object;)Z"⟩ yJx4a65c_add_9ea2d, Cond.instanceMethod yJx4a65c_add_9ea2d, Cond.code yJx4a65c_add_9ea2d cJx4a65c_add_9ea2d 2 (some .boolean), Cond.fieldLink RJx4a65c 63 "java/util/ArrayList" "modCount" "I", Cond.sameField "java/util/ArrayList" "java/util/AbstractList" "modCount" "I", Cond.methodLink RJx4a65c 131 yJx4a65c_add_72be8, Cond.instanceMethod yJx4a65c_add_72be8]
def wsX6_product_r4 : List Cond := [Cond.selects RJx4a65c yJx4a65c_add_72be8 yJx4a65c_add_72be8, Cond.code yJx4a65c_add_72be8 cJx4a65c_add_72be8 4 none, Cond.methodLink RJx4a65c 129 yJx4a65c_grow_d5877, Cond.instanceMethod yJx4a65c_grow_d5877, Cond.selects RJx4a65c yJx4a65c_grow_d5877 yJx4a65c_grow_d5877, Cond.code yJx4a65c_grow_d5877 cJx4a65c_grow_d5877 1 (some (.array (.object "java/lang/Object"))), Cond.methodLink RJx4a65c 69 yJx4a65c_grow_92f84, Cond.instanceMethod yJx4a65c_grow_92f84, Cond.selects RJx4a65c yJx4a65c_grow_92f84 yJx4a65c_grow_92f84, Cond.code yJx4a65c_grow_92f84 cJx4a65c_grow_92f84 4 (some (.array (.object "java/lang/Object"))), Cond.methodLink RJx4a65c 79 Lib.Math.max.name, Cond.static Lib.Math.max.name, Cond.initialized "java/lang/Math", Cond.code Lib.Math.max.name Lib.Math.max.code 2 (some .int), Cond.classLink RJx4a65c 7 "java/lang/Object", Cond.methodLink RJx4a65c 73 yJ8_newLength_cabcc, Cond.static yJ8_newLength_cabcc, Cond.initialized RJ8, Cond.code yJ8_newLength_cabcc cJ8_newLength_cabcc 4 (some .int), Cond.methodLink RJ8 194 Lib.Math.max.name, Cond.constant RJ8 200 (2147483639), Cond.methodLink RJ8 201 yJ8_hugeLength_7cf53, Cond.static yJ8_hugeLength_7cf53, Cond.code yJ8_hugeLength_7cf53 cJ8_hugeLength_7cf53 3 (some .int)]
def wsX6_product_r5 : List Cond := [Cond.methodLink RJx4a65c 66 yJ7_copyOf_1904c, Cond.static yJ7_copyOf_1904c, Cond.initialized RJ7, Cond.code yJ7_copyOf_1904c cJ7_copyOf_1904c 2 (some (.array (.object "java/lang/Object"))), Cond.methodLink RJ7 86 ⟨"java/lang/Object", "getClass", "()Ljava/lang/Class;"⟩, Cond.selects "[Ljava/lang/Object;" ⟨"java/lang/Object", "getClass", "()Ljava/lang/Class;"⟩ ⟨"java/lang/Object", "getClass", "()Ljava/lang/Class;"⟩, Cond.instanceMethod ⟨"java/lang/Object", "getClass", "()Ljava/lang/Class;"⟩, Cond.native ⟨"java/lang/Object", "getClass", "()Ljava/lang/Class;"⟩, Cond.methodLink RJ7 300 yJ7_copyOf_6403c, Cond.static yJ7_copyOf_6403c, Cond.code yJ7_copyOf_6403c cJ7_copyOf_6403c 4 (some (.array (.object "java/lang/Object"))), Cond.classLink RJ7 110 "[Ljava/lang/Object;", Cond.classLink RJ7 2 "java/lang/Object", Cond.methodLink RJ7 304 Lib.Math.min.name, Cond.static Lib.Math.min.name, Cond.code Lib.Math.min.name Lib.Math.min.code 2 (some .int), Cond.methodLink RJ7 150 arraycopyName, Cond.native arraycopyName, Cond.static arraycopyName, Cond.initialized "java/lang/System"]
def wsX6_product : List Cond := .code yX6_product cX6_product 3 (some .int) :: ((wsX6_product_r1 ++ (wsX6_product_r2 ++ (wsX6_product_r3 ++ (wsX6_product_r4 ++ wsX6_product_r5)))) ++ wsX40 ++ wsX30 ++ wsX60 ++ wsJx4a65c0 ++ (vx_atS RX6 44 "java/lang/IllegalStateException" ["java/lang/RuntimeException", "java/lang/Exception"]).filter goodWord ++ (vx_atS RX6 161 "java/lang/IndexOutOfBoundsException" ["java/lang/RuntimeException", "java/lang/Exception"]).filter goodWord)
def wsX6_refuseNoName : List Cond := .code yX6_refuseNoName cX6_refuseNoName 1 none :: ([.classLink RX6 157 "java/lang/IndexOutOfBoundsException", .initialized "java/lang/IndexOutOfBoundsException"] ++ (vx_atS RX6 161 "java/lang/IndexOutOfBoundsException" ["java/lang/RuntimeException", "java/lang/Exception"]).filter goodWord)
def wsX6_refuseNoRange : List Cond := .code yX6_refuseNoRange cX6_refuseNoRange 2 none :: ([.classLink RX6 104 "java/lang/IllegalArgumentException", .initialized "java/lang/IllegalArgumentException", .methodLink RX6 112 yX6_isValue, .static yX6_isValue, .initialized RX6, .code yX6_isValue cX6_isValue 1 (some .boolean)] ++ (vx_atS RX6 108 "java/lang/IllegalArgumentException" ["java/lang/RuntimeException", "java/lang/Exception"]).filter goodWord)
def wsX6_test_r1 : List Cond := [Cond.classLink RX6 40 "java/lang/IllegalStateException", Cond.initialized "java/lang/IllegalStateException", Cond.fieldLink RX6 80 "AlertIndex$Product" "tests" "Ljava/util/List;", Cond.classLink RX6 85 RX5, Cond.instantiable RX5 4, Cond.initialized RX5, Cond.fieldLink RX6 90 "AlertIndex$Product" "plainTests" "I", Cond.fieldLink RX6 26 "AlertIndex" "index" "LAlertIndex$PieceIndex;", Cond.methodLink RX6 54 yX6_questionOf, Cond.instanceMethod yX6_questionOf, Cond.selects RX6 yX6_questionOf yX6_questionOf, Cond.initialized RX6, Cond.code yX6_questionOf cX6_questionOf 3 (some (.object "AlertIndex$Question")), Cond.classLink RX6 157 "java/lang/IndexOutOfBoundsException", Cond.initialized "java/lang/IndexOutOfBoundsException", Cond.fieldLink RX6 10 "AlertIndex" "questions" "Ljava/util/List;", Cond.classLink RX6 47 "AlertIndex$Question", Cond.fieldLink RX6 97 "AlertIndex$Question" "isDropped" "Z", Cond.methodLink RX6 34 ⟨"java/util/List", "size", "()I"⟩, Cond.selects RJx4a65c ⟨"java/util/List", "size", "()I"⟩ yJx4a65c_size_8abf5, Cond.instanceMethod yJx4a65c_size_8abf5, Cond.initialized RJx4a65c, Cond.code yJx4a65c_size_8abf5 cJx4a65c_size_8abf5 1 (some .int), Cond.fieldLink RJx4a65c 48 "java/util/ArrayList" "size" "I"]
def wsX6_test_r2 : List Cond := [Cond.methodLink RX6 122 ⟨"java/util/List", "get", "(I)Ljava/lang/Object;"⟩, Cond.selects RJx4a65c ⟨"java/util/List", "get", "(I)Ljava/lang/Object;"⟩ yJx4a65c_get_915e3, Cond.instanceMethod yJx4a65c_get_915e3, Cond.code yJx4a65c_get_915e3 cJx4a65c_get_915e3 2 (some (.object "java/lang/Object")), Cond.methodLink RJx4a65c 118 yJ15_checkIndex_7cf53, Cond.static yJ15_checkIndex_7cf53, Cond.initialized RJ15, Cond.code yJ15_checkIndex_7cf53 cJ15_checkIndex_7cf53 2 (some .int), Cond.methodLink RJ15 105 yJ3_checkIndex_8e157, Cond.static yJ3_checkIndex_8e157, Cond.initialized RJ3, Cond.code yJ3_checkIndex_8e157 cJ3_checkIndex_8e157 3 (some .int), Cond.methodLink RJx4a65c 123 yJx4a65c_elementData_915e3, Cond.instanceMethod yJx4a65c_elementData_915e3, Cond.selects RJx4a65c yJx4a65c_elementData_915e3 yJx4a65c_elementData_915e3, Cond.code yJx4a65c_elementData_915e3 cJx4a65c_elementData_915e3 2 (some (.object "java/lang/Object")), Cond.fieldLink RJx4a65c 9 "java/util/ArrayList" "elementData" "[Ljava/lang/Object;", Cond.methodLink RX6 66 yX6_refuseNoName, Cond.static yX6_refuseNoName, Cond.code yX6_refuseNoName cX6_refuseNoName 1 none, Cond.methodLink RX6 70 yX6_refuseNoRange, Cond.static yX6_refuseNoRange, Cond.code yX6_refuseNoRange cX6_refuseNoRange 2 none, Cond.classLink RX6 104 "java/lang/IllegalArgumentException"]
def wsX6_test_r3 : List Cond := [Cond.initialized "java/lang/IllegalArgumentException", Cond.methodLink RX6 112 yX6_isValue, Cond.static yX6_isValue, Cond.code yX6_isValue cX6_isValue 1 (some .boolean), Cond.methodLink RX6 74 yX4_lastProduct, Cond.instanceMethod yX4_lastProduct, Cond.selects RX4 yX4_lastProduct yX4_lastProduct, Cond.initialized RX4, Cond.code yX4_lastProduct cX4_lastProduct 2 (some (.object "AlertIndex$Product")), Cond.fieldLink RX4 12 "AlertIndex$Question" "products" "Ljava/util/List;", Cond.classLink RX4 45 "AlertIndex$Product", Cond.methodLink RX4 35 ⟨"java/util/List", "size", "()I"⟩, Cond.methodLink RX4 41 ⟨"java/util/List", "get", "(I)Ljava/lang/Object;"⟩, Cond.methodLink RX6 87 yX5_init, Cond.instanceMethod yX5_init, Cond.code yX5_init cX5_init 5 none, Cond.methodLink RX5 3 objectInit, Cond.instanceMethod objectInit, Cond.code objectInit ⟨#[0xb1]⟩ 1 none, Cond.fieldLink RX5 9 "AlertIndex$Test" "name" "I", Cond.fieldLink RX5 15 "AlertIndex$Test" "low" "I", Cond.fieldLink RX5 18 "AlertIndex$Test" "high" "I", Cond.fieldLink RX5 21 "AlertIndex$Test" "isBarred" "Z", Cond.methodLink RX6 50 ⟨"java/util/List", "add", "(Ljava/lang/Object;)Z"⟩]
def wsX6_test_r4 : List Cond := [Cond.selects RJx4a65c ⟨"java/util/List", "add", "(Ljava/lang/Object;)Z"⟩ yJx4a65c_add_9ea2d, Cond.instanceMethod yJx4a65c_add_9ea2d, Cond.code yJx4a65c_add_9ea2d cJx4a65c_add_9ea2d 2 (some .boolean), Cond.fieldLink RJx4a65c 63 "java/util/ArrayList" "modCount" "I", Cond.sameField "java/util/ArrayList" "java/util/AbstractList" "modCount" "I", Cond.methodLink RJx4a65c 131 yJx4a65c_add_72be8, Cond.instanceMethod yJx4a65c_add_72be8, Cond.selects RJx4a65c yJx4a65c_add_72be8 yJx4a65c_add_72be8, Cond.code yJx4a65c_add_72be8 cJx4a65c_add_72be8 4 none, Cond.methodLink RJx4a65c 129 yJx4a65c_grow_d5877, Cond.instanceMethod yJx4a65c_grow_d5877, Cond.selects RJx4a65c yJx4a65c_grow_d5877 yJx4a65c_grow_d5877, Cond.code yJx4a65c_grow_d5877 cJx4a65c_grow_d5877 1 (some (.array (.object "java/lang/Object"))), Cond.methodLink RJx4a65c 69 yJx4a65c_grow_92f84, Cond.instanceMethod yJx4a65c_grow_92f84, Cond.selects RJx4a65c yJx4a65c_grow_92f84 yJx4a65c_grow_92f84, Cond.code yJx4a65c_grow_92f84 cJx4a65c_grow_92f84 4 (some (.array (.object "java/lang/Object"))), Cond.fieldLink RJx4a65c 39 "java/util/ArrayList" "DEFAULTCAPACITY_EMPTY_ELEMENTDATA" "[Ljava/lang/Object;", Cond.methodLink RJx4a65c 79 Lib.Math.max.name, Cond.static Lib.Math.max.name, Cond.initialized "java/lang/Math", Cond.code Lib.Math.max.name Lib.Math.max.code 2 (some .int), Cond.classLink RJx4a65c 7 "java/lang/Object", Cond.methodLink RJx4a65c 73 yJ8_newLength_cabcc]
def wsX6_test_r5 : List Cond := [Cond.static yJ8_newLength_cabcc, Cond.initialized RJ8, Cond.code yJ8_newLength_cabcc cJ8_newLength_cabcc 4 (some .int), Cond.methodLink RJ8 194 Lib.Math.max.name, Cond.constant RJ8 200 (2147483639), Cond.methodLink RJ8 201 yJ8_hugeLength_7cf53, Cond.static yJ8_hugeLength_7cf53, Cond.code yJ8_hugeLength_7cf53 cJ8_hugeLength_7cf53 3 (some .int), Cond.methodLink RJx4a65c 66 yJ7_copyOf_1904c, Cond.static yJ7_copyOf_1904c, Cond.initialized RJ7, Cond.code yJ7_copyOf_1904c cJ7_copyOf_1904c 2 (some (.array (.object "java/lang/Object"))), Cond.methodLink RJ7 86 ⟨"java/lang/Object", "getClass", "()Ljava/lang/Class;"⟩, Cond.selects "[Ljava/lang/Object;" ⟨"java/lang/Object", "getClass", "()Ljava/lang/Class;"⟩ ⟨"java/lang/Object", "getClass", "()Ljava/lang/Class;"⟩, Cond.instanceMethod ⟨"java/lang/Object", "getClass", "()Ljava/lang/Class;"⟩, Cond.native ⟨"java/lang/Object", "getClass", "()Ljava/lang/Class;"⟩, Cond.methodLink RJ7 300 yJ7_copyOf_6403c, Cond.static yJ7_copyOf_6403c, Cond.code yJ7_copyOf_6403c cJ7_copyOf_6403c 4 (some (.array (.object "java/lang/Object"))), Cond.classLink RJ7 110 "[Ljava/lang/Object;", Cond.classLink RJ7 2 "java/lang/Object", Cond.methodLink RJ7 304 Lib.Math.min.name, Cond.static Lib.Math.min.name, Cond.code Lib.Math.min.name Lib.Math.min.code 2 (some .int)]
def wsX6_test_r6 : List Cond := [Cond.methodLink RJ7 150 arraycopyName, Cond.native arraycopyName, Cond.static arraycopyName, Cond.initialized "java/lang/System", Cond.methodLink RX6 93 yX1_enter, Cond.instanceMethod yX1_enter, Cond.selects RX1 yX1_enter yX1_enter, Cond.initialized RX1, Cond.code yX1_enter cX1_enter 8 none, Cond.static yX6_levelOfPiece, Cond.code yX6_levelOfPiece cX6_levelOfPiece 4 (some .int), Cond.methodLink RX1 21 yX1_post, Cond.instanceMethod yX1_post, Cond.selects RX1 yX1_post yX1_post, Cond.code yX1_post cX1_post 3 none, Cond.fieldLink RX1 13 "AlertIndex$PieceIndex" "firsts" "[LAlertIndex$Posting;", Cond.classLink RX1 11 RX2, Cond.instantiable RX2 2, Cond.initialized RX2, Cond.methodLink RX1 25 yX2_init, Cond.instanceMethod yX2_init, Cond.code yX2_init cX2_init 3 none, Cond.methodLink RX2 1 objectInit, Cond.fieldLink RX2 7 "AlertIndex$Posting" "product" "LAlertIndex$Product;"]
def wsX6_test_r7 : List Cond := [Cond.fieldLink RX2 13 "AlertIndex$Posting" "next" "LAlertIndex$Posting;"]
def wsX6_test : List Cond := .code yX6_test cX6_test 8 (some .int) :: ((wsX6_test_r1 ++ (wsX6_test_r2 ++ (wsX6_test_r3 ++ (wsX6_test_r4 ++ (wsX6_test_r5 ++ (wsX6_test_r6 ++ wsX6_test_r7)))))) ++ wsX30 ++ wsX50 ++ wsX60 ++ wsX40 ++ wsJx4a65c0 ++ wsX10 ++ wsX20 ++ (vx_atS RX6 44 "java/lang/IllegalStateException" ["java/lang/RuntimeException", "java/lang/Exception"]).filter goodWord ++ (vx_atS RX6 161 "java/lang/IndexOutOfBoundsException" ["java/lang/RuntimeException", "java/lang/Exception"]).filter goodWord ++ (vx_atS RX6 108 "java/lang/IllegalArgumentException" ["java/lang/RuntimeException", "java/lang/Exception"]).filter goodWord)
def wsX6_drop_r1 : List Cond := [Cond.fieldLink RX6 97 "AlertIndex$Question" "isDropped" "Z", Cond.fieldLink RX6 101 "AlertIndex$Question" "batch" "I", Cond.methodLink RX6 54 yX6_questionOf, Cond.instanceMethod yX6_questionOf, Cond.selects RX6 yX6_questionOf yX6_questionOf, Cond.initialized RX6, Cond.code yX6_questionOf cX6_questionOf 3 (some (.object "AlertIndex$Question")), Cond.classLink RX6 157 "java/lang/IndexOutOfBoundsException", Cond.initialized "java/lang/IndexOutOfBoundsException", Cond.fieldLink RX6 10 "AlertIndex" "questions" "Ljava/util/List;", Cond.classLink RX6 47 "AlertIndex$Question", Cond.methodLink RX6 34 ⟨"java/util/List", "size", "()I"⟩, Cond.selects RJx4a65c ⟨"java/util/List", "size", "()I"⟩ yJx4a65c_size_8abf5, Cond.instanceMethod yJx4a65c_size_8abf5, Cond.initialized RJx4a65c, Cond.code yJx4a65c_size_8abf5 cJx4a65c_size_8abf5 1 (some .int), Cond.fieldLink RJx4a65c 48 "java/util/ArrayList" "size" "I", Cond.methodLink RX6 122 ⟨"java/util/List", "get", "(I)Ljava/lang/Object;"⟩, Cond.selects RJx4a65c ⟨"java/util/List", "get", "(I)Ljava/lang/Object;"⟩ yJx4a65c_get_915e3, Cond.instanceMethod yJx4a65c_get_915e3, Cond.code yJx4a65c_get_915e3 cJx4a65c_get_915e3 2 (some (.object "java/lang/Object")), Cond.methodLink RJx4a65c 118 yJ15_checkIndex_7cf53, Cond.static yJ15_checkIndex_7cf53, Cond.initialized RJ15]
def wsX6_drop_r2 : List Cond := [Cond.code yJ15_checkIndex_7cf53 cJ15_checkIndex_7cf53 2 (some .int), Cond.methodLink RJ15 105 yJ3_checkIndex_8e157, Cond.static yJ3_checkIndex_8e157, Cond.initialized RJ3, Cond.code yJ3_checkIndex_8e157 cJ3_checkIndex_8e157 3 (some .int), Cond.methodLink RJx4a65c 123 yJx4a65c_elementData_915e3, Cond.instanceMethod yJx4a65c_elementData_915e3, Cond.selects RJx4a65c yJx4a65c_elementData_915e3 yJx4a65c_elementData_915e3, Cond.code yJx4a65c_elementData_915e3 cJx4a65c_elementData_915e3 2 (some (.object "java/lang/Object")), Cond.fieldLink RJx4a65c 9 "java/util/ArrayList" "elementData" "[Ljava/lang/Object;"]
def wsX6_drop : List Cond := .code yX6_drop cX6_drop 3 (some .int) :: ((wsX6_drop_r1 ++ wsX6_drop_r2) ++ wsX40 ++ wsX60 ++ wsJx4a65c0 ++ (vx_atS RX6 161 "java/lang/IndexOutOfBoundsException" ["java/lang/RuntimeException", "java/lang/Exception"]).filter goodWord)
def wsX6_setQuiet_r1 : List Cond := [Cond.classLink RX6 104 "java/lang/IllegalArgumentException", Cond.initialized "java/lang/IllegalArgumentException", Cond.fieldLink RX6 109 "AlertIndex$Question" "quietMinutes" "I", Cond.methodLink RX6 54 yX6_questionOf, Cond.instanceMethod yX6_questionOf, Cond.selects RX6 yX6_questionOf yX6_questionOf, Cond.initialized RX6, Cond.code yX6_questionOf cX6_questionOf 3 (some (.object "AlertIndex$Question")), Cond.classLink RX6 157 "java/lang/IndexOutOfBoundsException", Cond.initialized "java/lang/IndexOutOfBoundsException", Cond.fieldLink RX6 10 "AlertIndex" "questions" "Ljava/util/List;", Cond.classLink RX6 47 "AlertIndex$Question", Cond.fieldLink RX6 97 "AlertIndex$Question" "isDropped" "Z", Cond.methodLink RX6 34 ⟨"java/util/List", "size", "()I"⟩, Cond.selects RJx4a65c ⟨"java/util/List", "size", "()I"⟩ yJx4a65c_size_8abf5, Cond.instanceMethod yJx4a65c_size_8abf5, Cond.initialized RJx4a65c, Cond.code yJx4a65c_size_8abf5 cJx4a65c_size_8abf5 1 (some .int), Cond.fieldLink RJx4a65c 48 "java/util/ArrayList" "size" "I", Cond.methodLink RX6 122 ⟨"java/util/List", "get", "(I)Ljava/lang/Object;"⟩, Cond.selects RJx4a65c ⟨"java/util/List", "get", "(I)Ljava/lang/Object;"⟩ yJx4a65c_get_915e3, Cond.instanceMethod yJx4a65c_get_915e3, Cond.code yJx4a65c_get_915e3 cJx4a65c_get_915e3 2 (some (.object "java/lang/Object")), Cond.methodLink RJx4a65c 118 yJ15_checkIndex_7cf53]
def wsX6_setQuiet_r2 : List Cond := [Cond.static yJ15_checkIndex_7cf53, Cond.initialized RJ15, Cond.code yJ15_checkIndex_7cf53 cJ15_checkIndex_7cf53 2 (some .int), Cond.methodLink RJ15 105 yJ3_checkIndex_8e157, Cond.static yJ3_checkIndex_8e157, Cond.initialized RJ3, Cond.code yJ3_checkIndex_8e157 cJ3_checkIndex_8e157 3 (some .int), Cond.methodLink RJx4a65c 123 yJx4a65c_elementData_915e3, Cond.instanceMethod yJx4a65c_elementData_915e3, Cond.selects RJx4a65c yJx4a65c_elementData_915e3 yJx4a65c_elementData_915e3, Cond.code yJx4a65c_elementData_915e3 cJx4a65c_elementData_915e3 2 (some (.object "java/lang/Object")), Cond.fieldLink RJx4a65c 9 "java/util/ArrayList" "elementData" "[Ljava/lang/Object;"]
def wsX6_setQuiet : List Cond := .code yX6_setQuiet cX6_setQuiet 5 (some .int) :: ((wsX6_setQuiet_r1 ++ wsX6_setQuiet_r2) ++ wsX40 ++ wsX60 ++ wsJx4a65c0 ++ (vx_atS RX6 108 "java/lang/IllegalArgumentException" ["java/lang/RuntimeException", "java/lang/Exception"]).filter goodWord ++ (vx_atS RX6 161 "java/lang/IndexOutOfBoundsException" ["java/lang/RuntimeException", "java/lang/Exception"]).filter goodWord)
def wsX6_set : List Cond := .code yX6_set cX6_set 3 (some .int) :: ([.classLink RX6 104 "java/lang/IllegalArgumentException", .initialized "java/lang/IllegalArgumentException", .fieldLink RX6 19 "AlertIndex" "draft" "LAlertIndex$Draft;", .methodLink RX6 66 yX6_refuseNoName, .static yX6_refuseNoName, .initialized RX6, .code yX6_refuseNoName cX6_refuseNoName 1 none, .classLink RX6 157 "java/lang/IndexOutOfBoundsException", .initialized "java/lang/IndexOutOfBoundsException", .methodLink RX6 112 yX6_isValue, .static yX6_isValue, .code yX6_isValue cX6_isValue 1 (some .boolean), .methodLink RX6 118 yX0_replace, .instanceMethod yX0_replace, .selects RX0 yX0_replace yX0_replace, .initialized RX0, .code yX0_replace cX0_replace 4 (some .int), .fieldLink RX0 9 "AlertIndex$Draft" "values" "[I", .methodLink RX0 21 yX0_valueOf, .instanceMethod yX0_valueOf, .selects RX0 yX0_valueOf yX0_valueOf, .code yX0_valueOf cX0_valueOf 2 (some .int)] ++ wsX60 ++ wsX00 ++ (vx_atS RX6 108 "java/lang/IllegalArgumentException" ["java/lang/RuntimeException", "java/lang/Exception"]).filter goodWord ++ (vx_atS RX6 161 "java/lang/IndexOutOfBoundsException" ["java/lang/RuntimeException", "java/lang/Exception"]).filter goodWord)
def wsX6_come_r1 : List Cond := [Cond.fieldLink RX6 10 "AlertIndex" "questions" "Ljava/util/List;", Cond.classLink RX6 47 "AlertIndex$Question", Cond.fieldLink RX6 19 "AlertIndex" "draft" "LAlertIndex$Draft;", Cond.fieldLink RX6 30 "AlertIndex" "minute" "I", Cond.methodLink RX6 34 ⟨"java/util/List", "size", "()I"⟩, Cond.selects RJx4a65c ⟨"java/util/List", "size", "()I"⟩ yJx4a65c_size_8abf5, Cond.instanceMethod yJx4a65c_size_8abf5, Cond.initialized RJx4a65c, Cond.code yJx4a65c_size_8abf5 cJx4a65c_size_8abf5 1 (some .int), Cond.fieldLink RJx4a65c 48 "java/util/ArrayList" "size" "I", Cond.methodLink RX6 122 ⟨"java/util/List", "get", "(I)Ljava/lang/Object;"⟩, Cond.selects RJx4a65c ⟨"java/util/List", "get", "(I)Ljava/lang/Object;"⟩ yJx4a65c_get_915e3, Cond.instanceMethod yJx4a65c_get_915e3, Cond.code yJx4a65c_get_915e3 cJx4a65c_get_915e3 2 (some (.object "java/lang/Object")), Cond.methodLink RJx4a65c 118 yJ15_checkIndex_7cf53, Cond.static yJ15_checkIndex_7cf53, Cond.initialized RJ15, Cond.code yJ15_checkIndex_7cf53 cJ15_checkIndex_7cf53 2 (some .int), Cond.methodLink RJ15 105 yJ3_checkIndex_8e157, Cond.static yJ3_checkIndex_8e157, Cond.initialized RJ3, Cond.code yJ3_checkIndex_8e157 cJ3_checkIndex_8e157 3 (some .int), Cond.methodLink RJx4a65c 123 yJx4a65c_elementData_915e3, Cond.instanceMethod yJx4a65c_elementData_915e3]
def wsX6_come_r2 : List Cond := [Cond.selects RJx4a65c yJx4a65c_elementData_915e3 yJx4a65c_elementData_915e3, Cond.code yJx4a65c_elementData_915e3 cJx4a65c_elementData_915e3 2 (some (.object "java/lang/Object")), Cond.fieldLink RJx4a65c 9 "java/util/ArrayList" "elementData" "[Ljava/lang/Object;", Cond.methodLink RX6 126 yX4_isSatisfied, Cond.instanceMethod yX4_isSatisfied, Cond.selects RX4 yX4_isSatisfied yX4_isSatisfied, Cond.initialized RX4, Cond.code yX4_isSatisfied cX4_isSatisfied 3 (some .boolean), Cond.fieldLink RX4 18 "AlertIndex$Question" "isDropped" "Z", Cond.fieldLink RX4 12 "AlertIndex$Question" "products" "Ljava/util/List;", Cond.classLink RX4 45 "AlertIndex$Product", Cond.methodLink RX4 35 ⟨"java/util/List", "size", "()I"⟩, Cond.methodLink RX4 41 ⟨"java/util/List", "get", "(I)Ljava/lang/Object;"⟩, Cond.methodLink RX4 60 yX3_isTrue, Cond.instanceMethod yX3_isTrue, Cond.selects RX3 yX3_isTrue yX3_isTrue, Cond.initialized RX3, Cond.code yX3_isTrue cX3_isTrue 3 (some .boolean), Cond.fieldLink RX3 10 "AlertIndex$Product" "tests" "Ljava/util/List;", Cond.classLink RX3 33 "AlertIndex$Test", Cond.methodLink RX3 23 ⟨"java/util/List", "size", "()I"⟩, Cond.methodLink RX3 29 ⟨"java/util/List", "get", "(I)Ljava/lang/Object;"⟩, Cond.methodLink RX3 35 yX5_isTrue, Cond.instanceMethod yX5_isTrue]
def wsX6_come_r3 : List Cond := [Cond.selects RX5 yX5_isTrue yX5_isTrue, Cond.initialized RX5, Cond.code yX5_isTrue cX5_isTrue 4 (some .boolean), Cond.fieldLink RX5 9 "AlertIndex$Test" "name" "I", Cond.fieldLink RX5 15 "AlertIndex$Test" "low" "I", Cond.fieldLink RX5 18 "AlertIndex$Test" "high" "I", Cond.fieldLink RX5 21 "AlertIndex$Test" "isBarred" "Z", Cond.methodLink RX5 25 yX0_valueOf, Cond.instanceMethod yX0_valueOf, Cond.selects RX0 yX0_valueOf yX0_valueOf, Cond.initialized RX0, Cond.code yX0_valueOf cX0_valueOf 2 (some .int), Cond.fieldLink RX0 9 "AlertIndex$Draft" "values" "[I", Cond.methodLink RX6 130 yX4_takeDocument, Cond.instanceMethod yX4_takeDocument, Cond.selects RX4 yX4_takeDocument yX4_takeDocument, Cond.code yX4_takeDocument cX4_takeDocument 2 (some .boolean), Cond.fieldLink RX4 32 "AlertIndex$Question" "batch" "I", Cond.methodLink RX4 70 yX4_isQuietAt, Cond.instanceMethod yX4_isQuietAt, Cond.selects RX4 yX4_isQuietAt yX4_isQuietAt, Cond.code yX4_isQuietAt cX4_isQuietAt 2 (some .boolean), Cond.fieldLink RX4 26 "AlertIndex$Question" "quietUntil" "I", Cond.methodLink RX4 74 yX4_raiseAlert]
def wsX6_come_r4 : List Cond := [Cond.instanceMethod yX4_raiseAlert, Cond.selects RX4 yX4_raiseAlert yX4_raiseAlert, Cond.code yX4_raiseAlert cX4_raiseAlert 2 none, Cond.fieldLink RX4 29 "AlertIndex$Question" "alerts" "I", Cond.fieldLink RX4 22 "AlertIndex$Question" "quietMinutes" "I"]
def wsX6_come : List Cond := .code yX6_come cX6_come 4 (some .int) :: ((wsX6_come_r1 ++ (wsX6_come_r2 ++ (wsX6_come_r3 ++ wsX6_come_r4))) ++ wsX60 ++ wsJx4a65c0 ++ wsX40 ++ wsX30 ++ wsX50 ++ wsX00)
def wsX6_advance_r1 : List Cond := [Cond.classLink RX6 104 "java/lang/IllegalArgumentException", Cond.initialized "java/lang/IllegalArgumentException", Cond.classLink RX6 40 "java/lang/IllegalStateException", Cond.initialized "java/lang/IllegalStateException", Cond.constant RX6 135 (1000000), Cond.fieldLink RX6 30 "AlertIndex" "minute" "I", Cond.fieldLink RX6 10 "AlertIndex" "questions" "Ljava/util/List;", Cond.classLink RX6 47 "AlertIndex$Question", Cond.methodLink RX6 34 ⟨"java/util/List", "size", "()I"⟩, Cond.selects RJx4a65c ⟨"java/util/List", "size", "()I"⟩ yJx4a65c_size_8abf5, Cond.instanceMethod yJx4a65c_size_8abf5, Cond.initialized RJx4a65c, Cond.code yJx4a65c_size_8abf5 cJx4a65c_size_8abf5 1 (some .int), Cond.fieldLink RJx4a65c 48 "java/util/ArrayList" "size" "I", Cond.methodLink RX6 122 ⟨"java/util/List", "get", "(I)Ljava/lang/Object;"⟩, Cond.selects RJx4a65c ⟨"java/util/List", "get", "(I)Ljava/lang/Object;"⟩ yJx4a65c_get_915e3, Cond.instanceMethod yJx4a65c_get_915e3, Cond.code yJx4a65c_get_915e3 cJx4a65c_get_915e3 2 (some (.object "java/lang/Object")), Cond.methodLink RJx4a65c 118 yJ15_checkIndex_7cf53, Cond.static yJ15_checkIndex_7cf53, Cond.initialized RJ15, Cond.code yJ15_checkIndex_7cf53 cJ15_checkIndex_7cf53 2 (some .int), Cond.methodLink RJ15 105 yJ3_checkIndex_8e157, Cond.static yJ3_checkIndex_8e157]
def wsX6_advance_r2 : List Cond := [Cond.initialized RJ3, Cond.code yJ3_checkIndex_8e157 cJ3_checkIndex_8e157 3 (some .int), Cond.methodLink RJx4a65c 123 yJx4a65c_elementData_915e3, Cond.instanceMethod yJx4a65c_elementData_915e3, Cond.selects RJx4a65c yJx4a65c_elementData_915e3 yJx4a65c_elementData_915e3, Cond.code yJx4a65c_elementData_915e3 cJx4a65c_elementData_915e3 2 (some (.object "java/lang/Object")), Cond.fieldLink RJx4a65c 9 "java/util/ArrayList" "elementData" "[Ljava/lang/Object;", Cond.methodLink RX6 138 yX4_sendBatch, Cond.instanceMethod yX4_sendBatch, Cond.selects RX4 yX4_sendBatch yX4_sendBatch, Cond.initialized RX4, Cond.code yX4_sendBatch cX4_sendBatch 2 (some .boolean), Cond.fieldLink RX4 18 "AlertIndex$Question" "isDropped" "Z", Cond.fieldLink RX4 32 "AlertIndex$Question" "batch" "I", Cond.fieldLink RX4 26 "AlertIndex$Question" "quietUntil" "I", Cond.methodLink RX4 70 yX4_isQuietAt, Cond.instanceMethod yX4_isQuietAt, Cond.selects RX4 yX4_isQuietAt yX4_isQuietAt, Cond.code yX4_isQuietAt cX4_isQuietAt 2 (some .boolean), Cond.methodLink RX4 74 yX4_raiseAlert, Cond.instanceMethod yX4_raiseAlert, Cond.selects RX4 yX4_raiseAlert yX4_raiseAlert, Cond.code yX4_raiseAlert cX4_raiseAlert 2 none, Cond.fieldLink RX4 29 "AlertIndex$Question" "alerts" "I"]
def wsX6_advance_r3 : List Cond := [Cond.fieldLink RX4 22 "AlertIndex$Question" "quietMinutes" "I"]
def wsX6_advance : List Cond := .code yX6_advance cX6_advance 4 (some .int) :: ((wsX6_advance_r1 ++ (wsX6_advance_r2 ++ wsX6_advance_r3)) ++ wsX60 ++ wsJx4a65c0 ++ wsX40 ++ (vx_atS RX6 108 "java/lang/IllegalArgumentException" ["java/lang/RuntimeException", "java/lang/Exception"]).filter goodWord ++ (vx_atS RX6 44 "java/lang/IllegalStateException" ["java/lang/RuntimeException", "java/lang/Exception"]).filter goodWord)
def wsX6_satisfies_r1 : List Cond := [Cond.fieldLink RX6 19 "AlertIndex" "draft" "LAlertIndex$Draft;", Cond.methodLink RX6 54 yX6_questionOf, Cond.instanceMethod yX6_questionOf, Cond.selects RX6 yX6_questionOf yX6_questionOf, Cond.initialized RX6, Cond.code yX6_questionOf cX6_questionOf 3 (some (.object "AlertIndex$Question")), Cond.classLink RX6 157 "java/lang/IndexOutOfBoundsException", Cond.initialized "java/lang/IndexOutOfBoundsException", Cond.fieldLink RX6 10 "AlertIndex" "questions" "Ljava/util/List;", Cond.classLink RX6 47 "AlertIndex$Question", Cond.fieldLink RX6 97 "AlertIndex$Question" "isDropped" "Z", Cond.methodLink RX6 34 ⟨"java/util/List", "size", "()I"⟩, Cond.selects RJx4a65c ⟨"java/util/List", "size", "()I"⟩ yJx4a65c_size_8abf5, Cond.instanceMethod yJx4a65c_size_8abf5, Cond.initialized RJx4a65c, Cond.code yJx4a65c_size_8abf5 cJx4a65c_size_8abf5 1 (some .int), Cond.fieldLink RJx4a65c 48 "java/util/ArrayList" "size" "I", Cond.methodLink RX6 122 ⟨"java/util/List", "get", "(I)Ljava/lang/Object;"⟩, Cond.selects RJx4a65c ⟨"java/util/List", "get", "(I)Ljava/lang/Object;"⟩ yJx4a65c_get_915e3, Cond.instanceMethod yJx4a65c_get_915e3, Cond.code yJx4a65c_get_915e3 cJx4a65c_get_915e3 2 (some (.object "java/lang/Object")), Cond.methodLink RJx4a65c 118 yJ15_checkIndex_7cf53, Cond.static yJ15_checkIndex_7cf53, Cond.initialized RJ15]
def wsX6_satisfies_r2 : List Cond := [Cond.code yJ15_checkIndex_7cf53 cJ15_checkIndex_7cf53 2 (some .int), Cond.methodLink RJ15 105 yJ3_checkIndex_8e157, Cond.static yJ3_checkIndex_8e157, Cond.initialized RJ3, Cond.code yJ3_checkIndex_8e157 cJ3_checkIndex_8e157 3 (some .int), Cond.methodLink RJx4a65c 123 yJx4a65c_elementData_915e3, Cond.instanceMethod yJx4a65c_elementData_915e3, Cond.selects RJx4a65c yJx4a65c_elementData_915e3 yJx4a65c_elementData_915e3, Cond.code yJx4a65c_elementData_915e3 cJx4a65c_elementData_915e3 2 (some (.object "java/lang/Object")), Cond.fieldLink RJx4a65c 9 "java/util/ArrayList" "elementData" "[Ljava/lang/Object;", Cond.methodLink RX6 126 yX4_isSatisfied, Cond.instanceMethod yX4_isSatisfied, Cond.selects RX4 yX4_isSatisfied yX4_isSatisfied, Cond.initialized RX4, Cond.code yX4_isSatisfied cX4_isSatisfied 3 (some .boolean), Cond.fieldLink RX4 18 "AlertIndex$Question" "isDropped" "Z", Cond.fieldLink RX4 12 "AlertIndex$Question" "products" "Ljava/util/List;", Cond.classLink RX4 45 "AlertIndex$Product", Cond.methodLink RX4 35 ⟨"java/util/List", "size", "()I"⟩, Cond.methodLink RX4 41 ⟨"java/util/List", "get", "(I)Ljava/lang/Object;"⟩, Cond.methodLink RX4 60 yX3_isTrue, Cond.instanceMethod yX3_isTrue, Cond.selects RX3 yX3_isTrue yX3_isTrue, Cond.initialized RX3]
def wsX6_satisfies_r3 : List Cond := [Cond.code yX3_isTrue cX3_isTrue 3 (some .boolean), Cond.fieldLink RX3 10 "AlertIndex$Product" "tests" "Ljava/util/List;", Cond.classLink RX3 33 "AlertIndex$Test", Cond.methodLink RX3 23 ⟨"java/util/List", "size", "()I"⟩, Cond.methodLink RX3 29 ⟨"java/util/List", "get", "(I)Ljava/lang/Object;"⟩, Cond.methodLink RX3 35 yX5_isTrue, Cond.instanceMethod yX5_isTrue, Cond.selects RX5 yX5_isTrue yX5_isTrue, Cond.initialized RX5, Cond.code yX5_isTrue cX5_isTrue 4 (some .boolean), Cond.fieldLink RX5 9 "AlertIndex$Test" "name" "I", Cond.fieldLink RX5 15 "AlertIndex$Test" "low" "I", Cond.fieldLink RX5 18 "AlertIndex$Test" "high" "I", Cond.fieldLink RX5 21 "AlertIndex$Test" "isBarred" "Z", Cond.methodLink RX5 25 yX0_valueOf, Cond.instanceMethod yX0_valueOf, Cond.selects RX0 yX0_valueOf yX0_valueOf, Cond.initialized RX0, Cond.code yX0_valueOf cX0_valueOf 2 (some .int), Cond.fieldLink RX0 9 "AlertIndex$Draft" "values" "[I"]
def wsX6_satisfies : List Cond := .code yX6_satisfies cX6_satisfies 2 (some .boolean) :: ((wsX6_satisfies_r1 ++ (wsX6_satisfies_r2 ++ wsX6_satisfies_r3)) ++ wsX60 ++ wsX40 ++ wsJx4a65c0 ++ wsX30 ++ wsX50 ++ wsX00 ++ (vx_atS RX6 161 "java/lang/IndexOutOfBoundsException" ["java/lang/RuntimeException", "java/lang/Exception"]).filter goodWord)
def wsX6_matching_r1 : List Cond := [Cond.fieldLink RX6 10 "AlertIndex" "questions" "Ljava/util/List;", Cond.classLink RX6 47 "AlertIndex$Question", Cond.fieldLink RX6 19 "AlertIndex" "draft" "LAlertIndex$Draft;", Cond.methodLink RX6 34 ⟨"java/util/List", "size", "()I"⟩, Cond.selects RJx4a65c ⟨"java/util/List", "size", "()I"⟩ yJx4a65c_size_8abf5, Cond.instanceMethod yJx4a65c_size_8abf5, Cond.initialized RJx4a65c, Cond.code yJx4a65c_size_8abf5 cJx4a65c_size_8abf5 1 (some .int), Cond.fieldLink RJx4a65c 48 "java/util/ArrayList" "size" "I", Cond.methodLink RX6 122 ⟨"java/util/List", "get", "(I)Ljava/lang/Object;"⟩, Cond.selects RJx4a65c ⟨"java/util/List", "get", "(I)Ljava/lang/Object;"⟩ yJx4a65c_get_915e3, Cond.instanceMethod yJx4a65c_get_915e3, Cond.code yJx4a65c_get_915e3 cJx4a65c_get_915e3 2 (some (.object "java/lang/Object")), Cond.methodLink RJx4a65c 118 yJ15_checkIndex_7cf53, Cond.static yJ15_checkIndex_7cf53, Cond.initialized RJ15, Cond.code yJ15_checkIndex_7cf53 cJ15_checkIndex_7cf53 2 (some .int), Cond.methodLink RJ15 105 yJ3_checkIndex_8e157, Cond.static yJ3_checkIndex_8e157, Cond.initialized RJ3, Cond.code yJ3_checkIndex_8e157 cJ3_checkIndex_8e157 3 (some .int), Cond.methodLink RJx4a65c 123 yJx4a65c_elementData_915e3, Cond.instanceMethod yJx4a65c_elementData_915e3, Cond.selects RJx4a65c yJx4a65c_elementData_915e3 yJx4a65c_elementData_915e3]
def wsX6_matching_r2 : List Cond := [Cond.code yJx4a65c_elementData_915e3 cJx4a65c_elementData_915e3 2 (some (.object "java/lang/Object")), Cond.fieldLink RJx4a65c 9 "java/util/ArrayList" "elementData" "[Ljava/lang/Object;", Cond.methodLink RX6 126 yX4_isSatisfied, Cond.instanceMethod yX4_isSatisfied, Cond.selects RX4 yX4_isSatisfied yX4_isSatisfied, Cond.initialized RX4, Cond.code yX4_isSatisfied cX4_isSatisfied 3 (some .boolean), Cond.fieldLink RX4 18 "AlertIndex$Question" "isDropped" "Z", Cond.fieldLink RX4 12 "AlertIndex$Question" "products" "Ljava/util/List;", Cond.classLink RX4 45 "AlertIndex$Product", Cond.methodLink RX4 35 ⟨"java/util/List", "size", "()I"⟩, Cond.methodLink RX4 41 ⟨"java/util/List", "get", "(I)Ljava/lang/Object;"⟩, Cond.methodLink RX4 60 yX3_isTrue, Cond.instanceMethod yX3_isTrue, Cond.selects RX3 yX3_isTrue yX3_isTrue, Cond.initialized RX3, Cond.code yX3_isTrue cX3_isTrue 3 (some .boolean), Cond.fieldLink RX3 10 "AlertIndex$Product" "tests" "Ljava/util/List;", Cond.classLink RX3 33 "AlertIndex$Test", Cond.methodLink RX3 23 ⟨"java/util/List", "size", "()I"⟩, Cond.methodLink RX3 29 ⟨"java/util/List", "get", "(I)Ljava/lang/Object;"⟩, Cond.methodLink RX3 35 yX5_isTrue, Cond.instanceMethod yX5_isTrue, Cond.selects RX5 yX5_isTrue yX5_isTrue]
def wsX6_matching_r3 : List Cond := [Cond.initialized RX5, Cond.code yX5_isTrue cX5_isTrue 4 (some .boolean), Cond.fieldLink RX5 9 "AlertIndex$Test" "name" "I", Cond.fieldLink RX5 15 "AlertIndex$Test" "low" "I", Cond.fieldLink RX5 18 "AlertIndex$Test" "high" "I", Cond.fieldLink RX5 21 "AlertIndex$Test" "isBarred" "Z", Cond.methodLink RX5 25 yX0_valueOf, Cond.instanceMethod yX0_valueOf, Cond.selects RX0 yX0_valueOf yX0_valueOf, Cond.initialized RX0, Cond.code yX0_valueOf cX0_valueOf 2 (some .int), Cond.fieldLink RX0 9 "AlertIndex$Draft" "values" "[I"]
def wsX6_matching : List Cond := .code yX6_matching cX6_matching 3 (some .int) :: ((wsX6_matching_r1 ++ (wsX6_matching_r2 ++ wsX6_matching_r3)) ++ wsX60 ++ wsJx4a65c0 ++ wsX40 ++ wsX30 ++ wsX50 ++ wsX00)
def wsX6_matchingByIndex_r1 : List Cond := [Cond.fieldLink RX6 10 "AlertIndex" "questions" "Ljava/util/List;", Cond.classLink RX6 47 "AlertIndex$Question", Cond.fieldLink RX6 26 "AlertIndex" "index" "LAlertIndex$PieceIndex;", Cond.fieldLink RX6 19 "AlertIndex" "draft" "LAlertIndex$Draft;", Cond.methodLink RX6 34 ⟨"java/util/List", "size", "()I"⟩, Cond.selects RJx4a65c ⟨"java/util/List", "size", "()I"⟩ yJx4a65c_size_8abf5, Cond.instanceMethod yJx4a65c_size_8abf5, Cond.initialized RJx4a65c, Cond.code yJx4a65c_size_8abf5 cJx4a65c_size_8abf5 1 (some .int), Cond.fieldLink RJx4a65c 48 "java/util/ArrayList" "size" "I", Cond.methodLink RX6 122 ⟨"java/util/List", "get", "(I)Ljava/lang/Object;"⟩, Cond.selects RJx4a65c ⟨"java/util/List", "get", "(I)Ljava/lang/Object;"⟩ yJx4a65c_get_915e3, Cond.instanceMethod yJx4a65c_get_915e3, Cond.code yJx4a65c_get_915e3 cJx4a65c_get_915e3 2 (some (.object "java/lang/Object")), Cond.methodLink RJx4a65c 118 yJ15_checkIndex_7cf53, Cond.static yJ15_checkIndex_7cf53, Cond.initialized RJ15, Cond.code yJ15_checkIndex_7cf53 cJ15_checkIndex_7cf53 2 (some .int), Cond.methodLink RJ15 105 yJ3_checkIndex_8e157, Cond.static yJ3_checkIndex_8e157, Cond.initialized RJ3, Cond.code yJ3_checkIndex_8e157 cJ3_checkIndex_8e157 3 (some .int), Cond.methodLink RJx4a65c 123 yJx4a65c_elementData_915e3, Cond.instanceMethod yJx4a65c_elementData_915e3]
def wsX6_matchingByIndex_r2 : List Cond := [Cond.selects RJx4a65c yJx4a65c_elementData_915e3 yJx4a65c_elementData_915e3, Cond.code yJx4a65c_elementData_915e3 cJx4a65c_elementData_915e3 2 (some (.object "java/lang/Object")), Cond.fieldLink RJx4a65c 9 "java/util/ArrayList" "elementData" "[Ljava/lang/Object;", Cond.methodLink RX6 141 yX4_forgetHits, Cond.instanceMethod yX4_forgetHits, Cond.selects RX4 yX4_forgetHits yX4_forgetHits, Cond.initialized RX4, Cond.code yX4_forgetHits cX4_forgetHits 2 none, Cond.fieldLink RX4 12 "AlertIndex$Question" "products" "Ljava/util/List;", Cond.classLink RX4 45 "AlertIndex$Product", Cond.fieldLink RX4 67 "AlertIndex$Product" "hits" "I", Cond.methodLink RX4 35 ⟨"java/util/List", "size", "()I"⟩, Cond.methodLink RX4 41 ⟨"java/util/List", "get", "(I)Ljava/lang/Object;"⟩, Cond.methodLink RX6 144 yX1_countHits, Cond.instanceMethod yX1_countHits, Cond.selects RX1 yX1_countHits yX1_countHits, Cond.initialized RX1, Cond.code yX1_countHits cX1_countHits 4 none, Cond.methodLink RX1 28 yX0_valueOf, Cond.instanceMethod yX0_valueOf, Cond.selects RX0 yX0_valueOf yX0_valueOf, Cond.initialized RX0, Cond.code yX0_valueOf cX0_valueOf 2 (some .int), Cond.fieldLink RX0 9 "AlertIndex$Draft" "values" "[I"]
def wsX6_matchingByIndex_r3 : List Cond := [Cond.static yX6_isValue, Cond.initialized RX6, Cond.code yX6_isValue cX6_isValue 1 (some .boolean), Cond.methodLink RX1 38 yX1_hitAbove, Cond.instanceMethod yX1_hitAbove, Cond.selects RX1 yX1_hitAbove yX1_hitAbove, Cond.code yX1_hitAbove cX1_hitAbove 5 none, Cond.fieldLink RX1 46 "AlertIndex$Posting" "product" "LAlertIndex$Product;", Cond.fieldLink RX1 50 "AlertIndex$Product" "hits" "I", Cond.fieldLink RX1 56 "AlertIndex$Posting" "next" "LAlertIndex$Posting;", Cond.methodLink RX1 42 yX1_firstAt, Cond.instanceMethod yX1_firstAt, Cond.selects RX1 yX1_firstAt yX1_firstAt, Cond.code yX1_firstAt cX1_firstAt 2 (some (.object "AlertIndex$Posting")), Cond.fieldLink RX1 13 "AlertIndex$PieceIndex" "firsts" "[LAlertIndex$Posting;", Cond.methodLink RX6 148 yX4_isSatisfiedByHits, Cond.instanceMethod yX4_isSatisfiedByHits, Cond.selects RX4 yX4_isSatisfiedByHits yX4_isSatisfiedByHits, Cond.code yX4_isSatisfiedByHits cX4_isSatisfiedByHits 3 (some .boolean), Cond.fieldLink RX4 18 "AlertIndex$Question" "isDropped" "Z", Cond.methodLink RX4 64 yX3_isTrueByHits, Cond.instanceMethod yX3_isTrueByHits, Cond.selects RX3 yX3_isTrueByHits yX3_isTrueByHits, Cond.initialized RX3]
def wsX6_matchingByIndex_r4 : List Cond := [Cond.code yX3_isTrueByHits cX3_isTrueByHits 4 (some .boolean), Cond.fieldLink RX3 20 "AlertIndex$Product" "hits" "I", Cond.fieldLink RX3 16 "AlertIndex$Product" "plainTests" "I", Cond.fieldLink RX3 10 "AlertIndex$Product" "tests" "Ljava/util/List;", Cond.classLink RX3 33 "AlertIndex$Test", Cond.fieldLink RX3 39 "AlertIndex$Test" "isBarred" "Z", Cond.methodLink RX3 23 ⟨"java/util/List", "size", "()I"⟩, Cond.methodLink RX3 29 ⟨"java/util/List", "get", "(I)Ljava/lang/Object;"⟩, Cond.methodLink RX3 35 yX5_isTrue, Cond.instanceMethod yX5_isTrue, Cond.selects RX5 yX5_isTrue yX5_isTrue, Cond.initialized RX5, Cond.code yX5_isTrue cX5_isTrue 4 (some .boolean), Cond.fieldLink RX5 9 "AlertIndex$Test" "name" "I", Cond.fieldLink RX5 15 "AlertIndex$Test" "low" "I", Cond.fieldLink RX5 18 "AlertIndex$Test" "high" "I", Cond.fieldLink RX5 21 "AlertIndex$Test" "isBarred" "Z", Cond.methodLink RX5 25 yX0_valueOf]
def wsX6_matchingByIndex : List Cond := .code yX6_matchingByIndex cX6_matchingByIndex 3 (some .int) :: ((wsX6_matchingByIndex_r1 ++ (wsX6_matchingByIndex_r2 ++ (wsX6_matchingByIndex_r3 ++ wsX6_matchingByIndex_r4))) ++ wsX60 ++ wsJx4a65c0 ++ wsX40 ++ wsX30 ++ wsX00 ++ wsX20 ++ wsX10 ++ wsX50)
def wsX6_sizeOf_r1 : List Cond := [Cond.methodLink RX6 54 yX6_questionOf, Cond.instanceMethod yX6_questionOf, Cond.selects RX6 yX6_questionOf yX6_questionOf, Cond.initialized RX6, Cond.code yX6_questionOf cX6_questionOf 3 (some (.object "AlertIndex$Question")), Cond.classLink RX6 157 "java/lang/IndexOutOfBoundsException", Cond.initialized "java/lang/IndexOutOfBoundsException", Cond.fieldLink RX6 10 "AlertIndex" "questions" "Ljava/util/List;", Cond.classLink RX6 47 "AlertIndex$Question", Cond.fieldLink RX6 97 "AlertIndex$Question" "isDropped" "Z", Cond.methodLink RX6 34 ⟨"java/util/List", "size", "()I"⟩, Cond.selects RJx4a65c ⟨"java/util/List", "size", "()I"⟩ yJx4a65c_size_8abf5, Cond.instanceMethod yJx4a65c_size_8abf5, Cond.initialized RJx4a65c, Cond.code yJx4a65c_size_8abf5 cJx4a65c_size_8abf5 1 (some .int), Cond.fieldLink RJx4a65c 48 "java/util/ArrayList" "size" "I", Cond.methodLink RX6 122 ⟨"java/util/List", "get", "(I)Ljava/lang/Object;"⟩, Cond.selects RJx4a65c ⟨"java/util/List", "get", "(I)Ljava/lang/Object;"⟩ yJx4a65c_get_915e3, Cond.instanceMethod yJx4a65c_get_915e3, Cond.code yJx4a65c_get_915e3 cJx4a65c_get_915e3 2 (some (.object "java/lang/Object")), Cond.methodLink RJx4a65c 118 yJ15_checkIndex_7cf53, Cond.static yJ15_checkIndex_7cf53, Cond.initialized RJ15, Cond.code yJ15_checkIndex_7cf53 cJ15_checkIndex_7cf53 2 (some .int)]
def wsX6_sizeOf_r2 : List Cond := [Cond.methodLink RJ15 105 yJ3_checkIndex_8e157, Cond.static yJ3_checkIndex_8e157, Cond.initialized RJ3, Cond.code yJ3_checkIndex_8e157 cJ3_checkIndex_8e157 3 (some .int), Cond.methodLink RJx4a65c 123 yJx4a65c_elementData_915e3, Cond.instanceMethod yJx4a65c_elementData_915e3, Cond.selects RJx4a65c yJx4a65c_elementData_915e3 yJx4a65c_elementData_915e3, Cond.code yJx4a65c_elementData_915e3 cJx4a65c_elementData_915e3 2 (some (.object "java/lang/Object")), Cond.fieldLink RJx4a65c 9 "java/util/ArrayList" "elementData" "[Ljava/lang/Object;", Cond.methodLink RX6 151 yX4_leastSize, Cond.instanceMethod yX4_leastSize, Cond.selects RX4 yX4_leastSize yX4_leastSize, Cond.initialized RX4, Cond.code yX4_leastSize cX4_leastSize 3 (some .int), Cond.fieldLink RX4 12 "AlertIndex$Question" "products" "Ljava/util/List;", Cond.classLink RX4 45 "AlertIndex$Product", Cond.fieldLink RX4 47 "AlertIndex$Product" "plainTests" "I", Cond.methodLink RX4 50 Lib.Math.min.name, Cond.static Lib.Math.min.name, Cond.initialized "java/lang/Math", Cond.code Lib.Math.min.name Lib.Math.min.code 2 (some .int), Cond.methodLink RX4 35 ⟨"java/util/List", "size", "()I"⟩, Cond.methodLink RX4 41 ⟨"java/util/List", "get", "(I)Ljava/lang/Object;"⟩, Cond.methodLink RX4 56 ⟨"java/util/List", "isEmpty", "()Z"⟩]
def wsX6_sizeOf_r3 : List Cond := [Cond.selects RJx4a65c ⟨"java/util/List", "isEmpty", "()Z"⟩ yJx4a65c_isEmpty_aae02, Cond.instanceMethod yJx4a65c_isEmpty_aae02, Cond.code yJx4a65c_isEmpty_aae02 cJx4a65c_isEmpty_aae02 1 (some .boolean)]
def wsX6_sizeOf : List Cond := .code yX6_sizeOf cX6_sizeOf 2 (some .int) :: ((wsX6_sizeOf_r1 ++ (wsX6_sizeOf_r2 ++ wsX6_sizeOf_r3)) ++ wsX60 ++ wsX40 ++ wsJx4a65c0 ++ wsX30 ++ (vx_atS RX6 161 "java/lang/IndexOutOfBoundsException" ["java/lang/RuntimeException", "java/lang/Exception"]).filter goodWord)
def wsX6_withSize_r1 : List Cond := [Cond.fieldLink RX6 10 "AlertIndex" "questions" "Ljava/util/List;", Cond.classLink RX6 47 "AlertIndex$Question", Cond.fieldLink RX6 97 "AlertIndex$Question" "isDropped" "Z", Cond.methodLink RX6 34 ⟨"java/util/List", "size", "()I"⟩, Cond.selects RJx4a65c ⟨"java/util/List", "size", "()I"⟩ yJx4a65c_size_8abf5, Cond.instanceMethod yJx4a65c_size_8abf5, Cond.initialized RJx4a65c, Cond.code yJx4a65c_size_8abf5 cJx4a65c_size_8abf5 1 (some .int), Cond.fieldLink RJx4a65c 48 "java/util/ArrayList" "size" "I", Cond.methodLink RX6 122 ⟨"java/util/List", "get", "(I)Ljava/lang/Object;"⟩, Cond.selects RJx4a65c ⟨"java/util/List", "get", "(I)Ljava/lang/Object;"⟩ yJx4a65c_get_915e3, Cond.instanceMethod yJx4a65c_get_915e3, Cond.code yJx4a65c_get_915e3 cJx4a65c_get_915e3 2 (some (.object "java/lang/Object")), Cond.methodLink RJx4a65c 118 yJ15_checkIndex_7cf53, Cond.static yJ15_checkIndex_7cf53, Cond.initialized RJ15, Cond.code yJ15_checkIndex_7cf53 cJ15_checkIndex_7cf53 2 (some .int), Cond.methodLink RJ15 105 yJ3_checkIndex_8e157, Cond.static yJ3_checkIndex_8e157, Cond.initialized RJ3, Cond.code yJ3_checkIndex_8e157 cJ3_checkIndex_8e157 3 (some .int), Cond.methodLink RJx4a65c 123 yJx4a65c_elementData_915e3, Cond.instanceMethod yJx4a65c_elementData_915e3, Cond.selects RJx4a65c yJx4a65c_elementData_915e3 yJx4a65c_elementData_915e3]
def wsX6_withSize_r2 : List Cond := [Cond.code yJx4a65c_elementData_915e3 cJx4a65c_elementData_915e3 2 (some (.object "java/lang/Object")), Cond.fieldLink RJx4a65c 9 "java/util/ArrayList" "elementData" "[Ljava/lang/Object;", Cond.methodLink RX6 151 yX4_leastSize, Cond.instanceMethod yX4_leastSize, Cond.selects RX4 yX4_leastSize yX4_leastSize, Cond.initialized RX4, Cond.code yX4_leastSize cX4_leastSize 3 (some .int), Cond.fieldLink RX4 12 "AlertIndex$Question" "products" "Ljava/util/List;", Cond.classLink RX4 45 "AlertIndex$Product", Cond.fieldLink RX4 47 "AlertIndex$Product" "plainTests" "I", Cond.methodLink RX4 50 Lib.Math.min.name, Cond.static Lib.Math.min.name, Cond.initialized "java/lang/Math", Cond.code Lib.Math.min.name Lib.Math.min.code 2 (some .int), Cond.methodLink RX4 35 ⟨"java/util/List", "size", "()I"⟩, Cond.methodLink RX4 41 ⟨"java/util/List", "get", "(I)Ljava/lang/Object;"⟩, Cond.methodLink RX4 56 ⟨"java/util/List", "isEmpty", "()Z"⟩, Cond.selects RJx4a65c ⟨"java/util/List", "isEmpty", "()Z"⟩ yJx4a65c_isEmpty_aae02, Cond.instanceMethod yJx4a65c_isEmpty_aae02, Cond.code yJx4a65c_isEmpty_aae02 cJx4a65c_isEmpty_aae02 1 (some .boolean)]
def wsX6_withSize : List Cond := .code yX6_withSize cX6_withSize 5 (some .int) :: ((wsX6_withSize_r1 ++ wsX6_withSize_r2) ++ wsX60 ++ wsX40 ++ wsJx4a65c0 ++ wsX30)
def wsX6_pieces : List Cond := .code yX6_pieces cX6_pieces 5 (some .int) :: ([.methodLink RX6 70 yX6_refuseNoRange, .static yX6_refuseNoRange, .initialized RX6, .code yX6_refuseNoRange cX6_refuseNoRange 2 none, .classLink RX6 104 "java/lang/IllegalArgumentException", .initialized "java/lang/IllegalArgumentException", .methodLink RX6 112 yX6_isValue, .static yX6_isValue, .code yX6_isValue cX6_isValue 1 (some .boolean), .methodLink RX6 154 yX6_levelOfPiece, .static yX6_levelOfPiece, .code yX6_levelOfPiece cX6_levelOfPiece 4 (some .int)] ++ (vx_atS RX6 108 "java/lang/IllegalArgumentException" ["java/lang/RuntimeException", "java/lang/Exception"]).filter goodWord)
def wsX6_pieceAt : List Cond := .code yX6_pieceAt cX6_pieceAt 6 (some .int) :: ([.classLink RX6 157 "java/lang/IndexOutOfBoundsException", .initialized "java/lang/IndexOutOfBoundsException", .methodLink RX6 70 yX6_refuseNoRange, .static yX6_refuseNoRange, .initialized RX6, .code yX6_refuseNoRange cX6_refuseNoRange 2 none, .classLink RX6 104 "java/lang/IllegalArgumentException", .initialized "java/lang/IllegalArgumentException", .methodLink RX6 112 yX6_isValue, .static yX6_isValue, .code yX6_isValue cX6_isValue 1 (some .boolean), .methodLink RX6 154 yX6_levelOfPiece, .static yX6_levelOfPiece, .code yX6_levelOfPiece cX6_levelOfPiece 4 (some .int)] ++ (vx_atS RX6 161 "java/lang/IndexOutOfBoundsException" ["java/lang/RuntimeException", "java/lang/Exception"]).filter goodWord ++ (vx_atS RX6 108 "java/lang/IllegalArgumentException" ["java/lang/RuntimeException", "java/lang/Exception"]).filter goodWord)
def wsX6_minute : List Cond := .code yX6_minute cX6_minute 1 (some .int) :: ([.fieldLink RX6 30 "AlertIndex" "minute" "I"] ++ wsX60)
def wsX6_isQuiet_r1 : List Cond := [Cond.fieldLink RX6 30 "AlertIndex" "minute" "I", Cond.methodLink RX6 54 yX6_questionOf, Cond.instanceMethod yX6_questionOf, Cond.selects RX6 yX6_questionOf yX6_questionOf, Cond.initialized RX6, Cond.code yX6_questionOf cX6_questionOf 3 (some (.object "AlertIndex$Question")), Cond.classLink RX6 157 "java/lang/IndexOutOfBoundsException", Cond.initialized "java/lang/IndexOutOfBoundsException", Cond.fieldLink RX6 10 "AlertIndex" "questions" "Ljava/util/List;", Cond.classLink RX6 47 "AlertIndex$Question", Cond.fieldLink RX6 97 "AlertIndex$Question" "isDropped" "Z", Cond.methodLink RX6 34 ⟨"java/util/List", "size", "()I"⟩, Cond.selects RJx4a65c ⟨"java/util/List", "size", "()I"⟩ yJx4a65c_size_8abf5, Cond.instanceMethod yJx4a65c_size_8abf5, Cond.initialized RJx4a65c, Cond.code yJx4a65c_size_8abf5 cJx4a65c_size_8abf5 1 (some .int), Cond.fieldLink RJx4a65c 48 "java/util/ArrayList" "size" "I", Cond.methodLink RX6 122 ⟨"java/util/List", "get", "(I)Ljava/lang/Object;"⟩, Cond.selects RJx4a65c ⟨"java/util/List", "get", "(I)Ljava/lang/Object;"⟩ yJx4a65c_get_915e3, Cond.instanceMethod yJx4a65c_get_915e3, Cond.code yJx4a65c_get_915e3 cJx4a65c_get_915e3 2 (some (.object "java/lang/Object")), Cond.methodLink RJx4a65c 118 yJ15_checkIndex_7cf53, Cond.static yJ15_checkIndex_7cf53, Cond.initialized RJ15]
def wsX6_isQuiet_r2 : List Cond := [Cond.code yJ15_checkIndex_7cf53 cJ15_checkIndex_7cf53 2 (some .int), Cond.methodLink RJ15 105 yJ3_checkIndex_8e157, Cond.static yJ3_checkIndex_8e157, Cond.initialized RJ3, Cond.code yJ3_checkIndex_8e157 cJ3_checkIndex_8e157 3 (some .int), Cond.methodLink RJx4a65c 123 yJx4a65c_elementData_915e3, Cond.instanceMethod yJx4a65c_elementData_915e3, Cond.selects RJx4a65c yJx4a65c_elementData_915e3 yJx4a65c_elementData_915e3, Cond.code yJx4a65c_elementData_915e3 cJx4a65c_elementData_915e3 2 (some (.object "java/lang/Object")), Cond.fieldLink RJx4a65c 9 "java/util/ArrayList" "elementData" "[Ljava/lang/Object;", Cond.methodLink RX6 162 yX4_isQuietAt, Cond.instanceMethod yX4_isQuietAt, Cond.selects RX4 yX4_isQuietAt yX4_isQuietAt, Cond.initialized RX4, Cond.code yX4_isQuietAt cX4_isQuietAt 2 (some .boolean), Cond.fieldLink RX4 26 "AlertIndex$Question" "quietUntil" "I"]
def wsX6_isQuiet : List Cond := .code yX6_isQuiet cX6_isQuiet 2 (some .boolean) :: ((wsX6_isQuiet_r1 ++ wsX6_isQuiet_r2) ++ wsX60 ++ wsX40 ++ wsJx4a65c0 ++ (vx_atS RX6 161 "java/lang/IndexOutOfBoundsException" ["java/lang/RuntimeException", "java/lang/Exception"]).filter goodWord)
def wsX6_alerts_r1 : List Cond := [Cond.fieldLink RX6 165 "AlertIndex$Question" "alerts" "I", Cond.methodLink RX6 54 yX6_questionOf, Cond.instanceMethod yX6_questionOf, Cond.selects RX6 yX6_questionOf yX6_questionOf, Cond.initialized RX6, Cond.code yX6_questionOf cX6_questionOf 3 (some (.object "AlertIndex$Question")), Cond.classLink RX6 157 "java/lang/IndexOutOfBoundsException", Cond.initialized "java/lang/IndexOutOfBoundsException", Cond.fieldLink RX6 10 "AlertIndex" "questions" "Ljava/util/List;", Cond.classLink RX6 47 "AlertIndex$Question", Cond.fieldLink RX6 97 "AlertIndex$Question" "isDropped" "Z", Cond.methodLink RX6 34 ⟨"java/util/List", "size", "()I"⟩, Cond.selects RJx4a65c ⟨"java/util/List", "size", "()I"⟩ yJx4a65c_size_8abf5, Cond.instanceMethod yJx4a65c_size_8abf5, Cond.initialized RJx4a65c, Cond.code yJx4a65c_size_8abf5 cJx4a65c_size_8abf5 1 (some .int), Cond.fieldLink RJx4a65c 48 "java/util/ArrayList" "size" "I", Cond.methodLink RX6 122 ⟨"java/util/List", "get", "(I)Ljava/lang/Object;"⟩, Cond.selects RJx4a65c ⟨"java/util/List", "get", "(I)Ljava/lang/Object;"⟩ yJx4a65c_get_915e3, Cond.instanceMethod yJx4a65c_get_915e3, Cond.code yJx4a65c_get_915e3 cJx4a65c_get_915e3 2 (some (.object "java/lang/Object")), Cond.methodLink RJx4a65c 118 yJ15_checkIndex_7cf53, Cond.static yJ15_checkIndex_7cf53, Cond.initialized RJ15]
def wsX6_alerts_r2 : List Cond := [Cond.code yJ15_checkIndex_7cf53 cJ15_checkIndex_7cf53 2 (some .int), Cond.methodLink RJ15 105 yJ3_checkIndex_8e157, Cond.static yJ3_checkIndex_8e157, Cond.initialized RJ3, Cond.code yJ3_checkIndex_8e157 cJ3_checkIndex_8e157 3 (some .int), Cond.methodLink RJx4a65c 123 yJx4a65c_elementData_915e3, Cond.instanceMethod yJx4a65c_elementData_915e3, Cond.selects RJx4a65c yJx4a65c_elementData_915e3 yJx4a65c_elementData_915e3, Cond.code yJx4a65c_elementData_915e3 cJx4a65c_elementData_915e3 2 (some (.object "java/lang/Object")), Cond.fieldLink RJx4a65c 9 "java/util/ArrayList" "elementData" "[Ljava/lang/Object;"]
def wsX6_alerts : List Cond := .code yX6_alerts cX6_alerts 2 (some .int) :: ((wsX6_alerts_r1 ++ wsX6_alerts_r2) ++ wsX40 ++ wsX60 ++ wsJx4a65c0 ++ (vx_atS RX6 161 "java/lang/IndexOutOfBoundsException" ["java/lang/RuntimeException", "java/lang/Exception"]).filter goodWord)
def wsX6_batch_r1 : List Cond := [Cond.fieldLink RX6 101 "AlertIndex$Question" "batch" "I", Cond.methodLink RX6 54 yX6_questionOf, Cond.instanceMethod yX6_questionOf, Cond.selects RX6 yX6_questionOf yX6_questionOf, Cond.initialized RX6, Cond.code yX6_questionOf cX6_questionOf 3 (some (.object "AlertIndex$Question")), Cond.classLink RX6 157 "java/lang/IndexOutOfBoundsException", Cond.initialized "java/lang/IndexOutOfBoundsException", Cond.fieldLink RX6 10 "AlertIndex" "questions" "Ljava/util/List;", Cond.classLink RX6 47 "AlertIndex$Question", Cond.fieldLink RX6 97 "AlertIndex$Question" "isDropped" "Z", Cond.methodLink RX6 34 ⟨"java/util/List", "size", "()I"⟩, Cond.selects RJx4a65c ⟨"java/util/List", "size", "()I"⟩ yJx4a65c_size_8abf5, Cond.instanceMethod yJx4a65c_size_8abf5, Cond.initialized RJx4a65c, Cond.code yJx4a65c_size_8abf5 cJx4a65c_size_8abf5 1 (some .int), Cond.fieldLink RJx4a65c 48 "java/util/ArrayList" "size" "I", Cond.methodLink RX6 122 ⟨"java/util/List", "get", "(I)Ljava/lang/Object;"⟩, Cond.selects RJx4a65c ⟨"java/util/List", "get", "(I)Ljava/lang/Object;"⟩ yJx4a65c_get_915e3, Cond.instanceMethod yJx4a65c_get_915e3, Cond.code yJx4a65c_get_915e3 cJx4a65c_get_915e3 2 (some (.object "java/lang/Object")), Cond.methodLink RJx4a65c 118 yJ15_checkIndex_7cf53, Cond.static yJ15_checkIndex_7cf53, Cond.initialized RJ15]
def wsX6_batch_r2 : List Cond := [Cond.code yJ15_checkIndex_7cf53 cJ15_checkIndex_7cf53 2 (some .int), Cond.methodLink RJ15 105 yJ3_checkIndex_8e157, Cond.static yJ3_checkIndex_8e157, Cond.initialized RJ3, Cond.code yJ3_checkIndex_8e157 cJ3_checkIndex_8e157 3 (some .int), Cond.methodLink RJx4a65c 123 yJx4a65c_elementData_915e3, Cond.instanceMethod yJx4a65c_elementData_915e3, Cond.selects RJx4a65c yJx4a65c_elementData_915e3 yJx4a65c_elementData_915e3, Cond.code yJx4a65c_elementData_915e3 cJx4a65c_elementData_915e3 2 (some (.object "java/lang/Object")), Cond.fieldLink RJx4a65c 9 "java/util/ArrayList" "elementData" "[Ljava/lang/Object;"]
def wsX6_batch : List Cond := .code yX6_batch cX6_batch 2 (some .int) :: ((wsX6_batch_r1 ++ wsX6_batch_r2) ++ wsX40 ++ wsX60 ++ wsJx4a65c0 ++ (vx_atS RX6 161 "java/lang/IndexOutOfBoundsException" ["java/lang/RuntimeException", "java/lang/Exception"]).filter goodWord)
def wsX7_init : List Cond := .code yX7_init cX7_init 2 none :: ([.methodLink RX7 1 objectInit, .instanceMethod objectInit, .code objectInit ⟨#[0xb1]⟩ 1 none, .arrayClass .int, .fieldLink RX7 7 "AlertIndexModel" "draft" "[I", .arrayClass .boolean, .fieldLink RX7 13 "AlertIndexModel" "isDropped" "[Z", .fieldLink RX7 17 "AlertIndexModel" "products" "[I", .fieldLink RX7 20 "AlertIndexModel" "quiets" "[I", .fieldLink RX7 23 "AlertIndexModel" "untils" "[I", .fieldLink RX7 26 "AlertIndexModel" "alerts" "[I", .fieldLink RX7 29 "AlertIndexModel" "batches" "[I", .fieldLink RX7 32 "AlertIndexModel" "tests" "[I", .fieldLink RX7 35 "AlertIndexModel" "names" "[I", .fieldLink RX7 38 "AlertIndexModel" "lows" "[I", .fieldLink RX7 41 "AlertIndexModel" "highs" "[I", .fieldLink RX7 44 "AlertIndexModel" "isBarred" "[Z"] ++ wsX70)
def wsX7_thrown : List Cond := .code yX7_thrown cX7_thrown 1 (some .int) :: ([.fieldLink RX7 47 "AlertIndexModel" "thrown" "I"] ++ wsX70)
def wsX7_holds : List Cond := .code yX7_holds cX7_holds 2 (some .boolean) :: ([.fieldLink RX7 47 "AlertIndexModel" "thrown" "I"] ++ wsX70)
def wsX7_isIn : List Cond := .code yX7_isIn cX7_isIn 3 (some .boolean) :: ([])
def wsX7_isQuestion : List Cond := .code yX7_isQuestion cX7_isQuestion 2 (some .boolean) :: ([.fieldLink RX7 51 "AlertIndexModel" "questions" "I", .fieldLink RX7 13 "AlertIndexModel" "isDropped" "[Z", .methodLink RX7 54 yX7_isIn, .static yX7_isIn, .initialized RX7, .code yX7_isIn cX7_isIn 3 (some .boolean)] ++ wsX70)
def wsX7_isName : List Cond := .code yX7_isName cX7_isName 1 (some .boolean) :: ([.methodLink RX7 54 yX7_isIn, .static yX7_isIn, .initialized RX7, .code yX7_isIn cX7_isIn 3 (some .boolean)])
def wsX7_isRange : List Cond := .code yX7_isRange cX7_isRange 2 (some .boolean) :: ([.methodLink RX7 54 yX7_isIn, .static yX7_isIn, .initialized RX7, .code yX7_isIn cX7_isIn 3 (some .boolean)])
def wsX7_question : List Cond := .code yX7_question cX7_question 1 (some .int) :: ([.fieldLink RX7 51 "AlertIndexModel" "questions" "I", .methodLink RX7 58 yX7_holds, .instanceMethod yX7_holds, .selects RX7 yX7_holds yX7_holds, .initialized RX7, .code yX7_holds cX7_holds 2 (some .boolean), .fieldLink RX7 47 "AlertIndexModel" "thrown" "I"] ++ wsX70)
def wsX7_product : List Cond := .code yX7_product cX7_product 3 (some .int) :: ([.fieldLink RX7 17 "AlertIndexModel" "products" "[I", .methodLink RX7 62 yX7_isQuestion, .instanceMethod yX7_isQuestion, .selects RX7 yX7_isQuestion yX7_isQuestion, .initialized RX7, .code yX7_isQuestion cX7_isQuestion 2 (some .boolean), .fieldLink RX7 51 "AlertIndexModel" "questions" "I", .fieldLink RX7 13 "AlertIndexModel" "isDropped" "[Z", .methodLink RX7 54 yX7_isIn, .static yX7_isIn, .code yX7_isIn cX7_isIn 3 (some .boolean), .methodLink RX7 58 yX7_holds, .instanceMethod yX7_holds, .selects RX7 yX7_holds yX7_holds, .code yX7_holds cX7_holds 2 (some .boolean), .fieldLink RX7 47 "AlertIndexModel" "thrown" "I"] ++ wsX70)
def wsX7_test_r1 : List Cond := [Cond.fieldLink RX7 17 "AlertIndexModel" "products" "[I", Cond.fieldLink RX7 32 "AlertIndexModel" "tests" "[I", Cond.fieldLink RX7 35 "AlertIndexModel" "names" "[I", Cond.fieldLink RX7 38 "AlertIndexModel" "lows" "[I", Cond.fieldLink RX7 41 "AlertIndexModel" "highs" "[I", Cond.fieldLink RX7 44 "AlertIndexModel" "isBarred" "[Z", Cond.methodLink RX7 62 yX7_isQuestion, Cond.instanceMethod yX7_isQuestion, Cond.selects RX7 yX7_isQuestion yX7_isQuestion, Cond.initialized RX7, Cond.code yX7_isQuestion cX7_isQuestion 2 (some .boolean), Cond.fieldLink RX7 51 "AlertIndexModel" "questions" "I", Cond.fieldLink RX7 13 "AlertIndexModel" "isDropped" "[Z", Cond.methodLink RX7 54 yX7_isIn, Cond.static yX7_isIn, Cond.code yX7_isIn cX7_isIn 3 (some .boolean), Cond.methodLink RX7 65 yX7_isName, Cond.static yX7_isName, Cond.code yX7_isName cX7_isName 1 (some .boolean), Cond.methodLink RX7 68 yX7_isRange, Cond.static yX7_isRange, Cond.code yX7_isRange cX7_isRange 2 (some .boolean), Cond.methodLink RX7 58 yX7_holds, Cond.instanceMethod yX7_holds]
def wsX7_test_r2 : List Cond := [Cond.selects RX7 yX7_holds yX7_holds, Cond.code yX7_holds cX7_holds 2 (some .boolean), Cond.fieldLink RX7 47 "AlertIndexModel" "thrown" "I"]
def wsX7_test : List Cond := .code yX7_test cX7_test 10 (some .int) :: ((wsX7_test_r1 ++ wsX7_test_r2) ++ wsX70)
def wsX7_drop : List Cond := .code yX7_drop cX7_drop 2 (some .int) :: ([.fieldLink RX7 13 "AlertIndexModel" "isDropped" "[Z", .fieldLink RX7 29 "AlertIndexModel" "batches" "[I", .methodLink RX7 62 yX7_isQuestion, .instanceMethod yX7_isQuestion, .selects RX7 yX7_isQuestion yX7_isQuestion, .initialized RX7, .code yX7_isQuestion cX7_isQuestion 2 (some .boolean), .fieldLink RX7 51 "AlertIndexModel" "questions" "I", .methodLink RX7 54 yX7_isIn, .static yX7_isIn, .code yX7_isIn cX7_isIn 3 (some .boolean), .methodLink RX7 58 yX7_holds, .instanceMethod yX7_holds, .selects RX7 yX7_holds yX7_holds, .code yX7_holds cX7_holds 2 (some .boolean), .fieldLink RX7 47 "AlertIndexModel" "thrown" "I"] ++ wsX70)
def wsX7_setQuiet : List Cond := .code yX7_setQuiet cX7_setQuiet 5 (some .int) :: ([.fieldLink RX7 20 "AlertIndexModel" "quiets" "[I", .methodLink RX7 62 yX7_isQuestion, .instanceMethod yX7_isQuestion, .selects RX7 yX7_isQuestion yX7_isQuestion, .initialized RX7, .code yX7_isQuestion cX7_isQuestion 2 (some .boolean), .fieldLink RX7 51 "AlertIndexModel" "questions" "I", .fieldLink RX7 13 "AlertIndexModel" "isDropped" "[Z", .methodLink RX7 54 yX7_isIn, .static yX7_isIn, .code yX7_isIn cX7_isIn 3 (some .boolean), .methodLink RX7 58 yX7_holds, .instanceMethod yX7_holds, .selects RX7 yX7_holds yX7_holds, .code yX7_holds cX7_holds 2 (some .boolean), .fieldLink RX7 47 "AlertIndexModel" "thrown" "I"] ++ wsX70)
def wsX7_set : List Cond := .code yX7_set cX7_set 4 (some .int) :: ([.fieldLink RX7 7 "AlertIndexModel" "draft" "[I", .methodLink RX7 65 yX7_isName, .static yX7_isName, .initialized RX7, .code yX7_isName cX7_isName 1 (some .boolean), .methodLink RX7 54 yX7_isIn, .static yX7_isIn, .code yX7_isIn cX7_isIn 3 (some .boolean), .methodLink RX7 58 yX7_holds, .instanceMethod yX7_holds, .selects RX7 yX7_holds yX7_holds, .code yX7_holds cX7_holds 2 (some .boolean), .fieldLink RX7 47 "AlertIndexModel" "thrown" "I"] ++ wsX70)
def wsX7_isTrue : List Cond := .code yX7_isTrue cX7_isTrue 4 (some .boolean) :: ([.fieldLink RX7 7 "AlertIndexModel" "draft" "[I", .fieldLink RX7 35 "AlertIndexModel" "names" "[I", .fieldLink RX7 38 "AlertIndexModel" "lows" "[I", .fieldLink RX7 41 "AlertIndexModel" "highs" "[I", .fieldLink RX7 44 "AlertIndexModel" "isBarred" "[Z"] ++ wsX70)
def wsX7_does : List Cond := .code yX7_does cX7_does 6 (some .boolean) :: ([.fieldLink RX7 17 "AlertIndexModel" "products" "[I", .fieldLink RX7 32 "AlertIndexModel" "tests" "[I", .methodLink RX7 72 yX7_isTrue, .instanceMethod yX7_isTrue, .selects RX7 yX7_isTrue yX7_isTrue, .initialized RX7, .code yX7_isTrue cX7_isTrue 4 (some .boolean), .fieldLink RX7 7 "AlertIndexModel" "draft" "[I", .fieldLink RX7 35 "AlertIndexModel" "names" "[I", .fieldLink RX7 38 "AlertIndexModel" "lows" "[I", .fieldLink RX7 41 "AlertIndexModel" "highs" "[I", .fieldLink RX7 44 "AlertIndexModel" "isBarred" "[Z"] ++ wsX70)
def wsX7_quietNow : List Cond := .code yX7_quietNow cX7_quietNow 2 (some .boolean) :: ([.fieldLink RX7 75 "AlertIndexModel" "minute" "I", .fieldLink RX7 23 "AlertIndexModel" "untils" "[I"] ++ wsX70)
def wsX7_raises : List Cond := .code yX7_raises cX7_raises 2 none :: ([.fieldLink RX7 26 "AlertIndexModel" "alerts" "[I", .fieldLink RX7 23 "AlertIndexModel" "untils" "[I", .fieldLink RX7 75 "AlertIndexModel" "minute" "I", .fieldLink RX7 20 "AlertIndexModel" "quiets" "[I"] ++ wsX70)
def wsX7_come_r1 : List Cond := [Cond.fieldLink RX7 47 "AlertIndexModel" "thrown" "I", Cond.fieldLink RX7 51 "AlertIndexModel" "questions" "I", Cond.fieldLink RX7 29 "AlertIndexModel" "batches" "[I", Cond.methodLink RX7 62 yX7_isQuestion, Cond.instanceMethod yX7_isQuestion, Cond.selects RX7 yX7_isQuestion yX7_isQuestion, Cond.initialized RX7, Cond.code yX7_isQuestion cX7_isQuestion 2 (some .boolean), Cond.fieldLink RX7 13 "AlertIndexModel" "isDropped" "[Z", Cond.methodLink RX7 54 yX7_isIn, Cond.static yX7_isIn, Cond.code yX7_isIn cX7_isIn 3 (some .boolean), Cond.methodLink RX7 78 yX7_does, Cond.instanceMethod yX7_does, Cond.selects RX7 yX7_does yX7_does, Cond.code yX7_does cX7_does 6 (some .boolean), Cond.fieldLink RX7 17 "AlertIndexModel" "products" "[I", Cond.fieldLink RX7 32 "AlertIndexModel" "tests" "[I", Cond.methodLink RX7 72 yX7_isTrue, Cond.instanceMethod yX7_isTrue, Cond.selects RX7 yX7_isTrue yX7_isTrue, Cond.code yX7_isTrue cX7_isTrue 4 (some .boolean), Cond.fieldLink RX7 7 "AlertIndexModel" "draft" "[I", Cond.fieldLink RX7 35 "AlertIndexModel" "names" "[I"]
def wsX7_come_r2 : List Cond := [Cond.fieldLink RX7 38 "AlertIndexModel" "lows" "[I", Cond.fieldLink RX7 41 "AlertIndexModel" "highs" "[I", Cond.fieldLink RX7 44 "AlertIndexModel" "isBarred" "[Z", Cond.methodLink RX7 81 yX7_quietNow, Cond.instanceMethod yX7_quietNow, Cond.selects RX7 yX7_quietNow yX7_quietNow, Cond.code yX7_quietNow cX7_quietNow 2 (some .boolean), Cond.fieldLink RX7 75 "AlertIndexModel" "minute" "I", Cond.fieldLink RX7 23 "AlertIndexModel" "untils" "[I", Cond.methodLink RX7 84 yX7_raises, Cond.instanceMethod yX7_raises, Cond.selects RX7 yX7_raises yX7_raises, Cond.code yX7_raises cX7_raises 2 none, Cond.fieldLink RX7 26 "AlertIndexModel" "alerts" "[I", Cond.fieldLink RX7 20 "AlertIndexModel" "quiets" "[I"]
def wsX7_come : List Cond := .code yX7_come cX7_come 3 (some .int) :: ((wsX7_come_r1 ++ wsX7_come_r2) ++ wsX70)
def wsX7_advance_r1 : List Cond := [Cond.fieldLink RX7 75 "AlertIndexModel" "minute" "I", Cond.constant RX7 88 (1000000), Cond.fieldLink RX7 51 "AlertIndexModel" "questions" "I", Cond.fieldLink RX7 23 "AlertIndexModel" "untils" "[I", Cond.fieldLink RX7 29 "AlertIndexModel" "batches" "[I", Cond.methodLink RX7 54 yX7_isIn, Cond.static yX7_isIn, Cond.initialized RX7, Cond.code yX7_isIn cX7_isIn 3 (some .boolean), Cond.methodLink RX7 58 yX7_holds, Cond.instanceMethod yX7_holds, Cond.selects RX7 yX7_holds yX7_holds, Cond.code yX7_holds cX7_holds 2 (some .boolean), Cond.fieldLink RX7 47 "AlertIndexModel" "thrown" "I", Cond.methodLink RX7 62 yX7_isQuestion, Cond.instanceMethod yX7_isQuestion, Cond.selects RX7 yX7_isQuestion yX7_isQuestion, Cond.code yX7_isQuestion cX7_isQuestion 2 (some .boolean), Cond.fieldLink RX7 13 "AlertIndexModel" "isDropped" "[Z", Cond.methodLink RX7 84 yX7_raises, Cond.instanceMethod yX7_raises, Cond.selects RX7 yX7_raises yX7_raises, Cond.code yX7_raises cX7_raises 2 none, Cond.fieldLink RX7 26 "AlertIndexModel" "alerts" "[I"]
def wsX7_advance_r2 : List Cond := [Cond.fieldLink RX7 20 "AlertIndexModel" "quiets" "[I"]
def wsX7_advance : List Cond := .code yX7_advance cX7_advance 5 (some .int) :: ((wsX7_advance_r1 ++ wsX7_advance_r2) ++ wsX70)
def wsX7_satisfies_r1 : List Cond := [Cond.methodLink RX7 62 yX7_isQuestion, Cond.instanceMethod yX7_isQuestion, Cond.selects RX7 yX7_isQuestion yX7_isQuestion, Cond.initialized RX7, Cond.code yX7_isQuestion cX7_isQuestion 2 (some .boolean), Cond.fieldLink RX7 51 "AlertIndexModel" "questions" "I", Cond.fieldLink RX7 13 "AlertIndexModel" "isDropped" "[Z", Cond.methodLink RX7 54 yX7_isIn, Cond.static yX7_isIn, Cond.code yX7_isIn cX7_isIn 3 (some .boolean), Cond.methodLink RX7 58 yX7_holds, Cond.instanceMethod yX7_holds, Cond.selects RX7 yX7_holds yX7_holds, Cond.code yX7_holds cX7_holds 2 (some .boolean), Cond.fieldLink RX7 47 "AlertIndexModel" "thrown" "I", Cond.methodLink RX7 78 yX7_does, Cond.instanceMethod yX7_does, Cond.selects RX7 yX7_does yX7_does, Cond.code yX7_does cX7_does 6 (some .boolean), Cond.fieldLink RX7 17 "AlertIndexModel" "products" "[I", Cond.fieldLink RX7 32 "AlertIndexModel" "tests" "[I", Cond.methodLink RX7 72 yX7_isTrue, Cond.instanceMethod yX7_isTrue, Cond.selects RX7 yX7_isTrue yX7_isTrue]
def wsX7_satisfies_r2 : List Cond := [Cond.code yX7_isTrue cX7_isTrue 4 (some .boolean), Cond.fieldLink RX7 7 "AlertIndexModel" "draft" "[I", Cond.fieldLink RX7 35 "AlertIndexModel" "names" "[I", Cond.fieldLink RX7 38 "AlertIndexModel" "lows" "[I", Cond.fieldLink RX7 41 "AlertIndexModel" "highs" "[I", Cond.fieldLink RX7 44 "AlertIndexModel" "isBarred" "[Z"]
def wsX7_satisfies : List Cond := .code yX7_satisfies cX7_satisfies 2 (some .boolean) :: ((wsX7_satisfies_r1 ++ wsX7_satisfies_r2) ++ wsX70)
def wsX7_found_r1 : List Cond := [Cond.fieldLink RX7 51 "AlertIndexModel" "questions" "I", Cond.methodLink RX7 62 yX7_isQuestion, Cond.instanceMethod yX7_isQuestion, Cond.selects RX7 yX7_isQuestion yX7_isQuestion, Cond.initialized RX7, Cond.code yX7_isQuestion cX7_isQuestion 2 (some .boolean), Cond.fieldLink RX7 13 "AlertIndexModel" "isDropped" "[Z", Cond.methodLink RX7 54 yX7_isIn, Cond.static yX7_isIn, Cond.code yX7_isIn cX7_isIn 3 (some .boolean), Cond.methodLink RX7 78 yX7_does, Cond.instanceMethod yX7_does, Cond.selects RX7 yX7_does yX7_does, Cond.code yX7_does cX7_does 6 (some .boolean), Cond.fieldLink RX7 17 "AlertIndexModel" "products" "[I", Cond.fieldLink RX7 32 "AlertIndexModel" "tests" "[I", Cond.methodLink RX7 72 yX7_isTrue, Cond.instanceMethod yX7_isTrue, Cond.selects RX7 yX7_isTrue yX7_isTrue, Cond.code yX7_isTrue cX7_isTrue 4 (some .boolean), Cond.fieldLink RX7 7 "AlertIndexModel" "draft" "[I", Cond.fieldLink RX7 35 "AlertIndexModel" "names" "[I", Cond.fieldLink RX7 38 "AlertIndexModel" "lows" "[I", Cond.fieldLink RX7 41 "AlertIndexModel" "highs" "[I"]
def wsX7_found_r2 : List Cond := [Cond.fieldLink RX7 44 "AlertIndexModel" "isBarred" "[Z"]
def wsX7_found : List Cond := .code yX7_found cX7_found 3 (some .int) :: ((wsX7_found_r1 ++ wsX7_found_r2) ++ wsX70)
def wsX7_matching_r1 : List Cond := [Cond.fieldLink RX7 47 "AlertIndexModel" "thrown" "I", Cond.methodLink RX7 89 yX7_found, Cond.instanceMethod yX7_found, Cond.selects RX7 yX7_found yX7_found, Cond.initialized RX7, Cond.code yX7_found cX7_found 3 (some .int), Cond.fieldLink RX7 51 "AlertIndexModel" "questions" "I", Cond.methodLink RX7 62 yX7_isQuestion, Cond.instanceMethod yX7_isQuestion, Cond.selects RX7 yX7_isQuestion yX7_isQuestion, Cond.code yX7_isQuestion cX7_isQuestion 2 (some .boolean), Cond.fieldLink RX7 13 "AlertIndexModel" "isDropped" "[Z", Cond.methodLink RX7 54 yX7_isIn, Cond.static yX7_isIn, Cond.code yX7_isIn cX7_isIn 3 (some .boolean), Cond.methodLink RX7 78 yX7_does, Cond.instanceMethod yX7_does, Cond.selects RX7 yX7_does yX7_does, Cond.code yX7_does cX7_does 6 (some .boolean), Cond.fieldLink RX7 17 "AlertIndexModel" "products" "[I", Cond.fieldLink RX7 32 "AlertIndexModel" "tests" "[I", Cond.methodLink RX7 72 yX7_isTrue, Cond.instanceMethod yX7_isTrue, Cond.selects RX7 yX7_isTrue yX7_isTrue]
def wsX7_matching_r2 : List Cond := [Cond.code yX7_isTrue cX7_isTrue 4 (some .boolean), Cond.fieldLink RX7 7 "AlertIndexModel" "draft" "[I", Cond.fieldLink RX7 35 "AlertIndexModel" "names" "[I", Cond.fieldLink RX7 38 "AlertIndexModel" "lows" "[I", Cond.fieldLink RX7 41 "AlertIndexModel" "highs" "[I", Cond.fieldLink RX7 44 "AlertIndexModel" "isBarred" "[Z"]
def wsX7_matching : List Cond := .code yX7_matching cX7_matching 1 (some .int) :: ((wsX7_matching_r1 ++ wsX7_matching_r2) ++ wsX70)
def wsX7_matchingByIndex_r1 : List Cond := [Cond.fieldLink RX7 47 "AlertIndexModel" "thrown" "I", Cond.methodLink RX7 89 yX7_found, Cond.instanceMethod yX7_found, Cond.selects RX7 yX7_found yX7_found, Cond.initialized RX7, Cond.code yX7_found cX7_found 3 (some .int), Cond.fieldLink RX7 51 "AlertIndexModel" "questions" "I", Cond.methodLink RX7 62 yX7_isQuestion, Cond.instanceMethod yX7_isQuestion, Cond.selects RX7 yX7_isQuestion yX7_isQuestion, Cond.code yX7_isQuestion cX7_isQuestion 2 (some .boolean), Cond.fieldLink RX7 13 "AlertIndexModel" "isDropped" "[Z", Cond.methodLink RX7 54 yX7_isIn, Cond.static yX7_isIn, Cond.code yX7_isIn cX7_isIn 3 (some .boolean), Cond.methodLink RX7 78 yX7_does, Cond.instanceMethod yX7_does, Cond.selects RX7 yX7_does yX7_does, Cond.code yX7_does cX7_does 6 (some .boolean), Cond.fieldLink RX7 17 "AlertIndexModel" "products" "[I", Cond.fieldLink RX7 32 "AlertIndexModel" "tests" "[I", Cond.methodLink RX7 72 yX7_isTrue, Cond.instanceMethod yX7_isTrue, Cond.selects RX7 yX7_isTrue yX7_isTrue]
def wsX7_matchingByIndex_r2 : List Cond := [Cond.code yX7_isTrue cX7_isTrue 4 (some .boolean), Cond.fieldLink RX7 7 "AlertIndexModel" "draft" "[I", Cond.fieldLink RX7 35 "AlertIndexModel" "names" "[I", Cond.fieldLink RX7 38 "AlertIndexModel" "lows" "[I", Cond.fieldLink RX7 41 "AlertIndexModel" "highs" "[I", Cond.fieldLink RX7 44 "AlertIndexModel" "isBarred" "[Z"]
def wsX7_matchingByIndex : List Cond := .code yX7_matchingByIndex cX7_matchingByIndex 1 (some .int) :: ((wsX7_matchingByIndex_r1 ++ wsX7_matchingByIndex_r2) ++ wsX70)
def wsX7_size : List Cond := .code yX7_size cX7_size 6 (some .int) :: ([.fieldLink RX7 17 "AlertIndexModel" "products" "[I", .fieldLink RX7 32 "AlertIndexModel" "tests" "[I", .fieldLink RX7 44 "AlertIndexModel" "isBarred" "[Z"] ++ wsX70)
def wsX7_sizeOf : List Cond := .code yX7_sizeOf cX7_sizeOf 2 (some .int) :: ([.methodLink RX7 62 yX7_isQuestion, .instanceMethod yX7_isQuestion, .selects RX7 yX7_isQuestion yX7_isQuestion, .initialized RX7, .code yX7_isQuestion cX7_isQuestion 2 (some .boolean), .fieldLink RX7 51 "AlertIndexModel" "questions" "I", .fieldLink RX7 13 "AlertIndexModel" "isDropped" "[Z", .methodLink RX7 54 yX7_isIn, .static yX7_isIn, .code yX7_isIn cX7_isIn 3 (some .boolean), .methodLink RX7 58 yX7_holds, .instanceMethod yX7_holds, .selects RX7 yX7_holds yX7_holds, .code yX7_holds cX7_holds 2 (some .boolean), .fieldLink RX7 47 "AlertIndexModel" "thrown" "I", .methodLink RX7 93 yX7_size, .instanceMethod yX7_size, .selects RX7 yX7_size yX7_size, .code yX7_size cX7_size 6 (some .int), .fieldLink RX7 17 "AlertIndexModel" "products" "[I", .fieldLink RX7 32 "AlertIndexModel" "tests" "[I", .fieldLink RX7 44 "AlertIndexModel" "isBarred" "[Z"] ++ wsX70)
def wsX7_withSize : List Cond := .code yX7_withSize cX7_withSize 4 (some .int) :: ([.fieldLink RX7 47 "AlertIndexModel" "thrown" "I", .fieldLink RX7 51 "AlertIndexModel" "questions" "I", .methodLink RX7 62 yX7_isQuestion, .instanceMethod yX7_isQuestion, .selects RX7 yX7_isQuestion yX7_isQuestion, .initialized RX7, .code yX7_isQuestion cX7_isQuestion 2 (some .boolean), .fieldLink RX7 13 "AlertIndexModel" "isDropped" "[Z", .methodLink RX7 54 yX7_isIn, .static yX7_isIn, .code yX7_isIn cX7_isIn 3 (some .boolean), .methodLink RX7 93 yX7_size, .instanceMethod yX7_size, .selects RX7 yX7_size yX7_size, .code yX7_size cX7_size 6 (some .int), .fieldLink RX7 17 "AlertIndexModel" "products" "[I", .fieldLink RX7 32 "AlertIndexModel" "tests" "[I", .fieldLink RX7 44 "AlertIndexModel" "isBarred" "[Z"] ++ wsX70)
def wsX7_piece : List Cond := .code yX7_piece cX7_piece 4 (some .int) :: ([])
def wsX7_pieces : List Cond := .code yX7_pieces cX7_pieces 5 (some .int) :: ([.methodLink RX7 68 yX7_isRange, .static yX7_isRange, .initialized RX7, .code yX7_isRange cX7_isRange 2 (some .boolean), .methodLink RX7 54 yX7_isIn, .static yX7_isIn, .code yX7_isIn cX7_isIn 3 (some .boolean), .methodLink RX7 58 yX7_holds, .instanceMethod yX7_holds, .selects RX7 yX7_holds yX7_holds, .code yX7_holds cX7_holds 2 (some .boolean), .fieldLink RX7 47 "AlertIndexModel" "thrown" "I", .methodLink RX7 97 yX7_piece, .static yX7_piece, .code yX7_piece cX7_piece 4 (some .int)] ++ wsX70)
def wsX7_pieceAt : List Cond := .code yX7_pieceAt cX7_pieceAt 6 (some .int) :: ([.methodLink RX7 68 yX7_isRange, .static yX7_isRange, .initialized RX7, .code yX7_isRange cX7_isRange 2 (some .boolean), .methodLink RX7 54 yX7_isIn, .static yX7_isIn, .code yX7_isIn cX7_isIn 3 (some .boolean), .methodLink RX7 58 yX7_holds, .instanceMethod yX7_holds, .selects RX7 yX7_holds yX7_holds, .code yX7_holds cX7_holds 2 (some .boolean), .fieldLink RX7 47 "AlertIndexModel" "thrown" "I", .methodLink RX7 97 yX7_piece, .static yX7_piece, .code yX7_piece cX7_piece 4 (some .int)] ++ wsX70)
def wsX7_minute : List Cond := .code yX7_minute cX7_minute 1 (some .int) :: ([.fieldLink RX7 47 "AlertIndexModel" "thrown" "I", .fieldLink RX7 75 "AlertIndexModel" "minute" "I"] ++ wsX70)
def wsX7_isQuiet : List Cond := .code yX7_isQuiet cX7_isQuiet 2 (some .boolean) :: ([.methodLink RX7 62 yX7_isQuestion, .instanceMethod yX7_isQuestion, .selects RX7 yX7_isQuestion yX7_isQuestion, .initialized RX7, .code yX7_isQuestion cX7_isQuestion 2 (some .boolean), .fieldLink RX7 51 "AlertIndexModel" "questions" "I", .fieldLink RX7 13 "AlertIndexModel" "isDropped" "[Z", .methodLink RX7 54 yX7_isIn, .static yX7_isIn, .code yX7_isIn cX7_isIn 3 (some .boolean), .methodLink RX7 58 yX7_holds, .instanceMethod yX7_holds, .selects RX7 yX7_holds yX7_holds, .code yX7_holds cX7_holds 2 (some .boolean), .fieldLink RX7 47 "AlertIndexModel" "thrown" "I", .methodLink RX7 81 yX7_quietNow, .instanceMethod yX7_quietNow, .selects RX7 yX7_quietNow yX7_quietNow, .code yX7_quietNow cX7_quietNow 2 (some .boolean), .fieldLink RX7 75 "AlertIndexModel" "minute" "I", .fieldLink RX7 23 "AlertIndexModel" "untils" "[I"] ++ wsX70)
def wsX7_alerts : List Cond := .code yX7_alerts cX7_alerts 2 (some .int) :: ([.fieldLink RX7 26 "AlertIndexModel" "alerts" "[I", .methodLink RX7 62 yX7_isQuestion, .instanceMethod yX7_isQuestion, .selects RX7 yX7_isQuestion yX7_isQuestion, .initialized RX7, .code yX7_isQuestion cX7_isQuestion 2 (some .boolean), .fieldLink RX7 51 "AlertIndexModel" "questions" "I", .fieldLink RX7 13 "AlertIndexModel" "isDropped" "[Z", .methodLink RX7 54 yX7_isIn, .static yX7_isIn, .code yX7_isIn cX7_isIn 3 (some .boolean), .methodLink RX7 58 yX7_holds, .instanceMethod yX7_holds, .selects RX7 yX7_holds yX7_holds, .code yX7_holds cX7_holds 2 (some .boolean), .fieldLink RX7 47 "AlertIndexModel" "thrown" "I"] ++ wsX70)
def wsX7_batch : List Cond := .code yX7_batch cX7_batch 2 (some .int) :: ([.fieldLink RX7 29 "AlertIndexModel" "batches" "[I", .methodLink RX7 62 yX7_isQuestion, .instanceMethod yX7_isQuestion, .selects RX7 yX7_isQuestion yX7_isQuestion, .initialized RX7, .code yX7_isQuestion cX7_isQuestion 2 (some .boolean), .fieldLink RX7 51 "AlertIndexModel" "questions" "I", .fieldLink RX7 13 "AlertIndexModel" "isDropped" "[Z", .methodLink RX7 54 yX7_isIn, .static yX7_isIn, .code yX7_isIn cX7_isIn 3 (some .boolean), .methodLink RX7 58 yX7_holds, .instanceMethod yX7_holds, .selects RX7 yX7_holds yX7_holds, .code yX7_holds cX7_holds 2 (some .boolean), .fieldLink RX7 47 "AlertIndexModel" "thrown" "I"] ++ wsX70)
def wsJ9_max_7cf53 : List Cond := .code yJ9_max_7cf53 cJ9_max_7cf53 2 (some .int) :: ([])
def wsJ9_min_7cf53 : List Cond := .code yJ9_min_7cf53 cJ9_min_7cf53 2 (some .int) :: ([])
def wsL_question_r1 : List Cond := [Cond.classLink RL 13 "java/lang/IllegalStateException", Cond.methodLink RL 7 yX6_question, Cond.instanceMethod yX6_question, Cond.selects RX6 yX6_question yX6_question, Cond.initialized RX6, Cond.code yX6_question cX6_question 1 (some .int), Cond.classLink RX6 40 "java/lang/IllegalStateException", Cond.initialized "java/lang/IllegalStateException", Cond.fieldLink RX6 10 "AlertIndex" "questions" "Ljava/util/List;", Cond.classLink RX6 47 RX4, Cond.instantiable RX4 6, Cond.initialized RX4, Cond.methodLink RX6 34 ⟨"java/util/List", "size", "()I"⟩, Cond.selects RJx4a65c ⟨"java/util/List", "size", "()I"⟩ yJx4a65c_size_8abf5, Cond.instanceMethod yJx4a65c_size_8abf5, Cond.initialized RJx4a65c, Cond.code yJx4a65c_size_8abf5 cJx4a65c_size_8abf5 1 (some .int), Cond.fieldLink RJx4a65c 48 "java/util/ArrayList" "size" "I", Cond.methodLink RX6 49 yX4_init, Cond.instanceMethod yX4_init, Cond.code yX4_init cX4_init 1 none, Cond.methodLink RX4 3 objectInit, Cond.instanceMethod objectInit, Cond.code objectInit ⟨#[0xb1]⟩ 1 none]
def wsL_question_r2 : List Cond := [Cond.classLink RX4 9 RJx4a65c, Cond.instantiable RJx4a65c 3, Cond.fieldLink RX4 12 "AlertIndex$Question" "products" "Ljava/util/List;", Cond.fieldLink RX4 18 "AlertIndex$Question" "isDropped" "Z", Cond.fieldLink RX4 22 "AlertIndex$Question" "quietMinutes" "I", Cond.fieldLink RX4 26 "AlertIndex$Question" "quietUntil" "I", Cond.fieldLink RX4 29 "AlertIndex$Question" "alerts" "I", Cond.fieldLink RX4 32 "AlertIndex$Question" "batch" "I", Cond.methodLink RX4 11 yJx4a65c_init_da8c8, Cond.instanceMethod yJx4a65c_init_da8c8, Cond.code yJx4a65c_init_da8c8 cJx4a65c_init_da8c8 1 none, Cond.fieldLink RJx4a65c 39 "java/util/ArrayList" "DEFAULTCAPACITY_EMPTY_ELEMENTDATA" "[Ljava/lang/Object;", Cond.fieldLink RJx4a65c 9 "java/util/ArrayList" "elementData" "[Ljava/lang/Object;", Cond.methodLink RJx4a65c 1 yJxc12de_init_da8c8, Cond.instanceMethod yJxc12de_init_da8c8, Cond.initialized RJxc12de, Cond.code yJxc12de_init_da8c8 cJxc12de_init_da8c8 1 none, Cond.fieldLink RJxc12de 7 "java/util/AbstractList" "modCount" "I", Cond.methodLink RJxc12de 1 yJxa1e45_init_da8c8, Cond.instanceMethod yJxa1e45_init_da8c8, Cond.initialized RJxa1e45, Cond.code yJxa1e45_init_da8c8 cJxa1e45_init_da8c8 1 none, Cond.methodLink RJxa1e45 1 objectInit, Cond.methodLink RX6 50 ⟨"java/util/List", "add", "(Ljava/lang/Object;)Z"⟩]
def wsL_question_r3 : List Cond := [Cond.selects RJx4a65c ⟨"java/util/List", "add", "(Ljava/lang/Object;)Z"⟩ yJx4a65c_add_9ea2d, Cond.instanceMethod yJx4a65c_add_9ea2d, Cond.code yJx4a65c_add_9ea2d cJx4a65c_add_9ea2d 2 (some .boolean), Cond.fieldLink RJx4a65c 63 "java/util/ArrayList" "modCount" "I", Cond.sameField "java/util/ArrayList" "java/util/AbstractList" "modCount" "I", Cond.methodLink RJx4a65c 131 yJx4a65c_add_72be8, Cond.instanceMethod yJx4a65c_add_72be8, Cond.selects RJx4a65c yJx4a65c_add_72be8 yJx4a65c_add_72be8, Cond.code yJx4a65c_add_72be8 cJx4a65c_add_72be8 4 none, Cond.methodLink RJx4a65c 129 yJx4a65c_grow_d5877, Cond.instanceMethod yJx4a65c_grow_d5877, Cond.selects RJx4a65c yJx4a65c_grow_d5877 yJx4a65c_grow_d5877, Cond.code yJx4a65c_grow_d5877 cJx4a65c_grow_d5877 1 (some (.array (.object "java/lang/Object"))), Cond.methodLink RJx4a65c 69 yJx4a65c_grow_92f84, Cond.instanceMethod yJx4a65c_grow_92f84, Cond.selects RJx4a65c yJx4a65c_grow_92f84 yJx4a65c_grow_92f84, Cond.code yJx4a65c_grow_92f84 cJx4a65c_grow_92f84 4 (some (.array (.object "java/lang/Object"))), Cond.methodLink RJx4a65c 79 Lib.Math.max.name, Cond.static Lib.Math.max.name, Cond.initialized "java/lang/Math", Cond.code Lib.Math.max.name Lib.Math.max.code 2 (some .int), Cond.classLink RJx4a65c 7 "java/lang/Object", Cond.methodLink RJx4a65c 73 yJ8_newLength_cabcc, Cond.static yJ8_newLength_cabcc]
def wsL_question_r4 : List Cond := [Cond.initialized RJ8, Cond.code yJ8_newLength_cabcc cJ8_newLength_cabcc 4 (some .int), Cond.methodLink RJ8 194 Lib.Math.max.name, Cond.constant RJ8 200 (2147483639), Cond.methodLink RJ8 201 yJ8_hugeLength_7cf53, Cond.static yJ8_hugeLength_7cf53, Cond.code yJ8_hugeLength_7cf53 cJ8_hugeLength_7cf53 3 (some .int), Cond.methodLink RJx4a65c 66 yJ7_copyOf_1904c, Cond.static yJ7_copyOf_1904c, Cond.initialized RJ7, Cond.code yJ7_copyOf_1904c cJ7_copyOf_1904c 2 (some (.array (.object "java/lang/Object"))), Cond.methodLink RJ7 86 ⟨"java/lang/Object", "getClass", "()Ljava/lang/Class;"⟩, Cond.selects "[Ljava/lang/Object;" ⟨"java/lang/Object", "getClass", "()Ljava/lang/Class;"⟩ ⟨"java/lang/Object", "getClass", "()Ljava/lang/Class;"⟩, Cond.instanceMethod ⟨"java/lang/Object", "getClass", "()Ljava/lang/Class;"⟩, Cond.native ⟨"java/lang/Object", "getClass", "()Ljava/lang/Class;"⟩, Cond.methodLink RJ7 300 yJ7_copyOf_6403c, Cond.static yJ7_copyOf_6403c, Cond.code yJ7_copyOf_6403c cJ7_copyOf_6403c 4 (some (.array (.object "java/lang/Object"))), Cond.classLink RJ7 110 "[Ljava/lang/Object;", Cond.classLink RJ7 2 "java/lang/Object", Cond.methodLink RJ7 304 Lib.Math.min.name, Cond.static Lib.Math.min.name, Cond.code Lib.Math.min.name Lib.Math.min.code 2 (some .int), Cond.methodLink RJ7 150 arraycopyName]
def wsL_question_r5 : List Cond := [Cond.native arraycopyName, Cond.static arraycopyName, Cond.initialized "java/lang/System"]
def wsL_question : List Cond := .codeWith yL_question cL_question 3 (some .int) [(0, 8, 11, 13)] :: ((wsL_question_r1 ++ (wsL_question_r2 ++ (wsL_question_r3 ++ (wsL_question_r4 ++ wsL_question_r5)))) ++ wsX60 ++ wsX40 ++ wsJx4a65c0 ++ (vx_atS RX6 44 "java/lang/IllegalStateException" ["java/lang/RuntimeException", "java/lang/Exception"]).filter goodWord)
def wsL_product_r1 : List Cond := [Cond.classLink RL 19 "java/lang/IndexOutOfBoundsException", Cond.classLink RL 13 "java/lang/IllegalStateException", Cond.methodLink RL 15 yX6_product, Cond.instanceMethod yX6_product, Cond.selects RX6 yX6_product yX6_product, Cond.initialized RX6, Cond.code yX6_product cX6_product 3 (some .int), Cond.classLink RX6 40 "java/lang/IllegalStateException", Cond.initialized "java/lang/IllegalStateException", Cond.fieldLink RX6 58 "AlertIndex$Question" "products" "Ljava/util/List;", Cond.classLink RX6 63 RX3, Cond.instantiable RX3 3, Cond.initialized RX3, Cond.methodLink RX6 54 yX6_questionOf, Cond.instanceMethod yX6_questionOf, Cond.selects RX6 yX6_questionOf yX6_questionOf, Cond.code yX6_questionOf cX6_questionOf 3 (some (.object "AlertIndex$Question")), Cond.classLink RX6 157 "java/lang/IndexOutOfBoundsException", Cond.initialized "java/lang/IndexOutOfBoundsException", Cond.fieldLink RX6 10 "AlertIndex" "questions" "Ljava/util/List;", Cond.classLink RX6 47 "AlertIndex$Question", Cond.fieldLink RX6 97 "AlertIndex$Question" "isDropped" "Z", Cond.methodLink RX6 34 ⟨"java/util/List", "size", "()I"⟩, Cond.selects RJx4a65c ⟨"java/util/List", "size", "()I"⟩ yJx4a65c_size_8abf5]
def wsL_product_r2 : List Cond := [Cond.instanceMethod yJx4a65c_size_8abf5, Cond.initialized RJx4a65c, Cond.code yJx4a65c_size_8abf5 cJx4a65c_size_8abf5 1 (some .int), Cond.fieldLink RJx4a65c 48 "java/util/ArrayList" "size" "I", Cond.methodLink RX6 122 ⟨"java/util/List", "get", "(I)Ljava/lang/Object;"⟩, Cond.selects RJx4a65c ⟨"java/util/List", "get", "(I)Ljava/lang/Object;"⟩ yJx4a65c_get_915e3, Cond.instanceMethod yJx4a65c_get_915e3, Cond.code yJx4a65c_get_915e3 cJx4a65c_get_915e3 2 (some (.object "java/lang/Object")), Cond.methodLink RJx4a65c 118 yJ15_checkIndex_7cf53, Cond.static yJ15_checkIndex_7cf53, Cond.initialized RJ15, Cond.code yJ15_checkIndex_7cf53 cJ15_checkIndex_7cf53 2 (some .int), Cond.methodLink RJ15 105 yJ3_checkIndex_8e157, Cond.static yJ3_checkIndex_8e157, Cond.initialized RJ3, Cond.code yJ3_checkIndex_8e157 cJ3_checkIndex_8e157 3 (some .int), Cond.methodLink RJx4a65c 123 yJx4a65c_elementData_915e3, Cond.instanceMethod yJx4a65c_elementData_915e3, Cond.selects RJx4a65c yJx4a65c_elementData_915e3 yJx4a65c_elementData_915e3, Cond.code yJx4a65c_elementData_915e3 cJx4a65c_elementData_915e3 2 (some (.object "java/lang/Object")), Cond.fieldLink RJx4a65c 9 "java/util/ArrayList" "elementData" "[Ljava/lang/Object;", Cond.methodLink RX6 65 yX3_init, Cond.instanceMethod yX3_init, Cond.code yX3_init cX3_init 1 none]
def wsL_product_r3 : List Cond := [Cond.methodLink RX3 1 objectInit, Cond.instanceMethod objectInit, Cond.code objectInit ⟨#[0xb1]⟩ 1 none, Cond.classLink RX3 7 RJx4a65c, Cond.instantiable RJx4a65c 3, Cond.fieldLink RX3 10 "AlertIndex$Product" "tests" "Ljava/util/List;", Cond.fieldLink RX3 16 "AlertIndex$Product" "plainTests" "I", Cond.fieldLink RX3 20 "AlertIndex$Product" "hits" "I", Cond.methodLink RX3 9 yJx4a65c_init_da8c8, Cond.instanceMethod yJx4a65c_init_da8c8, Cond.code yJx4a65c_init_da8c8 cJx4a65c_init_da8c8 1 none, Cond.fieldLink RJx4a65c 39 "java/util/ArrayList" "DEFAULTCAPACITY_EMPTY_ELEMENTDATA" "[Ljava/lang/Object;", Cond.methodLink RJx4a65c 1 yJxc12de_init_da8c8, Cond.instanceMethod yJxc12de_init_da8c8, Cond.initialized RJxc12de, Cond.code yJxc12de_init_da8c8 cJxc12de_init_da8c8 1 none, Cond.fieldLink RJxc12de 7 "java/util/AbstractList" "modCount" "I", Cond.methodLink RJxc12de 1 yJxa1e45_init_da8c8, Cond.instanceMethod yJxa1e45_init_da8c8, Cond.initialized RJxa1e45, Cond.code yJxa1e45_init_da8c8 cJxa1e45_init_da8c8 1 none, Cond.methodLink RJxa1e45 1 objectInit, Cond.methodLink RX6 50 ⟨"java/util/List", "add", "(Ljava/lang/Object;)Z"⟩, Cond.selects RJx4a65c ⟨"java/util/List", "add", "(Ljava/lang/Object;)Z"⟩ yJx4a65c_add_9ea2d]
def wsL_product_r4 : List Cond := [Cond.instanceMethod yJx4a65c_add_9ea2d, Cond.code yJx4a65c_add_9ea2d cJx4a65c_add_9ea2d 2 (some .boolean), Cond.fieldLink RJx4a65c 63 "java/util/ArrayList" "modCount" "I", Cond.sameField "java/util/ArrayList" "java/util/AbstractList" "modCount" "I", Cond.methodLink RJx4a65c 131 yJx4a65c_add_72be8, Cond.instanceMethod yJx4a65c_add_72be8, Cond.selects RJx4a65c yJx4a65c_add_72be8 yJx4a65c_add_72be8, Cond.code yJx4a65c_add_72be8 cJx4a65c_add_72be8 4 none, Cond.methodLink RJx4a65c 129 yJx4a65c_grow_d5877, Cond.instanceMethod yJx4a65c_grow_d5877, Cond.selects RJx4a65c yJx4a65c_grow_d5877 yJx4a65c_grow_d5877, Cond.code yJx4a65c_grow_d5877 cJx4a65c_grow_d5877 1 (some (.array (.object "java/lang/Object"))), Cond.methodLink RJx4a65c 69 yJx4a65c_grow_92f84, Cond.instanceMethod yJx4a65c_grow_92f84, Cond.selects RJx4a65c yJx4a65c_grow_92f84 yJx4a65c_grow_92f84, Cond.code yJx4a65c_grow_92f84 cJx4a65c_grow_92f84 4 (some (.array (.object "java/lang/Object"))), Cond.methodLink RJx4a65c 79 Lib.Math.max.name, Cond.static Lib.Math.max.name, Cond.initialized "java/lang/Math", Cond.code Lib.Math.max.name Lib.Math.max.code 2 (some .int), Cond.classLink RJx4a65c 7 "java/lang/Object", Cond.methodLink RJx4a65c 73 yJ8_newLength_cabcc, Cond.static yJ8_newLength_cabcc, Cond.initialized RJ8]
def wsL_product_r5 : List Cond := [Cond.code yJ8_newLength_cabcc cJ8_newLength_cabcc 4 (some .int), Cond.methodLink RJ8 194 Lib.Math.max.name, Cond.constant RJ8 200 (2147483639), Cond.methodLink RJ8 201 yJ8_hugeLength_7cf53, Cond.static yJ8_hugeLength_7cf53, Cond.code yJ8_hugeLength_7cf53 cJ8_hugeLength_7cf53 3 (some .int), Cond.methodLink RJx4a65c 66 yJ7_copyOf_1904c, Cond.static yJ7_copyOf_1904c, Cond.initialized RJ7, Cond.code yJ7_copyOf_1904c cJ7_copyOf_1904c 2 (some (.array (.object "java/lang/Object"))), Cond.methodLink RJ7 86 ⟨"java/lang/Object", "getClass", "()Ljava/lang/Class;"⟩, Cond.selects "[Ljava/lang/Object;" ⟨"java/lang/Object", "getClass", "()Ljava/lang/Class;"⟩ ⟨"java/lang/Object", "getClass", "()Ljava/lang/Class;"⟩, Cond.instanceMethod ⟨"java/lang/Object", "getClass", "()Ljava/lang/Class;"⟩, Cond.native ⟨"java/lang/Object", "getClass", "()Ljava/lang/Class;"⟩, Cond.methodLink RJ7 300 yJ7_copyOf_6403c, Cond.static yJ7_copyOf_6403c, Cond.code yJ7_copyOf_6403c cJ7_copyOf_6403c 4 (some (.array (.object "java/lang/Object"))), Cond.classLink RJ7 110 "[Ljava/lang/Object;", Cond.classLink RJ7 2 "java/lang/Object", Cond.methodLink RJ7 304 Lib.Math.min.name, Cond.static Lib.Math.min.name, Cond.code Lib.Math.min.name Lib.Math.min.code 2 (some .int), Cond.methodLink RJ7 150 arraycopyName, Cond.native arraycopyName]
def wsL_product_r6 : List Cond := [Cond.static arraycopyName, Cond.initialized "java/lang/System"]
def wsL_product : List Cond := .codeWith yL_product cL_product 4 (some .int) [(0, 9, 12, 19), (0, 9, 15, 13)] :: ((wsL_product_r1 ++ (wsL_product_r2 ++ (wsL_product_r3 ++ (wsL_product_r4 ++ (wsL_product_r5 ++ wsL_product_r6))))) ++ wsX40 ++ wsX30 ++ wsX60 ++ wsJx4a65c0 ++ (vx_atS RX6 44 "java/lang/IllegalStateException" ["java/lang/RuntimeException", "java/lang/Exception"]).filter goodWord ++ (vx_atS RX6 161 "java/lang/IndexOutOfBoundsException" ["java/lang/RuntimeException", "java/lang/Exception"]).filter goodWord)
def wsL_test_r1 : List Cond := [Cond.classLink RL 19 "java/lang/IndexOutOfBoundsException", Cond.classLink RL 25 "java/lang/IllegalArgumentException", Cond.classLink RL 13 "java/lang/IllegalStateException", Cond.methodLink RL 21 yX6_test, Cond.instanceMethod yX6_test, Cond.selects RX6 yX6_test yX6_test, Cond.initialized RX6, Cond.code yX6_test cX6_test 8 (some .int), Cond.classLink RX6 40 "java/lang/IllegalStateException", Cond.initialized "java/lang/IllegalStateException", Cond.fieldLink RX6 80 "AlertIndex$Product" "tests" "Ljava/util/List;", Cond.classLink RX6 85 RX5, Cond.instantiable RX5 4, Cond.initialized RX5, Cond.fieldLink RX6 90 "AlertIndex$Product" "plainTests" "I", Cond.fieldLink RX6 26 "AlertIndex" "index" "LAlertIndex$PieceIndex;", Cond.methodLink RX6 54 yX6_questionOf, Cond.instanceMethod yX6_questionOf, Cond.selects RX6 yX6_questionOf yX6_questionOf, Cond.code yX6_questionOf cX6_questionOf 3 (some (.object "AlertIndex$Question")), Cond.classLink RX6 157 "java/lang/IndexOutOfBoundsException", Cond.initialized "java/lang/IndexOutOfBoundsException", Cond.fieldLink RX6 10 "AlertIndex" "questions" "Ljava/util/List;", Cond.classLink RX6 47 "AlertIndex$Question"]
def wsL_test_r2 : List Cond := [Cond.fieldLink RX6 97 "AlertIndex$Question" "isDropped" "Z", Cond.methodLink RX6 34 ⟨"java/util/List", "size", "()I"⟩, Cond.selects RJx4a65c ⟨"java/util/List", "size", "()I"⟩ yJx4a65c_size_8abf5, Cond.instanceMethod yJx4a65c_size_8abf5, Cond.initialized RJx4a65c, Cond.code yJx4a65c_size_8abf5 cJx4a65c_size_8abf5 1 (some .int), Cond.fieldLink RJx4a65c 48 "java/util/ArrayList" "size" "I", Cond.methodLink RX6 122 ⟨"java/util/List", "get", "(I)Ljava/lang/Object;"⟩, Cond.selects RJx4a65c ⟨"java/util/List", "get", "(I)Ljava/lang/Object;"⟩ yJx4a65c_get_915e3, Cond.instanceMethod yJx4a65c_get_915e3, Cond.code yJx4a65c_get_915e3 cJx4a65c_get_915e3 2 (some (.object "java/lang/Object")), Cond.methodLink RJx4a65c 118 yJ15_checkIndex_7cf53, Cond.static yJ15_checkIndex_7cf53, Cond.initialized RJ15, Cond.code yJ15_checkIndex_7cf53 cJ15_checkIndex_7cf53 2 (some .int), Cond.methodLink RJ15 105 yJ3_checkIndex_8e157, Cond.static yJ3_checkIndex_8e157, Cond.initialized RJ3, Cond.code yJ3_checkIndex_8e157 cJ3_checkIndex_8e157 3 (some .int), Cond.methodLink RJx4a65c 123 yJx4a65c_elementData_915e3, Cond.instanceMethod yJx4a65c_elementData_915e3, Cond.selects RJx4a65c yJx4a65c_elementData_915e3 yJx4a65c_elementData_915e3, Cond.code yJx4a65c_elementData_915e3 cJx4a65c_elementData_915e3 2 (some (.object "java/lang/Object")), Cond.fieldLink RJx4a65c 9 "java/util/ArrayList" "elementData" "[Ljava/lang/Object;"]
def wsL_test_r3 : List Cond := [Cond.methodLink RX6 66 yX6_refuseNoName, Cond.static yX6_refuseNoName, Cond.code yX6_refuseNoName cX6_refuseNoName 1 none, Cond.methodLink RX6 70 yX6_refuseNoRange, Cond.static yX6_refuseNoRange, Cond.code yX6_refuseNoRange cX6_refuseNoRange 2 none, Cond.classLink RX6 104 "java/lang/IllegalArgumentException", Cond.initialized "java/lang/IllegalArgumentException", Cond.methodLink RX6 112 yX6_isValue, Cond.static yX6_isValue, Cond.code yX6_isValue cX6_isValue 1 (some .boolean), Cond.methodLink RX6 74 yX4_lastProduct, Cond.instanceMethod yX4_lastProduct, Cond.selects RX4 yX4_lastProduct yX4_lastProduct, Cond.initialized RX4, Cond.code yX4_lastProduct cX4_lastProduct 2 (some (.object "AlertIndex$Product")), Cond.fieldLink RX4 12 "AlertIndex$Question" "products" "Ljava/util/List;", Cond.classLink RX4 45 "AlertIndex$Product", Cond.methodLink RX4 35 ⟨"java/util/List", "size", "()I"⟩, Cond.methodLink RX4 41 ⟨"java/util/List", "get", "(I)Ljava/lang/Object;"⟩, Cond.methodLink RX6 87 yX5_init, Cond.instanceMethod yX5_init, Cond.code yX5_init cX5_init 5 none, Cond.methodLink RX5 3 objectInit]
def wsL_test_r4 : List Cond := [Cond.instanceMethod objectInit, Cond.code objectInit ⟨#[0xb1]⟩ 1 none, Cond.fieldLink RX5 9 "AlertIndex$Test" "name" "I", Cond.fieldLink RX5 15 "AlertIndex$Test" "low" "I", Cond.fieldLink RX5 18 "AlertIndex$Test" "high" "I", Cond.fieldLink RX5 21 "AlertIndex$Test" "isBarred" "Z", Cond.methodLink RX6 50 ⟨"java/util/List", "add", "(Ljava/lang/Object;)Z"⟩, Cond.selects RJx4a65c ⟨"java/util/List", "add", "(Ljava/lang/Object;)Z"⟩ yJx4a65c_add_9ea2d, Cond.instanceMethod yJx4a65c_add_9ea2d, Cond.code yJx4a65c_add_9ea2d cJx4a65c_add_9ea2d 2 (some .boolean), Cond.fieldLink RJx4a65c 63 "java/util/ArrayList" "modCount" "I", Cond.sameField "java/util/ArrayList" "java/util/AbstractList" "modCount" "I", Cond.methodLink RJx4a65c 131 yJx4a65c_add_72be8, Cond.instanceMethod yJx4a65c_add_72be8, Cond.selects RJx4a65c yJx4a65c_add_72be8 yJx4a65c_add_72be8, Cond.code yJx4a65c_add_72be8 cJx4a65c_add_72be8 4 none, Cond.methodLink RJx4a65c 129 yJx4a65c_grow_d5877, Cond.instanceMethod yJx4a65c_grow_d5877, Cond.selects RJx4a65c yJx4a65c_grow_d5877 yJx4a65c_grow_d5877, Cond.code yJx4a65c_grow_d5877 cJx4a65c_grow_d5877 1 (some (.array (.object "java/lang/Object"))), Cond.methodLink RJx4a65c 69 yJx4a65c_grow_92f84, Cond.instanceMethod yJx4a65c_grow_92f84, Cond.selects RJx4a65c yJx4a65c_grow_92f84 yJx4a65c_grow_92f84, Cond.code yJx4a65c_grow_92f84 cJx4a65c_grow_92f84 4 (some (.array (.object "java/lang/Object")))]
def wsL_test_r5 : List Cond := [Cond.fieldLink RJx4a65c 39 "java/util/ArrayList" "DEFAULTCAPACITY_EMPTY_ELEMENTDATA" "[Ljava/lang/Object;", Cond.methodLink RJx4a65c 79 Lib.Math.max.name, Cond.static Lib.Math.max.name, Cond.initialized "java/lang/Math", Cond.code Lib.Math.max.name Lib.Math.max.code 2 (some .int), Cond.classLink RJx4a65c 7 "java/lang/Object", Cond.methodLink RJx4a65c 73 yJ8_newLength_cabcc, Cond.static yJ8_newLength_cabcc, Cond.initialized RJ8, Cond.code yJ8_newLength_cabcc cJ8_newLength_cabcc 4 (some .int), Cond.methodLink RJ8 194 Lib.Math.max.name, Cond.constant RJ8 200 (2147483639), Cond.methodLink RJ8 201 yJ8_hugeLength_7cf53, Cond.static yJ8_hugeLength_7cf53, Cond.code yJ8_hugeLength_7cf53 cJ8_hugeLength_7cf53 3 (some .int), Cond.methodLink RJx4a65c 66 yJ7_copyOf_1904c, Cond.static yJ7_copyOf_1904c, Cond.initialized RJ7, Cond.code yJ7_copyOf_1904c cJ7_copyOf_1904c 2 (some (.array (.object "java/lang/Object"))), Cond.methodLink RJ7 86 ⟨"java/lang/Object", "getClass", "()Ljava/lang/Class;"⟩, Cond.selects "[Ljava/lang/Object;" ⟨"java/lang/Object", "getClass", "()Ljava/lang/Class;"⟩ ⟨"java/lang/Object", "getClass", "()Ljava/lang/Class;"⟩, Cond.instanceMethod ⟨"java/lang/Object", "getClass", "()Ljava/lang/Class;"⟩, Cond.native ⟨"java/lang/Object", "getClass", "()Ljava/lang/Class;"⟩, Cond.methodLink RJ7 300 yJ7_copyOf_6403c]
def wsL_test_r6 : List Cond := [Cond.static yJ7_copyOf_6403c, Cond.code yJ7_copyOf_6403c cJ7_copyOf_6403c 4 (some (.array (.object "java/lang/Object"))), Cond.classLink RJ7 110 "[Ljava/lang/Object;", Cond.classLink RJ7 2 "java/lang/Object", Cond.methodLink RJ7 304 Lib.Math.min.name, Cond.static Lib.Math.min.name, Cond.code Lib.Math.min.name Lib.Math.min.code 2 (some .int), Cond.methodLink RJ7 150 arraycopyName, Cond.native arraycopyName, Cond.static arraycopyName, Cond.initialized "java/lang/System", Cond.methodLink RX6 93 yX1_enter, Cond.instanceMethod yX1_enter, Cond.selects RX1 yX1_enter yX1_enter, Cond.initialized RX1, Cond.code yX1_enter cX1_enter 8 none, Cond.static yX6_levelOfPiece, Cond.code yX6_levelOfPiece cX6_levelOfPiece 4 (some .int), Cond.methodLink RX1 21 yX1_post, Cond.instanceMethod yX1_post, Cond.selects RX1 yX1_post yX1_post, Cond.code yX1_post cX1_post 3 none, Cond.fieldLink RX1 13 "AlertIndex$PieceIndex" "firsts" "[LAlertIndex$Posting;", Cond.classLink RX1 11 RX2]
def wsL_test_r7 : List Cond := [Cond.instantiable RX2 2, Cond.initialized RX2, Cond.methodLink RX1 25 yX2_init, Cond.instanceMethod yX2_init, Cond.code yX2_init cX2_init 3 none, Cond.methodLink RX2 1 objectInit, Cond.fieldLink RX2 7 "AlertIndex$Posting" "product" "LAlertIndex$Product;", Cond.fieldLink RX2 13 "AlertIndex$Posting" "next" "LAlertIndex$Posting;"]
def wsL_test : List Cond := .codeWith yL_test cL_test 8 (some .int) [(0, 16, 19, 19), (0, 16, 23, 25), (0, 16, 27, 13)] :: ((wsL_test_r1 ++ (wsL_test_r2 ++ (wsL_test_r3 ++ (wsL_test_r4 ++ (wsL_test_r5 ++ (wsL_test_r6 ++ wsL_test_r7)))))) ++ wsX30 ++ wsX50 ++ wsX60 ++ wsX40 ++ wsJx4a65c0 ++ wsX10 ++ wsX20 ++ (vx_atS RX6 44 "java/lang/IllegalStateException" ["java/lang/RuntimeException", "java/lang/Exception"]).filter goodWord ++ (vx_atS RX6 161 "java/lang/IndexOutOfBoundsException" ["java/lang/RuntimeException", "java/lang/Exception"]).filter goodWord ++ (vx_atS RX6 108 "java/lang/IllegalArgumentException" ["java/lang/RuntimeException", "java/lang/Exception"]).filter goodWord)
def wsL_drop_r1 : List Cond := [Cond.classLink RL 19 "java/lang/IndexOutOfBoundsException", Cond.methodLink RL 27 yX6_drop, Cond.instanceMethod yX6_drop, Cond.selects RX6 yX6_drop yX6_drop, Cond.initialized RX6, Cond.code yX6_drop cX6_drop 3 (some .int), Cond.fieldLink RX6 97 "AlertIndex$Question" "isDropped" "Z", Cond.fieldLink RX6 101 "AlertIndex$Question" "batch" "I", Cond.methodLink RX6 54 yX6_questionOf, Cond.instanceMethod yX6_questionOf, Cond.selects RX6 yX6_questionOf yX6_questionOf, Cond.code yX6_questionOf cX6_questionOf 3 (some (.object "AlertIndex$Question")), Cond.classLink RX6 157 "java/lang/IndexOutOfBoundsException", Cond.initialized "java/lang/IndexOutOfBoundsException", Cond.fieldLink RX6 10 "AlertIndex" "questions" "Ljava/util/List;", Cond.classLink RX6 47 "AlertIndex$Question", Cond.methodLink RX6 34 ⟨"java/util/List", "size", "()I"⟩, Cond.selects RJx4a65c ⟨"java/util/List", "size", "()I"⟩ yJx4a65c_size_8abf5, Cond.instanceMethod yJx4a65c_size_8abf5, Cond.initialized RJx4a65c, Cond.code yJx4a65c_size_8abf5 cJx4a65c_size_8abf5 1 (some .int), Cond.fieldLink RJx4a65c 48 "java/util/ArrayList" "size" "I", Cond.methodLink RX6 122 ⟨"java/util/List", "get", "(I)Ljava/lang/Object;"⟩, Cond.selects RJx4a65c ⟨"java/util/List", "get", "(I)Ljava/lang/Object;"⟩ yJx4a65c_get_915e3]
def wsL_drop_r2 : List Cond := [Cond.instanceMethod yJx4a65c_get_915e3, Cond.code yJx4a65c_get_915e3 cJx4a65c_get_915e3 2 (some (.object "java/lang/Object")), Cond.methodLink RJx4a65c 118 yJ15_checkIndex_7cf53, Cond.static yJ15_checkIndex_7cf53, Cond.initialized RJ15, Cond.code yJ15_checkIndex_7cf53 cJ15_checkIndex_7cf53 2 (some .int), Cond.methodLink RJ15 105 yJ3_checkIndex_8e157, Cond.static yJ3_checkIndex_8e157, Cond.initialized RJ3, Cond.code yJ3_checkIndex_8e157 cJ3_checkIndex_8e157 3 (some .int), Cond.methodLink RJx4a65c 123 yJx4a65c_elementData_915e3, Cond.instanceMethod yJx4a65c_elementData_915e3, Cond.selects RJx4a65c yJx4a65c_elementData_915e3 yJx4a65c_elementData_915e3, Cond.code yJx4a65c_elementData_915e3 cJx4a65c_elementData_915e3 2 (some (.object "java/lang/Object")), Cond.fieldLink RJx4a65c 9 "java/util/ArrayList" "elementData" "[Ljava/lang/Object;"]
def wsL_drop : List Cond := .codeWith yL_drop cL_drop 4 (some .int) [(0, 9, 12, 19)] :: ((wsL_drop_r1 ++ wsL_drop_r2) ++ wsX40 ++ wsX60 ++ wsJx4a65c0 ++ (vx_atS RX6 161 "java/lang/IndexOutOfBoundsException" ["java/lang/RuntimeException", "java/lang/Exception"]).filter goodWord)
def wsL_setQuiet_r1 : List Cond := [Cond.classLink RL 19 "java/lang/IndexOutOfBoundsException", Cond.classLink RL 25 "java/lang/IllegalArgumentException", Cond.methodLink RL 30 yX6_setQuiet, Cond.instanceMethod yX6_setQuiet, Cond.selects RX6 yX6_setQuiet yX6_setQuiet, Cond.initialized RX6, Cond.code yX6_setQuiet cX6_setQuiet 5 (some .int), Cond.classLink RX6 104 "java/lang/IllegalArgumentException", Cond.initialized "java/lang/IllegalArgumentException", Cond.fieldLink RX6 109 "AlertIndex$Question" "quietMinutes" "I", Cond.methodLink RX6 54 yX6_questionOf, Cond.instanceMethod yX6_questionOf, Cond.selects RX6 yX6_questionOf yX6_questionOf, Cond.code yX6_questionOf cX6_questionOf 3 (some (.object "AlertIndex$Question")), Cond.classLink RX6 157 "java/lang/IndexOutOfBoundsException", Cond.initialized "java/lang/IndexOutOfBoundsException", Cond.fieldLink RX6 10 "AlertIndex" "questions" "Ljava/util/List;", Cond.classLink RX6 47 "AlertIndex$Question", Cond.fieldLink RX6 97 "AlertIndex$Question" "isDropped" "Z", Cond.methodLink RX6 34 ⟨"java/util/List", "size", "()I"⟩, Cond.selects RJx4a65c ⟨"java/util/List", "size", "()I"⟩ yJx4a65c_size_8abf5, Cond.instanceMethod yJx4a65c_size_8abf5, Cond.initialized RJx4a65c, Cond.code yJx4a65c_size_8abf5 cJx4a65c_size_8abf5 1 (some .int)]
def wsL_setQuiet_r2 : List Cond := [Cond.fieldLink RJx4a65c 48 "java/util/ArrayList" "size" "I", Cond.methodLink RX6 122 ⟨"java/util/List", "get", "(I)Ljava/lang/Object;"⟩, Cond.selects RJx4a65c ⟨"java/util/List", "get", "(I)Ljava/lang/Object;"⟩ yJx4a65c_get_915e3, Cond.instanceMethod yJx4a65c_get_915e3, Cond.code yJx4a65c_get_915e3 cJx4a65c_get_915e3 2 (some (.object "java/lang/Object")), Cond.methodLink RJx4a65c 118 yJ15_checkIndex_7cf53, Cond.static yJ15_checkIndex_7cf53, Cond.initialized RJ15, Cond.code yJ15_checkIndex_7cf53 cJ15_checkIndex_7cf53 2 (some .int), Cond.methodLink RJ15 105 yJ3_checkIndex_8e157, Cond.static yJ3_checkIndex_8e157, Cond.initialized RJ3, Cond.code yJ3_checkIndex_8e157 cJ3_checkIndex_8e157 3 (some .int), Cond.methodLink RJx4a65c 123 yJx4a65c_elementData_915e3, Cond.instanceMethod yJx4a65c_elementData_915e3, Cond.selects RJx4a65c yJx4a65c_elementData_915e3 yJx4a65c_elementData_915e3, Cond.code yJx4a65c_elementData_915e3 cJx4a65c_elementData_915e3 2 (some (.object "java/lang/Object")), Cond.fieldLink RJx4a65c 9 "java/util/ArrayList" "elementData" "[Ljava/lang/Object;"]
def wsL_setQuiet : List Cond := .codeWith yL_setQuiet cL_setQuiet 5 (some .int) [(0, 10, 13, 19), (0, 10, 17, 25)] :: ((wsL_setQuiet_r1 ++ wsL_setQuiet_r2) ++ wsX40 ++ wsX60 ++ wsJx4a65c0 ++ (vx_atS RX6 108 "java/lang/IllegalArgumentException" ["java/lang/RuntimeException", "java/lang/Exception"]).filter goodWord ++ (vx_atS RX6 161 "java/lang/IndexOutOfBoundsException" ["java/lang/RuntimeException", "java/lang/Exception"]).filter goodWord)
def wsL_set_r1 : List Cond := [Cond.classLink RL 19 "java/lang/IndexOutOfBoundsException", Cond.classLink RL 25 "java/lang/IllegalArgumentException", Cond.methodLink RL 34 yX6_set, Cond.instanceMethod yX6_set, Cond.selects RX6 yX6_set yX6_set, Cond.initialized RX6, Cond.code yX6_set cX6_set 3 (some .int), Cond.classLink RX6 104 "java/lang/IllegalArgumentException", Cond.initialized "java/lang/IllegalArgumentException", Cond.fieldLink RX6 19 "AlertIndex" "draft" "LAlertIndex$Draft;", Cond.methodLink RX6 66 yX6_refuseNoName, Cond.static yX6_refuseNoName, Cond.code yX6_refuseNoName cX6_refuseNoName 1 none, Cond.classLink RX6 157 "java/lang/IndexOutOfBoundsException", Cond.initialized "java/lang/IndexOutOfBoundsException", Cond.methodLink RX6 112 yX6_isValue, Cond.static yX6_isValue, Cond.code yX6_isValue cX6_isValue 1 (some .boolean), Cond.methodLink RX6 118 yX0_replace, Cond.instanceMethod yX0_replace, Cond.selects RX0 yX0_replace yX0_replace, Cond.initialized RX0, Cond.code yX0_replace cX0_replace 4 (some .int), Cond.fieldLink RX0 9 "AlertIndex$Draft" "values" "[I"]
def wsL_set_r2 : List Cond := [Cond.methodLink RX0 21 yX0_valueOf, Cond.instanceMethod yX0_valueOf, Cond.selects RX0 yX0_valueOf yX0_valueOf, Cond.code yX0_valueOf cX0_valueOf 2 (some .int)]
def wsL_set : List Cond := .codeWith yL_set cL_set 5 (some .int) [(0, 10, 13, 19), (0, 10, 17, 25)] :: ((wsL_set_r1 ++ wsL_set_r2) ++ wsX60 ++ wsX00 ++ (vx_atS RX6 108 "java/lang/IllegalArgumentException" ["java/lang/RuntimeException", "java/lang/Exception"]).filter goodWord ++ (vx_atS RX6 161 "java/lang/IndexOutOfBoundsException" ["java/lang/RuntimeException", "java/lang/Exception"]).filter goodWord)
def wsL_advance_r1 : List Cond := [Cond.classLink RL 25 "java/lang/IllegalArgumentException", Cond.classLink RL 13 "java/lang/IllegalStateException", Cond.methodLink RL 37 yX6_advance, Cond.instanceMethod yX6_advance, Cond.selects RX6 yX6_advance yX6_advance, Cond.initialized RX6, Cond.code yX6_advance cX6_advance 4 (some .int), Cond.classLink RX6 104 "java/lang/IllegalArgumentException", Cond.initialized "java/lang/IllegalArgumentException", Cond.classLink RX6 40 "java/lang/IllegalStateException", Cond.initialized "java/lang/IllegalStateException", Cond.constant RX6 135 (1000000), Cond.fieldLink RX6 30 "AlertIndex" "minute" "I", Cond.fieldLink RX6 10 "AlertIndex" "questions" "Ljava/util/List;", Cond.classLink RX6 47 "AlertIndex$Question", Cond.methodLink RX6 34 ⟨"java/util/List", "size", "()I"⟩, Cond.selects RJx4a65c ⟨"java/util/List", "size", "()I"⟩ yJx4a65c_size_8abf5, Cond.instanceMethod yJx4a65c_size_8abf5, Cond.initialized RJx4a65c, Cond.code yJx4a65c_size_8abf5 cJx4a65c_size_8abf5 1 (some .int), Cond.fieldLink RJx4a65c 48 "java/util/ArrayList" "size" "I", Cond.methodLink RX6 122 ⟨"java/util/List", "get", "(I)Ljava/lang/Object;"⟩, Cond.selects RJx4a65c ⟨"java/util/List", "get", "(I)Ljava/lang/Object;"⟩ yJx4a65c_get_915e3, Cond.instanceMethod yJx4a65c_get_915e3]
def wsL_advance_r2 : List Cond := [Cond.code yJx4a65c_get_915e3 cJx4a65c_get_915e3 2 (some (.object "java/lang/Object")), Cond.methodLink RJx4a65c 118 yJ15_checkIndex_7cf53, Cond.static yJ15_checkIndex_7cf53, Cond.initialized RJ15, Cond.code yJ15_checkIndex_7cf53 cJ15_checkIndex_7cf53 2 (some .int), Cond.methodLink RJ15 105 yJ3_checkIndex_8e157, Cond.static yJ3_checkIndex_8e157, Cond.initialized RJ3, Cond.code yJ3_checkIndex_8e157 cJ3_checkIndex_8e157 3 (some .int), Cond.methodLink RJx4a65c 123 yJx4a65c_elementData_915e3, Cond.instanceMethod yJx4a65c_elementData_915e3, Cond.selects RJx4a65c yJx4a65c_elementData_915e3 yJx4a65c_elementData_915e3, Cond.code yJx4a65c_elementData_915e3 cJx4a65c_elementData_915e3 2 (some (.object "java/lang/Object")), Cond.fieldLink RJx4a65c 9 "java/util/ArrayList" "elementData" "[Ljava/lang/Object;", Cond.methodLink RX6 138 yX4_sendBatch, Cond.instanceMethod yX4_sendBatch, Cond.selects RX4 yX4_sendBatch yX4_sendBatch, Cond.initialized RX4, Cond.code yX4_sendBatch cX4_sendBatch 2 (some .boolean), Cond.fieldLink RX4 18 "AlertIndex$Question" "isDropped" "Z", Cond.fieldLink RX4 32 "AlertIndex$Question" "batch" "I", Cond.fieldLink RX4 26 "AlertIndex$Question" "quietUntil" "I", Cond.methodLink RX4 70 yX4_isQuietAt, Cond.instanceMethod yX4_isQuietAt]
def wsL_advance_r3 : List Cond := [Cond.selects RX4 yX4_isQuietAt yX4_isQuietAt, Cond.code yX4_isQuietAt cX4_isQuietAt 2 (some .boolean), Cond.methodLink RX4 74 yX4_raiseAlert, Cond.instanceMethod yX4_raiseAlert, Cond.selects RX4 yX4_raiseAlert yX4_raiseAlert, Cond.code yX4_raiseAlert cX4_raiseAlert 2 none, Cond.fieldLink RX4 29 "AlertIndex$Question" "alerts" "I", Cond.fieldLink RX4 22 "AlertIndex$Question" "quietMinutes" "I"]
def wsL_advance : List Cond := .codeWith yL_advance cL_advance 4 (some .int) [(0, 9, 12, 25), (0, 9, 15, 13)] :: ((wsL_advance_r1 ++ (wsL_advance_r2 ++ wsL_advance_r3)) ++ wsX60 ++ wsJx4a65c0 ++ wsX40 ++ (vx_atS RX6 108 "java/lang/IllegalArgumentException" ["java/lang/RuntimeException", "java/lang/Exception"]).filter goodWord ++ (vx_atS RX6 44 "java/lang/IllegalStateException" ["java/lang/RuntimeException", "java/lang/Exception"]).filter goodWord)
def wsL_satisfies_r1 : List Cond := [Cond.classLink RL 19 "java/lang/IndexOutOfBoundsException", Cond.methodLink RL 40 yX6_satisfies, Cond.instanceMethod yX6_satisfies, Cond.selects RX6 yX6_satisfies yX6_satisfies, Cond.initialized RX6, Cond.code yX6_satisfies cX6_satisfies 2 (some .boolean), Cond.fieldLink RX6 19 "AlertIndex" "draft" "LAlertIndex$Draft;", Cond.methodLink RX6 54 yX6_questionOf, Cond.instanceMethod yX6_questionOf, Cond.selects RX6 yX6_questionOf yX6_questionOf, Cond.code yX6_questionOf cX6_questionOf 3 (some (.object "AlertIndex$Question")), Cond.classLink RX6 157 "java/lang/IndexOutOfBoundsException", Cond.initialized "java/lang/IndexOutOfBoundsException", Cond.fieldLink RX6 10 "AlertIndex" "questions" "Ljava/util/List;", Cond.classLink RX6 47 "AlertIndex$Question", Cond.fieldLink RX6 97 "AlertIndex$Question" "isDropped" "Z", Cond.methodLink RX6 34 ⟨"java/util/List", "size", "()I"⟩, Cond.selects RJx4a65c ⟨"java/util/List", "size", "()I"⟩ yJx4a65c_size_8abf5, Cond.instanceMethod yJx4a65c_size_8abf5, Cond.initialized RJx4a65c, Cond.code yJx4a65c_size_8abf5 cJx4a65c_size_8abf5 1 (some .int), Cond.fieldLink RJx4a65c 48 "java/util/ArrayList" "size" "I", Cond.methodLink RX6 122 ⟨"java/util/List", "get", "(I)Ljava/lang/Object;"⟩, Cond.selects RJx4a65c ⟨"java/util/List", "get", "(I)Ljava/lang/Object;"⟩ yJx4a65c_get_915e3]
def wsL_satisfies_r2 : List Cond := [Cond.instanceMethod yJx4a65c_get_915e3, Cond.code yJx4a65c_get_915e3 cJx4a65c_get_915e3 2 (some (.object "java/lang/Object")), Cond.methodLink RJx4a65c 118 yJ15_checkIndex_7cf53, Cond.static yJ15_checkIndex_7cf53, Cond.initialized RJ15, Cond.code yJ15_checkIndex_7cf53 cJ15_checkIndex_7cf53 2 (some .int), Cond.methodLink RJ15 105 yJ3_checkIndex_8e157, Cond.static yJ3_checkIndex_8e157, Cond.initialized RJ3, Cond.code yJ3_checkIndex_8e157 cJ3_checkIndex_8e157 3 (some .int), Cond.methodLink RJx4a65c 123 yJx4a65c_elementData_915e3, Cond.instanceMethod yJx4a65c_elementData_915e3, Cond.selects RJx4a65c yJx4a65c_elementData_915e3 yJx4a65c_elementData_915e3, Cond.code yJx4a65c_elementData_915e3 cJx4a65c_elementData_915e3 2 (some (.object "java/lang/Object")), Cond.fieldLink RJx4a65c 9 "java/util/ArrayList" "elementData" "[Ljava/lang/Object;", Cond.methodLink RX6 126 yX4_isSatisfied, Cond.instanceMethod yX4_isSatisfied, Cond.selects RX4 yX4_isSatisfied yX4_isSatisfied, Cond.initialized RX4, Cond.code yX4_isSatisfied cX4_isSatisfied 3 (some .boolean), Cond.fieldLink RX4 18 "AlertIndex$Question" "isDropped" "Z", Cond.fieldLink RX4 12 "AlertIndex$Question" "products" "Ljava/util/List;", Cond.classLink RX4 45 "AlertIndex$Product", Cond.methodLink RX4 35 ⟨"java/util/List", "size", "()I"⟩]
def wsL_satisfies_r3 : List Cond := [Cond.methodLink RX4 41 ⟨"java/util/List", "get", "(I)Ljava/lang/Object;"⟩, Cond.methodLink RX4 60 yX3_isTrue, Cond.instanceMethod yX3_isTrue, Cond.selects RX3 yX3_isTrue yX3_isTrue, Cond.initialized RX3, Cond.code yX3_isTrue cX3_isTrue 3 (some .boolean), Cond.fieldLink RX3 10 "AlertIndex$Product" "tests" "Ljava/util/List;", Cond.classLink RX3 33 "AlertIndex$Test", Cond.methodLink RX3 23 ⟨"java/util/List", "size", "()I"⟩, Cond.methodLink RX3 29 ⟨"java/util/List", "get", "(I)Ljava/lang/Object;"⟩, Cond.methodLink RX3 35 yX5_isTrue, Cond.instanceMethod yX5_isTrue, Cond.selects RX5 yX5_isTrue yX5_isTrue, Cond.initialized RX5, Cond.code yX5_isTrue cX5_isTrue 4 (some .boolean), Cond.fieldLink RX5 9 "AlertIndex$Test" "name" "I", Cond.fieldLink RX5 15 "AlertIndex$Test" "low" "I", Cond.fieldLink RX5 18 "AlertIndex$Test" "high" "I", Cond.fieldLink RX5 21 "AlertIndex$Test" "isBarred" "Z", Cond.methodLink RX5 25 yX0_valueOf, Cond.instanceMethod yX0_valueOf, Cond.selects RX0 yX0_valueOf yX0_valueOf, Cond.initialized RX0, Cond.code yX0_valueOf cX0_valueOf 2 (some .int)]
def wsL_satisfies_r4 : List Cond := [Cond.fieldLink RX0 9 "AlertIndex$Draft" "values" "[I"]
def wsL_satisfies : List Cond := .codeWith yL_satisfies cL_satisfies 4 (some .int) [(0, 16, 19, 19)] :: ((wsL_satisfies_r1 ++ (wsL_satisfies_r2 ++ (wsL_satisfies_r3 ++ wsL_satisfies_r4))) ++ wsX60 ++ wsX40 ++ wsJx4a65c0 ++ wsX30 ++ wsX50 ++ wsX00 ++ (vx_atS RX6 161 "java/lang/IndexOutOfBoundsException" ["java/lang/RuntimeException", "java/lang/Exception"]).filter goodWord)
def wsL_sizeOf_r1 : List Cond := [Cond.classLink RL 19 "java/lang/IndexOutOfBoundsException", Cond.methodLink RL 44 yX6_sizeOf, Cond.instanceMethod yX6_sizeOf, Cond.selects RX6 yX6_sizeOf yX6_sizeOf, Cond.initialized RX6, Cond.code yX6_sizeOf cX6_sizeOf 2 (some .int), Cond.methodLink RX6 54 yX6_questionOf, Cond.instanceMethod yX6_questionOf, Cond.selects RX6 yX6_questionOf yX6_questionOf, Cond.code yX6_questionOf cX6_questionOf 3 (some (.object "AlertIndex$Question")), Cond.classLink RX6 157 "java/lang/IndexOutOfBoundsException", Cond.initialized "java/lang/IndexOutOfBoundsException", Cond.fieldLink RX6 10 "AlertIndex" "questions" "Ljava/util/List;", Cond.classLink RX6 47 "AlertIndex$Question", Cond.fieldLink RX6 97 "AlertIndex$Question" "isDropped" "Z", Cond.methodLink RX6 34 ⟨"java/util/List", "size", "()I"⟩, Cond.selects RJx4a65c ⟨"java/util/List", "size", "()I"⟩ yJx4a65c_size_8abf5, Cond.instanceMethod yJx4a65c_size_8abf5, Cond.initialized RJx4a65c, Cond.code yJx4a65c_size_8abf5 cJx4a65c_size_8abf5 1 (some .int), Cond.fieldLink RJx4a65c 48 "java/util/ArrayList" "size" "I", Cond.methodLink RX6 122 ⟨"java/util/List", "get", "(I)Ljava/lang/Object;"⟩, Cond.selects RJx4a65c ⟨"java/util/List", "get", "(I)Ljava/lang/Object;"⟩ yJx4a65c_get_915e3, Cond.instanceMethod yJx4a65c_get_915e3]
def wsL_sizeOf_r2 : List Cond := [Cond.code yJx4a65c_get_915e3 cJx4a65c_get_915e3 2 (some (.object "java/lang/Object")), Cond.methodLink RJx4a65c 118 yJ15_checkIndex_7cf53, Cond.static yJ15_checkIndex_7cf53, Cond.initialized RJ15, Cond.code yJ15_checkIndex_7cf53 cJ15_checkIndex_7cf53 2 (some .int), Cond.methodLink RJ15 105 yJ3_checkIndex_8e157, Cond.static yJ3_checkIndex_8e157, Cond.initialized RJ3, Cond.code yJ3_checkIndex_8e157 cJ3_checkIndex_8e157 3 (some .int), Cond.methodLink RJx4a65c 123 yJx4a65c_elementData_915e3, Cond.instanceMethod yJx4a65c_elementData_915e3, Cond.selects RJx4a65c yJx4a65c_elementData_915e3 yJx4a65c_elementData_915e3, Cond.code yJx4a65c_elementData_915e3 cJx4a65c_elementData_915e3 2 (some (.object "java/lang/Object")), Cond.fieldLink RJx4a65c 9 "java/util/ArrayList" "elementData" "[Ljava/lang/Object;", Cond.methodLink RX6 151 yX4_leastSize, Cond.instanceMethod yX4_leastSize, Cond.selects RX4 yX4_leastSize yX4_leastSize, Cond.initialized RX4, Cond.code yX4_leastSize cX4_leastSize 3 (some .int), Cond.fieldLink RX4 12 "AlertIndex$Question" "products" "Ljava/util/List;", Cond.classLink RX4 45 "AlertIndex$Product", Cond.fieldLink RX4 47 "AlertIndex$Product" "plainTests" "I", Cond.methodLink RX4 50 Lib.Math.min.name, Cond.static Lib.Math.min.name]
def wsL_sizeOf_r3 : List Cond := [Cond.initialized "java/lang/Math", Cond.code Lib.Math.min.name Lib.Math.min.code 2 (some .int), Cond.methodLink RX4 35 ⟨"java/util/List", "size", "()I"⟩, Cond.methodLink RX4 41 ⟨"java/util/List", "get", "(I)Ljava/lang/Object;"⟩, Cond.methodLink RX4 56 ⟨"java/util/List", "isEmpty", "()Z"⟩, Cond.selects RJx4a65c ⟨"java/util/List", "isEmpty", "()Z"⟩ yJx4a65c_isEmpty_aae02, Cond.instanceMethod yJx4a65c_isEmpty_aae02, Cond.code yJx4a65c_isEmpty_aae02 cJx4a65c_isEmpty_aae02 1 (some .boolean)]
def wsL_sizeOf : List Cond := .codeWith yL_sizeOf cL_sizeOf 4 (some .int) [(0, 9, 12, 19)] :: ((wsL_sizeOf_r1 ++ (wsL_sizeOf_r2 ++ wsL_sizeOf_r3)) ++ wsX60 ++ wsX40 ++ wsJx4a65c0 ++ wsX30 ++ (vx_atS RX6 161 "java/lang/IndexOutOfBoundsException" ["java/lang/RuntimeException", "java/lang/Exception"]).filter goodWord)
def wsL_pieces : List Cond := .codeWith yL_pieces cL_pieces 5 (some .int) [(0, 10, 13, 25)] :: ([.classLink RL 25 "java/lang/IllegalArgumentException", .methodLink RL 47 yX6_pieces, .instanceMethod yX6_pieces, .selects RX6 yX6_pieces yX6_pieces, .initialized RX6, .code yX6_pieces cX6_pieces 5 (some .int), .methodLink RX6 70 yX6_refuseNoRange, .static yX6_refuseNoRange, .code yX6_refuseNoRange cX6_refuseNoRange 2 none, .classLink RX6 104 "java/lang/IllegalArgumentException", .initialized "java/lang/IllegalArgumentException", .methodLink RX6 112 yX6_isValue, .static yX6_isValue, .code yX6_isValue cX6_isValue 1 (some .boolean), .methodLink RX6 154 yX6_levelOfPiece, .static yX6_levelOfPiece, .code yX6_levelOfPiece cX6_levelOfPiece 4 (some .int)] ++ (vx_atS RX6 108 "java/lang/IllegalArgumentException" ["java/lang/RuntimeException", "java/lang/Exception"]).filter goodWord)
def wsL_pieceAt : List Cond := .codeWith yL_pieceAt cL_pieceAt 6 (some .int) [(0, 12, 15, 19), (0, 12, 19, 25)] :: ([.classLink RL 19 "java/lang/IndexOutOfBoundsException", .classLink RL 25 "java/lang/IllegalArgumentException", .methodLink RL 50 yX6_pieceAt, .instanceMethod yX6_pieceAt, .selects RX6 yX6_pieceAt yX6_pieceAt, .initialized RX6, .code yX6_pieceAt cX6_pieceAt 6 (some .int), .classLink RX6 157 "java/lang/IndexOutOfBoundsException", .initialized "java/lang/IndexOutOfBoundsException", .methodLink RX6 70 yX6_refuseNoRange, .static yX6_refuseNoRange, .code yX6_refuseNoRange cX6_refuseNoRange 2 none, .classLink RX6 104 "java/lang/IllegalArgumentException", .initialized "java/lang/IllegalArgumentException", .methodLink RX6 112 yX6_isValue, .static yX6_isValue, .code yX6_isValue cX6_isValue 1 (some .boolean), .methodLink RX6 154 yX6_levelOfPiece, .static yX6_levelOfPiece, .code yX6_levelOfPiece cX6_levelOfPiece 4 (some .int)] ++ (vx_atS RX6 161 "java/lang/IndexOutOfBoundsException" ["java/lang/RuntimeException", "java/lang/Exception"]).filter goodWord ++ (vx_atS RX6 108 "java/lang/IllegalArgumentException" ["java/lang/RuntimeException", "java/lang/Exception"]).filter goodWord)
def wsL_isQuiet_r1 : List Cond := [Cond.classLink RL 19 "java/lang/IndexOutOfBoundsException", Cond.methodLink RL 54 yX6_isQuiet, Cond.instanceMethod yX6_isQuiet, Cond.selects RX6 yX6_isQuiet yX6_isQuiet, Cond.initialized RX6, Cond.code yX6_isQuiet cX6_isQuiet 2 (some .boolean), Cond.fieldLink RX6 30 "AlertIndex" "minute" "I", Cond.methodLink RX6 54 yX6_questionOf, Cond.instanceMethod yX6_questionOf, Cond.selects RX6 yX6_questionOf yX6_questionOf, Cond.code yX6_questionOf cX6_questionOf 3 (some (.object "AlertIndex$Question")), Cond.classLink RX6 157 "java/lang/IndexOutOfBoundsException", Cond.initialized "java/lang/IndexOutOfBoundsException", Cond.fieldLink RX6 10 "AlertIndex" "questions" "Ljava/util/List;", Cond.classLink RX6 47 "AlertIndex$Question", Cond.fieldLink RX6 97 "AlertIndex$Question" "isDropped" "Z", Cond.methodLink RX6 34 ⟨"java/util/List", "size", "()I"⟩, Cond.selects RJx4a65c ⟨"java/util/List", "size", "()I"⟩ yJx4a65c_size_8abf5, Cond.instanceMethod yJx4a65c_size_8abf5, Cond.initialized RJx4a65c, Cond.code yJx4a65c_size_8abf5 cJx4a65c_size_8abf5 1 (some .int), Cond.fieldLink RJx4a65c 48 "java/util/ArrayList" "size" "I", Cond.methodLink RX6 122 ⟨"java/util/List", "get", "(I)Ljava/lang/Object;"⟩, Cond.selects RJx4a65c ⟨"java/util/List", "get", "(I)Ljava/lang/Object;"⟩ yJx4a65c_get_915e3]
def wsL_isQuiet_r2 : List Cond := [Cond.instanceMethod yJx4a65c_get_915e3, Cond.code yJx4a65c_get_915e3 cJx4a65c_get_915e3 2 (some (.object "java/lang/Object")), Cond.methodLink RJx4a65c 118 yJ15_checkIndex_7cf53, Cond.static yJ15_checkIndex_7cf53, Cond.initialized RJ15, Cond.code yJ15_checkIndex_7cf53 cJ15_checkIndex_7cf53 2 (some .int), Cond.methodLink RJ15 105 yJ3_checkIndex_8e157, Cond.static yJ3_checkIndex_8e157, Cond.initialized RJ3, Cond.code yJ3_checkIndex_8e157 cJ3_checkIndex_8e157 3 (some .int), Cond.methodLink RJx4a65c 123 yJx4a65c_elementData_915e3, Cond.instanceMethod yJx4a65c_elementData_915e3, Cond.selects RJx4a65c yJx4a65c_elementData_915e3 yJx4a65c_elementData_915e3, Cond.code yJx4a65c_elementData_915e3 cJx4a65c_elementData_915e3 2 (some (.object "java/lang/Object")), Cond.fieldLink RJx4a65c 9 "java/util/ArrayList" "elementData" "[Ljava/lang/Object;", Cond.methodLink RX6 162 yX4_isQuietAt, Cond.instanceMethod yX4_isQuietAt, Cond.selects RX4 yX4_isQuietAt yX4_isQuietAt, Cond.initialized RX4, Cond.code yX4_isQuietAt cX4_isQuietAt 2 (some .boolean), Cond.fieldLink RX4 26 "AlertIndex$Question" "quietUntil" "I"]
def wsL_isQuiet : List Cond := .codeWith yL_isQuiet cL_isQuiet 4 (some .int) [(0, 16, 19, 19)] :: ((wsL_isQuiet_r1 ++ wsL_isQuiet_r2) ++ wsX60 ++ wsX40 ++ wsJx4a65c0 ++ (vx_atS RX6 161 "java/lang/IndexOutOfBoundsException" ["java/lang/RuntimeException", "java/lang/Exception"]).filter goodWord)
def wsL_alerts_r1 : List Cond := [Cond.classLink RL 19 "java/lang/IndexOutOfBoundsException", Cond.methodLink RL 57 yX6_alerts, Cond.instanceMethod yX6_alerts, Cond.selects RX6 yX6_alerts yX6_alerts, Cond.initialized RX6, Cond.code yX6_alerts cX6_alerts 2 (some .int), Cond.fieldLink RX6 165 "AlertIndex$Question" "alerts" "I", Cond.methodLink RX6 54 yX6_questionOf, Cond.instanceMethod yX6_questionOf, Cond.selects RX6 yX6_questionOf yX6_questionOf, Cond.code yX6_questionOf cX6_questionOf 3 (some (.object "AlertIndex$Question")), Cond.classLink RX6 157 "java/lang/IndexOutOfBoundsException", Cond.initialized "java/lang/IndexOutOfBoundsException", Cond.fieldLink RX6 10 "AlertIndex" "questions" "Ljava/util/List;", Cond.classLink RX6 47 "AlertIndex$Question", Cond.fieldLink RX6 97 "AlertIndex$Question" "isDropped" "Z", Cond.methodLink RX6 34 ⟨"java/util/List", "size", "()I"⟩, Cond.selects RJx4a65c ⟨"java/util/List", "size", "()I"⟩ yJx4a65c_size_8abf5, Cond.instanceMethod yJx4a65c_size_8abf5, Cond.initialized RJx4a65c, Cond.code yJx4a65c_size_8abf5 cJx4a65c_size_8abf5 1 (some .int), Cond.fieldLink RJx4a65c 48 "java/util/ArrayList" "size" "I", Cond.methodLink RX6 122 ⟨"java/util/List", "get", "(I)Ljava/lang/Object;"⟩, Cond.selects RJx4a65c ⟨"java/util/List", "get", "(I)Ljava/lang/Object;"⟩ yJx4a65c_get_915e3]
def wsL_alerts_r2 : List Cond := [Cond.instanceMethod yJx4a65c_get_915e3, Cond.code yJx4a65c_get_915e3 cJx4a65c_get_915e3 2 (some (.object "java/lang/Object")), Cond.methodLink RJx4a65c 118 yJ15_checkIndex_7cf53, Cond.static yJ15_checkIndex_7cf53, Cond.initialized RJ15, Cond.code yJ15_checkIndex_7cf53 cJ15_checkIndex_7cf53 2 (some .int), Cond.methodLink RJ15 105 yJ3_checkIndex_8e157, Cond.static yJ3_checkIndex_8e157, Cond.initialized RJ3, Cond.code yJ3_checkIndex_8e157 cJ3_checkIndex_8e157 3 (some .int), Cond.methodLink RJx4a65c 123 yJx4a65c_elementData_915e3, Cond.instanceMethod yJx4a65c_elementData_915e3, Cond.selects RJx4a65c yJx4a65c_elementData_915e3 yJx4a65c_elementData_915e3, Cond.code yJx4a65c_elementData_915e3 cJx4a65c_elementData_915e3 2 (some (.object "java/lang/Object")), Cond.fieldLink RJx4a65c 9 "java/util/ArrayList" "elementData" "[Ljava/lang/Object;"]
def wsL_alerts : List Cond := .codeWith yL_alerts cL_alerts 4 (some .int) [(0, 9, 12, 19)] :: ((wsL_alerts_r1 ++ wsL_alerts_r2) ++ wsX40 ++ wsX60 ++ wsJx4a65c0 ++ (vx_atS RX6 161 "java/lang/IndexOutOfBoundsException" ["java/lang/RuntimeException", "java/lang/Exception"]).filter goodWord)
def wsL_batch_r1 : List Cond := [Cond.classLink RL 19 "java/lang/IndexOutOfBoundsException", Cond.methodLink RL 60 yX6_batch, Cond.instanceMethod yX6_batch, Cond.selects RX6 yX6_batch yX6_batch, Cond.initialized RX6, Cond.code yX6_batch cX6_batch 2 (some .int), Cond.fieldLink RX6 101 "AlertIndex$Question" "batch" "I", Cond.methodLink RX6 54 yX6_questionOf, Cond.instanceMethod yX6_questionOf, Cond.selects RX6 yX6_questionOf yX6_questionOf, Cond.code yX6_questionOf cX6_questionOf 3 (some (.object "AlertIndex$Question")), Cond.classLink RX6 157 "java/lang/IndexOutOfBoundsException", Cond.initialized "java/lang/IndexOutOfBoundsException", Cond.fieldLink RX6 10 "AlertIndex" "questions" "Ljava/util/List;", Cond.classLink RX6 47 "AlertIndex$Question", Cond.fieldLink RX6 97 "AlertIndex$Question" "isDropped" "Z", Cond.methodLink RX6 34 ⟨"java/util/List", "size", "()I"⟩, Cond.selects RJx4a65c ⟨"java/util/List", "size", "()I"⟩ yJx4a65c_size_8abf5, Cond.instanceMethod yJx4a65c_size_8abf5, Cond.initialized RJx4a65c, Cond.code yJx4a65c_size_8abf5 cJx4a65c_size_8abf5 1 (some .int), Cond.fieldLink RJx4a65c 48 "java/util/ArrayList" "size" "I", Cond.methodLink RX6 122 ⟨"java/util/List", "get", "(I)Ljava/lang/Object;"⟩, Cond.selects RJx4a65c ⟨"java/util/List", "get", "(I)Ljava/lang/Object;"⟩ yJx4a65c_get_915e3]
def wsL_batch_r2 : List Cond := [Cond.instanceMethod yJx4a65c_get_915e3, Cond.code yJx4a65c_get_915e3 cJx4a65c_get_915e3 2 (some (.object "java/lang/Object")), Cond.methodLink RJx4a65c 118 yJ15_checkIndex_7cf53, Cond.static yJ15_checkIndex_7cf53, Cond.initialized RJ15, Cond.code yJ15_checkIndex_7cf53 cJ15_checkIndex_7cf53 2 (some .int), Cond.methodLink RJ15 105 yJ3_checkIndex_8e157, Cond.static yJ3_checkIndex_8e157, Cond.initialized RJ3, Cond.code yJ3_checkIndex_8e157 cJ3_checkIndex_8e157 3 (some .int), Cond.methodLink RJx4a65c 123 yJx4a65c_elementData_915e3, Cond.instanceMethod yJx4a65c_elementData_915e3, Cond.selects RJx4a65c yJx4a65c_elementData_915e3 yJx4a65c_elementData_915e3, Cond.code yJx4a65c_elementData_915e3 cJx4a65c_elementData_915e3 2 (some (.object "java/lang/Object")), Cond.fieldLink RJx4a65c 9 "java/util/ArrayList" "elementData" "[Ljava/lang/Object;"]
def wsL_batch : List Cond := .codeWith yL_batch cL_batch 4 (some .int) [(0, 9, 12, 19)] :: ((wsL_batch_r1 ++ wsL_batch_r2) ++ wsX40 ++ wsX60 ++ wsJx4a65c0 ++ (vx_atS RX6 161 "java/lang/IndexOutOfBoundsException" ["java/lang/RuntimeException", "java/lang/Exception"]).filter goodWord)
def wsL_law0_r1 : List Cond := [Cond.classLink RL 8 RX6, Cond.instantiable RX6 4, Cond.initialized RX6, Cond.classLink RL 64 RX7, Cond.instantiable RX7 15, Cond.initialized RX7, Cond.arrayClass .long, Cond.methodLink RL 63 yX6_init, Cond.instanceMethod yX6_init, Cond.code yX6_init cX6_init 1 none, Cond.methodLink RX6 1 objectInit, Cond.instanceMethod objectInit, Cond.code objectInit ⟨#[0xb1]⟩ 1 none, Cond.classLink RX6 7 RJx4a65c, Cond.instantiable RJx4a65c 3, Cond.initialized RJx4a65c, Cond.fieldLink RX6 10 "AlertIndex" "questions" "Ljava/util/List;", Cond.classLink RX6 16 RX0, Cond.instantiable RX0 1, Cond.initialized RX0, Cond.fieldLink RX6 19 "AlertIndex" "draft" "LAlertIndex$Draft;", Cond.classLink RX6 23 RX1, Cond.instantiable RX1 1, Cond.initialized RX1]
def wsL_law0_r2 : List Cond := [Cond.fieldLink RX6 26 "AlertIndex" "index" "LAlertIndex$PieceIndex;", Cond.fieldLink RX6 30 "AlertIndex" "minute" "I", Cond.methodLink RX6 9 yJx4a65c_init_da8c8, Cond.instanceMethod yJx4a65c_init_da8c8, Cond.code yJx4a65c_init_da8c8 cJx4a65c_init_da8c8 1 none, Cond.fieldLink RJx4a65c 39 "java/util/ArrayList" "DEFAULTCAPACITY_EMPTY_ELEMENTDATA" "[Ljava/lang/Object;", Cond.fieldLink RJx4a65c 9 "java/util/ArrayList" "elementData" "[Ljava/lang/Object;", Cond.methodLink RJx4a65c 1 yJxc12de_init_da8c8, Cond.instanceMethod yJxc12de_init_da8c8, Cond.initialized RJxc12de, Cond.code yJxc12de_init_da8c8 cJxc12de_init_da8c8 1 none, Cond.fieldLink RJxc12de 7 "java/util/AbstractList" "modCount" "I", Cond.methodLink RJxc12de 1 yJxa1e45_init_da8c8, Cond.instanceMethod yJxa1e45_init_da8c8, Cond.initialized RJxa1e45, Cond.code yJxa1e45_init_da8c8 cJxa1e45_init_da8c8 1 none, Cond.methodLink RJxa1e45 1 objectInit, Cond.methodLink RX6 18 yX0_init, Cond.instanceMethod yX0_init, Cond.code yX0_init cX0_init 1 none, Cond.methodLink RX0 3 objectInit, Cond.arrayClass .int, Cond.fieldLink RX0 9 "AlertIndex$Draft" "values" "[I", Cond.methodLink RX0 15 yJ7_fill_53178]
def wsL_law0_r3 : List Cond := [Cond.static yJ7_fill_53178, Cond.initialized RJ7, Cond.code yJ7_fill_53178 cJ7_fill_53178 4 none, Cond.methodLink RX6 25 yX1_init, Cond.instanceMethod yX1_init, Cond.code yX1_init cX1_init 1 none, Cond.methodLink RX1 3 objectInit, Cond.classLink RX1 11 RX2, Cond.fieldLink RX1 13 "AlertIndex$PieceIndex" "firsts" "[LAlertIndex$Posting;", Cond.methodLink RL 66 yX7_init, Cond.instanceMethod yX7_init, Cond.code yX7_init cX7_init 2 none, Cond.methodLink RX7 1 objectInit, Cond.fieldLink RX7 7 "AlertIndexModel" "draft" "[I", Cond.arrayClass .boolean, Cond.fieldLink RX7 13 "AlertIndexModel" "isDropped" "[Z", Cond.fieldLink RX7 17 "AlertIndexModel" "products" "[I", Cond.fieldLink RX7 20 "AlertIndexModel" "quiets" "[I", Cond.fieldLink RX7 23 "AlertIndexModel" "untils" "[I", Cond.fieldLink RX7 26 "AlertIndexModel" "alerts" "[I", Cond.fieldLink RX7 29 "AlertIndexModel" "batches" "[I", Cond.fieldLink RX7 32 "AlertIndexModel" "tests" "[I", Cond.fieldLink RX7 35 "AlertIndexModel" "names" "[I", Cond.fieldLink RX7 38 "AlertIndexModel" "lows" "[I"]
def wsL_law0_r4 : List Cond := [Cond.fieldLink RX7 41 "AlertIndexModel" "highs" "[I", Cond.fieldLink RX7 44 "AlertIndexModel" "isBarred" "[Z", Cond.methodLink RL 67 yL_question, Cond.static yL_question, Cond.initialized RL, Cond.codeWith yL_question cL_question 3 (some .int) [(0, 8, 11, 13)], Cond.classLink RL 13 "java/lang/IllegalStateException", Cond.methodLink RL 7 yX6_question, Cond.instanceMethod yX6_question, Cond.selects RX6 yX6_question yX6_question, Cond.code yX6_question cX6_question 1 (some .int), Cond.classLink RX6 40 "java/lang/IllegalStateException", Cond.initialized "java/lang/IllegalStateException", Cond.classLink RX6 47 RX4, Cond.instantiable RX4 6, Cond.initialized RX4, Cond.methodLink RX6 34 ⟨"java/util/List", "size", "()I"⟩, Cond.selects RJx4a65c ⟨"java/util/List", "size", "()I"⟩ yJx4a65c_size_8abf5, Cond.instanceMethod yJx4a65c_size_8abf5, Cond.code yJx4a65c_size_8abf5 cJx4a65c_size_8abf5 1 (some .int), Cond.fieldLink RJx4a65c 48 "java/util/ArrayList" "size" "I", Cond.methodLink RX6 49 yX4_init, Cond.instanceMethod yX4_init, Cond.code yX4_init cX4_init 1 none]
def wsL_law0_r5 : List Cond := [Cond.methodLink RX4 3 objectInit, Cond.classLink RX4 9 RJx4a65c, Cond.fieldLink RX4 12 "AlertIndex$Question" "products" "Ljava/util/List;", Cond.fieldLink RX4 18 "AlertIndex$Question" "isDropped" "Z", Cond.fieldLink RX4 22 "AlertIndex$Question" "quietMinutes" "I", Cond.fieldLink RX4 26 "AlertIndex$Question" "quietUntil" "I", Cond.fieldLink RX4 29 "AlertIndex$Question" "alerts" "I", Cond.fieldLink RX4 32 "AlertIndex$Question" "batch" "I", Cond.methodLink RX4 11 yJx4a65c_init_da8c8, Cond.methodLink RX6 50 ⟨"java/util/List", "add", "(Ljava/lang/Object;)Z"⟩, Cond.selects RJx4a65c ⟨"java/util/List", "add", "(Ljava/lang/Object;)Z"⟩ yJx4a65c_add_9ea2d, Cond.instanceMethod yJx4a65c_add_9ea2d, Cond.code yJx4a65c_add_9ea2d cJx4a65c_add_9ea2d 2 (some .boolean), Cond.fieldLink RJx4a65c 63 "java/util/ArrayList" "modCount" "I", Cond.sameField "java/util/ArrayList" "java/util/AbstractList" "modCount" "I", Cond.methodLink RJx4a65c 131 yJx4a65c_add_72be8, Cond.instanceMethod yJx4a65c_add_72be8, Cond.selects RJx4a65c yJx4a65c_add_72be8 yJx4a65c_add_72be8, Cond.code yJx4a65c_add_72be8 cJx4a65c_add_72be8 4 none, Cond.methodLink RJx4a65c 129 yJx4a65c_grow_d5877, Cond.instanceMethod yJx4a65c_grow_d5877, Cond.selects RJx4a65c yJx4a65c_grow_d5877 yJx4a65c_grow_d5877, Cond.code yJx4a65c_grow_d5877 cJx4a65c_grow_d5877 1 (some (.array (.object "java/lang/Object"))), Cond.methodLink RJx4a65c 69 yJx4a65c_grow_92f84]
def wsL_law0_r6 : List Cond := [Cond.instanceMethod yJx4a65c_grow_92f84, Cond.selects RJx4a65c yJx4a65c_grow_92f84 yJx4a65c_grow_92f84, Cond.code yJx4a65c_grow_92f84 cJx4a65c_grow_92f84 4 (some (.array (.object "java/lang/Object"))), Cond.methodLink RJx4a65c 79 Lib.Math.max.name, Cond.static Lib.Math.max.name, Cond.initialized "java/lang/Math", Cond.code Lib.Math.max.name Lib.Math.max.code 2 (some .int), Cond.classLink RJx4a65c 7 "java/lang/Object", Cond.methodLink RJx4a65c 73 yJ8_newLength_cabcc, Cond.static yJ8_newLength_cabcc, Cond.initialized RJ8, Cond.code yJ8_newLength_cabcc cJ8_newLength_cabcc 4 (some .int), Cond.methodLink RJ8 194 Lib.Math.max.name, Cond.constant RJ8 200 (2147483639), Cond.methodLink RJ8 201 yJ8_hugeLength_7cf53, Cond.static yJ8_hugeLength_7cf53, Cond.code yJ8_hugeLength_7cf53 cJ8_hugeLength_7cf53 3 (some .int), Cond.methodLink RJx4a65c 66 yJ7_copyOf_1904c, Cond.static yJ7_copyOf_1904c, Cond.code yJ7_copyOf_1904c cJ7_copyOf_1904c 2 (some (.array (.object "java/lang/Object"))), Cond.methodLink RJ7 86 ⟨"java/lang/Object", "getClass", "()Ljava/lang/Class;"⟩, Cond.selects "[Ljava/lang/Object;" ⟨"java/lang/Object", "getClass", "()Ljava/lang/Class;"⟩ ⟨"java/lang/Object", "getClass", "()Ljava/lang/Class;"⟩, Cond.instanceMethod ⟨"java/lang/Object", "getClass", "()Ljava/lang/Class;"⟩, Cond.native ⟨"java/lang/Object", "getClass", "()Ljava/lang/Class;"⟩]
def wsL_law0_r7 : List Cond := [Cond.methodLink RJ7 300 yJ7_copyOf_6403c, Cond.static yJ7_copyOf_6403c, Cond.code yJ7_copyOf_6403c cJ7_copyOf_6403c 4 (some (.array (.object "java/lang/Object"))), Cond.classLink RJ7 110 "[Ljava/lang/Object;", Cond.classLink RJ7 2 "java/lang/Object", Cond.methodLink RJ7 304 Lib.Math.min.name, Cond.static Lib.Math.min.name, Cond.code Lib.Math.min.name Lib.Math.min.code 2 (some .int), Cond.methodLink RJ7 150 arraycopyName, Cond.native arraycopyName, Cond.static arraycopyName, Cond.initialized "java/lang/System", Cond.methodLink RL 72 yX7_question, Cond.instanceMethod yX7_question, Cond.selects RX7 yX7_question yX7_question, Cond.code yX7_question cX7_question 1 (some .int), Cond.fieldLink RX7 51 "AlertIndexModel" "questions" "I", Cond.methodLink RX7 58 yX7_holds, Cond.instanceMethod yX7_holds, Cond.selects RX7 yX7_holds yX7_holds, Cond.code yX7_holds cX7_holds 2 (some .boolean), Cond.fieldLink RX7 47 "AlertIndexModel" "thrown" "I", Cond.methodLink RL 73 yX7_thrown, Cond.instanceMethod yX7_thrown]
def wsL_law0_r8 : List Cond := [Cond.selects RX7 yX7_thrown yX7_thrown, Cond.code yX7_thrown cX7_thrown 1 (some .int), Cond.methodLink RL 76 yL_product, Cond.static yL_product, Cond.codeWith yL_product cL_product 4 (some .int) [(0, 9, 12, 19), (0, 9, 15, 13)], Cond.classLink RL 19 "java/lang/IndexOutOfBoundsException", Cond.methodLink RL 15 yX6_product, Cond.instanceMethod yX6_product, Cond.selects RX6 yX6_product yX6_product, Cond.code yX6_product cX6_product 3 (some .int), Cond.fieldLink RX6 58 "AlertIndex$Question" "products" "Ljava/util/List;", Cond.classLink RX6 63 RX3, Cond.instantiable RX3 3, Cond.initialized RX3, Cond.methodLink RX6 54 yX6_questionOf, Cond.instanceMethod yX6_questionOf, Cond.selects RX6 yX6_questionOf yX6_questionOf, Cond.code yX6_questionOf cX6_questionOf 3 (some (.object "AlertIndex$Question")), Cond.classLink RX6 157 "java/lang/IndexOutOfBoundsException", Cond.initialized "java/lang/IndexOutOfBoundsException", Cond.classLink RX6 47 "AlertIndex$Question", Cond.fieldLink RX6 97 "AlertIndex$Question" "isDropped" "Z", Cond.methodLink RX6 122 ⟨"java/util/List", "get", "(I)Ljava/lang/Object;"⟩, Cond.selects RJx4a65c ⟨"java/util/List", "get", "(I)Ljava/lang/Object;"⟩ yJx4a65c_get_915e3]
def wsL_law0_r9 : List Cond := [Cond.instanceMethod yJx4a65c_get_915e3, Cond.code yJx4a65c_get_915e3 cJx4a65c_get_915e3 2 (some (.object "java/lang/Object")), Cond.methodLink RJx4a65c 118 yJ15_checkIndex_7cf53, Cond.static yJ15_checkIndex_7cf53, Cond.initialized RJ15, Cond.code yJ15_checkIndex_7cf53 cJ15_checkIndex_7cf53 2 (some .int), Cond.methodLink RJ15 105 yJ3_checkIndex_8e157, Cond.static yJ3_checkIndex_8e157, Cond.initialized RJ3, Cond.code yJ3_checkIndex_8e157 cJ3_checkIndex_8e157 3 (some .int), Cond.methodLink RJx4a65c 123 yJx4a65c_elementData_915e3, Cond.instanceMethod yJx4a65c_elementData_915e3, Cond.selects RJx4a65c yJx4a65c_elementData_915e3 yJx4a65c_elementData_915e3, Cond.code yJx4a65c_elementData_915e3 cJx4a65c_elementData_915e3 2 (some (.object "java/lang/Object")), Cond.methodLink RX6 65 yX3_init, Cond.instanceMethod yX3_init, Cond.code yX3_init cX3_init 1 none, Cond.methodLink RX3 1 objectInit, Cond.classLink RX3 7 RJx4a65c, Cond.fieldLink RX3 10 "AlertIndex$Product" "tests" "Ljava/util/List;", Cond.fieldLink RX3 16 "AlertIndex$Product" "plainTests" "I", Cond.fieldLink RX3 20 "AlertIndex$Product" "hits" "I", Cond.methodLink RX3 9 yJx4a65c_init_da8c8, Cond.methodLink RL 79 yX7_product]
def wsL_law0_r10 : List Cond := [Cond.instanceMethod yX7_product, Cond.selects RX7 yX7_product yX7_product, Cond.code yX7_product cX7_product 3 (some .int), Cond.methodLink RX7 62 yX7_isQuestion, Cond.instanceMethod yX7_isQuestion, Cond.selects RX7 yX7_isQuestion yX7_isQuestion, Cond.code yX7_isQuestion cX7_isQuestion 2 (some .boolean), Cond.methodLink RX7 54 yX7_isIn, Cond.static yX7_isIn, Cond.code yX7_isIn cX7_isIn 3 (some .boolean), Cond.methodLink RL 80 yL_test, Cond.static yL_test, Cond.codeWith yL_test cL_test 8 (some .int) [(0, 16, 19, 19), (0, 16, 23, 25), (0, 16, 27, 13)], Cond.classLink RL 25 "java/lang/IllegalArgumentException", Cond.methodLink RL 21 yX6_test, Cond.instanceMethod yX6_test, Cond.selects RX6 yX6_test yX6_test, Cond.code yX6_test cX6_test 8 (some .int), Cond.fieldLink RX6 80 "AlertIndex$Product" "tests" "Ljava/util/List;", Cond.classLink RX6 85 RX5, Cond.instantiable RX5 4, Cond.initialized RX5, Cond.fieldLink RX6 90 "AlertIndex$Product" "plainTests" "I", Cond.methodLink RX6 66 yX6_refuseNoName]
def wsL_law0_r11 : List Cond := [Cond.static yX6_refuseNoName, Cond.code yX6_refuseNoName cX6_refuseNoName 1 none, Cond.methodLink RX6 70 yX6_refuseNoRange, Cond.static yX6_refuseNoRange, Cond.code yX6_refuseNoRange cX6_refuseNoRange 2 none, Cond.classLink RX6 104 "java/lang/IllegalArgumentException", Cond.initialized "java/lang/IllegalArgumentException", Cond.methodLink RX6 112 yX6_isValue, Cond.static yX6_isValue, Cond.code yX6_isValue cX6_isValue 1 (some .boolean), Cond.methodLink RX6 74 yX4_lastProduct, Cond.instanceMethod yX4_lastProduct, Cond.selects RX4 yX4_lastProduct yX4_lastProduct, Cond.code yX4_lastProduct cX4_lastProduct 2 (some (.object "AlertIndex$Product")), Cond.classLink RX4 45 "AlertIndex$Product", Cond.methodLink RX4 35 ⟨"java/util/List", "size", "()I"⟩, Cond.methodLink RX4 41 ⟨"java/util/List", "get", "(I)Ljava/lang/Object;"⟩, Cond.methodLink RX6 87 yX5_init, Cond.instanceMethod yX5_init, Cond.code yX5_init cX5_init 5 none, Cond.methodLink RX5 3 objectInit, Cond.fieldLink RX5 9 "AlertIndex$Test" "name" "I", Cond.fieldLink RX5 15 "AlertIndex$Test" "low" "I", Cond.fieldLink RX5 18 "AlertIndex$Test" "high" "I"]
def wsL_law0_r12 : List Cond := [Cond.fieldLink RX5 21 "AlertIndex$Test" "isBarred" "Z", Cond.methodLink RX6 93 yX1_enter, Cond.instanceMethod yX1_enter, Cond.selects RX1 yX1_enter yX1_enter, Cond.code yX1_enter cX1_enter 8 none, Cond.static yX6_levelOfPiece, Cond.code yX6_levelOfPiece cX6_levelOfPiece 4 (some .int), Cond.methodLink RX1 21 yX1_post, Cond.instanceMethod yX1_post, Cond.selects RX1 yX1_post yX1_post, Cond.code yX1_post cX1_post 3 none, Cond.instantiable RX2 2, Cond.initialized RX2, Cond.methodLink RX1 25 yX2_init, Cond.instanceMethod yX2_init, Cond.code yX2_init cX2_init 3 none, Cond.methodLink RX2 1 objectInit, Cond.fieldLink RX2 7 "AlertIndex$Posting" "product" "LAlertIndex$Product;", Cond.fieldLink RX2 13 "AlertIndex$Posting" "next" "LAlertIndex$Posting;", Cond.methodLink RL 83 yX7_test, Cond.instanceMethod yX7_test, Cond.selects RX7 yX7_test yX7_test, Cond.code yX7_test cX7_test 10 (some .int), Cond.methodLink RX7 65 yX7_isName]
def wsL_law0_r13 : List Cond := [Cond.static yX7_isName, Cond.code yX7_isName cX7_isName 1 (some .boolean), Cond.methodLink RX7 68 yX7_isRange, Cond.static yX7_isRange, Cond.code yX7_isRange cX7_isRange 2 (some .boolean), Cond.methodLink RL 84 yL_drop, Cond.static yL_drop, Cond.codeWith yL_drop cL_drop 4 (some .int) [(0, 9, 12, 19)], Cond.methodLink RL 27 yX6_drop, Cond.instanceMethod yX6_drop, Cond.selects RX6 yX6_drop yX6_drop, Cond.code yX6_drop cX6_drop 3 (some .int), Cond.fieldLink RX6 101 "AlertIndex$Question" "batch" "I", Cond.methodLink RL 86 yX7_drop, Cond.instanceMethod yX7_drop, Cond.selects RX7 yX7_drop yX7_drop, Cond.code yX7_drop cX7_drop 2 (some .int), Cond.methodLink RL 87 yL_setQuiet, Cond.static yL_setQuiet, Cond.codeWith yL_setQuiet cL_setQuiet 5 (some .int) [(0, 10, 13, 19), (0, 10, 17, 25)], Cond.methodLink RL 30 yX6_setQuiet, Cond.instanceMethod yX6_setQuiet, Cond.selects RX6 yX6_setQuiet yX6_setQuiet, Cond.code yX6_setQuiet cX6_setQuiet 5 (some .int)]
def wsL_law0_r14 : List Cond := [Cond.fieldLink RX6 109 "AlertIndex$Question" "quietMinutes" "I", Cond.methodLink RL 90 yX7_setQuiet, Cond.instanceMethod yX7_setQuiet, Cond.selects RX7 yX7_setQuiet yX7_setQuiet, Cond.code yX7_setQuiet cX7_setQuiet 5 (some .int), Cond.methodLink RL 91 yL_set, Cond.static yL_set, Cond.codeWith yL_set cL_set 5 (some .int) [(0, 10, 13, 19), (0, 10, 17, 25)], Cond.methodLink RL 34 yX6_set, Cond.instanceMethod yX6_set, Cond.selects RX6 yX6_set yX6_set, Cond.code yX6_set cX6_set 3 (some .int), Cond.methodLink RX6 118 yX0_replace, Cond.instanceMethod yX0_replace, Cond.selects RX0 yX0_replace yX0_replace, Cond.code yX0_replace cX0_replace 4 (some .int), Cond.methodLink RX0 21 yX0_valueOf, Cond.instanceMethod yX0_valueOf, Cond.selects RX0 yX0_valueOf yX0_valueOf, Cond.code yX0_valueOf cX0_valueOf 2 (some .int), Cond.methodLink RL 93 yX7_set, Cond.instanceMethod yX7_set, Cond.selects RX7 yX7_set yX7_set, Cond.code yX7_set cX7_set 4 (some .int)]
def wsL_law0_r15 : List Cond := [Cond.methodLink RL 94 yX6_come, Cond.instanceMethod yX6_come, Cond.selects RX6 yX6_come yX6_come, Cond.code yX6_come cX6_come 4 (some .int), Cond.methodLink RX6 126 yX4_isSatisfied, Cond.instanceMethod yX4_isSatisfied, Cond.selects RX4 yX4_isSatisfied yX4_isSatisfied, Cond.code yX4_isSatisfied cX4_isSatisfied 3 (some .boolean), Cond.methodLink RX4 60 yX3_isTrue, Cond.instanceMethod yX3_isTrue, Cond.selects RX3 yX3_isTrue yX3_isTrue, Cond.code yX3_isTrue cX3_isTrue 3 (some .boolean), Cond.classLink RX3 33 "AlertIndex$Test", Cond.methodLink RX3 23 ⟨"java/util/List", "size", "()I"⟩, Cond.methodLink RX3 29 ⟨"java/util/List", "get", "(I)Ljava/lang/Object;"⟩, Cond.methodLink RX3 35 yX5_isTrue, Cond.instanceMethod yX5_isTrue, Cond.selects RX5 yX5_isTrue yX5_isTrue, Cond.code yX5_isTrue cX5_isTrue 4 (some .boolean), Cond.methodLink RX5 25 yX0_valueOf, Cond.methodLink RX6 130 yX4_takeDocument, Cond.instanceMethod yX4_takeDocument, Cond.selects RX4 yX4_takeDocument yX4_takeDocument, Cond.code yX4_takeDocument cX4_takeDocument 2 (some .boolean)]
def wsL_law0_r16 : List Cond := [Cond.methodLink RX4 70 yX4_isQuietAt, Cond.instanceMethod yX4_isQuietAt, Cond.selects RX4 yX4_isQuietAt yX4_isQuietAt, Cond.code yX4_isQuietAt cX4_isQuietAt 2 (some .boolean), Cond.methodLink RX4 74 yX4_raiseAlert, Cond.instanceMethod yX4_raiseAlert, Cond.selects RX4 yX4_raiseAlert yX4_raiseAlert, Cond.code yX4_raiseAlert cX4_raiseAlert 2 none, Cond.methodLink RL 97 yX7_come, Cond.instanceMethod yX7_come, Cond.selects RX7 yX7_come yX7_come, Cond.code yX7_come cX7_come 3 (some .int), Cond.methodLink RX7 78 yX7_does, Cond.instanceMethod yX7_does, Cond.selects RX7 yX7_does yX7_does, Cond.code yX7_does cX7_does 6 (some .boolean), Cond.methodLink RX7 72 yX7_isTrue, Cond.instanceMethod yX7_isTrue, Cond.selects RX7 yX7_isTrue yX7_isTrue, Cond.code yX7_isTrue cX7_isTrue 4 (some .boolean), Cond.methodLink RX7 81 yX7_quietNow, Cond.instanceMethod yX7_quietNow, Cond.selects RX7 yX7_quietNow yX7_quietNow, Cond.code yX7_quietNow cX7_quietNow 2 (some .boolean)]
def wsL_law0_r17 : List Cond := [Cond.fieldLink RX7 75 "AlertIndexModel" "minute" "I", Cond.methodLink RX7 84 yX7_raises, Cond.instanceMethod yX7_raises, Cond.selects RX7 yX7_raises yX7_raises, Cond.code yX7_raises cX7_raises 2 none, Cond.methodLink RL 98 yL_advance, Cond.static yL_advance, Cond.codeWith yL_advance cL_advance 4 (some .int) [(0, 9, 12, 25), (0, 9, 15, 13)], Cond.methodLink RL 37 yX6_advance, Cond.instanceMethod yX6_advance, Cond.selects RX6 yX6_advance yX6_advance, Cond.code yX6_advance cX6_advance 4 (some .int), Cond.constant RX6 135 (1000000), Cond.methodLink RX6 138 yX4_sendBatch, Cond.instanceMethod yX4_sendBatch, Cond.selects RX4 yX4_sendBatch yX4_sendBatch, Cond.code yX4_sendBatch cX4_sendBatch 2 (some .boolean), Cond.methodLink RL 100 yX7_advance, Cond.instanceMethod yX7_advance, Cond.selects RX7 yX7_advance yX7_advance, Cond.code yX7_advance cX7_advance 5 (some .int), Cond.constant RX7 88 (1000000), Cond.methodLink RL 101 yL_satisfies, Cond.static yL_satisfies]
def wsL_law0_r18 : List Cond := [Cond.codeWith yL_satisfies cL_satisfies 4 (some .int) [(0, 16, 19, 19)], Cond.methodLink RL 40 yX6_satisfies, Cond.instanceMethod yX6_satisfies, Cond.selects RX6 yX6_satisfies yX6_satisfies, Cond.code yX6_satisfies cX6_satisfies 2 (some .boolean), Cond.methodLink RL 103 yX7_satisfies, Cond.instanceMethod yX7_satisfies, Cond.selects RX7 yX7_satisfies yX7_satisfies, Cond.code yX7_satisfies cX7_satisfies 2 (some .boolean), Cond.methodLink RL 104 yX6_matching, Cond.instanceMethod yX6_matching, Cond.selects RX6 yX6_matching yX6_matching, Cond.code yX6_matching cX6_matching 3 (some .int), Cond.methodLink RL 107 yX7_matching, Cond.instanceMethod yX7_matching, Cond.selects RX7 yX7_matching yX7_matching, Cond.code yX7_matching cX7_matching 1 (some .int), Cond.methodLink RX7 89 yX7_found, Cond.instanceMethod yX7_found, Cond.selects RX7 yX7_found yX7_found, Cond.code yX7_found cX7_found 3 (some .int), Cond.methodLink RL 108 yX6_matchingByIndex, Cond.instanceMethod yX6_matchingByIndex, Cond.selects RX6 yX6_matchingByIndex yX6_matchingByIndex]
def wsL_law0_r19 : List Cond := [Cond.code yX6_matchingByIndex cX6_matchingByIndex 3 (some .int), Cond.methodLink RX6 141 yX4_forgetHits, Cond.instanceMethod yX4_forgetHits, Cond.selects RX4 yX4_forgetHits yX4_forgetHits, Cond.code yX4_forgetHits cX4_forgetHits 2 none, Cond.fieldLink RX4 67 "AlertIndex$Product" "hits" "I", Cond.methodLink RX6 144 yX1_countHits, Cond.instanceMethod yX1_countHits, Cond.selects RX1 yX1_countHits yX1_countHits, Cond.code yX1_countHits cX1_countHits 4 none, Cond.methodLink RX1 28 yX0_valueOf, Cond.methodLink RX1 38 yX1_hitAbove, Cond.instanceMethod yX1_hitAbove, Cond.selects RX1 yX1_hitAbove yX1_hitAbove, Cond.code yX1_hitAbove cX1_hitAbove 5 none, Cond.fieldLink RX1 46 "AlertIndex$Posting" "product" "LAlertIndex$Product;", Cond.fieldLink RX1 50 "AlertIndex$Product" "hits" "I", Cond.fieldLink RX1 56 "AlertIndex$Posting" "next" "LAlertIndex$Posting;", Cond.methodLink RX1 42 yX1_firstAt, Cond.instanceMethod yX1_firstAt, Cond.selects RX1 yX1_firstAt yX1_firstAt, Cond.code yX1_firstAt cX1_firstAt 2 (some (.object "AlertIndex$Posting")), Cond.methodLink RX6 148 yX4_isSatisfiedByHits, Cond.instanceMethod yX4_isSatisfiedByHits]
def wsL_law0_r20 : List Cond := [Cond.selects RX4 yX4_isSatisfiedByHits yX4_isSatisfiedByHits, Cond.code yX4_isSatisfiedByHits cX4_isSatisfiedByHits 3 (some .boolean), Cond.methodLink RX4 64 yX3_isTrueByHits, Cond.instanceMethod yX3_isTrueByHits, Cond.selects RX3 yX3_isTrueByHits yX3_isTrueByHits, Cond.code yX3_isTrueByHits cX3_isTrueByHits 4 (some .boolean), Cond.fieldLink RX3 39 "AlertIndex$Test" "isBarred" "Z", Cond.methodLink RL 111 yX7_matchingByIndex, Cond.instanceMethod yX7_matchingByIndex, Cond.selects RX7 yX7_matchingByIndex yX7_matchingByIndex, Cond.code yX7_matchingByIndex cX7_matchingByIndex 1 (some .int), Cond.methodLink RL 112 yL_sizeOf, Cond.static yL_sizeOf, Cond.codeWith yL_sizeOf cL_sizeOf 4 (some .int) [(0, 9, 12, 19)], Cond.methodLink RL 44 yX6_sizeOf, Cond.instanceMethod yX6_sizeOf, Cond.selects RX6 yX6_sizeOf yX6_sizeOf, Cond.code yX6_sizeOf cX6_sizeOf 2 (some .int), Cond.methodLink RX6 151 yX4_leastSize, Cond.instanceMethod yX4_leastSize, Cond.selects RX4 yX4_leastSize yX4_leastSize, Cond.code yX4_leastSize cX4_leastSize 3 (some .int), Cond.fieldLink RX4 47 "AlertIndex$Product" "plainTests" "I", Cond.methodLink RX4 50 Lib.Math.min.name]
def wsL_law0_r21 : List Cond := [Cond.methodLink RX4 56 ⟨"java/util/List", "isEmpty", "()Z"⟩, Cond.selects RJx4a65c ⟨"java/util/List", "isEmpty", "()Z"⟩ yJx4a65c_isEmpty_aae02, Cond.instanceMethod yJx4a65c_isEmpty_aae02, Cond.code yJx4a65c_isEmpty_aae02 cJx4a65c_isEmpty_aae02 1 (some .boolean), Cond.methodLink RL 114 yX7_sizeOf, Cond.instanceMethod yX7_sizeOf, Cond.selects RX7 yX7_sizeOf yX7_sizeOf, Cond.code yX7_sizeOf cX7_sizeOf 2 (some .int), Cond.methodLink RX7 93 yX7_size, Cond.instanceMethod yX7_size, Cond.selects RX7 yX7_size yX7_size, Cond.code yX7_size cX7_size 6 (some .int), Cond.methodLink RL 115 yX6_withSize, Cond.instanceMethod yX6_withSize, Cond.selects RX6 yX6_withSize yX6_withSize, Cond.code yX6_withSize cX6_withSize 5 (some .int), Cond.methodLink RL 118 yX7_withSize, Cond.instanceMethod yX7_withSize, Cond.selects RX7 yX7_withSize yX7_withSize, Cond.code yX7_withSize cX7_withSize 4 (some .int), Cond.methodLink RL 119 yL_pieces, Cond.static yL_pieces, Cond.codeWith yL_pieces cL_pieces 5 (some .int) [(0, 10, 13, 25)], Cond.methodLink RL 47 yX6_pieces]
def wsL_law0_r22 : List Cond := [Cond.instanceMethod yX6_pieces, Cond.selects RX6 yX6_pieces yX6_pieces, Cond.code yX6_pieces cX6_pieces 5 (some .int), Cond.methodLink RX6 154 yX6_levelOfPiece, Cond.methodLink RL 121 yX7_pieces, Cond.instanceMethod yX7_pieces, Cond.selects RX7 yX7_pieces yX7_pieces, Cond.code yX7_pieces cX7_pieces 5 (some .int), Cond.methodLink RX7 97 yX7_piece, Cond.static yX7_piece, Cond.code yX7_piece cX7_piece 4 (some .int), Cond.methodLink RL 122 yL_pieceAt, Cond.static yL_pieceAt, Cond.codeWith yL_pieceAt cL_pieceAt 6 (some .int) [(0, 12, 15, 19), (0, 12, 19, 25)], Cond.methodLink RL 50 yX6_pieceAt, Cond.instanceMethod yX6_pieceAt, Cond.selects RX6 yX6_pieceAt yX6_pieceAt, Cond.code yX6_pieceAt cX6_pieceAt 6 (some .int), Cond.methodLink RL 125 yX7_pieceAt, Cond.instanceMethod yX7_pieceAt, Cond.selects RX7 yX7_pieceAt yX7_pieceAt, Cond.code yX7_pieceAt cX7_pieceAt 6 (some .int), Cond.methodLink RL 126 yX6_minute, Cond.instanceMethod yX6_minute]
def wsL_law0_r23 : List Cond := [Cond.selects RX6 yX6_minute yX6_minute, Cond.code yX6_minute cX6_minute 1 (some .int), Cond.methodLink RL 129 yX7_minute, Cond.instanceMethod yX7_minute, Cond.selects RX7 yX7_minute yX7_minute, Cond.code yX7_minute cX7_minute 1 (some .int), Cond.methodLink RL 130 yL_isQuiet, Cond.static yL_isQuiet, Cond.codeWith yL_isQuiet cL_isQuiet 4 (some .int) [(0, 16, 19, 19)], Cond.methodLink RL 54 yX6_isQuiet, Cond.instanceMethod yX6_isQuiet, Cond.selects RX6 yX6_isQuiet yX6_isQuiet, Cond.code yX6_isQuiet cX6_isQuiet 2 (some .boolean), Cond.methodLink RX6 162 yX4_isQuietAt, Cond.methodLink RL 132 yX7_isQuiet, Cond.instanceMethod yX7_isQuiet, Cond.selects RX7 yX7_isQuiet yX7_isQuiet, Cond.code yX7_isQuiet cX7_isQuiet 2 (some .boolean), Cond.methodLink RL 133 yL_alerts, Cond.static yL_alerts, Cond.codeWith yL_alerts cL_alerts 4 (some .int) [(0, 9, 12, 19)], Cond.methodLink RL 57 yX6_alerts, Cond.instanceMethod yX6_alerts, Cond.selects RX6 yX6_alerts yX6_alerts]
def wsL_law0_r24 : List Cond := [Cond.code yX6_alerts cX6_alerts 2 (some .int), Cond.fieldLink RX6 165 "AlertIndex$Question" "alerts" "I", Cond.methodLink RL 135 yX7_alerts, Cond.instanceMethod yX7_alerts, Cond.selects RX7 yX7_alerts yX7_alerts, Cond.code yX7_alerts cX7_alerts 2 (some .int), Cond.methodLink RL 136 yL_batch, Cond.static yL_batch, Cond.codeWith yL_batch cL_batch 4 (some .int) [(0, 9, 12, 19)], Cond.methodLink RL 60 yX6_batch, Cond.instanceMethod yX6_batch, Cond.selects RX6 yX6_batch yX6_batch, Cond.code yX6_batch cX6_batch 2 (some .int), Cond.methodLink RL 138 yX7_batch, Cond.instanceMethod yX7_batch, Cond.selects RX7 yX7_batch yX7_batch, Cond.code yX7_batch cX7_batch 2 (some .int)]
def wsL_law0 : List Cond := (wsL_law0_r1 ++ (wsL_law0_r2 ++ (wsL_law0_r3 ++ (wsL_law0_r4 ++ (wsL_law0_r5 ++ (wsL_law0_r6 ++ (wsL_law0_r7 ++ (wsL_law0_r8 ++ (wsL_law0_r9 ++ (wsL_law0_r10 ++ (wsL_law0_r11 ++ (wsL_law0_r12 ++ (wsL_law0_r13 ++ (wsL_law0_r14 ++ (wsL_law0_r15 ++ (wsL_law0_r16 ++ (wsL_law0_r17 ++ (wsL_law0_r18 ++ (wsL_law0_r19 ++ (wsL_law0_r20 ++ (wsL_law0_r21 ++ (wsL_law0_r22 ++ (wsL_law0_r23 ++ wsL_law0_r24))))))))))))))))))))))) ++ wsX60 ++ wsX70 ++ wsJx4a65c0 ++ wsX00 ++ wsX10 ++ wsX40 ++ wsX30 ++ wsX50 ++ wsX20 ++ ([] : List Cond)
def wsL_law : List Cond := wsL_law0 ++ (vx_atS RX6 44 "java/lang/IllegalStateException" ["java/lang/RuntimeException", "java/lang/Exception"]).filter goodWord ++ (vx_atS RX6 161 "java/lang/IndexOutOfBoundsException" ["java/lang/RuntimeException", "java/lang/Exception"]).filter goodWord ++ (vx_atS RX6 108 "java/lang/IllegalArgumentException" ["java/lang/RuntimeException", "java/lang/Exception"]).filter goodWord
abbrev vwCl : List vw_C := [(RJx4a65c, TJx4a65c, 3), (RX0, TX0, 1), (RX1, TX1, 1), (RX2, TX2, 2), (RX3, TX3, 3), (RX4, TX4, 6), (RX5, TX5, 4), (RX6, TX6, 4), (RX7, TX7, 15)]
end
section
/-! ===== CORE: a world is a tagged partial memory; a walk's state is a memory, a list of locals, a stack ===== -/
abbrev ai_M : Type := Nat → Option (Nat × va_E)
abbrev ai_G : Type := va_G × (Nat → ClassId) × (Nat → Nat) × Nat
def ai_A (G : ai_G) : Nat → Prop := fun q => G.2.2.2 ≤ q
def ai_T (G : ai_G) : List (ClassId × FieldType) := [(G.2.1 0, .int), (G.2.1 1, .boolean), (G.2.1 2, .object "AlertIndex$Posting"), (G.2.1 3, .object "java/lang/Object"), (G.2.1 4, .long)]
abbrev ai_eI (G : ai_G) (n : Nat) (f : Nat → Int32) : va_E := .inl (G.2.1 0, n, .inl f)
abbrev ai_eZ (G : ai_G) (n : Nat) (f : Nat → Int32) : va_E := .inl (G.2.1 1, n, .inl f)
abbrev ai_eP (G : ai_G) (n : Nat) (f : Nat → Option Nat) : va_E := .inl (G.2.1 2, n, .inr (.inr (.inr (.inr f))))
abbrev ai_eO (G : ai_G) (n : Nat) (f : Nat → Option Nat) : va_E := .inl (G.2.1 3, n, .inr (.inr (.inr (.inr f))))
abbrev ai_eJ (G : ai_G) (n : Nat) (f : Nat → Int64) : va_E := .inl (G.2.1 4, n, .inr (.inl f))
def ai_P (G : ai_G) (M : ai_M) (H : Heap) : Prop := ∃ ws : va_W, va_P G.1 vwCl ws H ∧ va_D (ai_A G) ws ∧ ∀ (a g : Nat) (e : va_E), M a = some (g, e) → ∃ k : Nat, ws[k]? = some (a, e)
def ai_U (M : ai_M) (a g : Nat) (e : va_E) : ai_M := fun q => if q = a then some (g, e) else M q
theorem ai_U_s {M : ai_M} {a g : Nat} {e : va_E} : ai_U M a g e a = some (g, e) := if_pos rfl
theorem ai_U_n {M : ai_M} {a b g : Nat} {e : va_E} (h : b ≠ a) : ai_U M a g e b = M b := if_neg h
theorem ai_ne {M : ai_M} {a b g g' : Nat} {e e' : va_E} (h1 : M a = some (g, e)) (h2 : M b = some (g', e')) (hg : g ≠ g') : a ≠ b := fun z => by
  subst z; rw [h1] at h2; exact hg (by injection h2 with h2; injection h2)
theorem ai_set {G : ai_G} {M : ai_M} {ws : va_W} {H1 : Heap} {a g k : Nat} {e0 e : va_E} (hM : ∀ (a g : Nat) (e : va_E), M a = some (g, e) → ∃ k : Nat, ws[k]? = some (a, e)) (hk : ws[k]? = some (a, e0)) (hP1 : va_P G.1 vwCl (ws.set k (a, e)) H1) (hD1 : va_D (ai_A G) (ws.set k (a, e))) : ai_P G (ai_U M a g e) H1 := by
  refine ⟨_, hP1, hD1, fun b g' e' h => ?_⟩
  have hl := (List.getElem?_eq_some_iff.mp hk).1
  unfold ai_U at h
  by_cases hb : b = a
  · rw [if_pos hb] at h
    cases h
    exact ⟨k, by rw [List.getElem?_set_self hl, hb]⟩
  · rw [if_neg hb] at h
    obtain ⟨j, hj⟩ := hM b g' e' h
    refine ⟨j, ?_⟩
    have hn : k ≠ j := fun z => by subst z; rw [hk] at hj; cases hj; exact hb rfl
    rw [List.getElem?_set_ne hn]
    exact hj
theorem ai_push {G : ai_G} {M : ai_M} {ws : va_W} {H1 : Heap} {q : Nat} (g : Nat) {e : va_E} (hM : ∀ (a g : Nat) (e : va_E), M a = some (g, e) → ∃ k : Nat, ws[k]? = some (a, e)) (hP1 : va_P G.1 vwCl (ws ++ [(q, e)]) H1) (hD1 : va_D (ai_A G) (ws ++ [(q, e)])) : ai_P G (ai_U M q g e) H1 ∧ M q = none := by
  have hlast : (ws ++ [(q, e)])[ws.length]? = some (q, e) := by rw [List.getElem?_append_right (Nat.le_refl _), Nat.sub_self]; rfl
  have hin : ∀ {k : Nat} {x : Nat × va_E}, ws[k]? = some x → (ws ++ [(q, e)])[k]? = some x := fun {k x} h => by rw [List.getElem?_append_left (List.getElem?_eq_some_iff.mp h).1]; exact h
  refine ⟨⟨_, hP1, hD1, fun b g' e' h => ?_⟩, ?_⟩
  · unfold ai_U at h
    by_cases hb : b = q
    · rw [if_pos hb] at h
      cases h
      exact ⟨ws.length, by rw [hlast, hb]⟩
    · rw [if_neg hb] at h
      obtain ⟨j, hj⟩ := hM b g' e' h
      exact ⟨j, hin hj⟩
  · cases hq : M q with
    | none => rfl
    | some x =>
      obtain ⟨g', e'⟩ := x
      obtain ⟨j, hj⟩ := hM q g' e' hq
      have hl := (List.getElem?_eq_some_iff.mp hj).1
      have := hD1.1 j ws.length _ _ (hin hj) hlast rfl
      omega
/-- the locals by their slots: none where nothing is said -/
def ai_L (ls : Array Slot) (L : List (Option Value)) : Prop := ls.size = L.length ∧ lv_wf ls ∧ ∀ (i : Nat) (v : Value), L[i]? = some (some v) → ls[i]? = some (.val v) ∧ v.category = 1
def ai_ps (L : List (Option Value)) : List (Nat × Value) := L.zipIdx.filterMap fun q => q.1.map fun v => (q.2, v)
theorem ai_ps_mem {L : List (Option Value)} {i : Nat} {v : Value} : (i, v) ∈ ai_ps L ↔ L[i]? = some (some v) := by
  unfold ai_ps
  rw [List.mem_filterMap]
  constructor
  · rintro ⟨⟨o, j⟩, h1, h2⟩
    rw [List.mem_zipIdx_iff_getElem?] at h1
    cases o with
    | none => cases h2
    | some w => cases h2; exact h1
  · intro h
    exact ⟨(some v, i), by rw [List.mem_zipIdx_iff_getElem?]; exact h, rfl⟩
theorem ai_has {ls : Array Slot} {L : List (Option Value)} (h : ai_L ls L) : lv_has ls L.length (ai_ps L) := ⟨h.1, h.2.1, fun q hq => (h.2.2 q.1 q.2 (ai_ps_mem.mp hq)).1⟩
theorem ai_put {ls ls' : Array Slot} {L : List (Option Value)} {i : Nat} {v : Value} (hi : i < L.length) (hc : v.category = 1) (h0 : ai_L ls L) (h : lv_has ls' L.length ((i, v) :: (ai_ps L).filter (fun q => !(q.1 == i) && !(q.1 + 1 == i && q.2.category == 2)))) : ai_L ls' (L.set i (some v)) := by
  refine ⟨by rw [List.length_set]; exact h.1, h.2.1, fun j w hj => ?_⟩
  by_cases hij : j = i
  · subst hij
    rw [List.getElem?_set_self hi] at hj
    cases hj
    exact ⟨h.2.2 _ List.mem_cons_self, hc⟩
  · rw [List.getElem?_set_ne (Ne.symm hij)] at hj
    have hw := h0.2.2 j w hj
    refine ⟨h.2.2 (j, w) (List.mem_cons_of_mem _ (List.mem_filter.mpr ⟨ai_ps_mem.mpr hj, ?_⟩)), hw.2⟩
    simp [hij, hw.2]
theorem ai_args : ∀ (av : List Value) (k i : Nat) (v : Value), (∀ x ∈ av, x.category = 1) → av[i]? = some v → (k + i, v) ∈ lv_args k av
  | [], k, i, v, _, h => by simp at h
  | x :: av, k, 0, v, hc, h => by
    simp only [List.getElem?_cons_zero, Option.some.injEq] at h
    subst h
    exact List.mem_cons_self
  | x :: av, k, i + 1, v, hc, h => by
    rw [List.getElem?_cons_succ] at h
    have h1 := ai_args av (k + 1) i v (fun y hy => hc y (List.mem_cons_of_mem _ hy)) h
    show (k + (i + 1), v) ∈ (k, x) :: lv_args (if x.category = 2 then k + 2 else k + 1) av
    rw [if_neg (by rw [hc x List.mem_cons_self]; decide), show k + (i + 1) = k + 1 + i by omega]
    exact List.mem_cons_of_mem _ h1
def ai_L0 (av : List Value) (n : Nat) : List (Option Value) := av.map some ++ List.replicate (n - av.length) none
theorem ai_L0_at {av : List Value} {n i : Nat} {v : Value} (h : (ai_L0 av n)[i]? = some (some v)) : av[i]? = some v := by
  unfold ai_L0 at h
  by_cases hi : i < av.length
  · rw [List.getElem?_append_left (by rw [List.length_map]; exact hi), List.getElem?_map] at h
    cases hx : av[i]? with
    | none => rw [hx] at h; cases h
    | some x => rw [hx] at h; cases h; rfl
  · rw [List.getElem?_append_right (by rw [List.length_map]; omega), List.getElem?_replicate] at h
    split at h <;> cases h
theorem ai_entry {ls : Array Slot} {av : List Value} {n : Nat} (hn : av.length ≤ n) (hc : ∀ x ∈ av, x.category = 1) (h : lv_has ls n (lv_args 0 av)) : ai_L ls (ai_L0 av n) := by
  refine ⟨by rw [h.1]; unfold ai_L0; rw [List.length_append, List.length_map, List.length_replicate]; omega, h.2.1, fun i v hi => ?_⟩
  have h1 := ai_L0_at hi
  have h2 := ai_args av 0 i v hc h1
  rw [Nat.zero_add] at h2
  exact ⟨h.2.2 _ h2, hc v (List.mem_of_getElem? h1)⟩
/-! the surroundings: what lies outside the region and in the tables -/
def ai_Xn : List String := ["java/lang/RuntimeException", "java/lang/Exception"]
def ai_Xw : List Cond := [.castable RX4 "java/lang/Object", .castable RX3 "java/lang/Object", .castable RX5 "java/lang/Object", .castable "java/lang/IndexOutOfBoundsException" "java/lang/IndexOutOfBoundsException", .castable "java/lang/IllegalStateException" "java/lang/IllegalStateException", .castable "java/lang/IllegalArgumentException" "java/lang/IllegalArgumentException"] ++ (vx_atS RX6 44 "java/lang/IllegalStateException" ai_Xn).filter (fun w => !goodWord w) ++ (vx_atS RX6 161 "java/lang/IndexOutOfBoundsException" ai_Xn).filter (fun w => !goodWord w) ++ (vx_atS RX6 108 "java/lang/IllegalArgumentException" ai_Xn).filter (fun w => !goodWord w)
def ai_mv : Cond → Bool
  | .castable _ _ => true
  | .declares _ => true
  | _ => false
theorem ai_mv_tab {w : Cond} (h : ai_mv w = true) : w.onTables = true := by
  cases w <;> first | rfl | (exact absurd h (by simp [ai_mv]))
theorem ai_mv_warm {w : Cond} {s U : State} (h : ai_mv w = true) (hW : s.WarmedH U.vm) (hZ : va_Nw w s) : va_Nw w U := by
  cases w <;> first | exact va_Nw.warmC hW hZ | exact va_Nw.warmD hW hZ | (exact absurd h (by simp [ai_mv]))
theorem ai_Xw_mv : ∀ w ∈ ai_Xw, ai_mv w = true := by decide +kernel
def ai_En : List (String × String) := [("java/lang/IllegalStateException", "java/lang/IndexOutOfBoundsException"), ("java/lang/IllegalArgumentException", "java/lang/IndexOutOfBoundsException"), ("java/lang/IllegalStateException", "java/lang/IllegalArgumentException")]
def ai_Es : List (Nat × String × Nat) := [(42, "there were 20 questions", 10), (61, "the question has 3 products", 11), (78, "the question has no product", 12), (83, "the last product has 4 tests", 13), (106, "a quiet time is 0 to 1000 minutes", 14), (116, "a value is 0 to 63, or NONE", 15), (133, "1 to 1000 minutes pass", 16), (136, "the minute would be above 1000000", 17), (159, "pieces are counted from 0", 18), (168, "there is no such question", 19), (170, "the question was dropped", 20), (172, "a name is 0 to 5", 21), (174, "a range is from 0 to 63, its low not above its high", 22)]
def ai_Ew (G : ai_G) (U : State) : Prop := va_AO "java/lang/Object" U ∧ va_AO "AlertIndex$Posting" U ∧ va_Mi "[Ljava/lang/Object;" (G.2.2.1 1) U ∧ va_Dc U ∧ va_Nw (.methodLinkNest RX1 17 yX6_levelOfPiece "AlertIndex") U ∧ va_Nw (.methodLinkNest RX1 34 yX6_isValue "AlertIndex") U ∧
  va_Fw RJx4a65c ⟨"java/util/List", "size", "()I"⟩ yJx4a65c_size_8abf5 U ∧ va_Fw RJx4a65c ⟨"java/util/List", "isEmpty", "()Z"⟩ yJx4a65c_isEmpty_aae02 U ∧ va_Fw RJx4a65c ⟨"java/util/List", "get", "(I)Ljava/lang/Object;"⟩ yJx4a65c_get_915e3 U ∧ va_Fw RJx4a65c ⟨"java/util/List", "add", "(Ljava/lang/Object;)Z"⟩ yJx4a65c_add_9ea2d U ∧
  (∀ w ∈ ai_Xw, va_Nw w U) ∧ (∀ q ∈ ai_En, va_Nc q.1 q.2 U) ∧ ∀ q ∈ ai_Es, vk_R "AlertIndex" q.1 q.2.1 (G.2.2.1 q.2.2) U
def ai_Eh (G : ai_G) (U : State) (H : Heap) : Prop := va_Z "java/util/ArrayList" "DEFAULTCAPACITY_EMPTY_ELEMENTDATA" "[Ljava/lang/Object;" (.ref (G.2.2.1 0)) (ai_A G) U H ∧ va_T (.object "java/lang/Object") (G.2.2.1 0) 0 (fun _ => .null) (ai_A G) U H ∧ vx_Zq Bundle.tN "UNASSIGNED_STACK" Bundle.steD (ai_A G) U H ∧ vx_Zq Bundle.tN "SUPPRESSED_SENTINEL" Bundle.listD (ai_A G) U H
def ai_E (G : ai_G) (U : State) : Prop := ai_Ew G U ∧ ai_Eh G U U.heap
theorem ai_Ew.moved {G : ai_G} {s U : State} (hW : s.WarmedH U.vm) (h : ai_Ew G s) : ai_Ew G U := by
  obtain ⟨h1, h2, h3, h4, h5, h6, h7, h8, h9, h10, h11, h12, h13⟩ := h
  have hn : ("java/util/List" : String) ≠ "java/lang/invoke/MethodHandle" ∧ ("java/util/List" : String) ≠ "java/lang/invoke/VarHandle" := by decide +kernel
  exact ⟨va_AO.moved hW.alike h1, va_AO.moved hW.alike h2, va_Mi.moved hW.alike h3, va_Dc.moved hW.alike h4, va_Nw.warmM hW h5, va_Nw.warmM hW h6, va_Fw.moved hn hW.alike h7, va_Fw.moved hn hW.alike h8, va_Fw.moved hn hW.alike h9, va_Fw.moved hn hW.alike h10, fun w hw => ai_mv_warm (ai_Xw_mv w hw) hW (h11 w hw), fun q hq => va_Nc.moved hW.alike (h12 q hq), fun q hq => vk_R.warm hW (h13 q hq)⟩
theorem ai_Eh.moved {G : ai_G} {s U : State} {H H1 : Heap} (hvm : s.vm.Alike U.vm) (hq : ∀ q : Nat, q < H.size → ¬ ai_A G q → H1[q]? = H[q]?) (h : ai_Eh G s H) : ai_Eh G U H1 := by
  obtain ⟨h1, h2, h3, h4⟩ := h
  exact ⟨va_Z.moved hvm (h1.kept hq), va_T.moved hvm (h2.kept hq), vx_Zq.moved hvm (h3.kept hq), vx_Zq.moved hvm (h4.kept hq)⟩
theorem ai_E.moved {G : ai_G} {s U : State} (hW : s.WarmedH U.vm) (hq : ∀ q : Nat, q < s.heap.size → ¬ ai_A G q → U.heap[q]? = s.heap[q]?) (h : ai_E G s) : ai_E G U := ⟨h.1.moved hW, h.2.moved hW.alike hq⟩
/-! contracts -/
def ai_Pre (G : ai_G) (M : ai_M) (U : State) : Prop := va_K G.1 vwCl (ai_T G) U ∧ ai_P G M U.heap ∧ ai_E G U ∧ G.2.2.2 ≤ U.heap.size
def ai_Q (G : ai_G) (post : Option Value → ai_M → Prop) : Array Value → State → Outcome → State → Prop := fun _ st oc t => (∃ (r : Option Value) (M' : ai_M), oc = .returned r ∧ post r M' ∧ ai_P G M' t.heap) ∧ va_F (ai_A G) st t
def ai_X (G : ai_G) (px : String → ai_M → Prop) : String → State → State → Prop := fun E st t => (∃ M' : ai_M, px E M' ∧ ai_P G M' t.heap) ∧ va_F (ai_A G) st t
def ai_C (l : Launch) (y : MethodName) (ws : List Cond) (rm : Room) (mc ms : Nat) (G : ai_G) (M : ai_M) (av : List Value) (post : Option Value → ai_M → Prop) : Prop := Met l y ws rm (va_Pc av (ai_Pre G M)) (ai_Q G post) mc ms (ai_A G)
def ai_D (l : Launch) (y : MethodName) (ws : List Cond) (rm : Room) (mc ms : Nat) (G : ai_G) (M : ai_M) (av : List Value) (post : Option Value → ai_M → Prop) (px : String → ai_M → Prop) : Prop := vx_Met l y ws rm (va_Pc av (ai_Pre G M)) (ai_Q G post) (ai_X G px) mc ms (ai_A G)
theorem ai_Pre.calling {G : ai_G} {M : ai_M} {U : State} {g : JFrame} {mk : MethodId} {a : Array Value} (h : ai_Pre G M U) : ai_Pre G M (U.calling g mk a) := by
  obtain ⟨h1, h2, h3, h4⟩ := h
  exact ⟨va_K.moved (u := U) (U := U.calling g mk a) (Vm.Alike.refl U.vm) h1, h2, ai_E.moved (s := U) (U := U.calling g mk a) (State.WarmedH.refl U) (fun _ _ _ => rfl) h3, h4⟩
theorem ai_blind {G : ai_G} {M : ai_M} {av : List Value} : FrameBlind (va_Pc av (ai_Pre G M)) := fun a U g mk h => ⟨h.1, h.2.calling⟩
/-! the walk -/
section AIY
variable {p : Program} {l : Launch} {e : Env} {R : Room} {s : State} {m : MethodId} {args : Array Value} {below : List Frame} {meth : Method} {c : Code} {G : ai_G} {Q : State → Prop} {M : ai_M} {cells slots : Nat} {L : List (Option Value)} {pc : Nat} {st : List Value} {cc : ByteArray} {nL : Nat} {ws : List Cond} {own : String} {ret : Option FieldType}
def ai_B (p : Program) (l : Launch) (e : Env) (R : Room) (s : State) (m : MethodId) (args : Array Value) (below : List Frame) (meth : Method) (c : Code) (G : ai_G) (cc : ByteArray) (nL : Nat) (ws : List Cond) (own : String) (ret : Option FieldType) : Prop :=
  p.tables.exec = Jvm.exec ∧ c.code = cc ∧ meth.sig.returnType = ret ∧ c.maxLocals = nL ∧ s.vm.findClass own = some m.cls ∧ (∀ w ∈ ws, w.before args s = true) ∧ meth.locks = false ∧ va_K G.1 vwCl (ai_T G) s ∧ ai_E G s ∧ G.2.2.2 ≤ s.heap.size
def ai_Y (p : Program) (l : Launch) (e : Env) (R : Room) (s : State) (m : MethodId) (args : Array Value) (below : List Frame) (meth : Method) (c : Code) (G : ai_G) (Q : State → Prop) (M : ai_M) (cells slots : Nat) (L : List (Option Value)) (pc : Nat) (st : List Value) : Prop :=
  ∀ (H : Heap) (locs : List Loc) (ls : Array Slot), L.length = c.maxLocals → ai_P G M H → va_S (ai_A G) s.heap H locs → ai_L ls L → W p l e R s m args below meth c H locs cells slots Q (F0 m pc ls st)
theorem ai_top (B : ai_B p l e R s m args below meth c G cc nL ws own ret) : ∀ q : Nat, s.heap.size ≤ q → ai_A G q := fun q h => Nat.le_trans B.2.2.2.2.2.2.2.2.2 h
theorem ai_room {st : List Value} {ls : Array Slot} {rest : List Value} (h : (st.map fun v => v.category).sum ≤ 8) : 2 * (F0 m pc ls rest).monitorRoom + (st.map fun v => v.category).sum ≤ 8 := lv_room h

theorem y_iconst (B : ai_B p l e R s m args below meth c G cc nL ws own ret) {n : Int} (v : Int32) (hd : decode cc pc = .ok (.iconst n, 1)) (hv : Int32.ofInt n = v) (k : ai_Y p l e R s m args below meth c G Q M cells slots L (pc + 1) (.int v :: st)) : ai_Y p l e R s m args below meth c G Q M cells slots L pc st :=
  fun H locs ls hl hP hS hL => lv_iconst B.1 B.2.1 hd hv (k H locs ls hl hP hS hL)
theorem y_bipush (B : ai_B p l e R s m args below meth c G cc nL ws own ret) {n : Int} (v : Int32) (hd : decode cc pc = .ok (.bipush n, 2)) (hv : (Int8.ofInt n).toInt32 = v) (k : ai_Y p l e R s m args below meth c G Q M cells slots L (pc + 2) (.int v :: st)) : ai_Y p l e R s m args below meth c G Q M cells slots L pc st :=
  fun H locs ls hl hP hS hL => lv_bipush B.1 B.2.1 hd hv (k H locs ls hl hP hS hL)
theorem y_sipush (B : ai_B p l e R s m args below meth c G cc nL ws own ret) {n : Int} (v : Int32) (hd : decode cc pc = .ok (.sipush n, 3)) (hv : (Int16.ofInt n).toInt32 = v) (k : ai_Y p l e R s m args below meth c G Q M cells slots L (pc + 3) (.int v :: st)) : ai_Y p l e R s m args below meth c G Q M cells slots L pc st :=
  fun H locs ls hl hP hS hL => lv_sipush B.1 B.2.1 hd hv (k H locs ls hl hP hS hL)
theorem y_ldc (B : ai_B p l e R s m args below meth c G cc nL ws own ret) {ix : Nat} (v : Int32) (hc : (Cond.constant own ix v).before args s = true) (hd : decode cc pc = .ok (.ldc ix, 2)) (k : ai_Y p l e R s m args below meth c G Q M cells slots L (pc + 2) (.int v :: st)) : ai_Y p l e R s m args below meth c G Q M cells slots L pc st :=
  fun H locs ls hl hP hS hL => lv_ldc B.1 B.2.1 B.2.2.2.2.1 hc hd (k H locs ls hl hP hS hL)
theorem y_null (B : ai_B p l e R s m args below meth c G cc nL ws own ret) (hd : decode cc pc = .ok (.aconst_null, 1)) (k : ai_Y p l e R s m args below meth c G Q M cells slots L (pc + 1) (.null :: st)) : ai_Y p l e R s m args below meth c G Q M cells slots L pc st :=
  fun H locs ls hl hP hS hL => lv_null B.1 B.2.1 hd (k H locs ls hl hP hS hL)
theorem y_iload_n (B : ai_B p l e R s m args below meth c G cc nL ws own ret) {k0 : Fin 4} {x : Int32} (hd : decode cc pc = .ok (.iload_n k0, 1)) (hx : L[(k0 : Nat)]? = some (some (.int x))) (k : ai_Y p l e R s m args below meth c G Q M cells slots L (pc + 1) (.int x :: st)) : ai_Y p l e R s m args below meth c G Q M cells slots L pc st :=
  fun H locs ls hl hP hS hL => lv_iload_n B.1 B.2.1 hd rfl (hL.2.2 _ _ hx).1 (k H locs ls hl hP hS hL)
theorem y_iload (B : ai_B p l e R s m args below meth c G cc nL ws own ret) {i : Nat} {x : Int32} (hd : decode cc pc = .ok (.iload i, 2)) (hx : L[i]? = some (some (.int x))) (k : ai_Y p l e R s m args below meth c G Q M cells slots L (pc + 2) (.int x :: st)) : ai_Y p l e R s m args below meth c G Q M cells slots L pc st :=
  fun H locs ls hl hP hS hL => lv_iload B.1 B.2.1 hd (hL.2.2 _ _ hx).1 (k H locs ls hl hP hS hL)
theorem y_aload_n (B : ai_B p l e R s m args below meth c G cc nL ws own ret) {k0 : Fin 4} {x : Nat} (hd : decode cc pc = .ok (.aload_n k0, 1)) (hx : L[(k0 : Nat)]? = some (some (.ref x))) (k : ai_Y p l e R s m args below meth c G Q M cells slots L (pc + 1) (.ref x :: st)) : ai_Y p l e R s m args below meth c G Q M cells slots L pc st :=
  fun H locs ls hl hP hS hL => lv_aload_n B.1 B.2.1 hd rfl (hL.2.2 _ _ hx).1 (k H locs ls hl hP hS hL)
theorem y_aload (B : ai_B p l e R s m args below meth c G cc nL ws own ret) {i : Nat} {x : Nat} (hd : decode cc pc = .ok (.aload i, 2)) (hx : L[i]? = some (some (.ref x))) (k : ai_Y p l e R s m args below meth c G Q M cells slots L (pc + 2) (.ref x :: st)) : ai_Y p l e R s m args below meth c G Q M cells slots L pc st :=
  fun H locs ls hl hP hS hL => lv_aload B.1 B.2.1 hd (hL.2.2 _ _ hx).1 (k H locs ls hl hP hS hL)
theorem y_aloadN_n (B : ai_B p l e R s m args below meth c G cc nL ws own ret) {k0 : Fin 4} (hd : decode cc pc = .ok (.aload_n k0, 1)) (hx : L[(k0 : Nat)]? = some (some .null)) (k : ai_Y p l e R s m args below meth c G Q M cells slots L (pc + 1) (.null :: st)) : ai_Y p l e R s m args below meth c G Q M cells slots L pc st :=
  fun H locs ls hl hP hS hL => lv_aload_nN B.1 B.2.1 hd rfl (hL.2.2 _ _ hx).1 (k H locs ls hl hP hS hL)
theorem y_aloadN (B : ai_B p l e R s m args below meth c G cc nL ws own ret) {i : Nat} (hd : decode cc pc = .ok (.aload i, 2)) (hx : L[i]? = some (some .null)) (k : ai_Y p l e R s m args below meth c G Q M cells slots L (pc + 2) (.null :: st)) : ai_Y p l e R s m args below meth c G Q M cells slots L pc st :=
  fun H locs ls hl hP hS hL => lv_aloadN B.1 B.2.1 hd (hL.2.2 _ _ hx).1 (k H locs ls hl hP hS hL)
theorem y_istore_n (B : ai_B p l e R s m args below meth c G cc nL ws own ret) {k0 : Fin 4} {x : Int32} (hd : decode cc pc = .ok (.istore_n k0, 1)) (hi : (k0 : Nat) < L.length) (k : ai_Y p l e R s m args below meth c G Q M cells slots (L.set (k0 : Nat) (some (.int x))) (pc + 1) st) : ai_Y p l e R s m args below meth c G Q M cells slots L pc (.int x :: st) :=
  fun H locs ls hl hP hS hL => lv_istore_n (nL := L.length) B.1 B.2.1 hd rfl (ai_has hL) hi rfl (fun ls1 hl1 => k H locs ls1 (by rw [List.length_set]; exact hl) hP hS (ai_put hi rfl hL hl1))
theorem y_istore (B : ai_B p l e R s m args below meth c G cc nL ws own ret) {i : Nat} {x : Int32} (hd : decode cc pc = .ok (.istore i, 2)) (hi : i < L.length) (k : ai_Y p l e R s m args below meth c G Q M cells slots (L.set i (some (.int x))) (pc + 2) st) : ai_Y p l e R s m args below meth c G Q M cells slots L pc (.int x :: st) :=
  fun H locs ls hl hP hS hL => lv_istore (nL := L.length) B.1 B.2.1 hd (ai_has hL) hi rfl (fun ls1 hl1 => k H locs ls1 (by rw [List.length_set]; exact hl) hP hS (ai_put hi rfl hL hl1))
theorem y_astore_n (B : ai_B p l e R s m args below meth c G cc nL ws own ret) {k0 : Fin 4} {x : Nat} (hd : decode cc pc = .ok (.astore_n k0, 1)) (hi : (k0 : Nat) < L.length) (k : ai_Y p l e R s m args below meth c G Q M cells slots (L.set (k0 : Nat) (some (.ref x))) (pc + 1) st) : ai_Y p l e R s m args below meth c G Q M cells slots L pc (.ref x :: st) :=
  fun H locs ls hl hP hS hL => lv_astore_n (nL := L.length) B.1 B.2.1 hd rfl (ai_has hL) hi rfl (fun ls1 hl1 => k H locs ls1 (by rw [List.length_set]; exact hl) hP hS (ai_put hi rfl hL hl1))
theorem y_astore (B : ai_B p l e R s m args below meth c G cc nL ws own ret) {i : Nat} {x : Nat} (hd : decode cc pc = .ok (.astore i, 2)) (hi : i < L.length) (k : ai_Y p l e R s m args below meth c G Q M cells slots (L.set i (some (.ref x))) (pc + 2) st) : ai_Y p l e R s m args below meth c G Q M cells slots L pc (.ref x :: st) :=
  fun H locs ls hl hP hS hL => lv_astore (nL := L.length) B.1 B.2.1 hd (ai_has hL) hi rfl (fun ls1 hl1 => k H locs ls1 (by rw [List.length_set]; exact hl) hP hS (ai_put hi rfl hL hl1))
theorem y_astoreN_n (B : ai_B p l e R s m args below meth c G cc nL ws own ret) {k0 : Fin 4}  (hd : decode cc pc = .ok (.astore_n k0, 1)) (hi : (k0 : Nat) < L.length) (k : ai_Y p l e R s m args below meth c G Q M cells slots (L.set (k0 : Nat) (some .null)) (pc + 1) st) : ai_Y p l e R s m args below meth c G Q M cells slots L pc (.null :: st) :=
  fun H locs ls hl hP hS hL => lv_astore_nN (nL := L.length) B.1 B.2.1 hd rfl (ai_has hL) hi rfl (fun ls1 hl1 => k H locs ls1 (by rw [List.length_set]; exact hl) hP hS (ai_put hi rfl hL hl1))
theorem y_astoreN (B : ai_B p l e R s m args below meth c G cc nL ws own ret) {i : Nat}  (hd : decode cc pc = .ok (.astore i, 2)) (hi : i < L.length) (k : ai_Y p l e R s m args below meth c G Q M cells slots (L.set i (some .null)) (pc + 2) st) : ai_Y p l e R s m args below meth c G Q M cells slots L pc (.null :: st) :=
  fun H locs ls hl hP hS hL => lv_astoreN (nL := L.length) B.1 B.2.1 hd (ai_has hL) hi rfl (fun ls1 hl1 => k H locs ls1 (by rw [List.length_set]; exact hl) hP hS (ai_put hi rfl hL hl1))
theorem ai_idx {L : List (Option Value)} {i : Nat} {v : Value} (h : L[i]? = some (some v)) : ∃ k : Nat, (ai_ps L)[k]? = some (i, v) := List.getElem?_of_mem (ai_ps_mem.mpr h)
theorem y_iinc (B : ai_B p l e R s m args below meth c G cc nL ws own ret) {i : Nat} {n : Int} {x : Int32} (v : Int32) (hd : decode cc pc = .ok (.iinc i n, 3)) (hx : L[i]? = some (some (.int x))) (hv : x + Int32.ofInt n = v) (k : ai_Y p l e R s m args below meth c G Q M cells slots (L.set i (some (.int v))) (pc + 3) st) : ai_Y p l e R s m args below meth c G Q M cells slots L pc st := by
  intro H locs ls hl hP hS hL
  obtain ⟨j, hj⟩ := ai_idx hx
  have hi : i < L.length := (List.getElem?_eq_some_iff.mp hx).1
  exact lv_iinc (nL := L.length) B.1 B.2.1 hd (ai_has hL) hj hv hi rfl (fun ls1 hl1 => k H locs ls1 (by rw [List.length_set]; exact hl) hP hS (ai_put hi rfl hL hl1))
theorem y_iadd (B : ai_B p l e R s m args below meth c G cc nL ws own ret) {x y : Int32} (v : Int32) (hd : decode cc pc = .ok (.iadd, 1)) (hv : x + y = v) (k : ai_Y p l e R s m args below meth c G Q M cells slots L (pc + 1) (.int v :: st)) : ai_Y p l e R s m args below meth c G Q M cells slots L pc (.int y :: .int x :: st) :=
  fun H locs ls hl hP hS hL => lv_iadd B.1 B.2.1 hd (by rw [hv]; exact k H locs ls hl hP hS hL)
theorem y_isub (B : ai_B p l e R s m args below meth c G cc nL ws own ret) {x y : Int32} (v : Int32) (hd : decode cc pc = .ok (.isub, 1)) (hv : x - y = v) (k : ai_Y p l e R s m args below meth c G Q M cells slots L (pc + 1) (.int v :: st)) : ai_Y p l e R s m args below meth c G Q M cells slots L pc (.int y :: .int x :: st) :=
  fun H locs ls hl hP hS hL => lv_isub B.1 B.2.1 hd (by rw [hv]; exact k H locs ls hl hP hS hL)
theorem y_imul (B : ai_B p l e R s m args below meth c G cc nL ws own ret) {x y : Int32} (v : Int32) (hd : decode cc pc = .ok (.imul, 1)) (hv : x * y = v) (k : ai_Y p l e R s m args below meth c G Q M cells slots L (pc + 1) (.int v :: st)) : ai_Y p l e R s m args below meth c G Q M cells slots L pc (.int y :: .int x :: st) :=
  fun H locs ls hl hP hS hL => lv_imul B.1 B.2.1 hd (by rw [hv]; exact k H locs ls hl hP hS hL)
theorem y_iand (B : ai_B p l e R s m args below meth c G cc nL ws own ret) {x y : Int32} (v : Int32) (hd : decode cc pc = .ok (.iand, 1)) (hv : x &&& y = v) (k : ai_Y p l e R s m args below meth c G Q M cells slots L (pc + 1) (.int v :: st)) : ai_Y p l e R s m args below meth c G Q M cells slots L pc (.int y :: .int x :: st) :=
  fun H locs ls hl hP hS hL => lv_iand B.1 B.2.1 hd (by rw [hv]; exact k H locs ls hl hP hS hL)
theorem y_ior (B : ai_B p l e R s m args below meth c G cc nL ws own ret) {x y : Int32} (v : Int32) (hd : decode cc pc = .ok (.ior, 1)) (hv : x ||| y = v) (k : ai_Y p l e R s m args below meth c G Q M cells slots L (pc + 1) (.int v :: st)) : ai_Y p l e R s m args below meth c G Q M cells slots L pc (.int y :: .int x :: st) :=
  fun H locs ls hl hP hS hL => lv_ior B.1 B.2.1 hd (by rw [hv]; exact k H locs ls hl hP hS hL)
theorem y_ixor (B : ai_B p l e R s m args below meth c G cc nL ws own ret) {x y : Int32} (v : Int32) (hd : decode cc pc = .ok (.ixor, 1)) (hv : x ^^^ y = v) (k : ai_Y p l e R s m args below meth c G Q M cells slots L (pc + 1) (.int v :: st)) : ai_Y p l e R s m args below meth c G Q M cells slots L pc (.int y :: .int x :: st) :=
  fun H locs ls hl hP hS hL => lv_ixor B.1 B.2.1 hd (by rw [hv]; exact k H locs ls hl hP hS hL)
theorem y_ishl (B : ai_B p l e R s m args below meth c G cc nL ws own ret) {x y : Int32} (v : Int32) (hd : decode cc pc = .ok (.ishl, 1)) (hv : x <<< (y &&& 31) = v) (k : ai_Y p l e R s m args below meth c G Q M cells slots L (pc + 1) (.int v :: st)) : ai_Y p l e R s m args below meth c G Q M cells slots L pc (.int y :: .int x :: st) :=
  fun H locs ls hl hP hS hL => lv_ishl B.1 B.2.1 hd (by rw [hv]; exact k H locs ls hl hP hS hL)
theorem y_ishr (B : ai_B p l e R s m args below meth c G cc nL ws own ret) {x y : Int32} (v : Int32) (hd : decode cc pc = .ok (.ishr, 1)) (hv : x >>> (y &&& 31) = v) (k : ai_Y p l e R s m args below meth c G Q M cells slots L (pc + 1) (.int v :: st)) : ai_Y p l e R s m args below meth c G Q M cells slots L pc (.int y :: .int x :: st) :=
  fun H locs ls hl hP hS hL => lv_ishr B.1 B.2.1 hd (by rw [hv]; exact k H locs ls hl hP hS hL)
theorem y_irem (B : ai_B p l e R s m args below meth c G cc nL ws own ret) {x y : Int32} (v : Int32) (hd : decode cc pc = .ok (.irem, 1)) (hne : ¬ y = 0) (hv : x - x / y * y = v) (k : ai_Y p l e R s m args below meth c G Q M cells slots L (pc + 1) (.int v :: st)) : ai_Y p l e R s m args below meth c G Q M cells slots L pc (.int y :: .int x :: st) :=
  fun H locs ls hl hP hS hL => lv_irem B.1 B.2.1 hd hne (by rw [hv]; exact k H locs ls hl hP hS hL)
theorem y_i2l (B : ai_B p l e R s m args below meth c G cc nL ws own ret) {x : Int32} (hd : decode cc pc = .ok (.i2l, 1)) (k : ai_Y p l e R s m args below meth c G Q M cells slots L (pc + 1) (.long x.toInt64 :: st)) : ai_Y p l e R s m args below meth c G Q M cells slots L pc (.int x :: st) :=
  fun H locs ls hl hP hS hL => lv_i2l B.1 B.2.1 hd rfl (k H locs ls hl hP hS hL)
theorem y_lcmp (B : ai_B p l e R s m args below meth c G cc nL ws own ret) {x y : Int64} (hd : decode cc pc = .ok (.lcmp, 1)) (k : ai_Y p l e R s m args below meth c G Q M cells slots L (pc + 1) (.int (lg_cmp x y) :: st)) : ai_Y p l e R s m args below meth c G Q M cells slots L pc (.long y :: .long x :: st) :=
  fun H locs ls hl hP hS hL => W.lcmp B.1 B.2.1 hd (k H locs ls hl hP hS hL)
theorem y_lconst (B : ai_B p l e R s m args below meth c G cc nL ws own ret) {n : Fin 2} (v : Int64) (hd : decode cc pc = .ok (.lconst n, 1)) (hv : Int64.ofNat n.val = v) (k : ai_Y p l e R s m args below meth c G Q M cells slots L (pc + 1) (.long v :: st)) : ai_Y p l e R s m args below meth c G Q M cells slots L pc st :=
  fun H locs ls hl hP hS hL => lv_lconst B.1 B.2.1 hd hv (k H locs ls hl hP hS hL)
theorem y_dup (B : ai_B p l e R s m args below meth c G cc nL ws own ret) {v : Value} (hd : decode cc pc = .ok (.dup, 1)) (hc : v.category = 1) (k : ai_Y p l e R s m args below meth c G Q M cells slots L (pc + 1) (v :: v :: st)) : ai_Y p l e R s m args below meth c G Q M cells slots L pc (v :: st) :=
  fun H locs ls hl hP hS hL => lv_dup B.1 B.2.1 hd hc (k H locs ls hl hP hS hL)
theorem y_dup_x1 (B : ai_B p l e R s m args below meth c G cc nL ws own ret) {v u : Value} (hd : decode cc pc = .ok (.dup_x1, 1)) (hc : v.category = 1) (hu : u.category = 1) (k : ai_Y p l e R s m args below meth c G Q M cells slots L (pc + 1) (v :: u :: v :: st)) : ai_Y p l e R s m args below meth c G Q M cells slots L pc (v :: u :: st) :=
  fun H locs ls hl hP hS hL => lv_dup_x1 B.1 B.2.1 hd hc hu (k H locs ls hl hP hS hL)
theorem y_dup2 (B : ai_B p l e R s m args below meth c G cc nL ws own ret) {v u : Value} (hd : decode cc pc = .ok (.dup2, 1)) (hc : v.category = 1) (hu : u.category = 1) (k : ai_Y p l e R s m args below meth c G Q M cells slots L (pc + 1) (v :: u :: v :: u :: st)) : ai_Y p l e R s m args below meth c G Q M cells slots L pc (v :: u :: st) :=
  fun H locs ls hl hP hS hL => lv_dup2_11 B.1 B.2.1 hd hc hu (k H locs ls hl hP hS hL)
theorem y_pop (B : ai_B p l e R s m args below meth c G cc nL ws own ret) {v : Value} (hd : decode cc pc = .ok (.pop, 1)) (hc : v.category = 1) (k : ai_Y p l e R s m args below meth c G Q M cells slots L (pc + 1) st) : ai_Y p l e R s m args below meth c G Q M cells slots L pc (v :: st) :=
  fun H locs ls hl hP hS hL => lv_pop B.1 B.2.1 hd hc (k H locs ls hl hP hS hL)
theorem y_icmp_eq (B : ai_B p l e R s m args below meth c G cc nL ws own ret) {x y : Int32} {off : Int} (tgt : Nat) (hd : decode cc pc = .ok (.if_icmp .eq off, 3)) (ht : (pc : Int) + off = (tgt : Int)) (kt : x = y → ai_Y p l e R s m args below meth c G Q M cells slots L tgt st) (kf : ¬ x = y → ai_Y p l e R s m args below meth c G Q M cells slots L (pc + 3) st) : ai_Y p l e R s m args below meth c G Q M cells slots L pc (.int y :: .int x :: st) :=
  fun H locs ls hl hP hS hL => lv_icmp_eq B.1 B.2.1 hd ht (fun h => kt h H locs ls hl hP hS hL) (fun h => kf h H locs ls hl hP hS hL)
theorem y_if_eq (B : ai_B p l e R s m args below meth c G cc nL ws own ret) {x : Int32} {off : Int} (tgt : Nat) (hd : decode cc pc = .ok (.ifCond .eq off, 3)) (ht : (pc : Int) + off = (tgt : Int)) (kt : x = 0 → ai_Y p l e R s m args below meth c G Q M cells slots L tgt st) (kf : ¬ x = 0 → ai_Y p l e R s m args below meth c G Q M cells slots L (pc + 3) st) : ai_Y p l e R s m args below meth c G Q M cells slots L pc (.int x :: st) :=
  fun H locs ls hl hP hS hL => lv_if_eq B.1 B.2.1 hd ht (fun h => kt h H locs ls hl hP hS hL) (fun h => kf h H locs ls hl hP hS hL)
theorem y_icmp_ne (B : ai_B p l e R s m args below meth c G cc nL ws own ret) {x y : Int32} {off : Int} (tgt : Nat) (hd : decode cc pc = .ok (.if_icmp .ne off, 3)) (ht : (pc : Int) + off = (tgt : Int)) (kt : ¬ x = y → ai_Y p l e R s m args below meth c G Q M cells slots L tgt st) (kf : x = y → ai_Y p l e R s m args below meth c G Q M cells slots L (pc + 3) st) : ai_Y p l e R s m args below meth c G Q M cells slots L pc (.int y :: .int x :: st) :=
  fun H locs ls hl hP hS hL => lv_icmp_ne B.1 B.2.1 hd ht (fun h => kt h H locs ls hl hP hS hL) (fun h => kf h H locs ls hl hP hS hL)
theorem y_if_ne (B : ai_B p l e R s m args below meth c G cc nL ws own ret) {x : Int32} {off : Int} (tgt : Nat) (hd : decode cc pc = .ok (.ifCond .ne off, 3)) (ht : (pc : Int) + off = (tgt : Int)) (kt : ¬ x = 0 → ai_Y p l e R s m args below meth c G Q M cells slots L tgt st) (kf : x = 0 → ai_Y p l e R s m args below meth c G Q M cells slots L (pc + 3) st) : ai_Y p l e R s m args below meth c G Q M cells slots L pc (.int x :: st) :=
  fun H locs ls hl hP hS hL => lv_if_ne B.1 B.2.1 hd ht (fun h => kt h H locs ls hl hP hS hL) (fun h => kf h H locs ls hl hP hS hL)
theorem y_icmp_lt (B : ai_B p l e R s m args below meth c G cc nL ws own ret) {x y : Int32} {off : Int} (tgt : Nat) (hd : decode cc pc = .ok (.if_icmp .lt off, 3)) (ht : (pc : Int) + off = (tgt : Int)) (kt : x < y → ai_Y p l e R s m args below meth c G Q M cells slots L tgt st) (kf : ¬ x < y → ai_Y p l e R s m args below meth c G Q M cells slots L (pc + 3) st) : ai_Y p l e R s m args below meth c G Q M cells slots L pc (.int y :: .int x :: st) :=
  fun H locs ls hl hP hS hL => lv_icmp_lt B.1 B.2.1 hd ht (fun h => kt h H locs ls hl hP hS hL) (fun h => kf h H locs ls hl hP hS hL)
theorem y_if_lt (B : ai_B p l e R s m args below meth c G cc nL ws own ret) {x : Int32} {off : Int} (tgt : Nat) (hd : decode cc pc = .ok (.ifCond .lt off, 3)) (ht : (pc : Int) + off = (tgt : Int)) (kt : x < 0 → ai_Y p l e R s m args below meth c G Q M cells slots L tgt st) (kf : ¬ x < 0 → ai_Y p l e R s m args below meth c G Q M cells slots L (pc + 3) st) : ai_Y p l e R s m args below meth c G Q M cells slots L pc (.int x :: st) :=
  fun H locs ls hl hP hS hL => lv_if_lt B.1 B.2.1 hd ht (fun h => kt h H locs ls hl hP hS hL) (fun h => kf h H locs ls hl hP hS hL)
theorem y_icmp_ge (B : ai_B p l e R s m args below meth c G cc nL ws own ret) {x y : Int32} {off : Int} (tgt : Nat) (hd : decode cc pc = .ok (.if_icmp .ge off, 3)) (ht : (pc : Int) + off = (tgt : Int)) (kt : y ≤ x → ai_Y p l e R s m args below meth c G Q M cells slots L tgt st) (kf : ¬ y ≤ x → ai_Y p l e R s m args below meth c G Q M cells slots L (pc + 3) st) : ai_Y p l e R s m args below meth c G Q M cells slots L pc (.int y :: .int x :: st) :=
  fun H locs ls hl hP hS hL => lv_icmp_ge B.1 B.2.1 hd ht (fun h => kt h H locs ls hl hP hS hL) (fun h => kf h H locs ls hl hP hS hL)
theorem y_if_ge (B : ai_B p l e R s m args below meth c G cc nL ws own ret) {x : Int32} {off : Int} (tgt : Nat) (hd : decode cc pc = .ok (.ifCond .ge off, 3)) (ht : (pc : Int) + off = (tgt : Int)) (kt : 0 ≤ x → ai_Y p l e R s m args below meth c G Q M cells slots L tgt st) (kf : ¬ 0 ≤ x → ai_Y p l e R s m args below meth c G Q M cells slots L (pc + 3) st) : ai_Y p l e R s m args below meth c G Q M cells slots L pc (.int x :: st) :=
  fun H locs ls hl hP hS hL => lv_if_ge B.1 B.2.1 hd ht (fun h => kt h H locs ls hl hP hS hL) (fun h => kf h H locs ls hl hP hS hL)
theorem y_icmp_gt (B : ai_B p l e R s m args below meth c G cc nL ws own ret) {x y : Int32} {off : Int} (tgt : Nat) (hd : decode cc pc = .ok (.if_icmp .gt off, 3)) (ht : (pc : Int) + off = (tgt : Int)) (kt : y < x → ai_Y p l e R s m args below meth c G Q M cells slots L tgt st) (kf : ¬ y < x → ai_Y p l e R s m args below meth c G Q M cells slots L (pc + 3) st) : ai_Y p l e R s m args below meth c G Q M cells slots L pc (.int y :: .int x :: st) :=
  fun H locs ls hl hP hS hL => lv_icmp_gt B.1 B.2.1 hd ht (fun h => kt h H locs ls hl hP hS hL) (fun h => kf h H locs ls hl hP hS hL)
theorem y_if_gt (B : ai_B p l e R s m args below meth c G cc nL ws own ret) {x : Int32} {off : Int} (tgt : Nat) (hd : decode cc pc = .ok (.ifCond .gt off, 3)) (ht : (pc : Int) + off = (tgt : Int)) (kt : 0 < x → ai_Y p l e R s m args below meth c G Q M cells slots L tgt st) (kf : ¬ 0 < x → ai_Y p l e R s m args below meth c G Q M cells slots L (pc + 3) st) : ai_Y p l e R s m args below meth c G Q M cells slots L pc (.int x :: st) :=
  fun H locs ls hl hP hS hL => lv_if_gt B.1 B.2.1 hd ht (fun h => kt h H locs ls hl hP hS hL) (fun h => kf h H locs ls hl hP hS hL)
theorem y_icmp_le (B : ai_B p l e R s m args below meth c G cc nL ws own ret) {x y : Int32} {off : Int} (tgt : Nat) (hd : decode cc pc = .ok (.if_icmp .le off, 3)) (ht : (pc : Int) + off = (tgt : Int)) (kt : x ≤ y → ai_Y p l e R s m args below meth c G Q M cells slots L tgt st) (kf : ¬ x ≤ y → ai_Y p l e R s m args below meth c G Q M cells slots L (pc + 3) st) : ai_Y p l e R s m args below meth c G Q M cells slots L pc (.int y :: .int x :: st) :=
  fun H locs ls hl hP hS hL => lv_icmp_le B.1 B.2.1 hd ht (fun h => kt h H locs ls hl hP hS hL) (fun h => kf h H locs ls hl hP hS hL)
theorem y_if_le (B : ai_B p l e R s m args below meth c G cc nL ws own ret) {x : Int32} {off : Int} (tgt : Nat) (hd : decode cc pc = .ok (.ifCond .le off, 3)) (ht : (pc : Int) + off = (tgt : Int)) (kt : x ≤ 0 → ai_Y p l e R s m args below meth c G Q M cells slots L tgt st) (kf : ¬ x ≤ 0 → ai_Y p l e R s m args below meth c G Q M cells slots L (pc + 3) st) : ai_Y p l e R s m args below meth c G Q M cells slots L pc (.int x :: st) :=
  fun H locs ls hl hP hS hL => lv_if_le B.1 B.2.1 hd ht (fun h => kt h H locs ls hl hP hS hL) (fun h => kf h H locs ls hl hP hS hL)
theorem y_acmp_eq (B : ai_B p l e R s m args below meth c G cc nL ws own ret) {rx ry : Option Nat} {off : Int} (tgt : Nat) (hd : decode cc pc = .ok (.if_acmp .eq off, 3)) (ht : (pc : Int) + off = (tgt : Int)) (kt : rx = ry → ai_Y p l e R s m args below meth c G Q M cells slots L tgt st) (kf : ¬ rx = ry → ai_Y p l e R s m args below meth c G Q M cells slots L (pc + 3) st) : ai_Y p l e R s m args below meth c G Q M cells slots L pc (va_rf ry :: va_rf rx :: st) :=
  fun H locs ls hl hP hS hL => lv_acmp_eq B.1 B.2.1 hd ht (fun h => kt h H locs ls hl hP hS hL) (fun h => kf h H locs ls hl hP hS hL)
theorem y_acmp_ne (B : ai_B p l e R s m args below meth c G cc nL ws own ret) {rx ry : Option Nat} {off : Int} (tgt : Nat) (hd : decode cc pc = .ok (.if_acmp .ne off, 3)) (ht : (pc : Int) + off = (tgt : Int)) (kt : ¬ rx = ry → ai_Y p l e R s m args below meth c G Q M cells slots L tgt st) (kf : rx = ry → ai_Y p l e R s m args below meth c G Q M cells slots L (pc + 3) st) : ai_Y p l e R s m args below meth c G Q M cells slots L pc (va_rf ry :: va_rf rx :: st) :=
  fun H locs ls hl hP hS hL => lv_acmp_ne B.1 B.2.1 hd ht (fun h => kt h H locs ls hl hP hS hL) (fun h => kf h H locs ls hl hP hS hL)
theorem y_goto (B : ai_B p l e R s m args below meth c G cc nL ws own ret) {off : Int} (tgt : Nat) (hd : decode cc pc = .ok (.goto off, 3)) (ht : (pc : Int) + off = (tgt : Int)) (k : ai_Y p l e R s m args below meth c G Q M cells slots L tgt st) : ai_Y p l e R s m args below meth c G Q M cells slots L pc st :=
  fun H locs ls hl hP hS hL => lv_goto B.1 B.2.1 hd ht (k H locs ls hl hP hS hL)
theorem y_ifnull (B : ai_B p l e R s m args below meth c G cc nL ws own ret) {x : Nat} {off : Int} (hd : decode cc pc = .ok (.ifnull off, 3)) (k : ai_Y p l e R s m args below meth c G Q M cells slots L (pc + 3) st) : ai_Y p l e R s m args below meth c G Q M cells slots L pc (.ref x :: st) :=
  fun H locs ls hl hP hS hL => lv_ifnull B.1 B.2.1 hd (k H locs ls hl hP hS hL)
theorem y_ifnullN (B : ai_B p l e R s m args below meth c G cc nL ws own ret) {off : Int} (tgt : Nat) (hd : decode cc pc = .ok (.ifnull off, 3)) (ht : (pc : Int) + off = (tgt : Int)) (k : ai_Y p l e R s m args below meth c G Q M cells slots L tgt st) : ai_Y p l e R s m args below meth c G Q M cells slots L pc (.null :: st) :=
  fun H locs ls hl hP hS hL => lv_ifnullN B.1 B.2.1 hd ht (k H locs ls hl hP hS hL)
theorem y_ifnonnull (B : ai_B p l e R s m args below meth c G cc nL ws own ret) {x : Nat} {off : Int} (tgt : Nat) (hd : decode cc pc = .ok (.ifnonnull off, 3)) (ht : (pc : Int) + off = (tgt : Int)) (k : ai_Y p l e R s m args below meth c G Q M cells slots L tgt st) : ai_Y p l e R s m args below meth c G Q M cells slots L pc (.ref x :: st) :=
  fun H locs ls hl hP hS hL => lv_ifnonnull B.1 B.2.1 hd ht (k H locs ls hl hP hS hL)
theorem y_ifnonnullN (B : ai_B p l e R s m args below meth c G cc nL ws own ret) {off : Int} (hd : decode cc pc = .ok (.ifnonnull off, 3)) (k : ai_Y p l e R s m args below meth c G Q M cells slots L (pc + 3) st) : ai_Y p l e R s m args below meth c G Q M cells slots L pc (.null :: st) :=
  fun H locs ls hl hP hS hL => lv_ifnonnullN B.1 B.2.1 hd (k H locs ls hl hP hS hL)
theorem y_tableIn (B : ai_B p l e R s m args below meth c G cc nL ws own ret) {dflt lo hi : Int} {offs : Array Int} {len : Nat} {x : Int32} {off : Int} (tgt : Nat) (hd : decode cc pc = .ok (.tableswitch dflt lo hi offs, len)) (h1 : ¬ x.toInt < lo) (h2 : ¬ hi < x.toInt) (ho : offs[(x.toInt - lo).toNat]? = some off) (ht : (pc : Int) + off = (tgt : Int)) (k : ai_Y p l e R s m args below meth c G Q M cells slots L tgt st) : ai_Y p l e R s m args below meth c G Q M cells slots L pc (.int x :: st) :=
  fun H locs ls hl hP hS hL => lv_tableIn B.1 B.2.1 hd h1 h2 ho ht (k H locs ls hl hP hS hL)
theorem y_tableOut (B : ai_B p l e R s m args below meth c G cc nL ws own ret) {dflt lo hi : Int} {offs : Array Int} {len : Nat} {x : Int32} (tgt : Nat) (hd : decode cc pc = .ok (.tableswitch dflt lo hi offs, len)) (h : x.toInt < lo ∨ hi < x.toInt) (ht : (pc : Int) + dflt = (tgt : Int)) (k : ai_Y p l e R s m args below meth c G Q M cells slots L tgt st) : ai_Y p l e R s m args below meth c G Q M cells slots L pc (.int x :: st) :=
  fun H locs ls hl hP hS hL => lv_tableOut B.1 B.2.1 hd h ht (k H locs ls hl hP hS hL)
theorem y_eq {pc' : Nat} {st' : List Value} (h1 : pc = pc') (h2 : st = st') (k : ai_Y p l e R s m args below meth c G Q M cells slots L pc' st') : ai_Y p l e R s m args below meth c G Q M cells slots L pc st := by subst h1; subst h2; exact k
theorem y_mem {M' : ai_M} (h : ∀ (a g : Nat) (e : va_E), M' a = some (g, e) → M a = some (g, e)) (k : ai_Y p l e R s m args below meth c G Q M' cells slots L pc st) : ai_Y p l e R s m args below meth c G Q M cells slots L pc st := by
  intro H locs ls hl hP hS hL
  obtain ⟨ws1, h1, h2, h3⟩ := hP
  exact k H locs ls hl ⟨ws1, h1, h2, fun a g e q => h3 a g e (h a g e q)⟩ hS hL
theorem y_loc {L' : List (Option Value)} (h0 : L'.length = L.length) (h : ∀ (i : Nat) (v : Value), L'[i]? = some (some v) → L[i]? = some (some v)) (k : ai_Y p l e R s m args below meth c G Q M cells slots L' pc st) : ai_Y p l e R s m args below meth c G Q M cells slots L pc st := by
  intro H locs ls hl hP hS hL
  exact k H locs ls (by rw [h0]; exact hl) hP hS ⟨by rw [h0]; exact hL.1, hL.2.1, fun i v q => hL.2.2 i v (h i v q)⟩
theorem y_wide {k n : Nat} (h1 : cells ≤ k) (h2 : slots ≤ n) (kk : ai_Y p l e R s m args below meth c G Q M k n L pc st) : ai_Y p l e R s m args below meth c G Q M cells slots L pc st := fun H locs ls hl hP hS hL => W.widen h1 h2 (kk H locs ls hl hP hS hL)
theorem y_get (B : ai_B p l e R s m args below meth c G cc nL ws own ret) {ref C : String} {T : u_T} {N ci index a g : Nat} {fs : List Value} {v : Value} (hM : M a = some (g, .inr (ci, fs))) (hc : vwCl[ci]? = some (C, T, N)) (hin : ∀ w ∈ u_ws C T N, w ∈ ws) (k0 : Nat) (hk : k0 < N) (hlink : Cond.fieldLink own index ref (T k0).2.1 (T k0).2.2.1 ∈ ws) (hsame : ∀ x, s.fieldFound? (T k0).1 (T k0).2.1 (T k0).2.2.1 = some x → s.fieldFound? ref (T k0).2.1 (T k0).2.2.1 = some x) (hv : fs[k0]? = some v) (hd : decode cc pc = .ok (.getfield index, 3)) (k : ai_Y p l e R s m args below meth c G Q M cells slots L (pc + 3) (v :: st)) : ai_Y p l e R s m args below meth c G Q M cells slots L pc (.ref a :: st) := by
  intro H locs ls hl hP hS hL
  obtain ⟨ws1, h1, h2, h3⟩ := id hP
  obtain ⟨j, hj⟩ := h3 a g _ hM
  exact va_get B.1 B.2.1 B.2.2.2.2.2.1 hin B.2.2.2.2.1 B.2.2.2.2.2.2.2.1 h1 j hj hc k0 hk (B.2.2.2.2.2.1 _ hlink) hsame hv hd (k H locs ls hl hP hS hL)
theorem y_put (B : ai_B p l e R s m args below meth c G cc nL ws own ret) {ref C : String} {T : u_T} {N ci index a g : Nat} {fs : List Value} {v : Value} {ty : FieldType} (hM : M a = some (g, .inr (ci, fs))) (hc : vwCl[ci]? = some (C, T, N)) (hin : ∀ w ∈ u_ws C T N, w ∈ ws) (ty0 : Nat → FieldType) (hty : ∀ k, k < N → parseFieldDescriptor (T k).2.2.1 = some (ty0 k)) (hnm : ∀ a, a < N → ∀ b, b < N → a ≠ b → (T a).2.1 ≠ (T b).2.1) (k0 : Nat) (hk : k0 < N) (hlink : Cond.fieldLink own index ref (T k0).2.1 (T k0).2.2.1 ∈ ws) (hsame : ∀ x, s.fieldFound? (T k0).1 (T k0).2.1 (T k0).2.2.1 = some x → s.fieldFound? ref (T k0).2.1 (T k0).2.2.1 = some x) (hfin : (T k0).2.2.2 = false) (hdt : parseFieldDescriptor (T k0).2.2.1 = some ty) (hn : narrow ty v = v) (hfit : fits ty v = true) (hlen : k0 < fs.length) (hd : decode cc pc = .ok (.putfield index, 3)) (k : ai_Y p l e R s m args below meth c G Q (ai_U M a g (.inr (ci, fs.set k0 v))) cells slots L (pc + 3) st) : ai_Y p l e R s m args below meth c G Q M cells slots L pc (v :: .ref a :: st) := by
  intro H locs ls hl hP hS hL
  obtain ⟨ws1, h1, h2, h3⟩ := id hP
  obtain ⟨j, hj⟩ := h3 a g _ hM
  exact va_put B.1 B.2.1 B.2.2.2.2.2.1 hin ty0 hty hnm B.2.2.2.2.1 B.2.2.2.2.2.2.2.1 h1 h2 hS j hj hc k0 hk (B.2.2.2.2.2.1 _ hlink) hsame hfin hdt hn hfit hlen hd (fun H1 locs1 q1 q2 q3 => k H1 locs1 ls hl (ai_set h3 hj q1 q2) q3 hL)
theorem y_putF (B : ai_B p l e R s m args below meth c G cc nL ws own ret) {ref C : String} {T : u_T} {N ci index a g : Nat} {fs : List Value} {v : Value} {ty : FieldType} (hinit : meth.name = "<init>") (hM : M a = some (g, .inr (ci, fs))) (hc : vwCl[ci]? = some (C, T, N)) (hin : ∀ w ∈ u_ws C T N, w ∈ ws) (ty0 : Nat → FieldType) (hty : ∀ k, k < N → parseFieldDescriptor (T k).2.2.1 = some (ty0 k)) (hnm : ∀ a, a < N → ∀ b, b < N → a ≠ b → (T a).2.1 ≠ (T b).2.1) (k0 : Nat) (hk : k0 < N) (hlink : Cond.fieldLink own index ref (T k0).2.1 (T k0).2.2.1 ∈ ws) (hsame : ∀ x, s.fieldFound? (T k0).1 (T k0).2.1 (T k0).2.2.1 = some x → s.fieldFound? ref (T k0).2.1 (T k0).2.2.1 = some x) (hfin : (T k0).2.2.2 = true) (hdecl : (T k0).1 = own) (hdt : parseFieldDescriptor (T k0).2.2.1 = some ty) (hn : narrow ty v = v) (hfit : fits ty v = true) (hlen : k0 < fs.length) (hd : decode cc pc = .ok (.putfield index, 3)) (k : ai_Y p l e R s m args below meth c G Q (ai_U M a g (.inr (ci, fs.set k0 v))) cells slots L (pc + 3) st) : ai_Y p l e R s m args below meth c G Q M cells slots L pc (v :: .ref a :: st) := by
  intro H locs ls hl hP hS hL
  obtain ⟨ws1, h1, h2, h3⟩ := id hP
  obtain ⟨j, hj⟩ := h3 a g _ hM
  exact va_putF B.1 B.2.1 B.2.2.2.2.2.1 hin ty0 hty hnm B.2.2.2.2.1 B.2.2.2.2.2.2.2.1 h1 h2 hS j hj hc k0 hk (B.2.2.2.2.2.1 _ hlink) hsame hfin hinit hdecl hdt hn hfit hlen hd (fun H1 locs1 q1 q2 q3 => k H1 locs1 ls hl (ai_set h3 hj q1 q2) q3 hL)
theorem y_new (B : ai_B p l e R s m args below meth c G cc nL ws own ret) {C : String} {T : u_T} {N ci index : Nat} (gt : Nat) (fs : List Value) (hin : ∀ w ∈ u_ws C T N, w ∈ ws) (ty0 : Nat → FieldType) (hty : ∀ k, k < N → parseFieldDescriptor (T k).2.2.1 = some (ty0 k)) (hcl : Cond.classLink own index C ∈ ws) (hinst : Cond.instantiable C N ∈ ws) (hini : Cond.initialized C ∈ ws) (hc : vwCl[ci]? = some (C, T, N)) (hfs : ∀ j, j < N → defaultValue (ty0 j) = vp_V fs j) (hcells : cells + 1 ≤ R.cells) (hslots : slots + N ≤ R.slots) (hd : decode cc pc = .ok (.new index, 3)) (k : ∀ q : Nat, M q = none → ai_Y p l e R s m args below meth c G Q (ai_U M q gt (.inr (ci, fs))) (cells + 1) (slots + N) L (pc + 3) (.ref q :: st)) : ai_Y p l e R s m args below meth c G Q M cells slots L pc st := by
  intro H locs ls hl hP hS hL
  obtain ⟨ws1, h1, h2, h3⟩ := id hP
  exact va_new B.1 B.2.1 B.2.2.2.2.2.1 hin ty0 hty B.2.2.2.2.1 (B.2.2.2.2.2.1 _ hcl) (B.2.2.2.2.2.1 _ hinst) (B.2.2.2.2.2.1 _ hini) B.2.2.2.2.2.2.2.1 h1 h2 hS (ai_top B) hc hfs hcells hslots hd (fun q H1 q1 q2 q3 => k q (ai_push gt h3 q1 q2).2 H1 locs ls hl (ai_push gt h3 q1 q2).1 q3 hL)
theorem y_oinit (B : ai_B p l e R s m args below meth c G cc nL ws own ret) {index a : Nat} (hlink : Cond.methodLink own index objectInit ∈ ws) (hinst : Cond.instanceMethod objectInit ∈ ws) (hcode : Cond.code objectInit ⟨#[0xb1]⟩ 1 none ∈ ws) (hf : 1 ≤ R.frames) (hlo : (st.map fun v => v.category).sum + 12 ≤ R.locals) (hd : decode cc pc = .ok (.invokespecial index, 3)) (k : ai_Y p l e R s m args below meth c G Q M cells slots L (pc + 3) st) : ai_Y p l e R s m args below meth c G Q M cells slots L pc (.ref a :: st) := by
  intro H locs ls hl hP hS hL
  refine W.objInit B.1 B.2.1 B.2.2.2.2.1 (B.2.2.2.2.2.1 _ hlink) (B.2.2.2.2.2.1 _ hinst) (B.2.2.2.2.2.1 _ hcode) rfl (hL.1.trans hl) rfl hd hf ?_ (k H locs ls hl hP hS hL)
  show 2 * 0 + _ + 12 ≤ _
  omega
theorem y_gets (B : ai_B p l e R s m args below meth c G cc nL ws own ret) {C n d ref : String} {v : Value} {index : Nat} (hZ : va_Z C n d v (ai_A G) s s.heap) (hlink : Cond.fieldLink own index ref n d ∈ ws) (hsame : ∀ x, s.fieldFound? C n d = some x → s.fieldFound? ref n d = some x) (hd : decode cc pc = .ok (.getstatic index, 3)) (k : ai_Y p l e R s m args below meth c G Q M cells slots L (pc + 3) (v :: st)) : ai_Y p l e R s m args below meth c G Q M cells slots L pc st := by
  intro H locs ls hl hP hS hL
  exact va_gets B.1 B.2.1 hZ hS B.2.2.2.2.1 (B.2.2.2.2.2.1 _ hlink) hsame hd (k H locs ls hl hP hS hL)

theorem y_ialoadI (B : ai_B p l e R s m args below meth c G cc nL ws own ret) {a g n : Nat} {f : Nat → Int32} {i : Int32} (v : Int32) (hM : M a = some (g, ai_eI G n f)) (hi : vp_in i n) (hv : f i.toNatClampNeg = v) (hd : decode cc pc = .ok (.iaload, 1)) (k : ai_Y p l e R s m args below meth c G Q M cells slots L (pc + 1) (.int v :: st)) : ai_Y p l e R s m args below meth c G Q M cells slots L pc (.int i :: .ref a :: st) := by
  intro H locs ls hl hP hS hL
  subst hv
  obtain ⟨ws1, h1, h2, h3⟩ := id hP
  obtain ⟨j, hj⟩ := h3 a g _ hM
  exact va_iald B.1 B.2.1 B.2.2.2.2.2.2.2.1 h1 j 0 hj rfl hi hd (k H locs ls hl hP hS hL)
theorem y_iastoreI (B : ai_B p l e R s m args below meth c G cc nL ws own ret) {a g n : Nat} {f : Nat → Int32} {i x : Int32} (hM : M a = some (g, ai_eI G n f)) (hi : vp_in i n) (hd : decode cc pc = .ok (.iastore, 1)) (k : ai_Y p l e R s m args below meth c G Q (ai_U M a g (ai_eI G n (upd f i.toNatClampNeg x))) cells slots L (pc + 1) st) : ai_Y p l e R s m args below meth c G Q M cells slots L pc (.int x :: .int i :: .ref a :: st) := by
  intro H locs ls hl hP hS hL
  obtain ⟨ws1, h1, h2, h3⟩ := id hP
  obtain ⟨j, hj⟩ := h3 a g _ hM
  exact va_iast B.1 B.2.1 B.2.2.2.2.2.2.2.1 h1 h2 hS j 0 hj rfl hi hd (fun H1 locs1 q1 q2 q3 => k H1 locs1 ls hl (ai_set h3 hj q1 q2) q3 hL)
theorem y_baloadZ (B : ai_B p l e R s m args below meth c G cc nL ws own ret) {a g n : Nat} {f : Nat → Int32} {i : Int32} (v : Int32) (hM : M a = some (g, ai_eZ G n f)) (hi : vp_in i n) (hv : f i.toNatClampNeg = v) (hd : decode cc pc = .ok (.baload, 1)) (k : ai_Y p l e R s m args below meth c G Q M cells slots L (pc + 1) (.int v :: st)) : ai_Y p l e R s m args below meth c G Q M cells slots L pc (.int i :: .ref a :: st) := by
  intro H locs ls hl hP hS hL
  subst hv
  obtain ⟨ws1, h1, h2, h3⟩ := id hP
  obtain ⟨j, hj⟩ := h3 a g _ hM
  exact va_zald B.1 B.2.1 B.2.2.2.2.2.2.2.1 h1 j 1 hj rfl hi hd (k H locs ls hl hP hS hL)
theorem y_bastoreZ (B : ai_B p l e R s m args below meth c G cc nL ws own ret) {a g n : Nat} {f : Nat → Int32} {i x : Int32} (hM : M a = some (g, ai_eZ G n f)) (hi : vp_in i n) (hd : decode cc pc = .ok (.bastore, 1)) (k : ai_Y p l e R s m args below meth c G Q (ai_U M a g (ai_eZ G n (upd f i.toNatClampNeg (vp_nar .boolean x)))) cells slots L (pc + 1) st) : ai_Y p l e R s m args below meth c G Q M cells slots L pc (.int x :: .int i :: .ref a :: st) := by
  intro H locs ls hl hP hS hL
  obtain ⟨ws1, h1, h2, h3⟩ := id hP
  obtain ⟨j, hj⟩ := h3 a g _ hM
  exact va_zast B.1 B.2.1 B.2.2.2.2.2.2.2.1 h1 h2 hS j 1 hj rfl hi hd (fun H1 locs1 q1 q2 q3 => k H1 locs1 ls hl (ai_set h3 hj q1 q2) q3 hL)
theorem y_laload (B : ai_B p l e R s m args below meth c G cc nL ws own ret) {a g n : Nat} {f : Nat → Int64} {i : Int32} (hM : M a = some (g, ai_eJ G n f)) (hi : vp_in i n) (hd : decode cc pc = .ok (.laload, 1)) (k : ai_Y p l e R s m args below meth c G Q M cells slots L (pc + 1) (.long (f i.toNatClampNeg) :: st)) : ai_Y p l e R s m args below meth c G Q M cells slots L pc (.int i :: .ref a :: st) := by
  intro H locs ls hl hP hS hL
  obtain ⟨ws1, h1, h2, h3⟩ := id hP
  obtain ⟨j, hj⟩ := h3 a g _ hM
  exact va_lald B.1 B.2.1 B.2.2.2.2.2.2.2.1 h1 j 4 hj rfl hi hd (k H locs ls hl hP hS hL)
theorem y_lastore (B : ai_B p l e R s m args below meth c G cc nL ws own ret) {a g n : Nat} {f : Nat → Int64} {i : Int32} {x : Int64} (hM : M a = some (g, ai_eJ G n f)) (hi : vp_in i n) (hd : decode cc pc = .ok (.lastore, 1)) (k : ai_Y p l e R s m args below meth c G Q (ai_U M a g (ai_eJ G n (vp_updL f i.toNatClampNeg x))) cells slots L (pc + 1) st) : ai_Y p l e R s m args below meth c G Q M cells slots L pc (.long x :: .int i :: .ref a :: st) := by
  intro H locs ls hl hP hS hL
  obtain ⟨ws1, h1, h2, h3⟩ := id hP
  obtain ⟨j, hj⟩ := h3 a g _ hM
  exact va_last B.1 B.2.1 B.2.2.2.2.2.2.2.1 h1 h2 hS j 4 hj rfl hi hd (fun H1 locs1 q1 q2 q3 => k H1 locs1 ls hl (ai_set h3 hj q1 q2) q3 hL)
theorem y_aaloadO (B : ai_B p l e R s m args below meth c G cc nL ws own ret) {a g n : Nat} {f : Nat → Option Nat} {i : Int32} (r : Option Nat) (hM : M a = some (g, ai_eO G n f)) (hi : vp_in i n) (hr : f i.toNatClampNeg = r) (hd : decode cc pc = .ok (.aaload, 1)) (k : ai_Y p l e R s m args below meth c G Q M cells slots L (pc + 1) (va_rf r :: st)) : ai_Y p l e R s m args below meth c G Q M cells slots L pc (.int i :: .ref a :: st) := by
  intro H locs ls hl hP hS hL
  subst hr
  obtain ⟨ws1, h1, h2, h3⟩ := id hP
  obtain ⟨j, hj⟩ := h3 a g _ hM
  exact va_aldq B.1 B.2.1 B.2.2.2.2.2.2.2.1 h1 j 3 hj rfl hi hd (k H locs ls hl hP hS hL)
theorem y_aaloadP (B : ai_B p l e R s m args below meth c G cc nL ws own ret) {a g n : Nat} {f : Nat → Option Nat} {i : Int32} (r : Option Nat) (hM : M a = some (g, ai_eP G n f)) (hi : vp_in i n) (hr : f i.toNatClampNeg = r) (hd : decode cc pc = .ok (.aaload, 1)) (k : ai_Y p l e R s m args below meth c G Q M cells slots L (pc + 1) (va_rf r :: st)) : ai_Y p l e R s m args below meth c G Q M cells slots L pc (.int i :: .ref a :: st) := by
  intro H locs ls hl hP hS hL
  subst hr
  obtain ⟨ws1, h1, h2, h3⟩ := id hP
  obtain ⟨j, hj⟩ := h3 a g _ hM
  exact va_aldq B.1 B.2.1 B.2.2.2.2.2.2.2.1 h1 j 2 hj rfl hi hd (k H locs ls hl hP hS hL)
theorem y_aastoreO (B : ai_B p l e R s m args below meth c G cc nL ws own ret) {a g n v gv ci : Nat} {f : Nat → Option Nat} {i : Int32} {vs : List Value} {r : vw_C} (hM : M a = some (g, ai_eO G n f)) (hV : M v = some (gv, .inr (ci, vs))) (hc : vwCl[ci]? = some r) (hca : va_Nw (.castable r.1 "java/lang/Object") s) (hi : vp_in i n) (hd : decode cc pc = .ok (.aastore, 1)) (k : ai_Y p l e R s m args below meth c G Q (ai_U M a g (ai_eO G n (va_up f i.toNatClampNeg (some v)))) cells slots L (pc + 1) st) : ai_Y p l e R s m args below meth c G Q M cells slots L pc (.ref v :: .int i :: .ref a :: st) := by
  intro H locs ls hl hP hS hL
  obtain ⟨ws1, h1, h2, h3⟩ := id hP
  obtain ⟨j, hj⟩ := h3 a g _ hM
  obtain ⟨j2, hj2⟩ := h3 v gv _ hV
  exact va_astqO B.1 B.2.1 B.2.2.2.2.2.2.2.1 h1 h2 hS j 3 j2 ci hj rfl hca hj2 hc hi hd (fun H1 locs1 q1 q2 q3 => k H1 locs1 ls hl (ai_set h3 hj q1 q2) q3 hL)
theorem y_aastoreP (B : ai_B p l e R s m args below meth c G cc nL ws own ret) {a g n v gv : Nat} {f : Nat → Option Nat} {i : Int32} {vs : List Value} (hM : M a = some (g, ai_eP G n f)) (hV : M v = some (gv, .inr (3, vs))) (hi : vp_in i n) (hd : decode cc pc = .ok (.aastore, 1)) (k : ai_Y p l e R s m args below meth c G Q (ai_U M a g (ai_eP G n (va_up f i.toNatClampNeg (some v)))) cells slots L (pc + 1) st) : ai_Y p l e R s m args below meth c G Q M cells slots L pc (.ref v :: .int i :: .ref a :: st) := by
  intro H locs ls hl hP hS hL
  obtain ⟨ws1, h1, h2, h3⟩ := id hP
  obtain ⟨j, hj⟩ := h3 a g _ hM
  obtain ⟨j2, hj2⟩ := h3 v gv _ hV
  exact va_astq (r := (RX2, TX2, 2)) B.1 B.2.1 B.2.2.2.2.2.2.2.1 h1 h2 hS j 2 j2 3 hj rfl hj2 rfl hi hd (fun H1 locs1 q1 q2 q3 => k H1 locs1 ls hl (ai_set h3 hj q1 q2) q3 hL)
theorem y_alen (B : ai_B p l e R s m args below meth c G cc nL ws own ret) {a g : Nat} {x : vp_A} {cA : ClassId} (v : Int32) (t0 : Nat) {ty : FieldType} (hM : M a = some (g, .inl (cA, x))) (ht : (ai_T G)[t0]? = some (cA, ty)) (hv : Int32.ofNat x.1 = v) (hd : decode cc pc = .ok (.arraylength, 1)) (k : ai_Y p l e R s m args below meth c G Q M cells slots L (pc + 1) (.int v :: st)) : ai_Y p l e R s m args below meth c G Q M cells slots L pc (.ref a :: st) := by
  intro H locs ls hl hP hS hL
  obtain ⟨ws1, h1, h2, h3⟩ := id hP
  obtain ⟨j, hj⟩ := h3 a g _ hM
  exact va_alen B.1 B.2.1 B.2.2.2.2.2.2.2.1 h1 j t0 hj ht hv hd (k H locs ls hl hP hS hL)
theorem y_tlen (B : ai_B p l e R s m args below meth c G cc nL ws own ret) {ty : FieldType} {t N : Nat} {f : Nat → Value} (v : Int32) (hT : va_T ty t N f (ai_A G) s s.heap) (hv : Int32.ofNat N = v) (hd : decode cc pc = .ok (.arraylength, 1)) (k : ai_Y p l e R s m args below meth c G Q M cells slots L (pc + 1) (.int v :: st)) : ai_Y p l e R s m args below meth c G Q M cells slots L pc (.ref t :: st) := by
  intro H locs ls hl hP hS hL
  exact va_tlen B.1 B.2.1 hT hS hv hd (k H locs ls hl hP hS hL)
theorem ai_RAeq {U : State} {cA cB : ClassId} {ty : FieldType} (h1 : va_RA U cA ty) (h2 : va_RA U cB ty) : cA = cB := by
  cases ty with
  | object C =>
    obtain ⟨_, _, _, _, _, h1⟩ := h1
    obtain ⟨_, _, _, _, _, h2⟩ := h2
    exact Option.some.inj (h1.symm.trans h2)
  | _ => exact Option.some.inj (Eq.trans (Eq.symm h1) h2)
theorem ai_Kc {U : State} {t0 : Nat} {cA cB : ClassId} {ty : FieldType} (h : va_K G.1 vwCl (ai_T G ++ [(cA, ty)]) U) (ht : (ai_T G)[t0]? = some (cB, ty)) : cA = cB := by
  have h1 := h.2 (ai_T G).length (cA, ty) (by rw [List.getElem?_append_right (Nat.le_refl _), Nat.sub_self]; rfl)
  have h2 := h.2 t0 (cB, ty) (by rw [List.getElem?_append_left (List.getElem?_eq_some_iff.mp ht).1]; exact ht)
  exact ai_RAeq h1.2 h2.2
theorem y_newa (B : ai_B p l e R s m args below meth c G cc nL ws own ret) {atype : ArrayType} (gt t0 : Nat) {ty : FieldType} {cB : ClassId} {n : Int32} {N' : Nat} {a0 : vp_A} (harr : Cond.arrayClass (newarray.typeOf atype) ∈ ws) (hty : newarray.typeOf atype = ty) (ht : (ai_T G)[t0]? = some (cB, ty)) (ha : ∀ cA : ClassId, vp_cell cA a0 = arrV cA N' (fun _ => defaultValue ty)) (hn : ¬ n < 0) (hN : n.toNatClampNeg = N') (hbytes : N' * componentBytes ty ≤ 536870912) (hcells : cells + 1 ≤ R.cells) (hslots : slots + N' ≤ R.slots) (hd : decode cc pc = .ok (.newarray atype, 2)) (k : ∀ q : Nat, M q = none → ai_Y p l e R s m args below meth c G Q (ai_U M q gt (.inl (cB, a0))) (cells + 1) (slots + N') L (pc + 2) (.ref q :: st)) : ai_Y p l e R s m args below meth c G Q M cells slots L pc (.int n :: st) := by
  intro H locs ls hl hP hS hL
  obtain ⟨ws1, h1, h2, h3⟩ := id hP
  refine va_newa B.1 B.2.1 (B.2.2.2.2.2.1 _ harr) hty B.2.2.2.2.2.2.2.1 h1 h2 hS (ai_top B) ha hn hN hbytes hcells hslots hd (fun q cA H1 q0 q1 q2 q3 => ?_)
  obtain rfl := ai_Kc q0 ht
  exact k q (ai_push gt h3 q1 q2).2 H1 locs ls hl (ai_push gt h3 q1 q2).1 q3 hL
theorem y_newq (B : ai_B p l e R s m args below meth c G cc nL ws own ret) (gt t0 : Nat) {C : String} {cB : ClassId} {n : Int32} {N' index : Nat} (hcl : Cond.classLink own index C ∈ ws) (hover : va_AO C s) (ht : (ai_T G)[t0]? = some (cB, .object C)) (hn : ¬ n < 0) (hN : n.toNatClampNeg = N') (hbytes : N' * 4 ≤ 536870912) (hcells : cells + 1 ≤ R.cells) (hslots : slots + N' ≤ R.slots) (hd : decode cc pc = .ok (.anewarray index, 3)) (k : ∀ q : Nat, M q = none → ai_Y p l e R s m args below meth c G Q (ai_U M q gt (.inl (cB, (N', .inr (.inr (.inr (.inr (fun _ => none)))))))) (cells + 1) (slots + N') L (pc + 3) (.ref q :: st)) : ai_Y p l e R s m args below meth c G Q M cells slots L pc (.int n :: st) := by
  intro H locs ls hl hP hS hL
  obtain ⟨ws1, h1, h2, h3⟩ := id hP
  refine va_newq B.1 B.2.1 B.2.2.2.2.1 (B.2.2.2.2.2.1 _ hcl) hover B.2.2.2.2.2.2.2.1 h1 h2 hS (ai_top B) hn hN hbytes hcells hslots hd (fun q cA H1 q0 q1 q2 q3 => ?_)
  obtain rfl := ai_Kc q0 ht
  exact k q (ai_push gt h3 q1 q2).2 H1 locs ls hl (ai_push gt h3 q1 q2).1 q3 hL
theorem ai_recv {H : Heap} {a g ci : Nat} {fs : List Value} {q : vw_C} (hK : va_K G.1 vwCl (ai_T G) s) (hP : ai_P G M H) (hM : M a = some (g, .inr (ci, fs))) (hc : vwCl[ci]? = some q) : ∃ cell : Cell, H[a]? = some cell ∧ cell.vm.isStatics = false ∧ s.vm.findClass q.1 = some cell.cls := by
  obtain ⟨ws1, h1, h2, h3⟩ := hP
  obtain ⟨j, hj⟩ := h3 a g _ hM
  exact va_recv hK h1 hc hj
theorem y_cast (B : ai_B p l e R s m args below meth c G cc nL ws own ret) {a g ci index : Nat} {fs : List Value} {q : vw_C} (hM : M a = some (g, .inr (ci, fs))) (hc : vwCl[ci]? = some q) (hlink : Cond.classLink own index q.1 ∈ ws) (hd : decode cc pc = .ok (.checkcast index, 3)) (k : ai_Y p l e R s m args below meth c G Q M cells slots L (pc + 3) (.ref a :: st)) : ai_Y p l e R s m args below meth c G Q M cells slots L pc (.ref a :: st) := by
  intro H locs ls hl hP hS hL
  exact va_castS B.1 B.2.1 B.2.2.2.2.1 (B.2.2.2.2.2.1 _ hlink) (B.2.2.2.2.2.2.2.1.1 ci q hc).2 (ai_recv B.2.2.2.2.2.2.2.1 hP hM hc) hd (k H locs ls hl hP hS hL)

end AIY
end
section
/-! ===== CALLS, STARTS AND ENDS ===== -/
section AIC
variable {p : Program} {l : Launch} {e : Env} {R : Room} {s : State} {m : MethodId} {args : Array Value} {below : List Frame} {meth : Method} {c : Code} {G : ai_G} {Q : State → Prop} {M : ai_M} {cells slots : Nat} {L : List (Option Value)} {pc : Nat} {st : List Value} {cc : ByteArray} {nL : Nat} {ws : List Cond} {own : String} {ret : Option FieldType}
/-- a throw under way -/
def ai_Z (p : Program) (l : Launch) (e : Env) (R : Room) (s : State) (m : MethodId) (args : Array Value) (below : List Frame) (meth : Method) (c : Code) (G : ai_G) (Q : State → Prop) (M : ai_M) (cells slots : Nat) (L : List (Option Value)) (pc : Nat) (rest : List Value) (E : String) : Prop :=
  ∀ (H : Heap) (locs : List Loc) (ls : Array Slot) (q : Addr) (ce : Cell), L.length = c.maxLocals → ai_P G M H → va_S (ai_A G) s.heap H locs → ai_L ls L → H[q]? = some ce → ce.vm = .none → s.vm.findClass E = some ce.cls → vx_W p l e R s m args below meth c H locs cells slots Q (F0 m pc ls rest) q
theorem ai_pre (B : ai_B p l e R s m args below meth c G cc nL ws own ret) {H : Heap} {locs : List Loc} (hP : ai_P G M H) (hS : va_S (ai_A G) s.heap H locs) : ∀ U : State, U.heap = H → s.WarmedH U.vm → ai_Pre G M U := fun U hU hW =>
  ⟨va_K.moved hW.alike B.2.2.2.2.2.2.2.1, by rw [hU]; exact hP, ai_E.moved hW (fun q h1 h2 => by rw [hU]; exact hS.2.1 q h1 h2) B.2.2.2.2.2.2.2.2.1, by rw [hU]; exact Nat.le_trans B.2.2.2.2.2.2.2.2.2 hS.1⟩
theorem ai_call {H : Heap} {locs : List Loc} {ls : Array Slot} {mc ms : Nat} {a : Array Value} {st0 rest : List Value} {post : Option Value → ai_M → Prop} (hr : va_Run p l e R s m args below meth c H locs cells slots mc ms (F0 m pc ls st0) rest (ai_Q G post a) (ai_A G)) (hl : L.length = c.maxLocals) (hS : va_S (ai_A G) s.heap H locs) (hL : ai_L ls L) (kk : ∀ (r : Option Value) (M' : ai_M), post r M' → ai_Y p l e R s m args below meth c G Q M' (cells + mc) (slots + ms) L (pc + 3) (r.toList ++ rest)) : W p l e R s m args below meth c H locs cells slots Q (F0 m pc ls st0) := by
  intro T hT X
  obtain ⟨v, st₀, t, T', L1, h0, X', hL1, e1, e2, ⟨⟨r, M', hv, hp, hP'⟩, hF⟩, st1⟩ := hr T hT X
  cases hv
  obtain ⟨k1, k2, k3⟩ := vx_keep (A0 := ai_A G) (A1 := ai_A G) (free := ai_A G) h0 e1 hS (fun q _ h => h) (fun q h => h) hL1 hF
  obtain ⟨t2, a1, b1⟩ := kk _ M' hp T'.heap (locs ++ L1) ls hl (by rw [e1]; exact hP') k3 hL T' rfl X'
  exact ⟨t2, st1 t2 a1, b1⟩
theorem ai_call5 {H : Heap} {locs : List Loc} {ls : Array Slot} {mc ms : Nat} {a : Array Value} {st0 rest : List Value} {post : Option Value → ai_M → Prop} (hr : va_Run5 p l e R s m args below meth c H locs cells slots mc ms (F0 m pc ls st0) rest (ai_Q G post a) (ai_A G)) (hl : L.length = c.maxLocals) (hS : va_S (ai_A G) s.heap H locs) (hL : ai_L ls L) (kk : ∀ (r : Option Value) (M' : ai_M), post r M' → ai_Y p l e R s m args below meth c G Q M' (cells + mc) (slots + ms) L (pc + 5) (r.toList ++ rest)) : W p l e R s m args below meth c H locs cells slots Q (F0 m pc ls st0) := by
  intro T hT X
  obtain ⟨v, st₀, t, T', L1, h0, X', hL1, e1, e2, ⟨⟨r, M', hv, hp, hP'⟩, hF⟩, st1⟩ := hr T hT X
  cases hv
  obtain ⟨k1, k2, k3⟩ := vx_keep (A0 := ai_A G) (A1 := ai_A G) (free := ai_A G) h0 e1 hS (fun q _ h => h) (fun q h => h) hL1 hF
  obtain ⟨t2, a1, b1⟩ := kk _ M' hp T'.heap (locs ++ L1) ls hl (by rw [e1]; exact hP') k3 hL T' rfl X'
  exact ⟨t2, st1 t2 a1, b1⟩
theorem ai_callx {H : Heap} {locs : List Loc} {ls : Array Slot} {mc ms : Nat} {a : Array Value} {st0 rest : List Value} {post : Option Value → ai_M → Prop} {px : String → ai_M → Prop} (hr : vx_Run p l e R s m args below meth c H locs cells slots mc ms (F0 m pc ls st0) rest (ai_Q G post a) (ai_X G px) (ai_A G)) (hl : L.length = c.maxLocals) (hS : va_S (ai_A G) s.heap H locs) (hL : ai_L ls L) (kx : ∀ (E : String) (M' : ai_M), px E M' → ai_Z p l e R s m args below meth c G Q M' (cells + mc) (slots + ms) L pc rest E) (kk : ∀ (r : Option Value) (M' : ai_M), post r M' → ai_Y p l e R s m args below meth c G Q M' (cells + mc) (slots + ms) L (pc + 3) (r.toList ++ rest)) : W p l e R s m args below meth c H locs cells slots Q (F0 m pc ls st0) := by
  intro T hT X
  rcases hr T hT X with ⟨v, st₀, t, T', L1, h0, X', hL1, e1, e2, ⟨⟨r, M', hv, hp, hP'⟩, hF⟩, st1⟩ | ⟨q, st₀, t, T', L1, E, ce, h0, X', hL1, e1, e2, ⟨⟨M', hp, hP'⟩, hF⟩, hce, hcv, hcl, st1⟩
  · cases hv
    obtain ⟨k1, k2, k3⟩ := vx_keep (A0 := ai_A G) (A1 := ai_A G) (free := ai_A G) h0 e1 hS (fun q _ h => h) (fun q h => h) hL1 hF
    obtain ⟨t2, a1, b1⟩ := kk _ M' hp T'.heap (locs ++ L1) ls hl (by rw [e1]; exact hP') k3 hL T' rfl X'
    exact ⟨t2, st1 t2 a1, b1⟩
  · obtain ⟨k1, k2, k3⟩ := vx_keep (A0 := ai_A G) (A1 := ai_A G) (free := ai_A G) h0 e1 hS (fun q _ h => h) (fun q h => h) hL1 hF
    obtain ⟨t2, a1, b1⟩ := kx E M' hp T'.heap (locs ++ L1) ls q ce hl (by rw [e1]; exact hP') k3 hL (by rw [e1]; exact hce) hcv hcl T' rfl X'
    exact ⟨t2, st1.trans a1, b1⟩

theorem y_callV (B : ai_B p l e R s m args below meth c G cc nL ws own ret) {index mc ms maxL : Nat} {y : MethodName} {bytes : ByteArray} {ret' : Option FieldType} {ws' ws'' : List Cond} {rm : Room} {post : Option Value → ai_M → Prop} {a g ci : Nat} {fs : List Value} {q : vw_C} (As rest : List Value) (hC : ai_C l y ws' rm mc ms G M (.ref a :: As) post) (hM : M a = some (g, .inr (ci, fs))) (hc : vwCl[ci]? = some q) (hT : GoodIn ws (wsV own index q.1 y ws')) (hd9 : y.cls = q.1 ∧ y.cls ≠ "java/lang/invoke/MethodHandle" ∧ y.cls ≠ "java/lang/invoke/VarHandle" ∧ (parseMethodDescriptor y.desc).map (fun d => d.parameters.length) = some As.length) (hw : ws' = Cond.code y bytes maxL ret' :: ws'') (hrc : rm.cells = mc) (hrs : rm.slots = ms) (hR : rm.frames + 1 ≤ R.frames ∧ 8 + (maxL + 11) + rm.locals ≤ R.locals) (hrest : (rest.map fun v => v.category).sum ≤ 8) (hf : cells + mc ≤ R.cells ∧ slots + ms ≤ R.slots) (hd : decode cc pc = .ok (.invokevirtual index, 3)) (hst : st = As.reverse ++ .ref a :: rest) (kk : ∀ (r : Option Value) (M' : ai_M), post r M' → ai_Y p l e R s m args below meth c G Q M' (cells + mc) (slots + ms) L (pc + 3) (r.toList ++ rest)) : ai_Y p l e R s m args below meth c G Q M cells slots L pc st := by
  intro H locs ls hl hP hS hL
  subst hst
  exact ai_call (va_runV (As := As) (rest := rest) ⟨B.1, B.2.1, B.2.2.2.1, B.2.2.2.2.1, B.2.2.2.2.2.1⟩ hC (cwV As.length B.2.2.2.2.2.1 hT hw hrc hrs hd9 hR) ⟨ai_blind, ai_recv B.2.2.2.2.2.2.2.1 hP hM hc, fun U hU hW => ⟨rfl, ai_pre B hP hS U hU hW⟩⟩ rfl rfl (hL.1.trans (hl.trans B.2.2.2.1)) rfl (ai_room hrest) hd hf) hl hS hL kk
theorem y_callS (B : ai_B p l e R s m args below meth c G cc nL ws own ret) {index mc ms maxL : Nat} {y : MethodName} {bytes : ByteArray} {ret' : Option FieldType} {ws' ws'' : List Cond} {rm : Room} {post : Option Value → ai_M → Prop} (As rest : List Value) (hC : ai_C l y ws' rm mc ms G M As post) (hT : GoodIn ws (va_wsS own index y ws')) (hd9 : y.cls ≠ "java/lang/invoke/MethodHandle" ∧ y.cls ≠ "java/lang/invoke/VarHandle" ∧ (parseMethodDescriptor y.desc).map (fun d => d.parameters.length) = some As.length) (hw : ws' = Cond.code y bytes maxL ret' :: ws'') (hrc : rm.cells = mc) (hrs : rm.slots = ms) (hR : rm.frames + 1 ≤ R.frames ∧ 8 + (maxL + 11) + rm.locals ≤ R.locals) (hrest : (rest.map fun v => v.category).sum ≤ 8) (hf : cells + mc ≤ R.cells ∧ slots + ms ≤ R.slots) (hd : decode cc pc = .ok (.invokestatic index, 3)) (hst : st = As.reverse ++ rest) (kk : ∀ (r : Option Value) (M' : ai_M), post r M' → ai_Y p l e R s m args below meth c G Q M' (cells + mc) (slots + ms) L (pc + 3) (r.toList ++ rest)) : ai_Y p l e R s m args below meth c G Q M cells slots L pc st := by
  intro H locs ls hl hP hS hL
  subst hst
  exact ai_call (va_runS (As := As) (rest := rest) ⟨B.1, B.2.1, B.2.2.2.1, B.2.2.2.2.1, B.2.2.2.2.2.1⟩ hC (va_cwS As.length B.2.2.2.2.2.1 hT hw hrc hrs hd9 hR) ⟨ai_blind, fun U hU hW => ⟨rfl, ai_pre B hP hS U hU hW⟩⟩ rfl rfl (hL.1.trans (hl.trans B.2.2.2.1)) rfl (ai_room hrest) hd hf) hl hS hL kk
theorem y_callSN (B : ai_B p l e R s m args below meth c G cc nL ws own ret) {index mc ms maxL : Nat} {y : MethodName} {bytes : ByteArray} {ret' : Option FieldType} {ws' ws'' : List Cond} {rm : Room} {post : Option Value → ai_M → Prop} {host : String} (As rest : List Value) (hC : ai_C l y ws' rm mc ms G M As post) (hT : GoodIn ws ws') (hnl : va_Nw (.methodLinkNest own index y host) s) (hini : Cond.initialized y.cls ∈ ws) (hstt : Cond.static y ∈ ws) (hd9 : y.cls ≠ "java/lang/invoke/MethodHandle" ∧ y.cls ≠ "java/lang/invoke/VarHandle" ∧ (parseMethodDescriptor y.desc).map (fun d => d.parameters.length) = some As.length) (hw : ws' = Cond.code y bytes maxL ret' :: ws'') (hrc : rm.cells = mc) (hrs : rm.slots = ms) (hR : rm.frames + 1 ≤ R.frames ∧ 8 + (maxL + 11) + rm.locals ≤ R.locals) (hrest : (rest.map fun v => v.category).sum ≤ 8) (hf : cells + mc ≤ R.cells ∧ slots + ms ≤ R.slots) (hd : decode cc pc = .ok (.invokestatic index, 3)) (hst : st = As.reverse ++ rest) (kk : ∀ (r : Option Value) (M' : ai_M), post r M' → ai_Y p l e R s m args below meth c G Q M' (cells + mc) (slots + ms) L (pc + 3) (r.toList ++ rest)) : ai_Y p l e R s m args below meth c G Q M cells slots L pc st := by
  intro H locs ls hl hP hS hL
  subst hst
  exact ai_call (va_runSN (As := As) (rest := rest) ⟨B.1, B.2.1, B.2.2.2.1, B.2.2.2.2.1, B.2.2.2.2.2.1⟩ hC ⟨va_cnB As.length B.2.2.2.2.2.1 hT hw hrc hrs hnl (B.2.2.2.2.2.1 _ hini) hd9 hR, B.2.2.2.2.2.1 _ hstt, trivial⟩ ⟨ai_blind, fun U hU hW => ⟨rfl, ai_pre B hP hS U hU hW⟩⟩ rfl rfl (hL.1.trans (hl.trans B.2.2.2.1)) rfl (ai_room hrest) hd hf) hl hS hL kk
theorem y_callI (B : ai_B p l e R s m args below meth c G cc nL ws own ret) {index mc ms maxL : Nat} {y : MethodName} {bytes : ByteArray} {ws' ws'' : List Cond} {rm : Room} {post : Option Value → ai_M → Prop} {a : Nat} (As rest : List Value) (hC : ai_C l y ws' rm mc ms G M (.ref a :: As) post) (hT : GoodIn ws ws') (hini : Cond.initialized y.cls ∈ ws) (hml : Cond.methodLink own index y ∈ ws) (hinst : Cond.instanceMethod y ∈ ws) (hy1 : y.name = "<init>") (hd9 : y.cls ≠ "java/lang/invoke/MethodHandle" ∧ y.cls ≠ "java/lang/invoke/VarHandle" ∧ (parseMethodDescriptor y.desc).map (fun d => d.parameters.length) = some As.length) (hw : ws' = Cond.code y bytes maxL none :: ws'') (hrc : rm.cells = mc) (hrs : rm.slots = ms) (hR : rm.frames + 1 ≤ R.frames ∧ 8 + (maxL + 11) + rm.locals ≤ R.locals) (hrest : (rest.map fun v => v.category).sum ≤ 8) (hf : cells + mc ≤ R.cells ∧ slots + ms ≤ R.slots) (hd : decode cc pc = .ok (.invokespecial index, 3)) (hst : st = As.reverse ++ .ref a :: rest) (kk : ∀ (r : Option Value) (M' : ai_M), post r M' → ai_Y p l e R s m args below meth c G Q M' (cells + mc) (slots + ms) L (pc + 3) (r.toList ++ rest)) : ai_Y p l e R s m args below meth c G Q M cells slots L pc st := by
  intro H locs ls hl hP hS hL
  subst hst
  exact ai_call (va_runI (As := As) (rest := rest) ⟨B.1, B.2.1, B.2.2.2.1, B.2.2.2.2.1, B.2.2.2.2.2.1⟩ hC (cwI As.length B.2.2.2.2.2.1 hT hw hrc hrs (B.2.2.2.2.2.1 _ hini) (B.2.2.2.2.2.1 _ hml) (B.2.2.2.2.2.1 _ hinst) hy1 hd9 hR) ⟨ai_blind, fun U hU hW => ⟨rfl, ai_pre B hP hS U hU hW⟩⟩ rfl rfl (hL.1.trans (hl.trans B.2.2.2.1)) rfl (ai_room hrest) hd hf) hl hS hL kk
theorem y_callF (B : ai_B p l e R s m args below meth c G cc nL ws own ret) {index mc ms maxL : Nat} {y : MethodName} {bytes : ByteArray} {ret' : Option FieldType} {ws' ws'' : List Cond} {rm : Room} {post : Option Value → ai_M → Prop} {x : MethodName} {count : Nat} {a g ci : Nat} {fs : List Value} {q : vw_C} (As rest : List Value) (hC : ai_C l y ws' rm mc ms G M (.ref a :: As) post) (hM : M a = some (g, .inr (ci, fs))) (hc : vwCl[ci]? = some q) (hT : GoodIn ws (va_wsF own index q.1 x y ws')) (hF : va_Fw q.1 x y s) (hd9 : x.cls ≠ "java/lang/invoke/MethodHandle" ∧ x.cls ≠ "java/lang/invoke/VarHandle" ∧ (parseMethodDescriptor x.desc).map (fun d => d.parameters.length) = some As.length) (hw : ws' = Cond.code y bytes maxL ret' :: ws'') (hrc : rm.cells = mc) (hrs : rm.slots = ms) (hR : rm.frames + 1 ≤ R.frames ∧ 8 + (maxL + 11) + rm.locals ≤ R.locals) (hrest : (rest.map fun v => v.category).sum ≤ 8) (hf : cells + mc ≤ R.cells ∧ slots + ms ≤ R.slots) (hd : decode cc pc = .ok (.invokeinterface index count, 5)) (hst : st = As.reverse ++ .ref a :: rest) (kk : ∀ (r : Option Value) (M' : ai_M), post r M' → ai_Y p l e R s m args below meth c G Q M' (cells + mc) (slots + ms) L (pc + 5) (r.toList ++ rest)) : ai_Y p l e R s m args below meth c G Q M cells slots L pc st := by
  intro H locs ls hl hP hS hL
  subst hst
  exact ai_call5 (va_runF (As := As) (rest := rest) (B.2.2.2.2.2.2.2.1.1 ci q hc).2 ⟨B.1, B.2.1, B.2.2.2.1, B.2.2.2.2.1, B.2.2.2.2.2.1⟩ hC (va_cwF As.length B.2.2.2.2.2.1 hT hw hrc hrs hF hd9 hR) ⟨ai_blind, ai_recv B.2.2.2.2.2.2.2.1 hP hM hc, fun U hU hW => ⟨rfl, ai_pre B hP hS U hU hW⟩⟩ rfl rfl (hL.1.trans (hl.trans B.2.2.2.1)) rfl (ai_room hrest) hd hf) hl hS hL kk
theorem x_callV (B : ai_B p l e R s m args below meth c G cc nL ws own ret) {index mc ms maxL : Nat} {y : MethodName} {bytes : ByteArray} {ret' : Option FieldType} {ws' ws'' : List Cond} {rm : Room} {post : Option Value → ai_M → Prop} {px : String → ai_M → Prop} {a g ci : Nat} {fs : List Value} {q : vw_C} (As rest : List Value) (hC : ai_D l y ws' rm mc ms G M (.ref a :: As) post px) (hM : M a = some (g, .inr (ci, fs))) (hc : vwCl[ci]? = some q) (hT : GoodIn ws (wsV own index q.1 y ws')) (hd9 : y.cls = q.1 ∧ y.cls ≠ "java/lang/invoke/MethodHandle" ∧ y.cls ≠ "java/lang/invoke/VarHandle" ∧ (parseMethodDescriptor y.desc).map (fun d => d.parameters.length) = some As.length) (hw : ws' = Cond.code y bytes maxL ret' :: ws'') (hrc : rm.cells = mc) (hrs : rm.slots = ms) (hR : rm.frames + 1 ≤ R.frames ∧ 8 + (maxL + 11) + rm.locals ≤ R.locals) (hrest : (rest.map fun v => v.category).sum ≤ 8) (hf : cells + mc ≤ R.cells ∧ slots + ms ≤ R.slots) (hd : decode cc pc = .ok (.invokevirtual index, 3)) (hst : st = As.reverse ++ .ref a :: rest) (kx : ∀ (E : String) (M' : ai_M), px E M' → ai_Z p l e R s m args below meth c G Q M' (cells + mc) (slots + ms) L pc rest E) (kk : ∀ (r : Option Value) (M' : ai_M), post r M' → ai_Y p l e R s m args below meth c G Q M' (cells + mc) (slots + ms) L (pc + 3) (r.toList ++ rest)) : ai_Y p l e R s m args below meth c G Q M cells slots L pc st := by
  intro H locs ls hl hP hS hL
  subst hst
  exact ai_callx (vx_runV (As := As) (rest := rest) ⟨B.1, B.2.1, B.2.2.2.1, B.2.2.2.2.1, B.2.2.2.2.2.1⟩ hC (cwV As.length B.2.2.2.2.2.1 hT hw hrc hrs hd9 hR) ⟨ai_blind, ai_recv B.2.2.2.2.2.2.2.1 hP hM hc, fun U hU hW => ⟨rfl, ai_pre B hP hS U hU hW⟩⟩ rfl rfl (hL.1.trans (hl.trans B.2.2.2.1)) rfl (ai_room hrest) hd hf) hl hS hL kx kk
theorem x_callS (B : ai_B p l e R s m args below meth c G cc nL ws own ret) {index mc ms maxL : Nat} {y : MethodName} {bytes : ByteArray} {ret' : Option FieldType} {ws' ws'' : List Cond} {rm : Room} {post : Option Value → ai_M → Prop} {px : String → ai_M → Prop} (As rest : List Value) (hC : ai_D l y ws' rm mc ms G M As post px) (hT : GoodIn ws (va_wsS own index y ws')) (hd9 : y.cls ≠ "java/lang/invoke/MethodHandle" ∧ y.cls ≠ "java/lang/invoke/VarHandle" ∧ (parseMethodDescriptor y.desc).map (fun d => d.parameters.length) = some As.length) (hw : ws' = Cond.code y bytes maxL ret' :: ws'') (hrc : rm.cells = mc) (hrs : rm.slots = ms) (hR : rm.frames + 1 ≤ R.frames ∧ 8 + (maxL + 11) + rm.locals ≤ R.locals) (hrest : (rest.map fun v => v.category).sum ≤ 8) (hf : cells + mc ≤ R.cells ∧ slots + ms ≤ R.slots) (hd : decode cc pc = .ok (.invokestatic index, 3)) (hst : st = As.reverse ++ rest) (kx : ∀ (E : String) (M' : ai_M), px E M' → ai_Z p l e R s m args below meth c G Q M' (cells + mc) (slots + ms) L pc rest E) (kk : ∀ (r : Option Value) (M' : ai_M), post r M' → ai_Y p l e R s m args below meth c G Q M' (cells + mc) (slots + ms) L (pc + 3) (r.toList ++ rest)) : ai_Y p l e R s m args below meth c G Q M cells slots L pc st := by
  intro H locs ls hl hP hS hL
  subst hst
  exact ai_callx (vx_runS (As := As) (rest := rest) ⟨B.1, B.2.1, B.2.2.2.1, B.2.2.2.2.1, B.2.2.2.2.2.1⟩ hC (va_cwS As.length B.2.2.2.2.2.1 hT hw hrc hrs hd9 hR) ⟨ai_blind, fun U hU hW => ⟨rfl, ai_pre B hP hS U hU hW⟩⟩ rfl rfl (hL.1.trans (hl.trans B.2.2.2.1)) rfl (ai_room hrest) hd hf) hl hS hL kx kk
theorem x_callSX (B : ai_B p l e R s m args below meth c G cc nL ws own ret) {index mc ms maxL : Nat} {y : MethodName} {bytes : ByteArray} {ret' : Option FieldType} {ws' ws'' : List Cond} {rm : Room} {post : Option Value → ai_M → Prop} {px : String → ai_M → Prop} {hh : List (Nat × Nat × Nat × Nat)} (As rest : List Value) (hC : ai_D l y ws' rm mc ms G M As post px) (hT : GoodIn ws (va_wsS own index y ws')) (hd9 : y.cls ≠ "java/lang/invoke/MethodHandle" ∧ y.cls ≠ "java/lang/invoke/VarHandle" ∧ (parseMethodDescriptor y.desc).map (fun d => d.parameters.length) = some As.length) (hw : ws' = Cond.codeWith y bytes maxL ret' hh :: ws'') (hrc : rm.cells = mc) (hrs : rm.slots = ms) (hR : rm.frames + 1 ≤ R.frames ∧ 8 + (maxL + 11) + rm.locals ≤ R.locals) (hrest : (rest.map fun v => v.category).sum ≤ 8) (hf : cells + mc ≤ R.cells ∧ slots + ms ≤ R.slots) (hd : decode cc pc = .ok (.invokestatic index, 3)) (hst : st = As.reverse ++ rest) (kx : ∀ (E : String) (M' : ai_M), px E M' → ai_Z p l e R s m args below meth c G Q M' (cells + mc) (slots + ms) L pc rest E) (kk : ∀ (r : Option Value) (M' : ai_M), post r M' → ai_Y p l e R s m args below meth c G Q M' (cells + mc) (slots + ms) L (pc + 3) (r.toList ++ rest)) : ai_Y p l e R s m args below meth c G Q M cells slots L pc st := by
  intro H locs ls hl hP hS hL
  subst hst
  exact ai_callx (vx_runSX (As := As) (rest := rest) ⟨B.1, B.2.1, B.2.2.2.1, B.2.2.2.2.1, B.2.2.2.2.2.1⟩ hC (vx_cwSW As.length B.2.2.2.2.2.1 hT hw hrc hrs hd9 hR) ⟨ai_blind, fun U hU hW => ⟨rfl, ai_pre B hP hS U hU hW⟩⟩ rfl rfl (hL.1.trans (hl.trans B.2.2.2.1)) rfl (ai_room hrest) hd hf) hl hS hL kx kk
end AIC
section AIS
variable {l : Launch} {G : ai_G} {M : ai_M} {y : MethodName} {ws ws' : List Cond} {rm : Room} {mc ms : Nat} {av : List Value} {post : Option Value → ai_M → Prop} {px : String → ai_M → Prop} {cc : ByteArray} {maxL : Nat} {ret : Option FieldType}
theorem ai_L0_len (h : av.length ≤ maxL) : (ai_L0 av maxL).length = maxL := by
  unfold ai_L0
  rw [List.length_append, List.length_map, List.length_replicate]
  omega
theorem y_start (hy : plainName y.cls = true) (hw : ws = Cond.code y cc maxL ret :: ws') (hn : av.length ≤ maxL) (hn2 : (lg_sl av).length ≤ maxL) (hc : ∀ x ∈ av, x.category = 1)
    (body : ∀ (p : Program) (e : Env) (s : State) (m : MethodId) (below : List Frame) (meth : Method) (c : Code), ai_B p l e rm s m av.toArray below meth c G cc maxL ws y.cls ret → meth.name = y.name → ai_Y p l e rm s m av.toArray below meth c G (MQ below (ai_Q G post) av.toArray s mc ms (ai_A G)) M 0 0 (ai_L0 av maxL) 0 []) : ai_C l y ws rm mc ms G M av post := by
  refine Met.ofW (cc := cc) (maxL := maxL) (ret := ret) hy hw ?_
  intro p e s m args below meth c s₁ B hml hv
  obtain ⟨rfl, hK, hP, hE, hlo⟩ := hv
  have hl := lv_entry av (n := maxL) hn2
  rw [lg_entry_eq]
  generalize (lg_sl av ++ List.replicate (maxL - (lg_sl av).length) Slot.unset).toArray = ls at hl ⊢
  exact body p e s m below meth c ⟨B.exec, B.bytes, B.returns, hml, findClass_of_methodNamed B.named, atoms_spec (ws := ws) B.pre, B.notSynchronized, hK, hE, hlo⟩ (name_of_methodNamed B.named B.method).1 s.heap [] ls ((ai_L0_len hn).trans hml.symm) hP va_S.rf (ai_entry hn hc hl)
theorem x_start (hy : plainName y.cls = true) (hw : ws = Cond.code y cc maxL ret :: ws') (hn : av.length ≤ maxL) (hn2 : (lg_sl av).length ≤ maxL) (hc : ∀ x ∈ av, x.category = 1)
    (body : ∀ (p : Program) (e : Env) (s : State) (m : MethodId) (below : List Frame) (meth : Method) (c : Code), ai_B p l e rm s m av.toArray below meth c G cc maxL ws y.cls ret → (∀ x ∈ c.exceptionTable.toList, False) → ai_Y p l e rm s m av.toArray below meth c G (vx_MQ below (ai_Q G post) (ai_X G px) av.toArray s mc ms (ai_A G)) M 0 0 (ai_L0 av maxL) 0 []) : ai_D l y ws rm mc ms G M av post px := by
  refine vx_ofW (cc := cc) (maxL := maxL) (ret := ret) hy hw ?_
  intro p e s m args below meth c s₁ B hml htab hv
  obtain ⟨rfl, hK, hP, hE, hlo⟩ := hv
  have hl := lv_entry av (n := maxL) hn2
  rw [lg_entry_eq]
  generalize (lg_sl av ++ List.replicate (maxL - (lg_sl av).length) Slot.unset).toArray = ls at hl ⊢
  exact body p e s m below meth c ⟨B.exec, B.bytes, B.returns, hml, findClass_of_methodNamed B.named, atoms_spec (ws := ws) B.pre, B.notSynchronized, hK, hE, hlo⟩ htab s.heap [] ls ((ai_L0_len hn).trans hml.symm) hP va_S.rf (ai_entry hn hc hl)
theorem x_startH {hh : List (Nat × Nat × Nat × Nat)} (hy : plainName y.cls = true) (hw : ws = Cond.codeWith y cc maxL ret hh :: ws') (hn : av.length ≤ maxL) (hn2 : (lg_sl av).length ≤ maxL) (hc : ∀ x ∈ av, x.category = 1)
    (body : ∀ (p : Program) (e : Env) (s : State) (m : MethodId) (below : List Frame) (meth : Method) (c : Code), ai_B p l e rm s m av.toArray below meth c G cc maxL ws y.cls ret → c.exceptionTable.toList = tableOf hh → ai_Y p l e rm s m av.toArray below meth c G (vx_MQ below (ai_Q G post) (ai_X G px) av.toArray s mc ms (ai_A G)) M 0 0 (ai_L0 av maxL) 0 []) : ai_D l y ws rm mc ms G M av post px := by
  refine vx_ofWH (cc := cc) (maxL := maxL) (ret := ret) hy hw ?_
  intro p e s m args below meth c s₁ B hml hv
  obtain ⟨rfl, hK, hP, hE, hlo⟩ := hv
  have htab := vx_table (x := y) B (atoms_spec (ws := ws) B.pre _ (by rw [hw]; exact List.mem_cons_self))
  have hl := lv_entry av (n := maxL) hn2
  rw [lg_entry_eq]
  generalize (lg_sl av ++ List.replicate (maxL - (lg_sl av).length) Slot.unset).toArray = ls at hl ⊢
  exact body p e s m below meth c ⟨B.exec, B.bytes, B.returns, hml, findClass_of_methodNamed B.named, atoms_spec (ws := ws) B.pre, B.notSynchronized, hK, hE, hlo⟩ htab s.heap [] ls ((ai_L0_len hn).trans hml.symm) hP va_S.rf (ai_entry hn hc hl)
end AIS
section AIE
variable {p : Program} {l : Launch} {e : Env} {R : Room} {s : State} {m : MethodId} {args : Array Value} {below : List Frame} {meth : Method} {c : Code} {G : ai_G} {M : ai_M} {cells slots : Nat} {L : List (Option Value)} {pc : Nat} {st : List Value} {cc : ByteArray} {nL : Nat} {ws : List Cond} {own : String} {mc ms : Nat} {post : Option Value → ai_M → Prop} {px : String → ai_M → Prop}
theorem y_iret (B : ai_B p l e R s m args below meth c G cc nL ws own (some .int)) {x : Int32} (hd : decode cc pc = .ok (.ireturn, 1)) (h1 : cells ≤ mc) (h2 : slots ≤ ms) (hp : post (some (.int x)) M) : ai_Y p l e R s m args below meth c G (MQ below (ai_Q G post) args s mc ms (ai_A G)) M cells slots L pc [.int x] :=
  fun H locs ls hl hP hS hL => W.widen h1 h2 (W.iret B.1 B.2.1 B.2.2.1 (fun t ht hW => ⟨⟨_, M, rfl, hp, by rw [ht]; exact hP⟩, hS.F ht⟩) hS.2.2 hd B.2.2.2.2.2.2.1)
theorem y_zret (B : ai_B p l e R s m args below meth c G cc nL ws own (some .boolean)) {x : Int32} (hd : decode cc pc = .ok (.ireturn, 1)) (h1 : cells ≤ mc) (h2 : slots ≤ ms) (hn : narrow .boolean (.int x) = .int x) (hp : post (some (.int x)) M) : ai_Y p l e R s m args below meth c G (MQ below (ai_Q G post) args s mc ms (ai_A G)) M cells slots L pc [.int x] :=
  fun H locs ls hl hP hS hL => W.widen h1 h2 (W.zret B.1 B.2.1 B.2.2.1 hn (fun t ht hW => ⟨⟨_, M, rfl, hp, by rw [ht]; exact hP⟩, hS.F ht⟩) hS.2.2 hd B.2.2.2.2.2.2.1)
theorem y_vret (B : ai_B p l e R s m args below meth c G cc nL ws own none) (hd : decode cc pc = .ok (.return_, 1)) (h1 : cells ≤ mc) (h2 : slots ≤ ms) (hp : post none M) : ai_Y p l e R s m args below meth c G (MQ below (ai_Q G post) args s mc ms (ai_A G)) M cells slots L pc [] :=
  fun H locs ls hl hP hS hL => W.widen h1 h2 (W.vret B.1 B.2.1 B.2.2.1 (fun t ht hW => ⟨⟨_, M, rfl, hp, by rw [ht]; exact hP⟩, hS.F ht⟩) hS.2.2 hd B.2.2.2.2.2.2.1)
theorem y_aret {rt : FieldType} (B : ai_B p l e R s m args below meth c G cc nL ws own (some rt)) {v : Value} (hrt : (∃ n, rt = .object n) ∨ ∃ t, rt = .array t) (hv : v = .null ∨ ∃ a, v = .ref a) (hd : decode cc pc = .ok (.areturn, 1)) (h1 : cells ≤ mc) (h2 : slots ≤ ms) (hp : post (some v) M) : ai_Y p l e R s m args below meth c G (MQ below (ai_Q G post) args s mc ms (ai_A G)) M cells slots L pc [v] :=
  fun H locs ls hl hP hS hL => W.widen h1 h2 (W.aret B.1 B.2.1 B.2.2.1 hrt hv (fun t ht hW => ⟨⟨_, M, rfl, hp, by rw [ht]; exact hP⟩, hS.F ht⟩) hS.2.2 hd B.2.2.2.2.2.2.1)
theorem x_iret (B : ai_B p l e R s m args below meth c G cc nL ws own (some .int)) {x : Int32} (hd : decode cc pc = .ok (.ireturn, 1)) (h1 : cells ≤ mc) (h2 : slots ≤ ms) (hp : post (some (.int x)) M) : ai_Y p l e R s m args below meth c G (vx_MQ below (ai_Q G post) (ai_X G px) args s mc ms (ai_A G)) M cells slots L pc [.int x] :=
  fun H locs ls hl hP hS hL => W.widen h1 h2 (vx_ret (W.iret B.1 B.2.1 B.2.2.1 (fun t ht hW => ⟨⟨_, M, rfl, hp, by rw [ht]; exact hP⟩, hS.F ht⟩) hS.2.2 hd B.2.2.2.2.2.2.1))
theorem x_zret (B : ai_B p l e R s m args below meth c G cc nL ws own (some .boolean)) {x : Int32} (hd : decode cc pc = .ok (.ireturn, 1)) (h1 : cells ≤ mc) (h2 : slots ≤ ms) (hn : narrow .boolean (.int x) = .int x) (hp : post (some (.int x)) M) : ai_Y p l e R s m args below meth c G (vx_MQ below (ai_Q G post) (ai_X G px) args s mc ms (ai_A G)) M cells slots L pc [.int x] :=
  fun H locs ls hl hP hS hL => W.widen h1 h2 (vx_ret (W.zret B.1 B.2.1 B.2.2.1 hn (fun t ht hW => ⟨⟨_, M, rfl, hp, by rw [ht]; exact hP⟩, hS.F ht⟩) hS.2.2 hd B.2.2.2.2.2.2.1))
theorem x_vret (B : ai_B p l e R s m args below meth c G cc nL ws own none) (hd : decode cc pc = .ok (.return_, 1)) (h1 : cells ≤ mc) (h2 : slots ≤ ms) (hp : post none M) : ai_Y p l e R s m args below meth c G (vx_MQ below (ai_Q G post) (ai_X G px) args s mc ms (ai_A G)) M cells slots L pc [] :=
  fun H locs ls hl hP hS hL => W.widen h1 h2 (vx_ret (W.vret B.1 B.2.1 B.2.2.1 (fun t ht hW => ⟨⟨_, M, rfl, hp, by rw [ht]; exact hP⟩, hS.F ht⟩) hS.2.2 hd B.2.2.2.2.2.2.1))
theorem x_aret {rt : FieldType} (B : ai_B p l e R s m args below meth c G cc nL ws own (some rt)) {v : Value} (hrt : (∃ n, rt = .object n) ∨ ∃ t, rt = .array t) (hv : v = .null ∨ ∃ a, v = .ref a) (hd : decode cc pc = .ok (.areturn, 1)) (h1 : cells ≤ mc) (h2 : slots ≤ ms) (hp : post (some v) M) : ai_Y p l e R s m args below meth c G (vx_MQ below (ai_Q G post) (ai_X G px) args s mc ms (ai_A G)) M cells slots L pc [v] :=
  fun H locs ls hl hP hS hL => W.widen h1 h2 (vx_ret (W.aret B.1 B.2.1 B.2.2.1 hrt hv (fun t ht hW => ⟨⟨_, M, rfl, hp, by rw [ht]; exact hP⟩, hS.F ht⟩) hS.2.2 hd B.2.2.2.2.2.2.1))
theorem ai_P_kept {H H1 : Heap} (hP : ai_P G M H) (h : ∀ q : Nat, q < H.size → H1[q]? = H[q]?) : ai_P G M H1 := by
  obtain ⟨ws1, h1, h2, h3⟩ := hP
  exact ⟨ws1, h1.kept (fun k q hk => h q.1 (h1 k q hk).lt), h2, h3⟩
theorem x_throw {ret : Option FieldType} (B : ai_B p l e R s m args below meth c G cc nL ws RX6 ret) {E text : String} {ik is ic sv : Nat} (hl9 : l.stackTraces = false) (htab : ∀ x ∈ c.exceptionTable.toList, False) (hfit : Bundle.fit E = true) (hk : Cond.classLink RX6 ik E ∈ ws) (hini : Cond.initialized E ∈ ws) (hstr : (is, text, sv) ∈ ai_Es) (hgw : ∀ w ∈ (vx_atS RX6 ic E ai_Xn).filter goodWord, w ∈ ws) (hbw : ∀ w ∈ (vx_atS RX6 ic E ai_Xn).filter (fun w => !goodWord w), w ∈ ai_Xw)
    (hgood : ∀ w ∈ Cond.classLink RX6 ik E :: Cond.initialized E :: vx_atS RX6 ic E ai_Xn, vx_ot w = true) (d0 : decode cc pc = .ok (.new ik, 3)) (d3 : decode cc (pc + 3) = .ok (.dup, 1)) (d4 : decode cc (pc + 4) = .ok (.ldc is, 2)) (d6 : decode cc (pc + 6) = .ok (.invokespecial ic, 3)) (d9 : decode cc (pc + 9) = .ok (.athrow, 1))
    (hRf : 5 < R.frames) (hRl : (st.map fun v => v.category).sum + 82 ≤ R.locals) (hRc : cells + 1 ≤ R.cells) (hRs : slots + 6 ≤ R.slots) (hc : cells + 1 ≤ mc) (hs : slots + 6 ≤ ms) (hpx : px E M) : ai_Y p l e R s m args below meth c G (vx_MQ below (ai_Q G post) (ai_X G px) args s mc ms (ai_A G)) M cells slots L pc st := by
  intro H locs ls hl hP hS hL
  obtain ⟨hEw, hEh⟩ := B.2.2.2.2.2.2.2.2.1
  have hX := hEw.2.2.2.2.2.2.2.2.2.2.1
  have hR9 := hEw.2.2.2.2.2.2.2.2.2.2.2.2 _ hstr
  have hat : ∀ w ∈ vx_atS RX6 ic E ai_Xn, w.before args s = true := vx_hat (B := ai_Xw) (fun w hw => B.2.2.2.2.2.1 w (hgw w hw)) hbw (fun w hw => va_Nw.use (ai_mv_tab (ai_Xw_mv w hw)) (hX w hw))
  refine vx_throwS B.1 B.2.1 hl9 (names := ai_Xn) (text := text) (sa := G.2.2.1 sv) B.2.2.2.2.1 hfit (by decide +kernel) (B.2.2.2.2.2.1 _ hk) (B.2.2.2.2.2.1 _ hini) hR9 hat hgood hEh.2.2.1 hEh.2.2.2 hS (hL.1.trans hl) d0 d3 d4 d6 d9 (fun x hx => (htab x hx).elim) hRf hRl hRc hRs B.2.2.2.2.2.2.1 ?_ hS.2.2 hc hs
  intro t hvm hz hq
  exact ⟨⟨M, hpx, ai_P_kept hP hq⟩, Nat.le_trans hS.1 hz, fun q h1 h2 => (hq q (Nat.lt_of_lt_of_le h1 hS.1)).trans (hS.2.1 q h1 h2)⟩
theorem z_out {ret : Option FieldType} (B : ai_B p l e R s m args below meth c G cc nL ws own ret) {E : String} (hout : ∀ x ∈ c.exceptionTable.toList, covers x pc = false) (h1 : cells ≤ mc) (h2 : slots ≤ ms) (hp : px E M) : ai_Z p l e R s m args below meth c G (vx_MQ below (ai_Q G post) (ai_X G px) args s mc ms (ai_A G)) M cells slots L pc st E := by
  intro H locs ls q ce hl hP hS hL hce hcv hcl
  exact vx_out hout B.2.2.2.2.2.2.1 hce hcv hcl (fun t ht _ => ⟨⟨M, hp, by rw [ht]; exact hP⟩, hS.F ht⟩) hS.2.2 h1 h2
theorem z_catch {Q : State → Prop} {ret : Option FieldType} (B : ai_B p l e R s m args below meth c G cc nL ws own ret) {E name : String} (pre : List ExceptionTableEntry) (x : ExceptionTableEntry) (suf : List ExceptionTableEntry) (hsplit : c.exceptionTable.toList = pre ++ x :: suf) (hpass : ∀ z ∈ pre, covers z pc = false ∨ (z.catchType ≠ 0 ∧ ∃ nm : String, Cond.classLink own z.catchType nm ∈ ws ∧ va_Nc E nm s)) (hx : covers x pc = true) (h0 : x.catchType ≠ 0) (hlink : Cond.classLink own x.catchType name ∈ ws) (hcast : Cond.castable E name ∈ ai_Xw)
    (kk : ∀ q : Nat, ai_Y p l e R s m args below meth c G Q M cells slots L x.handlerPc [.ref q]) : ai_Z p l e R s m args below meth c G Q M cells slots L pc st E := by
  intro H locs ls q ce hl hP hS hL hce hcv hcl
  exact vx_catch B.2.2.2.2.1 pre x suf hsplit (fun z hz => (hpass z hz).imp_right fun ⟨h, nm, h1, h2⟩ => ⟨h, nm, B.2.2.2.2.2.1 _ h1, h2⟩) hx h0 (B.2.2.2.2.2.1 _ hlink) (va_Nw.use rfl (B.2.2.2.2.2.2.2.2.1.1.2.2.2.2.2.2.2.2.2.2.1 _ hcast)) hce hcv hcl (kk q H locs ls hl hP hS hL)
end AIE
end
