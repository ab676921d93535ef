/-! ===== FROM THE LAW'S ENTRY ===== -/
theorem inlX0 : ∀ w ∈ wsX00, w ∈ wsL_law := fun _ h => List.mem_append_left _ (List.mem_append_left _ (List.mem_append_left _ (List.mem_append_left _ (List.mem_append_left _ (List.mem_append_left _ (List.mem_append_left _ (List.mem_append_left _ (List.mem_append_left _ (List.mem_append_right _ h)))))))))
theorem inlX1 : ∀ w ∈ wsX10, w ∈ wsL_law := fun _ h => List.mem_append_left _ (List.mem_append_left _ (List.mem_append_left _ (List.mem_append_left _ (List.mem_append_left _ (List.mem_append_left _ (List.mem_append_left _ (List.mem_append_left _ (List.mem_append_right _ h))))))))
theorem inlX2 : ∀ w ∈ wsX20, w ∈ wsL_law := fun _ h => List.mem_append_left _ (List.mem_append_left _ (List.mem_append_left _ (List.mem_append_left _ (List.mem_append_right _ h))))
theorem inlX3 : ∀ w ∈ wsX30, w ∈ wsL_law := fun _ h => List.mem_append_left _ (List.mem_append_left _ (List.mem_append_left _ (List.mem_append_left _ (List.mem_append_left _ (List.mem_append_left _ (List.mem_append_right _ h))))))
theorem inlX4 : ∀ w ∈ wsX40, w ∈ wsL_law := fun _ h => List.mem_append_left _ (List.mem_append_left _ (List.mem_append_left _ (List.mem_append_left _ (List.mem_append_left _ (List.mem_append_left _ (List.mem_append_left _ (List.mem_append_right _ h)))))))
theorem inlX5 : ∀ w ∈ wsX50, w ∈ wsL_law := fun _ h => List.mem_append_left _ (List.mem_append_left _ (List.mem_append_left _ (List.mem_append_left _ (List.mem_append_left _ (List.mem_append_right _ h)))))
theorem inlJx4a65c : ∀ w ∈ wsJx4a65c0, w ∈ wsL_law := fun _ h => List.mem_append_left _ (List.mem_append_left _ (List.mem_append_left _ (List.mem_append_left _ (List.mem_append_left _ (List.mem_append_left _ (List.mem_append_left _ (List.mem_append_left _ (List.mem_append_left _ (List.mem_append_left _ (List.mem_append_right _ h))))))))))
theorem ai_pa {args : Array Value} {s : State} {t : FieldType} (h : (Cond.arrayClass t).before args s = true) : ∃ c : ClassId, ArrOfT s c t ∧ s.vm.findClass ("[" ++ t.toString) = some c := by
  obtain ⟨c, k, comp, h1, h2, h3⟩ := Cond.arrayClass_spec h
  exact ⟨c, fun n z => ⟨(fun k h => by cases h), k, h2, comp, h3⟩, h1⟩
theorem ai_po {args : Array Value} {s : State} {C : String} (h : (Cond.arrayOver (.object C)).before args s = true) : ∃ c : ClassId, ArrOfT s c (.object C) ∧ va_RA s c (.object C) := by
  obtain ⟨comp, cA, kA, hcomp, hidx, hkA, hkindA, hnameA⟩ := Cond.arrayOver_spec h
  exact ⟨cA, fun n z => ⟨(fun k h => by cases h), kA, hkA, comp, hkindA⟩, kA, comp, hkA, hkindA, hcomp, hnameA⟩
theorem ai_st {args : Array Value} {s : State} {own tx : String} {k : Nat} (h1 : (Cond.stringRef own k tx).before args s = true) (h2 : (Cond.exactly (Term.string own k) "java/lang/String").before args s = true) : ∃ a : Nat, vk_R own k tx a s := by
  obtain ⟨a, c, cell, kk, h, -⟩ := Cond.exactly_spec h2
  exact ⟨a, vk_R.of h1 h⟩
theorem ai_Xin : ∀ w ∈ ai_Xw, w ∈ lw_tbl := by decide +kernel
set_option maxRecDepth 20000 in
theorem ai_Enin : ∀ q ∈ ai_En, Cond.not (.castable q.1 q.2) ∈ flatC (Jvm.Cond.and given_1 narrow_1) := by decide +kernel
set_option maxHeartbeats 4000000 in
set_option maxRecDepth 100000 in
theorem whole_start {p : Program} {e : Env} {s : State} {m : MethodId} {below : List Frame} {meth : Method} {c : Code} (l : Launch) (hflags : l.flags = flags0) {b L : Nat} {xs : Nat → Int32} (hL : L ≤ 3072) (C0 : lw_At p s m meth c b L xs) : W p l e room_1 s m #[Value.ref b] below meth c s.heap [] 0 0 (lw_Z below #[Value.ref b] s) (entryFrame m ([Value.ref b] : List Value).toArray 7) := by
  obtain ⟨hx, hb, hr, hml, hown, hts, hX, hbl, hlocks, hgv⟩ := id C0
  have hg := flat_of_before _ hgv
  have hst : l.stackTraces = false := by unfold Launch.stackTraces; rw [hflags]; decide +kernel
  have hW : ∀ w ∈ wsL_law, w.before #[Value.ref b] s = true := fun w h => hts w (wsL_law_in w h)
  have hA : ∀ a : Nat, a < s.heap.size → ¬ (fun q : Nat => s.heap.size ≤ q) a := fun a h => Nat.not_le.mpr h
  obtain ⟨c0, i0, hKn0⟩ := u_known (C := RJx4a65c) (T := TJx4a65c) (N := 3) (n := 3) hW inlJx4a65c (hW (.instantiable RJx4a65c 3) (by decide +kernel))
  obtain ⟨c1, i1, hKn1⟩ := u_known (C := RX0) (T := TX0) (N := 1) (n := 1) hW inlX0 (hW (.instantiable RX0 1) (by decide +kernel))
  obtain ⟨c2, i2, hKn2⟩ := u_known (C := RX1) (T := TX1) (N := 1) (n := 1) hW inlX1 (hW (.instantiable RX1 1) (by decide +kernel))
  obtain ⟨c3, i3, hKn3⟩ := u_known (C := RX2) (T := TX2) (N := 2) (n := 2) hW inlX2 (hW (.instantiable RX2 2) (by decide +kernel))
  obtain ⟨c4, i4, hKn4⟩ := u_known (C := RX3) (T := TX3) (N := 3) (n := 3) hW inlX3 (hW (.instantiable RX3 3) (by decide +kernel))
  obtain ⟨c5, i5, hKn5⟩ := u_known (C := RX4) (T := TX4) (N := 6) (n := 6) hW inlX4 (hW (.instantiable RX4 6) (by decide +kernel))
  obtain ⟨c6, i6, hKn6⟩ := u_known (C := RX5) (T := TX5) (N := 4) (n := 4) hW inlX5 (hW (.instantiable RX5 4) (by decide +kernel))
  obtain ⟨c7, i7, hKn7⟩ := u_known (C := RX6) (T := TX6) (N := 4) (n := 4) hW inlX6 (hW (.instantiable RX6 4) (by decide +kernel))
  obtain ⟨c8, i8, hKn8⟩ := u_known (C := RX7) (T := TX7) (N := 15) (n := 15) hW inlX7 (hW (.instantiable RX7 15) (by decide +kernel))
  obtain ⟨dC, dI, hKc⟩ : ∃ (dC : Nat → ClassId) (dI : Nat → Nat → Nat), ∀ (k : Nat) (q : vw_C), vwCl[k]? = some q → u_Kn s q.1 q.2.1 q.2.2 (dC k) (dI k) := by
    refine ⟨fun k => if k = 0 then c0 else if k = 1 then c1 else if k = 2 then c2 else if k = 3 then c3 else if k = 4 then c4 else if k = 5 then c5 else if k = 6 then c6 else if k = 7 then c7 else c8, fun k => if k = 0 then i0 else if k = 1 then i1 else if k = 2 then i2 else if k = 3 then i3 else if k = 4 then i4 else if k = 5 then i5 else if k = 6 then i6 else if k = 7 then i7 else i8, ?_⟩
    intro k q hq
    match k, hq with
    | 0, hq => cases hq; exact hKn0
    | 1, hq => cases hq; exact hKn1
    | 2, hq => cases hq; exact hKn2
    | 3, hq => cases hq; exact hKn3
    | 4, hq => cases hq; exact hKn4
    | 5, hq => cases hq; exact hKn5
    | 6, hq => cases hq; exact hKn6
    | 7, hq => cases hq; exact hKn7
    | 8, hq => cases hq; exact hKn8
    | k + 9, hq => simp [vwCl] at hq
  obtain ⟨p0, hp0, hn0⟩ := ai_pa (t := .int) (hts (.arrayClass .int) (by decide +kernel))
  obtain ⟨p1, hp1, hn1⟩ := ai_pa (t := .boolean) (hts (.arrayClass .boolean) (by decide +kernel))
  obtain ⟨p2, hp2, hn2⟩ := ai_po (C := "AlertIndex$Posting") (hts (.arrayOver (.object "AlertIndex$Posting")) (by decide +kernel))
  obtain ⟨p3, hp3, hn3⟩ := ai_po (C := "java/lang/Object") (hts (.arrayOver (.object "java/lang/Object")) (by decide +kernel))
  obtain ⟨p4, hp4, hn4⟩ := ai_pa (t := .long) (hts (.arrayClass .long) (by decide +kernel))
  obtain ⟨z0, hev0, hT0⟩ := va_Tof (tm := .static "java/util/ArrayList" "DEFAULTCAPACITY_EMPTY_ELEMENTDATA" "[Ljava/lang/Object;") (ty := .object "java/lang/Object") (N := 0) (f := fun _ => .null) (by decide) (hg (.arrayOf (.static "java/util/ArrayList" "DEFAULTCAPACITY_EMPTY_ELEMENTDATA" "[Ljava/lang/Object;") (.object "java/lang/Object")) (by decide +kernel)) (by
    obtain ⟨y, h1, h2⟩ := Cond.eq_one (hg (.eq (.length (.static "java/util/ArrayList" "DEFAULTCAPACITY_EMPTY_ELEMENTDATA" "[Ljava/lang/Object;")) (.int 0)) (by decide +kernel))
    rw [h1, ← h2]
    rfl) (fun j hj => absurd hj (Nat.not_lt_zero j)) hA
  have hZ0 := va_Zof (hts (.laysStatic "java/util/ArrayList" "DEFAULTCAPACITY_EMPTY_ELEMENTDATA" "[Ljava/lang/Object;") (by decide +kernel)) (hts (.initialized "java/util/ArrayList") (by decide +kernel)) hev0 hA
  obtain ⟨z1, hM1⟩ := va_Mi.of (hg (.isRef (.mirror "[Ljava/lang/Object;")) (by decide +kernel))
  have hq1 := vx_Zqof (hts (.laysStatic Bundle.tN "UNASSIGNED_STACK" Bundle.steD) (by decide +kernel)) (hts (.initialized Bundle.tN) (by decide +kernel)) (hg (.isRef (.static Bundle.tN "UNASSIGNED_STACK" Bundle.steD)) (by decide +kernel)) hA
  have hq2 := vx_Zqof (hts (.laysStatic Bundle.tN "SUPPRESSED_SENTINEL" Bundle.listD) (by decide +kernel)) (hts (.initialized Bundle.tN) (by decide +kernel)) (hg (.isRef (.static Bundle.tN "SUPPRESSED_SENTINEL" Bundle.listD)) (by decide +kernel)) hA
  obtain ⟨z10, hs10⟩ := ai_st (own := "AlertIndex") (k := 42) (tx := "there were 20 questions") (hts (.stringRef "AlertIndex" 42 "there were 20 questions") (by decide +kernel)) (hg (.exactly (.string "AlertIndex" 42) "java/lang/String") (by decide +kernel))
  obtain ⟨z11, hs11⟩ := ai_st (own := "AlertIndex") (k := 61) (tx := "the question has 3 products") (hts (.stringRef "AlertIndex" 61 "the question has 3 products") (by decide +kernel)) (hg (.exactly (.string "AlertIndex" 61) "java/lang/String") (by decide +kernel))
  obtain ⟨z12, hs12⟩ := ai_st (own := "AlertIndex") (k := 78) (tx := "the question has no product") (hts (.stringRef "AlertIndex" 78 "the question has no product") (by decide +kernel)) (hg (.exactly (.string "AlertIndex" 78) "java/lang/String") (by decide +kernel))
  obtain ⟨z13, hs13⟩ := ai_st (own := "AlertIndex") (k := 83) (tx := "the last product has 4 tests") (hts (.stringRef "AlertIndex" 83 "the last product has 4 tests") (by decide +kernel)) (hg (.exactly (.string "AlertIndex" 83) "java/lang/String") (by decide +kernel))
  obtain ⟨z14, hs14⟩ := ai_st (own := "AlertIndex") (k := 106) (tx := "a quiet time is 0 to 1000 minutes") (hts (.stringRef "AlertIndex" 106 "a quiet time is 0 to 1000 minutes") (by decide +kernel)) (hg (.exactly (.string "AlertIndex" 106) "java/lang/String") (by decide +kernel))
  obtain ⟨z15, hs15⟩ := ai_st (own := "AlertIndex") (k := 116) (tx := "a value is 0 to 63, or NONE") (hts (.stringRef "AlertIndex" 116 "a value is 0 to 63, or NONE") (by decide +kernel)) (hg (.exactly (.string "AlertIndex" 116) "java/lang/String") (by decide +kernel))
  obtain ⟨z16, hs16⟩ := ai_st (own := "AlertIndex") (k := 133) (tx := "1 to 1000 minutes pass") (hts (.stringRef "AlertIndex" 133 "1 to 1000 minutes pass") (by decide +kernel)) (hg (.exactly (.string "AlertIndex" 133) "java/lang/String") (by decide +kernel))
  obtain ⟨z17, hs17⟩ := ai_st (own := "AlertIndex") (k := 136) (tx := "the minute would be above 1000000") (hts (.stringRef "AlertIndex" 136 "the minute would be above 1000000") (by decide +kernel)) (hg (.exactly (.string "AlertIndex" 136) "java/lang/String") (by decide +kernel))
  obtain ⟨z18, hs18⟩ := ai_st (own := "AlertIndex") (k := 159) (tx := "pieces are counted from 0") (hts (.stringRef "AlertIndex" 159 "pieces are counted from 0") (by decide +kernel)) (hg (.exactly (.string "AlertIndex" 159) "java/lang/String") (by decide +kernel))
  obtain ⟨z19, hs19⟩ := ai_st (own := "AlertIndex") (k := 168) (tx := "there is no such question") (hts (.stringRef "AlertIndex" 168 "there is no such question") (by decide +kernel)) (hg (.exactly (.string "AlertIndex" 168) "java/lang/String") (by decide +kernel))
  obtain ⟨z20, hs20⟩ := ai_st (own := "AlertIndex") (k := 170) (tx := "the question was dropped") (hts (.stringRef "AlertIndex" 170 "the question was dropped") (by decide +kernel)) (hg (.exactly (.string "AlertIndex" 170) "java/lang/String") (by decide +kernel))
  obtain ⟨z21, hs21⟩ := ai_st (own := "AlertIndex") (k := 172) (tx := "a name is 0 to 5") (hts (.stringRef "AlertIndex" 172 "a name is 0 to 5") (by decide +kernel)) (hg (.exactly (.string "AlertIndex" 172) "java/lang/String") (by decide +kernel))
  obtain ⟨z22, hs22⟩ := ai_st (own := "AlertIndex") (k := 174) (tx := "a range is from 0 to 63, its low not above its high") (hts (.stringRef "AlertIndex" 174 "a range is from 0 to 63, its low not above its high") (by decide +kernel)) (hg (.exactly (.string "AlertIndex" 174) "java/lang/String") (by decide +kernel))
  obtain ⟨G, eG⟩ : ∃ G : ai_G, G = ((dC, dI), (fun k => if k = 0 then p0 else if k = 1 then p1 else if k = 2 then p2 else if k = 3 then p3 else p4), (fun k => if k = 0 then z0 else if k = 1 then z1 else if k = 10 then z10 else if k = 11 then z11 else if k = 12 then z12 else if k = 13 then z13 else if k = 14 then z14 else if k = 15 then z15 else if k = 16 then z16 else if k = 17 then z17 else if k = 18 then z18 else if k = 19 then z19 else if k = 20 then z20 else if k = 21 then z21 else z22), s.heap.size) := ⟨_, rfl⟩
  have hK : va_K G.1 vwCl (ai_T G) s := by
    subst eG
    refine ⟨hKc, fun k q hq => ?_⟩
    match k, hq with
    | 0, hq => cases hq; exact ⟨hp0, hn0⟩
    | 1, hq => cases hq; exact ⟨hp1, hn1⟩
    | 2, hq => cases hq; exact ⟨hp2, hn2⟩
    | 3, hq => cases hq; exact ⟨hp3, hn3⟩
    | 4, hq => cases hq; exact ⟨hp4, hn4⟩
    | k + 5, hq => simp [ai_T] at hq
  have hE : ai_E G s := by
    subst eG
    refine ⟨⟨va_AO.of (hts (.arrayOver (.object "java/lang/Object")) (by decide +kernel)), va_AO.of (hts (.arrayOver (.object "AlertIndex$Posting")) (by decide +kernel)), hM1, va_Dc.of (hts (.declares ⟨"java/lang/Object", "getClass", "()Ljava/lang/Class;"⟩) (by decide +kernel)), va_Nw.of rfl (hts (.methodLinkNest RX1 17 yX6_levelOfPiece "AlertIndex") (by decide +kernel)), va_Nw.of rfl (hts (.methodLinkNest RX1 34 yX6_isValue "AlertIndex") (by decide +kernel)),
      va_Fw.of (hts (.declares ⟨"java/util/List", "size", "()I"⟩) (by decide +kernel)) (hts (.interfaceMethod "java/util/List" "java/util/List" "size" "()I") (by decide +kernel)) (hts (.publicMethod yJx4a65c_size_8abf5) (by decide +kernel)) (hts (.unhidden RJx4a65c "size" "()I") (by decide +kernel)) (hts (.castable RJx4a65c "java/util/List") (by decide +kernel)),
      va_Fw.of (hts (.declares ⟨"java/util/List", "isEmpty", "()Z"⟩) (by decide +kernel)) (hts (.interfaceMethod "java/util/List" "java/util/List" "isEmpty" "()Z") (by decide +kernel)) (hts (.publicMethod yJx4a65c_isEmpty_aae02) (by decide +kernel)) (hts (.unhidden RJx4a65c "isEmpty" "()Z") (by decide +kernel)) (hts (.castable RJx4a65c "java/util/List") (by decide +kernel)),
      va_Fw.of (hts (.declares ⟨"java/util/List", "get", "(I)Ljava/lang/Object;"⟩) (by decide +kernel)) (hts (.interfaceMethod "java/util/List" "java/util/List" "get" "(I)Ljava/lang/Object;") (by decide +kernel)) (hts (.publicMethod yJx4a65c_get_915e3) (by decide +kernel)) (hts (.unhidden RJx4a65c "get" "(I)Ljava/lang/Object;") (by decide +kernel)) (hts (.castable RJx4a65c "java/util/List") (by decide +kernel)),
      va_Fw.of (hts (.declares ⟨"java/util/List", "add", "(Ljava/lang/Object;)Z"⟩) (by decide +kernel)) (hts (.interfaceMethod "java/util/List" "java/util/List" "add" "(Ljava/lang/Object;)Z") (by decide +kernel)) (hts (.publicMethod yJx4a65c_add_9ea2d) (by decide +kernel)) (hts (.unhidden RJx4a65c "add" "(Ljava/lang/Object;)Z") (by decide +kernel)) (hts (.castable RJx4a65c "java/util/List") (by decide +kernel)),
      fun w hw => va_Nw.of (ai_mv_tab (ai_Xw_mv w hw)) (hts w (ai_Xin w hw)), fun q hq => va_Nc.of (hg _ (ai_Enin q hq)), fun q hq => ?_⟩, ⟨hZ0, hT0, hq1, hq2⟩⟩
    simp only [ai_Es, List.mem_cons, List.not_mem_nil, or_false] at hq
    rcases hq with rfl | rfl | rfl | rfl | rfl | rfl | rfl | rfl | rfl | rfl | rfl | rfl | rfl
    · exact hs10
    · exact hs11
    · exact hs12
    · exact hs13
    · exact hs14
    · exact hs15
    · exact hs16
    · exact hs17
    · exact hs18
    · exact hs19
    · exact hs20
    · exact hs21
    · exact hs22
  have hlo : G.2.2.2 = s.heap.size := by rw [eG]
  have B : ai_B p l e room_1 s m #[Value.ref b] below meth c G cL_law 7 wsL_law RL (some .boolean) := ⟨hx, hb, hr, hml, hown, hW, hlocks, hK, hE, Nat.le_of_eq hlo⟩
  have hbA : ¬ ai_A G b := by unfold ai_A; rw [hlo]; exact Nat.not_le.mpr hbl
  have hend : ∀ (M : ai_M) (k n : Nat) (Lc : List (Option Value)), k ≤ 601024 → n ≤ 7293033 → ai_Y p l e room_1 s m #[Value.ref b] below meth c G (lw_Z below #[Value.ref b] s) M k n Lc 1126 [.int (nI 1)] := by
    intro M k n Lc h1 h2 H locs ls hl hP hS hL9
    refine va_forget (fun q hq => by have y : G.2.2.2 ≤ q.base := hS.2.2 q hq; omega) ?_
    exact W.widen h1 h2 (lw_ret hx hb hr hlocks dL_law_1126)
  have hl := lv_entry ([.ref b]) (n := 7) (Nat.le_of_ble_eq_true rfl)
  rw [lg_entry_eq]
  generalize (lg_sl ([.ref b]) ++ List.replicate (7 - (lg_sl ([.ref b])).length) Slot.unset).toArray = ls at hl ⊢
  have hl9 : ai_L ls (ai_L0 [.ref b] 7) := ai_entry (Nat.le_of_ble_eq_true rfl) (fun x hx => by simp only [List.mem_cons, List.not_mem_nil, or_false] at hx; rcases hx with rfl; rfl) hl
  exact law_begin B hst hX hbl hbA hL hend s.heap [] ls hml.symm ⟨[], fun k q h => by simp at h, ⟨fun i j p q h => by simp at h, fun k q h => by simp at h⟩, fun _ _ _ h => nomatch h⟩ va_S.rf hl9
