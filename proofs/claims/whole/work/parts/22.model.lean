/-! ===== THE MODEL: its object, its arrays ===== -/
theorem i_X7_thrown_X7 : ∀ w ∈ wsX70, w ∈ wsX7_thrown := fun _ h => List.mem_cons_of_mem _ (List.mem_append_right _ h)
theorem i_X7_holds_X7 : ∀ w ∈ wsX70, w ∈ wsX7_holds := fun _ h => List.mem_cons_of_mem _ (List.mem_append_right _ h)
theorem i_X7_isQuestion_X7 : ∀ w ∈ wsX70, w ∈ wsX7_isQuestion := fun _ h => List.mem_cons_of_mem _ (List.mem_append_right _ h)
theorem i_X7_isTrue_X7 : ∀ w ∈ wsX70, w ∈ wsX7_isTrue := fun _ h => List.mem_cons_of_mem _ (List.mem_append_right _ h)
theorem i_X7_does_X7 : ∀ w ∈ wsX70, w ∈ wsX7_does := fun _ h => List.mem_cons_of_mem _ (List.mem_append_right _ h)
theorem i_X7_quietNow_X7 : ∀ w ∈ wsX70, w ∈ wsX7_quietNow := fun _ h => List.mem_cons_of_mem _ (List.mem_append_right _ h)
theorem i_X7_raises_X7 : ∀ w ∈ wsX70, w ∈ wsX7_raises := fun _ h => List.mem_cons_of_mem _ (List.mem_append_right _ h)
def ai_O (G : ai_G) (M : ai_M) (t : Int32) (S : ai_S) (mo : Nat) (ma : Nat → Nat) : Prop := M mo = some (9, .inr (8, [.int t, .int (nI (S 0 1)), .int (nI (S 0 2)), .ref (ma 1), .ref (ma 2), .ref (ma 3), .ref (ma 4), .ref (ma 5), .ref (ma 6), .ref (ma 7), .ref (ma 8), .ref (ma 9), .ref (ma 10), .ref (ma 11), .ref (ma 12)])) ∧ M (ma 1) = some (21, ai_eI G 6 (fun i => ai_nD (S 1 i))) ∧ M (ma 2) = some (22, ai_eZ G 20 (fun i => nI (S 2 i))) ∧ M (ma 3) = some (23, ai_eI G 20 (fun i => nI (S 3 i))) ∧ M (ma 4) = some (24, ai_eI G 20 (fun i => nI (S 4 i))) ∧ M (ma 5) = some (25, ai_eI G 20 (fun i => nI (S 5 i))) ∧ M (ma 6) = some (26, ai_eI G 20 (fun i => nI (S 6 i))) ∧ M (ma 7) = some (27, ai_eI G 20 (fun i => nI (S 7 i))) ∧ M (ma 8) = some (28, ai_eI G 60 (fun i => nI (S 8 i))) ∧ M (ma 9) = some (29, ai_eI G 240 (fun i => nI (S 9 i))) ∧ M (ma 10) = some (30, ai_eI G 240 (fun i => nI (S 10 i))) ∧ M (ma 11) = some (31, ai_eI G 240 (fun i => nI (S 11 i))) ∧ M (ma 12) = some (32, ai_eZ G 240 (fun i => nI (S 12 i)))
def ai_km (M M1 : ai_M) : Prop := ∀ (b g : Nat) (e : va_E), M b = some (g, e) → (g = 8 ∨ 100 ≤ g) → M1 b = some (g, e)
theorem ai_km.rf {M : ai_M} : ai_km M M := fun _ _ _ h _ => h
theorem ai_km.tr {M M1 M2 : ai_M} (h : ai_km M M1) (h2 : ai_km M1 M2) : ai_km M M2 := fun b g e hb hg => h2 b g e (h b g e hb hg) hg
theorem ai_km.U {M : ai_M} {a g : Nat} {e e1 : va_E} (h : M a = some (g, e)) (hg : g ≠ 8 ∧ g < 100) : ai_km M (ai_U M a g e1) := fun b g9 e9 hb h9 => (ai_U_n (ai_ne hb h (by omega))).trans hb
theorem ai_upu (g : Nat → Int32) (S : ai_S) (k i v : Nat) : upd (fun j => g (S k j)) i (g v) = fun j => g (ai_u S k i v k j) := by
  funext j
  unfold upd ai_u
  by_cases h : j = i
  · rw [if_pos h, if_pos ⟨rfl, h⟩]
  · rw [if_neg h, if_neg (fun z => h z.2)]
theorem ai_O.ot {G : ai_G} {M : ai_M} {t : Int32} {S : ai_S} {mo : Nat} {ma : Nat → Nat} (h : ai_O G M t S mo ma) (t' : Int32) : ai_O G (ai_U M mo 9 (.inr (8, [.int t', .int (nI (S 0 1)), .int (nI (S 0 2)), .ref (ma 1), .ref (ma 2), .ref (ma 3), .ref (ma 4), .ref (ma 5), .ref (ma 6), .ref (ma 7), .ref (ma 8), .ref (ma 9), .ref (ma 10), .ref (ma 11), .ref (ma 12)]))) t' S mo ma := by
  obtain ⟨h0, h1, h2, h3, h4, h5, h6, h7, h8, h9, h10, h11, h12⟩ := h
  exact ⟨ai_U_s, (ai_U_n (ai_ne h1 h0 (by decide))).trans h1, (ai_U_n (ai_ne h2 h0 (by decide))).trans h2, (ai_U_n (ai_ne h3 h0 (by decide))).trans h3, (ai_U_n (ai_ne h4 h0 (by decide))).trans h4, (ai_U_n (ai_ne h5 h0 (by decide))).trans h5, (ai_U_n (ai_ne h6 h0 (by decide))).trans h6, (ai_U_n (ai_ne h7 h0 (by decide))).trans h7, (ai_U_n (ai_ne h8 h0 (by decide))).trans h8, (ai_U_n (ai_ne h9 h0 (by decide))).trans h9, (ai_U_n (ai_ne h10 h0 (by decide))).trans h10, (ai_U_n (ai_ne h11 h0 (by decide))).trans h11, (ai_U_n (ai_ne h12 h0 (by decide))).trans h12⟩
theorem ai_O.o1 {G : ai_G} {M : ai_M} {t : Int32} {S : ai_S} {mo : Nat} {ma : Nat → Nat} (h : ai_O G M t S mo ma) (v : Nat) : ai_O G (ai_U M mo 9 (.inr (8, [.int t, .int (nI v), .int (nI (S 0 2)), .ref (ma 1), .ref (ma 2), .ref (ma 3), .ref (ma 4), .ref (ma 5), .ref (ma 6), .ref (ma 7), .ref (ma 8), .ref (ma 9), .ref (ma 10), .ref (ma 11), .ref (ma 12)]))) t (ai_u S 0 1 v) mo ma := by
  obtain ⟨h0, h1, h2, h3, h4, h5, h6, h7, h8, h9, h10, h11, h12⟩ := h
  exact ⟨ai_U_s, (ai_U_n (ai_ne h1 h0 (by decide))).trans h1, (ai_U_n (ai_ne h2 h0 (by decide))).trans h2, (ai_U_n (ai_ne h3 h0 (by decide))).trans h3, (ai_U_n (ai_ne h4 h0 (by decide))).trans h4, (ai_U_n (ai_ne h5 h0 (by decide))).trans h5, (ai_U_n (ai_ne h6 h0 (by decide))).trans h6, (ai_U_n (ai_ne h7 h0 (by decide))).trans h7, (ai_U_n (ai_ne h8 h0 (by decide))).trans h8, (ai_U_n (ai_ne h9 h0 (by decide))).trans h9, (ai_U_n (ai_ne h10 h0 (by decide))).trans h10, (ai_U_n (ai_ne h11 h0 (by decide))).trans h11, (ai_U_n (ai_ne h12 h0 (by decide))).trans h12⟩
theorem ai_O.o2 {G : ai_G} {M : ai_M} {t : Int32} {S : ai_S} {mo : Nat} {ma : Nat → Nat} (h : ai_O G M t S mo ma) (v : Nat) : ai_O G (ai_U M mo 9 (.inr (8, [.int t, .int (nI (S 0 1)), .int (nI v), .ref (ma 1), .ref (ma 2), .ref (ma 3), .ref (ma 4), .ref (ma 5), .ref (ma 6), .ref (ma 7), .ref (ma 8), .ref (ma 9), .ref (ma 10), .ref (ma 11), .ref (ma 12)]))) t (ai_u S 0 2 v) mo ma := by
  obtain ⟨h0, h1, h2, h3, h4, h5, h6, h7, h8, h9, h10, h11, h12⟩ := h
  exact ⟨ai_U_s, (ai_U_n (ai_ne h1 h0 (by decide))).trans h1, (ai_U_n (ai_ne h2 h0 (by decide))).trans h2, (ai_U_n (ai_ne h3 h0 (by decide))).trans h3, (ai_U_n (ai_ne h4 h0 (by decide))).trans h4, (ai_U_n (ai_ne h5 h0 (by decide))).trans h5, (ai_U_n (ai_ne h6 h0 (by decide))).trans h6, (ai_U_n (ai_ne h7 h0 (by decide))).trans h7, (ai_U_n (ai_ne h8 h0 (by decide))).trans h8, (ai_U_n (ai_ne h9 h0 (by decide))).trans h9, (ai_U_n (ai_ne h10 h0 (by decide))).trans h10, (ai_U_n (ai_ne h11 h0 (by decide))).trans h11, (ai_U_n (ai_ne h12 h0 (by decide))).trans h12⟩
theorem ai_O.r1 {G : ai_G} {M : ai_M} {t : Int32} {S : ai_S} {mo : Nat} {ma : Nat → Nat} (h : ai_O G M t S mo ma) (i v : Nat) : ai_O G (ai_U M (ma 1) 21 (ai_eI G 6 (upd (fun j => ai_nD (S 1 j)) i (ai_nD v)))) t (ai_u S 1 i v) mo ma := by
  obtain ⟨h0, h1, h2, h3, h4, h5, h6, h7, h8, h9, h10, h11, h12⟩ := h
  exact ⟨(ai_U_n (ai_ne h0 h1 (by decide))).trans h0, ai_U_s.trans (by rw [ai_upu ai_nD S 1 i v]), (ai_U_n (ai_ne h2 h1 (by decide))).trans h2, (ai_U_n (ai_ne h3 h1 (by decide))).trans h3, (ai_U_n (ai_ne h4 h1 (by decide))).trans h4, (ai_U_n (ai_ne h5 h1 (by decide))).trans h5, (ai_U_n (ai_ne h6 h1 (by decide))).trans h6, (ai_U_n (ai_ne h7 h1 (by decide))).trans h7, (ai_U_n (ai_ne h8 h1 (by decide))).trans h8, (ai_U_n (ai_ne h9 h1 (by decide))).trans h9, (ai_U_n (ai_ne h10 h1 (by decide))).trans h10, (ai_U_n (ai_ne h11 h1 (by decide))).trans h11, (ai_U_n (ai_ne h12 h1 (by decide))).trans h12⟩
theorem ai_O.r2 {G : ai_G} {M : ai_M} {t : Int32} {S : ai_S} {mo : Nat} {ma : Nat → Nat} (h : ai_O G M t S mo ma) (i v : Nat) : ai_O G (ai_U M (ma 2) 22 (ai_eZ G 20 (upd (fun j => nI (S 2 j)) i (nI v)))) t (ai_u S 2 i v) mo ma := by
  obtain ⟨h0, h1, h2, h3, h4, h5, h6, h7, h8, h9, h10, h11, h12⟩ := h
  exact ⟨(ai_U_n (ai_ne h0 h2 (by decide))).trans h0, (ai_U_n (ai_ne h1 h2 (by decide))).trans h1, ai_U_s.trans (by rw [ai_upu nI S 2 i v]), (ai_U_n (ai_ne h3 h2 (by decide))).trans h3, (ai_U_n (ai_ne h4 h2 (by decide))).trans h4, (ai_U_n (ai_ne h5 h2 (by decide))).trans h5, (ai_U_n (ai_ne h6 h2 (by decide))).trans h6, (ai_U_n (ai_ne h7 h2 (by decide))).trans h7, (ai_U_n (ai_ne h8 h2 (by decide))).trans h8, (ai_U_n (ai_ne h9 h2 (by decide))).trans h9, (ai_U_n (ai_ne h10 h2 (by decide))).trans h10, (ai_U_n (ai_ne h11 h2 (by decide))).trans h11, (ai_U_n (ai_ne h12 h2 (by decide))).trans h12⟩
theorem ai_O.r3 {G : ai_G} {M : ai_M} {t : Int32} {S : ai_S} {mo : Nat} {ma : Nat → Nat} (h : ai_O G M t S mo ma) (i v : Nat) : ai_O G (ai_U M (ma 3) 23 (ai_eI G 20 (upd (fun j => nI (S 3 j)) i (nI v)))) t (ai_u S 3 i v) mo ma := by
  obtain ⟨h0, h1, h2, h3, h4, h5, h6, h7, h8, h9, h10, h11, h12⟩ := h
  exact ⟨(ai_U_n (ai_ne h0 h3 (by decide))).trans h0, (ai_U_n (ai_ne h1 h3 (by decide))).trans h1, (ai_U_n (ai_ne h2 h3 (by decide))).trans h2, ai_U_s.trans (by rw [ai_upu nI S 3 i v]), (ai_U_n (ai_ne h4 h3 (by decide))).trans h4, (ai_U_n (ai_ne h5 h3 (by decide))).trans h5, (ai_U_n (ai_ne h6 h3 (by decide))).trans h6, (ai_U_n (ai_ne h7 h3 (by decide))).trans h7, (ai_U_n (ai_ne h8 h3 (by decide))).trans h8, (ai_U_n (ai_ne h9 h3 (by decide))).trans h9, (ai_U_n (ai_ne h10 h3 (by decide))).trans h10, (ai_U_n (ai_ne h11 h3 (by decide))).trans h11, (ai_U_n (ai_ne h12 h3 (by decide))).trans h12⟩
theorem ai_O.r4 {G : ai_G} {M : ai_M} {t : Int32} {S : ai_S} {mo : Nat} {ma : Nat → Nat} (h : ai_O G M t S mo ma) (i v : Nat) : ai_O G (ai_U M (ma 4) 24 (ai_eI G 20 (upd (fun j => nI (S 4 j)) i (nI v)))) t (ai_u S 4 i v) mo ma := by
  obtain ⟨h0, h1, h2, h3, h4, h5, h6, h7, h8, h9, h10, h11, h12⟩ := h
  exact ⟨(ai_U_n (ai_ne h0 h4 (by decide))).trans h0, (ai_U_n (ai_ne h1 h4 (by decide))).trans h1, (ai_U_n (ai_ne h2 h4 (by decide))).trans h2, (ai_U_n (ai_ne h3 h4 (by decide))).trans h3, ai_U_s.trans (by rw [ai_upu nI S 4 i v]), (ai_U_n (ai_ne h5 h4 (by decide))).trans h5, (ai_U_n (ai_ne h6 h4 (by decide))).trans h6, (ai_U_n (ai_ne h7 h4 (by decide))).trans h7, (ai_U_n (ai_ne h8 h4 (by decide))).trans h8, (ai_U_n (ai_ne h9 h4 (by decide))).trans h9, (ai_U_n (ai_ne h10 h4 (by decide))).trans h10, (ai_U_n (ai_ne h11 h4 (by decide))).trans h11, (ai_U_n (ai_ne h12 h4 (by decide))).trans h12⟩
theorem ai_O.r5 {G : ai_G} {M : ai_M} {t : Int32} {S : ai_S} {mo : Nat} {ma : Nat → Nat} (h : ai_O G M t S mo ma) (i v : Nat) : ai_O G (ai_U M (ma 5) 25 (ai_eI G 20 (upd (fun j => nI (S 5 j)) i (nI v)))) t (ai_u S 5 i v) mo ma := by
  obtain ⟨h0, h1, h2, h3, h4, h5, h6, h7, h8, h9, h10, h11, h12⟩ := h
  exact ⟨(ai_U_n (ai_ne h0 h5 (by decide))).trans h0, (ai_U_n (ai_ne h1 h5 (by decide))).trans h1, (ai_U_n (ai_ne h2 h5 (by decide))).trans h2, (ai_U_n (ai_ne h3 h5 (by decide))).trans h3, (ai_U_n (ai_ne h4 h5 (by decide))).trans h4, ai_U_s.trans (by rw [ai_upu nI S 5 i v]), (ai_U_n (ai_ne h6 h5 (by decide))).trans h6, (ai_U_n (ai_ne h7 h5 (by decide))).trans h7, (ai_U_n (ai_ne h8 h5 (by decide))).trans h8, (ai_U_n (ai_ne h9 h5 (by decide))).trans h9, (ai_U_n (ai_ne h10 h5 (by decide))).trans h10, (ai_U_n (ai_ne h11 h5 (by decide))).trans h11, (ai_U_n (ai_ne h12 h5 (by decide))).trans h12⟩
theorem ai_O.r6 {G : ai_G} {M : ai_M} {t : Int32} {S : ai_S} {mo : Nat} {ma : Nat → Nat} (h : ai_O G M t S mo ma) (i v : Nat) : ai_O G (ai_U M (ma 6) 26 (ai_eI G 20 (upd (fun j => nI (S 6 j)) i (nI v)))) t (ai_u S 6 i v) mo ma := by
  obtain ⟨h0, h1, h2, h3, h4, h5, h6, h7, h8, h9, h10, h11, h12⟩ := h
  exact ⟨(ai_U_n (ai_ne h0 h6 (by decide))).trans h0, (ai_U_n (ai_ne h1 h6 (by decide))).trans h1, (ai_U_n (ai_ne h2 h6 (by decide))).trans h2, (ai_U_n (ai_ne h3 h6 (by decide))).trans h3, (ai_U_n (ai_ne h4 h6 (by decide))).trans h4, (ai_U_n (ai_ne h5 h6 (by decide))).trans h5, ai_U_s.trans (by rw [ai_upu nI S 6 i v]), (ai_U_n (ai_ne h7 h6 (by decide))).trans h7, (ai_U_n (ai_ne h8 h6 (by decide))).trans h8, (ai_U_n (ai_ne h9 h6 (by decide))).trans h9, (ai_U_n (ai_ne h10 h6 (by decide))).trans h10, (ai_U_n (ai_ne h11 h6 (by decide))).trans h11, (ai_U_n (ai_ne h12 h6 (by decide))).trans h12⟩
theorem ai_O.r7 {G : ai_G} {M : ai_M} {t : Int32} {S : ai_S} {mo : Nat} {ma : Nat → Nat} (h : ai_O G M t S mo ma) (i v : Nat) : ai_O G (ai_U M (ma 7) 27 (ai_eI G 20 (upd (fun j => nI (S 7 j)) i (nI v)))) t (ai_u S 7 i v) mo ma := by
  obtain ⟨h0, h1, h2, h3, h4, h5, h6, h7, h8, h9, h10, h11, h12⟩ := h
  exact ⟨(ai_U_n (ai_ne h0 h7 (by decide))).trans h0, (ai_U_n (ai_ne h1 h7 (by decide))).trans h1, (ai_U_n (ai_ne h2 h7 (by decide))).trans h2, (ai_U_n (ai_ne h3 h7 (by decide))).trans h3, (ai_U_n (ai_ne h4 h7 (by decide))).trans h4, (ai_U_n (ai_ne h5 h7 (by decide))).trans h5, (ai_U_n (ai_ne h6 h7 (by decide))).trans h6, ai_U_s.trans (by rw [ai_upu nI S 7 i v]), (ai_U_n (ai_ne h8 h7 (by decide))).trans h8, (ai_U_n (ai_ne h9 h7 (by decide))).trans h9, (ai_U_n (ai_ne h10 h7 (by decide))).trans h10, (ai_U_n (ai_ne h11 h7 (by decide))).trans h11, (ai_U_n (ai_ne h12 h7 (by decide))).trans h12⟩
theorem ai_O.r8 {G : ai_G} {M : ai_M} {t : Int32} {S : ai_S} {mo : Nat} {ma : Nat → Nat} (h : ai_O G M t S mo ma) (i v : Nat) : ai_O G (ai_U M (ma 8) 28 (ai_eI G 60 (upd (fun j => nI (S 8 j)) i (nI v)))) t (ai_u S 8 i v) mo ma := by
  obtain ⟨h0, h1, h2, h3, h4, h5, h6, h7, h8, h9, h10, h11, h12⟩ := h
  exact ⟨(ai_U_n (ai_ne h0 h8 (by decide))).trans h0, (ai_U_n (ai_ne h1 h8 (by decide))).trans h1, (ai_U_n (ai_ne h2 h8 (by decide))).trans h2, (ai_U_n (ai_ne h3 h8 (by decide))).trans h3, (ai_U_n (ai_ne h4 h8 (by decide))).trans h4, (ai_U_n (ai_ne h5 h8 (by decide))).trans h5, (ai_U_n (ai_ne h6 h8 (by decide))).trans h6, (ai_U_n (ai_ne h7 h8 (by decide))).trans h7, ai_U_s.trans (by rw [ai_upu nI S 8 i v]), (ai_U_n (ai_ne h9 h8 (by decide))).trans h9, (ai_U_n (ai_ne h10 h8 (by decide))).trans h10, (ai_U_n (ai_ne h11 h8 (by decide))).trans h11, (ai_U_n (ai_ne h12 h8 (by decide))).trans h12⟩
theorem ai_O.r9 {G : ai_G} {M : ai_M} {t : Int32} {S : ai_S} {mo : Nat} {ma : Nat → Nat} (h : ai_O G M t S mo ma) (i v : Nat) : ai_O G (ai_U M (ma 9) 29 (ai_eI G 240 (upd (fun j => nI (S 9 j)) i (nI v)))) t (ai_u S 9 i v) mo ma := by
  obtain ⟨h0, h1, h2, h3, h4, h5, h6, h7, h8, h9, h10, h11, h12⟩ := h
  exact ⟨(ai_U_n (ai_ne h0 h9 (by decide))).trans h0, (ai_U_n (ai_ne h1 h9 (by decide))).trans h1, (ai_U_n (ai_ne h2 h9 (by decide))).trans h2, (ai_U_n (ai_ne h3 h9 (by decide))).trans h3, (ai_U_n (ai_ne h4 h9 (by decide))).trans h4, (ai_U_n (ai_ne h5 h9 (by decide))).trans h5, (ai_U_n (ai_ne h6 h9 (by decide))).trans h6, (ai_U_n (ai_ne h7 h9 (by decide))).trans h7, (ai_U_n (ai_ne h8 h9 (by decide))).trans h8, ai_U_s.trans (by rw [ai_upu nI S 9 i v]), (ai_U_n (ai_ne h10 h9 (by decide))).trans h10, (ai_U_n (ai_ne h11 h9 (by decide))).trans h11, (ai_U_n (ai_ne h12 h9 (by decide))).trans h12⟩
theorem ai_O.r10 {G : ai_G} {M : ai_M} {t : Int32} {S : ai_S} {mo : Nat} {ma : Nat → Nat} (h : ai_O G M t S mo ma) (i v : Nat) : ai_O G (ai_U M (ma 10) 30 (ai_eI G 240 (upd (fun j => nI (S 10 j)) i (nI v)))) t (ai_u S 10 i v) mo ma := by
  obtain ⟨h0, h1, h2, h3, h4, h5, h6, h7, h8, h9, h10, h11, h12⟩ := h
  exact ⟨(ai_U_n (ai_ne h0 h10 (by decide))).trans h0, (ai_U_n (ai_ne h1 h10 (by decide))).trans h1, (ai_U_n (ai_ne h2 h10 (by decide))).trans h2, (ai_U_n (ai_ne h3 h10 (by decide))).trans h3, (ai_U_n (ai_ne h4 h10 (by decide))).trans h4, (ai_U_n (ai_ne h5 h10 (by decide))).trans h5, (ai_U_n (ai_ne h6 h10 (by decide))).trans h6, (ai_U_n (ai_ne h7 h10 (by decide))).trans h7, (ai_U_n (ai_ne h8 h10 (by decide))).trans h8, (ai_U_n (ai_ne h9 h10 (by decide))).trans h9, ai_U_s.trans (by rw [ai_upu nI S 10 i v]), (ai_U_n (ai_ne h11 h10 (by decide))).trans h11, (ai_U_n (ai_ne h12 h10 (by decide))).trans h12⟩
theorem ai_O.r11 {G : ai_G} {M : ai_M} {t : Int32} {S : ai_S} {mo : Nat} {ma : Nat → Nat} (h : ai_O G M t S mo ma) (i v : Nat) : ai_O G (ai_U M (ma 11) 31 (ai_eI G 240 (upd (fun j => nI (S 11 j)) i (nI v)))) t (ai_u S 11 i v) mo ma := by
  obtain ⟨h0, h1, h2, h3, h4, h5, h6, h7, h8, h9, h10, h11, h12⟩ := h
  exact ⟨(ai_U_n (ai_ne h0 h11 (by decide))).trans h0, (ai_U_n (ai_ne h1 h11 (by decide))).trans h1, (ai_U_n (ai_ne h2 h11 (by decide))).trans h2, (ai_U_n (ai_ne h3 h11 (by decide))).trans h3, (ai_U_n (ai_ne h4 h11 (by decide))).trans h4, (ai_U_n (ai_ne h5 h11 (by decide))).trans h5, (ai_U_n (ai_ne h6 h11 (by decide))).trans h6, (ai_U_n (ai_ne h7 h11 (by decide))).trans h7, (ai_U_n (ai_ne h8 h11 (by decide))).trans h8, (ai_U_n (ai_ne h9 h11 (by decide))).trans h9, (ai_U_n (ai_ne h10 h11 (by decide))).trans h10, ai_U_s.trans (by rw [ai_upu nI S 11 i v]), (ai_U_n (ai_ne h12 h11 (by decide))).trans h12⟩
theorem ai_O.r12 {G : ai_G} {M : ai_M} {t : Int32} {S : ai_S} {mo : Nat} {ma : Nat → Nat} (h : ai_O G M t S mo ma) (i v : Nat) : ai_O G (ai_U M (ma 12) 32 (ai_eZ G 240 (upd (fun j => nI (S 12 j)) i (nI v)))) t (ai_u S 12 i v) mo ma := by
  obtain ⟨h0, h1, h2, h3, h4, h5, h6, h7, h8, h9, h10, h11, h12⟩ := h
  exact ⟨(ai_U_n (ai_ne h0 h12 (by decide))).trans h0, (ai_U_n (ai_ne h1 h12 (by decide))).trans h1, (ai_U_n (ai_ne h2 h12 (by decide))).trans h2, (ai_U_n (ai_ne h3 h12 (by decide))).trans h3, (ai_U_n (ai_ne h4 h12 (by decide))).trans h4, (ai_U_n (ai_ne h5 h12 (by decide))).trans h5, (ai_U_n (ai_ne h6 h12 (by decide))).trans h6, (ai_U_n (ai_ne h7 h12 (by decide))).trans h7, (ai_U_n (ai_ne h8 h12 (by decide))).trans h8, (ai_U_n (ai_ne h9 h12 (by decide))).trans h9, (ai_U_n (ai_ne h10 h12 (by decide))).trans h10, (ai_U_n (ai_ne h11 h12 (by decide))).trans h11, ai_U_s.trans (by rw [ai_upu nI S 12 i v])⟩
set_option maxHeartbeats 4000000 in
set_option maxRecDepth 100000 in
theorem k_X7_thrown (l : Launch) (G : ai_G) (M : ai_M) {t0 : Int32} {S : ai_S} {mo : Nat} {ma : Nat → Nat} (hO : ai_O G M t0 S mo ma) : ai_C l yX7_thrown wsX7_thrown ({ frames := 0, cells := 0, slots := 0, locals := 0 } : Room) 0 0 G M [.ref mo] (fun r M1 => r = some (.int t0) ∧ M1 = M) := by
  refine y_start (by decide +kernel) rfl (Nat.le_of_ble_eq_true rfl) (Nat.le_of_ble_eq_true rfl) (fun x hx => by simp only [List.mem_cons, List.not_mem_nil, or_false] at hx; rcases hx with rfl <;> rfl) ?_
  intro p e s m below meth c B hnm
  obtain ⟨a0, a1, a2, a3, a4, a5, a6, a7, a8, a9, a10, a11, a12⟩ := id hO
  refine y_aload_n B dX7_thrown_0 rfl ?_
  refine y_get B (ref := "AlertIndexModel") (ci := 8) (C := RX7) (T := TX7) (N := 15) a0 rfl i_X7_thrown_X7 0 (by decide) (by decide +kernel) (fun _ h9 => h9) rfl dX7_thrown_1 ?_
  exact y_iret B dX7_thrown_4 (Nat.le_of_ble_eq_true rfl) (Nat.le_of_ble_eq_true rfl) (⟨rfl, rfl⟩)
set_option maxHeartbeats 4000000 in
set_option maxRecDepth 100000 in
theorem k_X7_holds (l : Launch) (G : ai_G) (M : ai_M) {t0 : Int32} {S : ai_S} {mo : Nat} {ma : Nat → Nat} (hO : ai_O G M t0 S mo ma) {z : Int32} : ai_C l yX7_holds wsX7_holds ({ frames := 0, cells := 0, slots := 0, locals := 0 } : Room) 0 0 G M [.ref mo, .int z] (fun r M1 => r = some (.int (ai_b (decide (z = 0)))) ∧ ai_O G M1 z S mo ma ∧ ai_km M M1) := by
  refine y_start (by decide +kernel) rfl (Nat.le_of_ble_eq_true rfl) (Nat.le_of_ble_eq_true rfl) (fun x hx => by simp only [List.mem_cons, List.not_mem_nil, or_false] at hx; rcases hx with rfl | rfl <;> rfl) ?_
  intro p e s m below meth c B hnm
  obtain ⟨a0, a1, a2, a3, a4, a5, a6, a7, a8, a9, a10, a11, a12⟩ := id hO
  refine y_aload_n B dX7_holds_0 rfl ?_
  refine y_iload_n B dX7_holds_1 rfl ?_
  refine y_put B (ref := "AlertIndexModel") (ci := 8) (C := RX7) (T := TX7) (N := 15) (ty := .int) a0 rfl i_X7_holds_X7 tyX7 tyX7_ok nmX7 0 (by decide) (by decide +kernel) (fun _ h9 => h9) rfl (by decide +kernel) rfl rfl (Nat.le_of_ble_eq_true rfl) dX7_holds_2 ?_
  have hO1 := hO.ot z
  have hk1 : ai_km M _ := ai_km.U (e1 := .inr (8, [.int z, .int (nI (S 0 1)), .int (nI (S 0 2)), .ref (ma 1), .ref (ma 2), .ref (ma 3), .ref (ma 4), .ref (ma 5), .ref (ma 6), .ref (ma 7), .ref (ma 8), .ref (ma 9), .ref (ma 10), .ref (ma 11), .ref (ma 12)])) a0 (by decide)
  refine y_iload_n B dX7_holds_5 rfl ?_
  refine y_if_ne B 13 dX7_holds_6 (by decide) (fun c6 => ?_) (fun c6 => ?_)
  · refine y_iconst B (nI 0) dX7_holds_13 (by decide +kernel) ?_
    exact y_zret B dX7_holds_14 (Nat.le_of_ble_eq_true rfl) (Nat.le_of_ble_eq_true rfl) rfl (⟨by rw [decide_eq_false c6]; rfl, hO1, hk1⟩)
  · refine y_iconst B (nI 1) dX7_holds_9 (by decide +kernel) ?_
    refine y_goto B 14 dX7_holds_10 (by decide) ?_
    exact y_zret B dX7_holds_14 (Nat.le_of_ble_eq_true rfl) (Nat.le_of_ble_eq_true rfl) rfl (⟨by rw [decide_eq_true c6]; rfl, hO1, hk1⟩)
set_option maxHeartbeats 4000000 in
set_option maxRecDepth 100000 in
theorem k_X7_isIn (l : Launch) (G : ai_G) (M : ai_M) {x lo hi : Int32} : ai_C l yX7_isIn wsX7_isIn ({ frames := 0, cells := 0, slots := 0, locals := 0 } : Room) 0 0 G M [.int x, .int lo, .int hi] (fun r M1 => r = some (.int (ai_b (decide (lo ≤ x ∧ x ≤ hi)))) ∧ M1 = M) := by
  refine y_start (by decide +kernel) rfl (Nat.le_of_ble_eq_true rfl) (Nat.le_of_ble_eq_true rfl) (fun x hx => by simp only [List.mem_cons, List.not_mem_nil, or_false] at hx; rcases hx with rfl | rfl | rfl <;> rfl) ?_
  intro p e s m below meth c B hnm
  refine y_iload_n B dX7_isIn_0 rfl ?_
  refine y_iload_n B dX7_isIn_1 rfl ?_
  refine y_icmp_lt B 14 dX7_isIn_2 (by decide) (fun c2 => ?_) (fun c2 => ?_)
  · refine y_iconst B (nI 0) dX7_isIn_14 (by decide +kernel) ?_
    exact y_zret B dX7_isIn_15 (Nat.le_of_ble_eq_true rfl) (Nat.le_of_ble_eq_true rfl) rfl (⟨by rw [decide_eq_false (fun z => absurd z.1 (Int32.not_le.mpr c2))]; rfl, rfl⟩)
  · refine y_iload_n B dX7_isIn_5 rfl ?_
    refine y_iload_n B dX7_isIn_6 rfl ?_
    refine y_icmp_gt B 14 dX7_isIn_7 (by decide) (fun c7 => ?_) (fun c7 => ?_)
    · refine y_iconst B (nI 0) dX7_isIn_14 (by decide +kernel) ?_
      exact y_zret B dX7_isIn_15 (Nat.le_of_ble_eq_true rfl) (Nat.le_of_ble_eq_true rfl) rfl (⟨by rw [decide_eq_false (fun z => absurd z.2 (Int32.not_le.mpr c7))]; rfl, rfl⟩)
    · refine y_iconst B (nI 1) dX7_isIn_10 (by decide +kernel) ?_
      refine y_goto B 15 dX7_isIn_11 (by decide) ?_
      exact y_zret B dX7_isIn_15 (Nat.le_of_ble_eq_true rfl) (Nat.le_of_ble_eq_true rfl) rfl (⟨by rw [decide_eq_true ⟨Int32.not_lt.mp c2, Int32.not_lt.mp c7⟩]; rfl, rfl⟩)
theorem ai_r_in {z : Int32} {n : Nat} (hn : n ≤ 1001) : decide (nI 0 ≤ z ∧ z ≤ nI n - nI 1) = ai_r z n := by
  unfold ai_r
  have e : (nI n - nI 1).toInt = (n : Int) - 1 := pk_sub_toInt (a := n) (b := 1) (by omega) (by omega)
  have e0 : (nI 0).toInt = 0 := by decide
  refine decide_eq_decide.mpr ?_
  rw [Int32.le_iff_toInt_le, Int32.le_iff_toInt_le, e, e0]
  omega
theorem ai_r_in2 {z : Int32} {n : Nat} (hn : n ≤ 1000) : decide (nI 0 ≤ z ∧ z ≤ nI n) = ai_r z (n + 1) := by
  rw [← ai_r_in (by omega), pk_sub (by omega), Nat.add_sub_cancel]
theorem ai_bsp {x : Bool} : ai_b x = 0 ∨ ai_b x = nI 1 := by cases x; exact Or.inl rfl; exact Or.inr rfl
set_option maxHeartbeats 4000000 in
set_option maxRecDepth 100000 in
theorem k_X7_isQuestion (l : Launch) (G : ai_G) (M : ai_M) {t0 : Int32} {S : ai_S} {mo : Nat} {ma : Nat → Nat} (hO : ai_O G M t0 S mo ma) (hn : S 0 2 ≤ 20) (hd : ∀ q, q < S 0 2 → S 2 q ≤ 1) {z : Int32} : ai_C l yX7_isQuestion wsX7_isQuestion ({ frames := 1, cells := 0, slots := 0, locals := 22 } : Room) 0 0 G M [.ref mo, .int z] (fun r M1 => r = some (.int (ai_b (ai_qo S z))) ∧ M1 = M) := by
  refine y_start (by decide +kernel) rfl (Nat.le_of_ble_eq_true rfl) (Nat.le_of_ble_eq_true rfl) (fun x hx => by simp only [List.mem_cons, List.not_mem_nil, or_false] at hx; rcases hx with rfl | rfl <;> rfl) ?_
  intro p e s m below meth c B hnm
  obtain ⟨a0, a1, a2, a3, a4, a5, a6, a7, a8, a9, a10, a11, a12⟩ := id hO
  refine y_iload_n B dX7_isQuestion_0 rfl ?_
  refine y_iconst B (nI 0) dX7_isQuestion_1 (by decide +kernel) ?_
  refine y_aload_n B dX7_isQuestion_2 rfl ?_
  refine y_get B (ref := "AlertIndexModel") (ci := 8) (C := RX7) (T := TX7) (N := 15) a0 rfl i_X7_isQuestion_X7 2 (by decide) (by decide +kernel) (fun _ h9 => h9) rfl dX7_isQuestion_3 ?_
  refine y_iconst B (nI 1) dX7_isQuestion_6 (by decide +kernel) ?_
  refine y_isub B (nI (S 0 2) - nI 1) dX7_isQuestion_7 (rfl) ?_
  refine y_callS B 3 _ _ (k_X7_isIn l G _) gX7_isQuestion_X7_isIn (by decide +kernel) rfl rfl rfl rfl ⟨(Nat.le_of_ble_eq_true rfl), (Nat.le_of_ble_eq_true rfl)⟩ (Nat.le_of_ble_eq_true rfl) ⟨(Nat.le_of_ble_eq_true rfl), (Nat.le_of_ble_eq_true rfl)⟩ dX7_isQuestion_8 rfl (fun r M1 hr => ?_)
  obtain ⟨rfl, e9⟩ := hr
  obtain rfl := e9.symm
  rw [ai_r_in (by omega)]
  refine y_if_eq B 27 dX7_isQuestion_11 (by decide) (fun c11 => ?_) (fun c11 => ?_)
  · have q11 := (ai_b0 _).mp c11
    refine y_iconst B (nI 0) dX7_isQuestion_27 (by decide +kernel) ?_
    exact y_zret B dX7_isQuestion_28 (Nat.le_of_ble_eq_true rfl) (Nat.le_of_ble_eq_true rfl) rfl (⟨by rw [ai_qo_n q11]; rfl, rfl⟩)
  · have q11 := ai_b1 c11
    obtain ⟨q, hq, rfl⟩ := ai_r_of (by omega) q11
    have hd9 := hd q hq
    refine y_aload_n B dX7_isQuestion_14 rfl ?_
    refine y_get B (ref := "AlertIndexModel") (ci := 8) (C := RX7) (T := TX7) (N := 15) a0 rfl i_X7_isQuestion_X7 4 (by decide) (by decide +kernel) (fun _ h9 => h9) rfl dX7_isQuestion_15 ?_
    refine y_iload_n B dX7_isQuestion_18 rfl ?_
    refine y_baloadZ B (nI (S 2 q)) a2 (vp_in_nI (by omega) (by decide)) (by rw [nI_clamp (by omega)]) dX7_isQuestion_19 ?_
    refine y_if_ne B 27 dX7_isQuestion_20 (by decide) (fun c20 => ?_) (fun c20 => ?_)
    · have q20 : ¬ S 2 q = 0 := fun z => c20 (by rw [z]; rfl)
      refine y_iconst B (nI 0) dX7_isQuestion_27 (by decide +kernel) ?_
      exact y_zret B dX7_isQuestion_28 (Nat.le_of_ble_eq_true rfl) (Nat.le_of_ble_eq_true rfl) rfl (⟨by rw [ai_qo_d hn hq q20]; rfl, rfl⟩)
    · have q20 : S 2 q = 0 := (nI_eq (by omega) (by decide)).mp c20
      refine y_iconst B (nI 1) dX7_isQuestion_23 (by decide +kernel) ?_
      refine y_goto B 28 dX7_isQuestion_24 (by decide) ?_
      exact y_zret B dX7_isQuestion_28 (Nat.le_of_ble_eq_true rfl) (Nat.le_of_ble_eq_true rfl) rfl (⟨by rw [ai_qo_t hn hq q20]; rfl, rfl⟩)
set_option maxHeartbeats 4000000 in
set_option maxRecDepth 100000 in
theorem k_X7_isName (l : Launch) (G : ai_G) (M : ai_M) {z : Int32} : ai_C l yX7_isName wsX7_isName ({ frames := 1, cells := 0, slots := 0, locals := 22 } : Room) 0 0 G M [.int z] (fun r M1 => r = some (.int (ai_b (ai_r z 6))) ∧ M1 = M) := by
  refine y_start (by decide +kernel) rfl (Nat.le_of_ble_eq_true rfl) (Nat.le_of_ble_eq_true rfl) (fun x hx => by simp only [List.mem_cons, List.not_mem_nil, or_false] at hx; rcases hx with rfl <;> rfl) ?_
  intro p e s m below meth c B hnm
  refine y_iload_n B dX7_isName_0 rfl ?_
  refine y_iconst B (nI 0) dX7_isName_1 (by decide +kernel) ?_
  refine y_iconst B (nI 5) dX7_isName_2 (by decide +kernel) ?_
  refine y_callS B 3 _ _ (k_X7_isIn l G _) gX7_isName_X7_isIn (by decide +kernel) rfl rfl rfl rfl ⟨(Nat.le_of_ble_eq_true rfl), (Nat.le_of_ble_eq_true rfl)⟩ (Nat.le_of_ble_eq_true rfl) ⟨(Nat.le_of_ble_eq_true rfl), (Nat.le_of_ble_eq_true rfl)⟩ dX7_isName_3 rfl (fun r M1 hr => ?_)
  obtain ⟨rfl, e9⟩ := hr
  obtain rfl := e9.symm
  rw [ai_r_in2 (n := 5) (by omega)]
  exact y_zret B dX7_isName_6 (Nat.le_of_ble_eq_true rfl) (Nat.le_of_ble_eq_true rfl) (ai_bn _) (⟨rfl, rfl⟩)
theorem ai_rg_in {lo hi : Int32} (h : ai_r lo 64 = true) : decide (lo ≤ hi ∧ hi ≤ nI 63) = ai_rg lo hi := by
  unfold ai_rg
  rw [h, Bool.true_and]
  obtain ⟨u, hu, rfl⟩ := ai_r_of (by decide) h
  unfold ai_r
  rw [← Bool.decide_and]
  refine decide_eq_decide.mpr ?_
  have e : (nI 63).toInt = 63 := by decide
  rw [Int32.le_iff_toInt_le, Int32.le_iff_toInt_le, e, nI_toInt (by omega)]
  omega
set_option maxHeartbeats 4000000 in
set_option maxRecDepth 100000 in
theorem k_X7_isRange (l : Launch) (G : ai_G) (M : ai_M) {lo hi : Int32} : ai_C l yX7_isRange wsX7_isRange ({ frames := 1, cells := 0, slots := 0, locals := 22 } : Room) 0 0 G M [.int lo, .int hi] (fun r M1 => r = some (.int (ai_b (ai_rg lo hi))) ∧ M1 = M) := by
  refine y_start (by decide +kernel) rfl (Nat.le_of_ble_eq_true rfl) (Nat.le_of_ble_eq_true rfl) (fun x hx => by simp only [List.mem_cons, List.not_mem_nil, or_false] at hx; rcases hx with rfl | rfl <;> rfl) ?_
  intro p e s m below meth c B hnm
  refine y_iload_n B dX7_isRange_0 rfl ?_
  refine y_iconst B (nI 0) dX7_isRange_1 (by decide +kernel) ?_
  refine y_bipush B (nI 63) dX7_isRange_2 (by decide +kernel) ?_
  refine y_callS B 3 _ _ (k_X7_isIn l G _) gX7_isRange_X7_isIn (by decide +kernel) rfl rfl rfl rfl ⟨(Nat.le_of_ble_eq_true rfl), (Nat.le_of_ble_eq_true rfl)⟩ (Nat.le_of_ble_eq_true rfl) ⟨(Nat.le_of_ble_eq_true rfl), (Nat.le_of_ble_eq_true rfl)⟩ dX7_isRange_4 rfl (fun r M1 hr => ?_)
  obtain ⟨rfl, e9⟩ := hr
  obtain rfl := e9.symm
  rw [ai_r_in2 (n := 63) (by omega)]
  refine y_if_eq B 24 dX7_isRange_7 (by decide) (fun c7 => ?_) (fun c7 => ?_)
  · have q7 := (ai_b0 _).mp c7
    refine y_iconst B (nI 0) dX7_isRange_24 (by decide +kernel) ?_
    exact y_zret B dX7_isRange_25 (Nat.le_of_ble_eq_true rfl) (Nat.le_of_ble_eq_true rfl) rfl (⟨by unfold ai_rg; rw [q7]; rfl, rfl⟩)
  · have q7 := ai_b1 c7
    refine y_iload_n B dX7_isRange_10 rfl ?_
    refine y_iload_n B dX7_isRange_11 rfl ?_
    refine y_bipush B (nI 63) dX7_isRange_12 (by decide +kernel) ?_
    refine y_callS B 3 _ _ (k_X7_isIn l G _) gX7_isRange_X7_isIn (by decide +kernel) rfl rfl rfl rfl ⟨(Nat.le_of_ble_eq_true rfl), (Nat.le_of_ble_eq_true rfl)⟩ (Nat.le_of_ble_eq_true rfl) ⟨(Nat.le_of_ble_eq_true rfl), (Nat.le_of_ble_eq_true rfl)⟩ dX7_isRange_14 rfl (fun r M1 hr => ?_)
    obtain ⟨rfl, e9⟩ := hr
    obtain rfl := e9.symm
    rw [ai_rg_in q7]
    refine y_if_eq B 24 dX7_isRange_17 (by decide) (fun c17 => ?_) (fun c17 => ?_)
    · have q17 := (ai_b0 _).mp c17
      refine y_iconst B (nI 0) dX7_isRange_24 (by decide +kernel) ?_
      exact y_zret B dX7_isRange_25 (Nat.le_of_ble_eq_true rfl) (Nat.le_of_ble_eq_true rfl) rfl (⟨by rw [q17]; rfl, rfl⟩)
    · have q17 := ai_b1 c17
      refine y_iconst B (nI 1) dX7_isRange_20 (by decide +kernel) ?_
      refine y_goto B 25 dX7_isRange_21 (by decide) ?_
      exact y_zret B dX7_isRange_25 (Nat.le_of_ble_eq_true rfl) (Nat.le_of_ble_eq_true rfl) rfl (⟨by rw [q17]; rfl, rfl⟩)
theorem ai_in_w {v w lo hi : Nat} (h : v = w + 1) : ai_in v lo hi = decide (lo ≤ w ∧ w ≤ hi) := by
  subst h
  unfold ai_in
  rw [← Bool.decide_and]
  exact decide_eq_decide.mpr (by omega)
theorem ai_in_0 {lo hi : Nat} : ai_in 0 lo hi = false := by
  unfold ai_in
  rw [decide_eq_false (by omega), Bool.false_and]
set_option maxHeartbeats 4000000 in
set_option maxRecDepth 100000 in
theorem k_X7_isTrue (l : Launch) (G : ai_G) (M : ai_M) {t0 : Int32} {S : ai_S} {mo : Nat} {ma : Nat → Nat} (hO : ai_O G M t0 S mo ma) {k : Nat} (hk : k < 240) (hT : ai_okT S k) (hv : S 1 (S 9 k) ≤ 64) : ai_C l yX7_isTrue wsX7_isTrue ({ frames := 0, cells := 0, slots := 0, locals := 0 } : Room) 0 0 G M [.ref mo, .int (nI k)] (fun r M1 => r = some (.int (ai_b (ai_tk S k))) ∧ M1 = M) := by
  refine y_start (by decide +kernel) rfl (Nat.le_of_ble_eq_true rfl) (Nat.le_of_ble_eq_true rfl) (fun x hx => by simp only [List.mem_cons, List.not_mem_nil, or_false] at hx; rcases hx with rfl | rfl <;> rfl) ?_
  intro p e s m below meth c B hnm
  obtain ⟨a0, a1, a2, a3, a4, a5, a6, a7, a8, a9, a10, a11, a12⟩ := id hO
  obtain ⟨hT1, hT2, hT3, hT4⟩ := hT
  refine y_aload_n B dX7_isTrue_0 rfl ?_
  refine y_get B (ref := "AlertIndexModel") (ci := 8) (C := RX7) (T := TX7) (N := 15) a0 rfl i_X7_isTrue_X7 3 (by decide) (by decide +kernel) (fun _ h9 => h9) rfl dX7_isTrue_1 ?_
  refine y_aload_n B dX7_isTrue_4 rfl ?_
  refine y_get B (ref := "AlertIndexModel") (ci := 8) (C := RX7) (T := TX7) (N := 15) a0 rfl i_X7_isTrue_X7 11 (by decide) (by decide +kernel) (fun _ h9 => h9) rfl dX7_isTrue_5 ?_
  refine y_iload_n B dX7_isTrue_8 rfl ?_
  refine y_ialoadI B (nI (S 9 k)) a9 (vp_in_nI hk (by decide)) (by rw [nI_clamp (by omega)]) dX7_isTrue_9 ?_
  refine y_ialoadI B (ai_nD (S 1 (S 9 k))) a1 (vp_in_nI hT1 (by decide)) (by rw [nI_clamp (by omega)]) dX7_isTrue_10 ?_
  refine y_istore_n B dX7_isTrue_11 (Nat.le_of_ble_eq_true rfl) ?_
  refine y_iload_n B dX7_isTrue_12 rfl ?_
  refine y_iconst B (-1) dX7_isTrue_13 (by decide +kernel) ?_
  refine y_icmp_eq B 41 dX7_isTrue_14 (by decide) (fun c14 => ?_) (fun c14 => ?_)
  · have q14 := (ai_nDz hv).mp c14
    refine y_iconst B (nI 0) dX7_isTrue_41 (by decide +kernel) ?_
    refine y_istore_n B dX7_isTrue_42 (Nat.le_of_ble_eq_true rfl) ?_
    refine y_iload_n B dX7_isTrue_43 rfl ?_
    refine y_aload_n B dX7_isTrue_44 rfl ?_
    refine y_get B (ref := "AlertIndexModel") (ci := 8) (C := RX7) (T := TX7) (N := 15) a0 rfl i_X7_isTrue_X7 14 (by decide) (by decide +kernel) (fun _ h9 => h9) rfl dX7_isTrue_45 ?_
    refine y_iload_n B dX7_isTrue_48 rfl ?_
    refine y_baloadZ B (nI (S 12 k)) a12 (vp_in_nI hk (by decide)) (by rw [nI_clamp (by omega)]) dX7_isTrue_49 ?_
    have q50 := ai_tk_val (x := false) (by rw [q14, ai_in_0]) hT4
    refine y_icmp_eq B 57 dX7_isTrue_50 (by decide) (fun c50 => ?_) (fun c50 => ?_)
    · have q51 := q50.1 c50
      refine y_iconst B (nI 0) dX7_isTrue_57 (by decide +kernel) ?_
      exact y_zret B dX7_isTrue_58 (Nat.le_of_ble_eq_true rfl) (Nat.le_of_ble_eq_true rfl) rfl (⟨by rw [q51]; rfl, rfl⟩)
    · have q51 := q50.2 c50
      refine y_iconst B (nI 1) dX7_isTrue_53 (by decide +kernel) ?_
      refine y_goto B 58 dX7_isTrue_54 (by decide) ?_
      exact y_zret B dX7_isTrue_58 (Nat.le_of_ble_eq_true rfl) (Nat.le_of_ble_eq_true rfl) rfl (⟨by rw [q51]; rfl, rfl⟩)
  · have q14 : ¬ S 1 (S 9 k) = 0 := fun z => c14 ((ai_nDz hv).mpr z)
    obtain ⟨w, hw⟩ : ∃ w, S 1 (S 9 k) = w + 1 := ⟨S 1 (S 9 k) - 1, by omega⟩
    have ew : ai_nD (S 1 (S 9 k)) = nI w := by rw [hw]; rfl
    rw [ew]
    refine y_iload_n B dX7_isTrue_17 rfl ?_
    refine y_aload_n B dX7_isTrue_18 rfl ?_
    refine y_get B (ref := "AlertIndexModel") (ci := 8) (C := RX7) (T := TX7) (N := 15) a0 rfl i_X7_isTrue_X7 12 (by decide) (by decide +kernel) (fun _ h9 => h9) rfl dX7_isTrue_19 ?_
    refine y_iload_n B dX7_isTrue_22 rfl ?_
    refine y_ialoadI B (nI (S 10 k)) a10 (vp_in_nI hk (by decide)) (by rw [nI_clamp (by omega)]) dX7_isTrue_23 ?_
    refine y_icmp_lt B 41 dX7_isTrue_24 (by decide) (fun c24 => ?_) (fun c24 => ?_)
    · have q24 : w < S 10 k := (nI_ltI (by omega) (by omega)).mp c24
      refine y_iconst B (nI 0) dX7_isTrue_41 (by decide +kernel) ?_
      refine y_istore_n B dX7_isTrue_42 (Nat.le_of_ble_eq_true rfl) ?_
      refine y_iload_n B dX7_isTrue_43 rfl ?_
      refine y_aload_n B dX7_isTrue_44 rfl ?_
      refine y_get B (ref := "AlertIndexModel") (ci := 8) (C := RX7) (T := TX7) (N := 15) a0 rfl i_X7_isTrue_X7 14 (by decide) (by decide +kernel) (fun _ h9 => h9) rfl dX7_isTrue_45 ?_
      refine y_iload_n B dX7_isTrue_48 rfl ?_
      refine y_baloadZ B (nI (S 12 k)) a12 (vp_in_nI hk (by decide)) (by rw [nI_clamp (by omega)]) dX7_isTrue_49 ?_
      have q50 := ai_tk_val (x := false) (by rw [ai_in_w hw, decide_eq_false (by omega)]) hT4
      refine y_icmp_eq B 57 dX7_isTrue_50 (by decide) (fun c50 => ?_) (fun c50 => ?_)
      · have q51 := q50.1 c50
        refine y_iconst B (nI 0) dX7_isTrue_57 (by decide +kernel) ?_
        exact y_zret B dX7_isTrue_58 (Nat.le_of_ble_eq_true rfl) (Nat.le_of_ble_eq_true rfl) rfl (⟨by rw [q51]; rfl, rfl⟩)
      · have q51 := q50.2 c50
        refine y_iconst B (nI 1) dX7_isTrue_53 (by decide +kernel) ?_
        refine y_goto B 58 dX7_isTrue_54 (by decide) ?_
        exact y_zret B dX7_isTrue_58 (Nat.le_of_ble_eq_true rfl) (Nat.le_of_ble_eq_true rfl) rfl (⟨by rw [q51]; rfl, rfl⟩)
    · have q24 : ¬ w < S 10 k := fun z => c24 ((nI_ltI (by omega) (by omega)).mpr z)
      refine y_iload_n B dX7_isTrue_27 rfl ?_
      refine y_aload_n B dX7_isTrue_28 rfl ?_
      refine y_get B (ref := "AlertIndexModel") (ci := 8) (C := RX7) (T := TX7) (N := 15) a0 rfl i_X7_isTrue_X7 13 (by decide) (by decide +kernel) (fun _ h9 => h9) rfl dX7_isTrue_29 ?_
      refine y_iload_n B dX7_isTrue_32 rfl ?_
      refine y_ialoadI B (nI (S 11 k)) a11 (vp_in_nI hk (by decide)) (by rw [nI_clamp (by omega)]) dX7_isTrue_33 ?_
      refine y_icmp_gt B 41 dX7_isTrue_34 (by decide) (fun c34 => ?_) (fun c34 => ?_)
      · have q34 : S 11 k < w := Nat.lt_of_not_le (fun z => absurd c34 (Int32.not_lt.mpr ((nI_leI (by omega) (by omega)).mpr z)))
        refine y_iconst B (nI 0) dX7_isTrue_41 (by decide +kernel) ?_
        refine y_istore_n B dX7_isTrue_42 (Nat.le_of_ble_eq_true rfl) ?_
        refine y_iload_n B dX7_isTrue_43 rfl ?_
        refine y_aload_n B dX7_isTrue_44 rfl ?_
        refine y_get B (ref := "AlertIndexModel") (ci := 8) (C := RX7) (T := TX7) (N := 15) a0 rfl i_X7_isTrue_X7 14 (by decide) (by decide +kernel) (fun _ h9 => h9) rfl dX7_isTrue_45 ?_
        refine y_iload_n B dX7_isTrue_48 rfl ?_
        refine y_baloadZ B (nI (S 12 k)) a12 (vp_in_nI hk (by decide)) (by rw [nI_clamp (by omega)]) dX7_isTrue_49 ?_
        have q50 := ai_tk_val (x := false) (by rw [ai_in_w hw, decide_eq_false (by omega)]) hT4
        refine y_icmp_eq B 57 dX7_isTrue_50 (by decide) (fun c50 => ?_) (fun c50 => ?_)
        · have q51 := q50.1 c50
          refine y_iconst B (nI 0) dX7_isTrue_57 (by decide +kernel) ?_
          exact y_zret B dX7_isTrue_58 (Nat.le_of_ble_eq_true rfl) (Nat.le_of_ble_eq_true rfl) rfl (⟨by rw [q51]; rfl, rfl⟩)
        · have q51 := q50.2 c50
          refine y_iconst B (nI 1) dX7_isTrue_53 (by decide +kernel) ?_
          refine y_goto B 58 dX7_isTrue_54 (by decide) ?_
          exact y_zret B dX7_isTrue_58 (Nat.le_of_ble_eq_true rfl) (Nat.le_of_ble_eq_true rfl) rfl (⟨by rw [q51]; rfl, rfl⟩)
      · have q34 : w ≤ S 11 k := (nI_leI (by omega) (by omega)).mp (Int32.not_lt.mp c34)
        refine y_iconst B (nI 1) dX7_isTrue_37 (by decide +kernel) ?_
        refine y_goto B 42 dX7_isTrue_38 (by decide) ?_
        refine y_istore_n B dX7_isTrue_42 (Nat.le_of_ble_eq_true rfl) ?_
        refine y_iload_n B dX7_isTrue_43 rfl ?_
        refine y_aload_n B dX7_isTrue_44 rfl ?_
        refine y_get B (ref := "AlertIndexModel") (ci := 8) (C := RX7) (T := TX7) (N := 15) a0 rfl i_X7_isTrue_X7 14 (by decide) (by decide +kernel) (fun _ h9 => h9) rfl dX7_isTrue_45 ?_
        refine y_iload_n B dX7_isTrue_48 rfl ?_
        refine y_baloadZ B (nI (S 12 k)) a12 (vp_in_nI hk (by decide)) (by rw [nI_clamp (by omega)]) dX7_isTrue_49 ?_
        have q50 := ai_tk_val (x := true) (by rw [ai_in_w hw, decide_eq_true (by omega)]) hT4
        refine y_icmp_eq B 57 dX7_isTrue_50 (by decide) (fun c50 => ?_) (fun c50 => ?_)
        · have q51 := q50.1 c50
          refine y_iconst B (nI 0) dX7_isTrue_57 (by decide +kernel) ?_
          exact y_zret B dX7_isTrue_58 (Nat.le_of_ble_eq_true rfl) (Nat.le_of_ble_eq_true rfl) rfl (⟨by rw [q51]; rfl, rfl⟩)
        · have q51 := q50.2 c50
          refine y_iconst B (nI 1) dX7_isTrue_53 (by decide +kernel) ?_
          refine y_goto B 58 dX7_isTrue_54 (by decide) ?_
          exact y_zret B dX7_isTrue_58 (Nat.le_of_ble_eq_true rfl) (Nat.le_of_ble_eq_true rfl) rfl (⟨by rw [q51]; rfl, rfl⟩)
set_option maxHeartbeats 4000000 in
set_option maxRecDepth 100000 in
theorem k_X7_does (l : Launch) (G : ai_G) (M : ai_M) {t0 : Int32} {S : ai_S} {mo : Nat} {ma : Nat → Nat} (hO : ai_O G M t0 S mo ma) (hv : ∀ i, i < 6 → S 1 i ≤ 64) {q : Nat} (hq : q < 20) (h3 : S 3 q ≤ 3) (hok : ∀ p, p < S 3 q → ai_okP S (3 * q + p)) : ai_C l yX7_does wsX7_does ({ frames := 1, cells := 0, slots := 0, locals := 23 } : Room) 0 0 G M [.ref mo, .int (nI q)] (fun r M1 => r = some (.int (ai_b (ai_qt S q))) ∧ M1 = M) := by
  refine y_start (by decide +kernel) rfl (Nat.le_of_ble_eq_true rfl) (Nat.le_of_ble_eq_true rfl) (fun x hx => by simp only [List.mem_cons, List.not_mem_nil, or_false] at hx; rcases hx with rfl | rfl <;> rfl) ?_
  intro p e s m below meth c B hnm
  obtain ⟨a0, a1, a2, a3, a4, a5, a6, a7, a8, a9, a10, a11, a12⟩ := id hO
  have lp : ∀ (d : Nat) (i : Nat) (x4 x5 : Option Value), (S 3 q < i + d) → (i ≤ S 3 q) → ai_Y p l e ({ frames := 1, cells := 0, slots := 0, locals := 23 } : Room) s m [.ref mo, .int (nI q)].toArray below meth c G (MQ below (ai_Q G (fun r M1 => r = some (.int (ai_b (ai_qt S q))) ∧ M1 = M)) [.ref mo, .int (nI q)].toArray s 0 0 (ai_A G)) M 0 0 [some (.ref mo), some (.int (nI q)), some (.int (ai_b (ai_any i (fun p => ai_pt S (3 * q + p))))), some (.int (nI (3 * q + i))), x4, x5] 6 [] := by
    intro d
    induction d with
    | zero => intros; omega
    | succ d ih =>
      intro i x4 x5 hm hi
      refine y_iload_n B dX7_does_6 rfl ?_
      refine y_iconst B (nI 3) dX7_does_7 (by decide +kernel) ?_
      refine y_iload_n B dX7_does_8 rfl ?_
      refine y_imul B (nI (3 * q)) dX7_does_9 (pk_mul 3 _) ?_
      refine y_aload_n B dX7_does_10 rfl ?_
      refine y_get B (ref := "AlertIndexModel") (ci := 8) (C := RX7) (T := TX7) (N := 15) a0 rfl i_X7_does_X7 5 (by decide) (by decide +kernel) (fun _ h9 => h9) rfl dX7_does_11 ?_
      refine y_iload_n B dX7_does_14 rfl ?_
      refine y_ialoadI B (nI (S 3 q)) a3 (vp_in_nI (by omega) (by decide)) (by rw [nI_clamp (by omega)]) dX7_does_15 ?_
      refine y_iadd B (nI (3 * q + S 3 q)) dX7_does_16 (nI_add _ _) ?_
      refine y_icmp_ge B 91 dX7_does_17 (by decide) (fun c17 => ?_) (fun c17 => ?_)
      · have q17 : i = S 3 q := by have := (nI_leI (by omega) (by omega)).mp c17; omega
        refine y_iload_n B dX7_does_91 rfl ?_
        exact y_zret B dX7_does_92 (Nat.le_of_ble_eq_true rfl) (Nat.le_of_ble_eq_true rfl) (ai_bn _) (⟨by unfold ai_qt; rw [q17], rfl⟩)
      · have q17 : i < S 3 q := Nat.lt_of_not_le (fun z => c17 ((nI_leI (by omega) (by omega)).mpr (by omega)))
        obtain ⟨h8a, h8⟩ := hok i q17
        refine y_iconst B (nI 1) dX7_does_20 (by decide +kernel) ?_
        refine y_istore B dX7_does_21 (Nat.le_of_ble_eq_true rfl) ?_
        refine y_iconst B (nI 4) dX7_does_23 (by decide +kernel) ?_
        refine y_iload_n B dX7_does_24 rfl ?_
        refine y_imul B (nI (4 * (3 * q + i))) dX7_does_25 (pk_mul 4 _) ?_
        refine y_istore B dX7_does_26 (Nat.le_of_ble_eq_true rfl) ?_
        have after : ai_Y p l e ({ frames := 1, cells := 0, slots := 0, locals := 23 } : Room) s m [.ref mo, .int (nI q)].toArray below meth c G (MQ below (ai_Q G (fun r M1 => r = some (.int (ai_b (ai_qt S q))) ∧ M1 = M)) [.ref mo, .int (nI q)].toArray s 0 0 (ai_A G)) M 0 0 [some (.ref mo), some (.int (nI q)), some (.int (ai_b (ai_any i (fun p => ai_pt S (3 * q + p))))), some (.int (nI (3 * q + i))), some (.int (ai_b (ai_pt S (3 * q + i)))), some (.int (nI (4 * (3 * q + i) + S 8 (3 * q + i))))] 70 [] := by
          refine y_iload_n B dX7_does_70 rfl ?_
          refine y_if_ne B 79 dX7_does_71 (by decide) (fun c71 => ?_) (fun c71 => ?_)
          · have q71 := ai_b1 c71
            refine y_iconst B (nI 1) dX7_does_79 (by decide +kernel) ?_
            refine y_goto B 84 dX7_does_80 (by decide) ?_
            refine y_istore_n B dX7_does_84 (Nat.le_of_ble_eq_true rfl) ?_
            refine y_iinc B (nI (3 * q + (i + 1))) dX7_does_85 rfl (by rw [← Nat.add_assoc]; exact nI_1 _) ?_
            refine y_goto B 6 dX7_does_88 (by decide) ?_
            have e : ai_any (i + 1) (fun p => ai_pt S (3 * q + p)) = true := by show (ai_any i _ || ai_pt S (3 * q + i)) = _; rw [q71, Bool.true_or]
            have z := ih (i + 1) (some (.int (ai_b (ai_pt S (3 * q + i))))) (some (.int (nI (4 * (3 * q + i) + S 8 (3 * q + i))))) (by omega) (by omega)
            rw [e] at z
            exact z
          · have q71 := (ai_b0 _).mp c71
            refine y_iload B dX7_does_74 rfl ?_
            refine y_if_eq B 83 dX7_does_76 (by decide) (fun c76 => ?_) (fun c76 => ?_)
            · have q76 := (ai_b0 _).mp c76
              refine y_iconst B (nI 0) dX7_does_83 (by decide +kernel) ?_
              refine y_istore_n B dX7_does_84 (Nat.le_of_ble_eq_true rfl) ?_
              refine y_iinc B (nI (3 * q + (i + 1))) dX7_does_85 rfl (by rw [← Nat.add_assoc]; exact nI_1 _) ?_
              refine y_goto B 6 dX7_does_88 (by decide) ?_
              have e : ai_any (i + 1) (fun p => ai_pt S (3 * q + p)) = false := by show (ai_any i _ || ai_pt S (3 * q + i)) = _; rw [q71, q76]; rfl
              have z := ih (i + 1) (some (.int (ai_b (ai_pt S (3 * q + i))))) (some (.int (nI (4 * (3 * q + i) + S 8 (3 * q + i))))) (by omega) (by omega)
              rw [e] at z
              exact z
            · have q76 := ai_b1 c76
              refine y_iconst B (nI 1) dX7_does_79 (by decide +kernel) ?_
              refine y_goto B 84 dX7_does_80 (by decide) ?_
              refine y_istore_n B dX7_does_84 (Nat.le_of_ble_eq_true rfl) ?_
              refine y_iinc B (nI (3 * q + (i + 1))) dX7_does_85 rfl (by rw [← Nat.add_assoc]; exact nI_1 _) ?_
              refine y_goto B 6 dX7_does_88 (by decide) ?_
              have e : ai_any (i + 1) (fun p => ai_pt S (3 * q + p)) = true := by show (ai_any i _ || ai_pt S (3 * q + i)) = _; rw [q76, Bool.or_true]
              have z := ih (i + 1) (some (.int (ai_b (ai_pt S (3 * q + i))))) (some (.int (nI (4 * (3 * q + i) + S 8 (3 * q + i))))) (by omega) (by omega)
              rw [e] at z
              exact z
        have lq : ∀ (d2 : Nat) (t : Nat), (S 8 (3 * q + i) < t + d2) → (t ≤ S 8 (3 * q + i)) → ai_Y p l e ({ frames := 1, cells := 0, slots := 0, locals := 23 } : Room) s m [.ref mo, .int (nI q)].toArray below meth c G (MQ below (ai_Q G (fun r M1 => r = some (.int (ai_b (ai_qt S q))) ∧ M1 = M)) [.ref mo, .int (nI q)].toArray s 0 0 (ai_A G)) M 0 0 [some (.ref mo), some (.int (nI q)), some (.int (ai_b (ai_any i (fun p => ai_pt S (3 * q + p))))), some (.int (nI (3 * q + i))), some (.int (ai_b (ai_all t (fun t => ai_tk S (4 * (3 * q + i) + t))))), some (.int (nI (4 * (3 * q + i) + t)))] 28 [] := by
          intro d2
          induction d2 with
          | zero => intros; omega
          | succ d2 ih =>
            intro t hm ht
            refine y_iload B dX7_does_28 rfl ?_
            refine y_iconst B (nI 4) dX7_does_30 (by decide +kernel) ?_
            refine y_iload_n B dX7_does_31 rfl ?_
            refine y_imul B (nI (4 * (3 * q + i))) dX7_does_32 (pk_mul 4 _) ?_
            refine y_aload_n B dX7_does_33 rfl ?_
            refine y_get B (ref := "AlertIndexModel") (ci := 8) (C := RX7) (T := TX7) (N := 15) a0 rfl i_X7_does_X7 10 (by decide) (by decide +kernel) (fun _ h9 => h9) rfl dX7_does_34 ?_
            refine y_iload_n B dX7_does_37 rfl ?_
            refine y_ialoadI B (nI (S 8 (3 * q + i))) a8 (vp_in_nI (by omega) (by decide)) (by rw [nI_clamp (by omega)]) dX7_does_38 ?_
            refine y_iadd B (nI (4 * (3 * q + i) + S 8 (3 * q + i))) dX7_does_39 (nI_add _ _) ?_
            refine y_icmp_ge B 70 dX7_does_40 (by decide) (fun c40 => ?_) (fun c40 => ?_)
            · have q40 : S 8 (3 * q + i) ≤ t := by have := (nI_leI (by omega) (by omega)).mp c40; omega
              have et : t = S 8 (3 * q + i) := by omega
              rw [et]
              exact after
            · have q40 : t < S 8 (3 * q + i) := Nat.lt_of_not_le (fun z => c40 ((nI_leI (by omega) (by omega)).mpr (by omega)))
              refine y_iload B dX7_does_43 rfl ?_
              refine y_if_eq B 61 dX7_does_45 (by decide) (fun c45 => ?_) (fun c45 => ?_)
              · have q45 := (ai_b0 _).mp c45
                refine y_iconst B (nI 0) dX7_does_61 (by decide +kernel) ?_
                refine y_istore B dX7_does_62 (Nat.le_of_ble_eq_true rfl) ?_
                refine y_iinc B (nI (4 * (3 * q + i) + (t + 1))) dX7_does_64 rfl (by rw [← Nat.add_assoc]; exact nI_1 _) ?_
                refine y_goto B 28 dX7_does_67 (by decide) ?_
                have e : ai_all (t + 1) (fun t => ai_tk S (4 * (3 * q + i) + t)) = false := by show (ai_all t _ && ai_tk S (4 * (3 * q + i) + t)) = _; rw [q45]; rfl
                have z := ih (t + 1) (by omega) (by omega)
                rw [e] at z
                exact z
              · have q45 := ai_b1 c45
                refine y_aload_n B dX7_does_48 rfl ?_
                refine y_iload B dX7_does_49 rfl ?_
                refine y_callV B 1 (q := (RX7, TX7, 15)) _ _ (k_X7_isTrue l G _ hO (k := 4 * (3 * q + i) + t) (by omega) (h8 t q40) (hv _ (h8 t q40).1)) a0 rfl gX7_does_X7_isTrue (by decide +kernel) rfl rfl rfl rfl ⟨(Nat.le_of_ble_eq_true rfl), (Nat.le_of_ble_eq_true rfl)⟩ (Nat.le_of_ble_eq_true rfl) ⟨(Nat.le_of_ble_eq_true rfl), (Nat.le_of_ble_eq_true rfl)⟩ dX7_does_51 rfl (fun r M1 hr => ?_)
                obtain ⟨rfl, e9⟩ := hr
                obtain rfl := e9.symm
                refine y_if_eq B 61 dX7_does_54 (by decide) (fun c54 => ?_) (fun c54 => ?_)
                · have q54 := (ai_b0 _).mp c54
                  refine y_iconst B (nI 0) dX7_does_61 (by decide +kernel) ?_
                  refine y_istore B dX7_does_62 (Nat.le_of_ble_eq_true rfl) ?_
                  refine y_iinc B (nI (4 * (3 * q + i) + (t + 1))) dX7_does_64 rfl (by rw [← Nat.add_assoc]; exact nI_1 _) ?_
                  refine y_goto B 28 dX7_does_67 (by decide) ?_
                  have e : ai_all (t + 1) (fun t => ai_tk S (4 * (3 * q + i) + t)) = false := by show (ai_all t _ && ai_tk S (4 * (3 * q + i) + t)) = _; rw [q45, q54]; rfl
                  have z := ih (t + 1) (by omega) (by omega)
                  rw [e] at z
                  exact z
                · have q54 := ai_b1 c54
                  refine y_iconst B (nI 1) dX7_does_57 (by decide +kernel) ?_
                  refine y_goto B 62 dX7_does_58 (by decide) ?_
                  refine y_istore B dX7_does_62 (Nat.le_of_ble_eq_true rfl) ?_
                  refine y_iinc B (nI (4 * (3 * q + i) + (t + 1))) dX7_does_64 rfl (by rw [← Nat.add_assoc]; exact nI_1 _) ?_
                  refine y_goto B 28 dX7_does_67 (by decide) ?_
                  have e : ai_all (t + 1) (fun t => ai_tk S (4 * (3 * q + i) + t)) = true := by show (ai_all t _ && ai_tk S (4 * (3 * q + i) + t)) = _; rw [q45, q54]; rfl
                  have z := ih (t + 1) (by omega) (by omega)
                  rw [e] at z
                  exact z
        exact lq (S 8 (3 * q + i) + 1) 0 (by omega) (by omega)
  refine y_iconst B (nI 0) dX7_does_0 (by decide +kernel) ?_
  refine y_istore_n B dX7_does_1 (Nat.le_of_ble_eq_true rfl) ?_
  refine y_iconst B (nI 3) dX7_does_2 (by decide +kernel) ?_
  refine y_iload_n B dX7_does_3 rfl ?_
  refine y_imul B (nI (3 * q)) dX7_does_4 (pk_mul 3 _) ?_
  refine y_istore_n B dX7_does_5 (Nat.le_of_ble_eq_true rfl) ?_
  exact lp (S 3 q + 1) 0 none none (by omega) (by omega)
theorem ai_okP.b {S : ai_S} {j : Nat} (h : ai_okP S j) : S 8 j ≤ 4 := h.1
set_option maxHeartbeats 4000000 in
set_option maxRecDepth 100000 in
theorem k_X7_quietNow (l : Launch) (G : ai_G) (M : ai_M) {t0 : Int32} {S : ai_S} {mo : Nat} {ma : Nat → Nat} (hO : ai_O G M t0 S mo ma) (hm : S 0 1 ≤ 1000000) {q : Nat} (hq : q < 20) (h5 : S 5 q ≤ 1002000) : ai_C l yX7_quietNow wsX7_quietNow ({ frames := 0, cells := 0, slots := 0, locals := 0 } : Room) 0 0 G M [.ref mo, .int (nI q)] (fun r M1 => r = some (.int (ai_b (decide (S 0 1 < S 5 q)))) ∧ M1 = M) := by
  refine y_start (by decide +kernel) rfl (Nat.le_of_ble_eq_true rfl) (Nat.le_of_ble_eq_true rfl) (fun x hx => by simp only [List.mem_cons, List.not_mem_nil, or_false] at hx; rcases hx with rfl | rfl <;> rfl) ?_
  intro p e s m below meth c B hnm
  obtain ⟨a0, a1, a2, a3, a4, a5, a6, a7, a8, a9, a10, a11, a12⟩ := id hO
  refine y_aload_n B dX7_quietNow_0 rfl ?_
  refine y_get B (ref := "AlertIndexModel") (ci := 8) (C := RX7) (T := TX7) (N := 15) a0 rfl i_X7_quietNow_X7 1 (by decide) (by decide +kernel) (fun _ h9 => h9) rfl dX7_quietNow_1 ?_
  refine y_aload_n B dX7_quietNow_4 rfl ?_
  refine y_get B (ref := "AlertIndexModel") (ci := 8) (C := RX7) (T := TX7) (N := 15) a0 rfl i_X7_quietNow_X7 7 (by decide) (by decide +kernel) (fun _ h9 => h9) rfl dX7_quietNow_5 ?_
  refine y_iload_n B dX7_quietNow_8 rfl ?_
  refine y_ialoadI B (nI (S 5 q)) a5 (vp_in_nI (by omega) (by decide)) (by rw [nI_clamp (by omega)]) dX7_quietNow_9 ?_
  refine y_icmp_ge B 17 dX7_quietNow_10 (by decide) (fun c10 => ?_) (fun c10 => ?_)
  · have q10 : S 5 q ≤ S 0 1 := (nI_leI (by omega) (by omega)).mp c10
    refine y_iconst B (nI 0) dX7_quietNow_17 (by decide +kernel) ?_
    exact y_zret B dX7_quietNow_18 (Nat.le_of_ble_eq_true rfl) (Nat.le_of_ble_eq_true rfl) rfl (⟨by rw [decide_eq_false (by omega)]; rfl, rfl⟩)
  · have q10 : S 0 1 < S 5 q := Nat.lt_of_not_le (fun z => c10 ((nI_leI (by omega) (by omega)).mpr z))
    refine y_iconst B (nI 1) dX7_quietNow_13 (by decide +kernel) ?_
    refine y_goto B 18 dX7_quietNow_14 (by decide) ?_
    exact y_zret B dX7_quietNow_18 (Nat.le_of_ble_eq_true rfl) (Nat.le_of_ble_eq_true rfl) rfl (⟨by rw [decide_eq_true q10]; rfl, rfl⟩)
set_option maxHeartbeats 4000000 in
set_option maxRecDepth 100000 in
theorem k_X7_raises (l : Launch) (G : ai_G) (M : ai_M) {t0 : Int32} {S : ai_S} {mo : Nat} {ma : Nat → Nat} (hO : ai_O G M t0 S mo ma) {q : Nat} (hq : q < 20) : ai_C l yX7_raises wsX7_raises ({ frames := 0, cells := 0, slots := 0, locals := 0 } : Room) 0 0 G M [.ref mo, .int (nI q)] (fun r M1 => r = none ∧ ai_O G M1 t0 (ai_u (ai_u S 6 q (S 6 q + 1)) 5 q (S 0 1 + S 4 q)) mo ma ∧ ai_km M M1) := by
  refine y_start (by decide +kernel) rfl (Nat.le_of_ble_eq_true rfl) (Nat.le_of_ble_eq_true rfl) (fun x hx => by simp only [List.mem_cons, List.not_mem_nil, or_false] at hx; rcases hx with rfl | rfl <;> rfl) ?_
  intro p e s m below meth c B hnm
  obtain ⟨a0, a1, a2, a3, a4, a5, a6, a7, a8, a9, a10, a11, a12⟩ := id hO
  refine y_aload_n B dX7_raises_0 rfl ?_
  refine y_get B (ref := "AlertIndexModel") (ci := 8) (C := RX7) (T := TX7) (N := 15) a0 rfl i_X7_raises_X7 8 (by decide) (by decide +kernel) (fun _ h9 => h9) rfl dX7_raises_1 ?_
  refine y_iload_n B dX7_raises_4 rfl ?_
  refine y_dup2 B dX7_raises_5 rfl rfl ?_
  refine y_ialoadI B (nI (S 6 q)) a6 (vp_in_nI (by omega) (by decide)) (by rw [nI_clamp (by omega)]) dX7_raises_6 ?_
  refine y_iconst B (nI 1) dX7_raises_7 (by decide +kernel) ?_
  refine y_iadd B (nI (S 6 q + 1)) dX7_raises_8 (nI_1 _) ?_
  refine y_iastoreI B a6 (vp_in_nI hq (by decide)) dX7_raises_9 ?_
  rw [nI_clamp (by omega)]
  have hO1 := hO.r6 (q) (S 6 q + 1)
  have khO1 : ai_km M _ := ai_km.U (e1 := ai_eI G 20 (upd (fun j => nI (S 6 j)) (q) (nI (S 6 q + 1)))) a6 (by decide)
  obtain ⟨b0, b1, b2, b3, b4, b5, b6, b7, b8, b9, b10, b11, b12⟩ := id hO1
  refine y_aload_n B dX7_raises_10 rfl ?_
  refine y_get B (ref := "AlertIndexModel") (ci := 8) (C := RX7) (T := TX7) (N := 15) b0 rfl i_X7_raises_X7 7 (by decide) (by decide +kernel) (fun _ h9 => h9) rfl dX7_raises_11 ?_
  refine y_iload_n B dX7_raises_14 rfl ?_
  refine y_aload_n B dX7_raises_15 rfl ?_
  refine y_get B (ref := "AlertIndexModel") (ci := 8) (C := RX7) (T := TX7) (N := 15) b0 rfl i_X7_raises_X7 1 (by decide) (by decide +kernel) (fun _ h9 => h9) rfl dX7_raises_16 ?_
  refine y_aload_n B dX7_raises_19 rfl ?_
  refine y_get B (ref := "AlertIndexModel") (ci := 8) (C := RX7) (T := TX7) (N := 15) b0 rfl i_X7_raises_X7 6 (by decide) (by decide +kernel) (fun _ h9 => h9) rfl dX7_raises_20 ?_
  refine y_iload_n B dX7_raises_23 rfl ?_
  refine y_ialoadI B (nI (S 4 q)) b4 (vp_in_nI (by omega) (by decide)) (by rw [nI_clamp (by omega), ai_u_k (by omega)]) dX7_raises_24 ?_
  refine y_iadd B (nI (S 0 1 + S 4 q)) dX7_raises_25 (nI_add _ _) ?_
  refine y_iastoreI B b5 (vp_in_nI hq (by decide)) dX7_raises_26 ?_
  rw [nI_clamp (by omega)]
  have hO2 := hO1.r5 q (S 0 1 + S 4 q)
  have kO2 := ai_km.U (e1 := ai_eI G 20 (upd (fun j => nI (ai_u S 6 q (S 6 q + 1) 5 j)) q (nI (S 0 1 + S 4 q)))) b5 (by decide)
  exact y_vret B dX7_raises_27 (Nat.le_of_ble_eq_true rfl) (Nat.le_of_ble_eq_true rfl) (⟨rfl, hO2, khO1.tr kO2⟩)
