/-! ===== test ===== -/
def ai_tS (S : ai_S) (j u lo hi b : Nat) : ai_S := ai_u (ai_u (ai_u (ai_u (ai_u S 9 (4 * j + S 8 j) u) 10 (4 * j + S 8 j) lo) 11 (4 * j + S 8 j) hi) 12 (4 * j + S 8 j) b) 8 j (S 8 j + 1)
theorem ai_tS_k {S : ai_S} {j u lo hi b k i : Nat} (h1 : k ≠ 8 ∨ i ≠ j) (h2 : k < 9 ∨ 12 < k ∨ i ≠ 4 * j + S 8 j) : ai_tS S j u lo hi b k i = S k i := by
  unfold ai_tS ai_u
  rw [if_neg (by omega), if_neg (by omega), if_neg (by omega), if_neg (by omega), if_neg (by omega)]
theorem ai_tS_8 {S : ai_S} {j u lo hi b : Nat} : ai_tS S j u lo hi b 8 j = S 8 j + 1 := ai_u_s
theorem ai_tS_9 {S : ai_S} {j u lo hi b : Nat} : ai_tS S j u lo hi b 9 (4 * j + S 8 j) = u := by
  unfold ai_tS
  rw [ai_u_k (by omega), ai_u_k (by omega), ai_u_k (by omega), ai_u_k (by omega), ai_u_s]
theorem ai_tS_10 {S : ai_S} {j u lo hi b : Nat} : ai_tS S j u lo hi b 10 (4 * j + S 8 j) = lo := by
  unfold ai_tS
  rw [ai_u_k (by omega), ai_u_k (by omega), ai_u_k (by omega), ai_u_s]
theorem ai_tS_11 {S : ai_S} {j u lo hi b : Nat} : ai_tS S j u lo hi b 11 (4 * j + S 8 j) = hi := by
  unfold ai_tS
  rw [ai_u_k (by omega), ai_u_k (by omega), ai_u_s]
theorem ai_tS_12 {S : ai_S} {j u lo hi b : Nat} : ai_tS S j u lo hi b 12 (4 * j + S 8 j) = b := by
  unfold ai_tS
  rw [ai_u_k (by omega), ai_u_s]
theorem ai_tS_pn {S : ai_S} {j u lo hi b : Nat} : ai_pn (ai_tS S j u lo hi b) j = ai_pn S j + if b = 0 then 1 else 0 := by
  unfold ai_pn
  rw [ai_tS_8]
  show ai_cn (S 8 j) _ + (if _ then 1 else 0) = _
  simp only [ai_tS_12]
  congr 1
  · exact ai_cn_cong (fun t ht => by rw [ai_tS_k (by omega) (by omega)])
  · by_cases h : b = 0
    · rw [if_pos h, if_pos (decide_eq_true h)]
    · rw [if_neg h, if_neg (by rw [decide_eq_false h]; decide)]
theorem ai_en_count (nm pr b pl : Nat) : ∀ (l : List Nat) (pst : Nat → List Nat), (ai_en nm pr l pst pl).count b = (pst pl).count b + if b = pr then (l.map (fun y => nm * 128 + y)).count pl else 0
  | [], pst => by
    show (pst pl).count b = _
    by_cases h : b = pr
    · rw [if_pos h]; rfl
    · rw [if_neg h]; rfl
  | x :: l, pst => by
    show (ai_en nm pr l (va_up pst (nm * 128 + x) (pr :: pst (nm * 128 + x))) pl).count b = _
    rw [ai_en_count nm pr b pl l, List.map_cons]
    unfold va_up
    by_cases h1 : pl = nm * 128 + x
    · rw [if_pos h1, List.count_cons, ← h1]
      by_cases h : b = pr
      · rw [if_pos h, if_pos h, if_pos (beq_iff_eq.mpr h.symm), List.count_cons, if_pos (beq_iff_eq.mpr rfl)]
        omega
      · rw [if_neg h, if_neg h, if_neg (fun z => h (beq_iff_eq.mp z).symm)]
    · rw [if_neg h1]
      by_cases h : b = pr
      · rw [if_pos h, if_pos h, List.count_cons, if_neg (fun z => h1 (beq_iff_eq.mp z).symm)]
        omega
      · rw [if_neg h, if_neg h]
theorem ai_en_mem {nm pr b pl : Nat} : ∀ {l : List Nat} {pst : Nat → List Nat}, b ∈ ai_en nm pr l pst pl → b ∈ pst pl ∨ b = pr
  | [], _, h => Or.inl h
  | x :: l, pst, h => by
    rcases ai_en_mem (l := l) h with h | h
    · unfold va_up at h
      by_cases h1 : pl = nm * 128 + x
      · rw [if_pos h1] at h
        rcases List.mem_cons.mp h with h | h
        · exact Or.inr h
        · exact Or.inl (by rw [h1]; exact h)
      · rw [if_neg h1] at h
        exact Or.inl h
    · exact Or.inr h
theorem ai_R.addT {G : ai_G} {M M4 : ai_M} {S : ai_S} {o x qs dr ix fa q j tl u lo hi bv : Nat} {hits : Int32} {qa pa ta : Nat → Nat} {pst pst' : Nat → List Nat} (hR : ai_R G M S x qs dr ix fa qa pa pst) (hI : ai_I S o) (hq : q < S 0 2) (h3 : 0 < S 3 q) (hj : j = 3 * q + (S 3 q - 1)) (ht4 : S 8 j < 4)
    (keep : ∀ (b g : Nat) (e : va_E), M b = some (g, e) → g ≠ 10000 + 100 * j → g ≠ 10000 + 100 * j + 2 → g ≠ 10000 + 100 * j + 3 → g ≠ 107 → M4 b = some (g, e))
    (hPa : M4 (pa j) = some (10000 + 100 * j, .inr (4, [.ref tl, .int (nI (ai_pn (ai_tS S j u lo hi bv) j)), .int hits]))) (hTl : ai_l G M4 tl (10000 + 100 * j + 2) (S 8 j + 1) ta) (hOld : ∀ t, t < S 8 j → ai_Te M4 S (4 * j + t) (10000 + 100 * j + 10 + t) (ta t)) (hNew : M4 (ta (S 8 j)) = some (10000 + 100 * j + 10 + S 8 j, .inr (6, [.int (nI u), .int (nI lo), .int (nI hi), .int (nI bv)])))
    (hIx : ∃ fi, ai_Ix G M4 pst' ix fa fi) (hmem : ∀ pl b, b ∈ pst' pl → b ∈ pst pl ∨ b = pa j) (hcnt : ∀ pl b, (pst' pl).count b = (pst pl).count b + if b = pa j ∧ bv = 0 then ((ai_pcs lo hi).map (fun y => u * 128 + y)).count pl else 0) : ai_R G M4 (ai_tS S j u lo hi bv) x qs dr ix fa qa pa pst' := by
  obtain ⟨hx, hL, hD, -, hQ, hP1, hP2⟩ := hR
  have hI4 := hI.2.2.2
  have hn := hI.2.1
  have o3 := (hI4 q hq).2.1
  have e1 : ∀ k i, k < 8 → ai_tS S j u lo hi bv k i = S k i := fun k i hk => ai_tS_k (by omega) (by omega)
  have pd : ∀ q9 p, q9 < S 0 2 → p < S 3 q9 → 3 * q9 + p ≠ j → ai_Pd G M4 (ai_tS S j u lo hi bv) (3 * q9 + p) (pa (3 * q9 + p)) := fun q9 p h1 h2 hne => by
    obtain ⟨_, _, _, y1⟩ := hQ q9 h1
    have o9 := (hI4 q9 h1).2.1
    have o8 := ((hI4 q9 h1).2.2.2.2.2.2 p h2).1
    exact ((y1 p h2).keep o8 (fun b g e hb g1 g2 => keep b g e hb (by omega) (by omega) (by omega) (by omega))).S (ai_tS_k (Or.inr hne) (Or.inl (by omega))) (fun k t hk1 hk2 ht => ai_tS_k (Or.inl (by omega)) (Or.inr (Or.inr (by omega))))
  refine ⟨?_, ?_, ?_, hIx, fun q9 hq9 => ?_, fun pl hpl b hb => ?_, fun q9 hq9 p hp pl hpl => ?_⟩
  · rw [e1 0 1 (by omega)]
    exact keep _ _ _ hx (by omega) (by omega) (by omega) (by omega)
  · rw [e1 0 2 (by omega)]
    exact hL.keep (fun b g e hb hg => keep b g e hb (by omega) (by omega) (by omega) (by omega))
  · obtain ⟨dv, z1, z2⟩ := hD.keep (M' := M4) (fun b g e hb hg => keep b g e hb (by omega) (by omega) (by omega) (by omega))
    exact ⟨dv, z1, by rw [show (fun i => ai_nD (ai_tS S j u lo hi bv 1 i)) = fun i => ai_nD (S 1 i) from by funext i; rw [e1 1 i (by omega)]]; exact z2⟩
  · rw [e1 0 2 (by omega)] at hq9
    obtain ⟨pl9, h1, hl9, hp9⟩ := hQ q9 hq9
    have o9 := (hI4 q9 hq9).2.1
    refine ⟨pl9, ?_, ?_, fun p hp => ?_⟩
    · rw [e1 2 _ (by omega), e1 4 _ (by omega), e1 5 _ (by omega), e1 6 _ (by omega), e1 7 _ (by omega)]
      exact keep _ _ _ h1 (by omega) (by omega) (by omega) (by omega)
    · rw [e1 3 _ (by omega)]
      exact hl9.keep (fun b g e hb hg => keep b g e hb (by omega) (by omega) (by omega) (by omega))
    · rw [e1 3 _ (by omega)] at hp
      by_cases z : 3 * q9 + p = j
      · rw [z]
        refine ⟨tl, ta, hits, hPa, by rw [ai_tS_8]; exact hTl, fun t ht => ?_⟩
        rw [ai_tS_8] at ht
        unfold ai_Te
        by_cases y : t = S 8 j
        · rw [y, ai_tS_9, ai_tS_10, ai_tS_11, ai_tS_12]
          exact hNew
        · rw [ai_tS_k (k := 9) (by omega) (by omega), ai_tS_k (k := 10) (by omega) (by omega), ai_tS_k (k := 11) (by omega) (by omega), ai_tS_k (k := 12) (by omega) (by omega)]
          exact hOld t (by omega)
      · exact pd q9 p hq9 hp z
  · rcases hmem pl b hb with h | h
    · obtain ⟨q9, p, h1, h2, h4⟩ := hP1 pl hpl b h
      exact ⟨q9, p, by rw [e1 0 2 (by omega)]; exact h1, by rw [e1 3 _ (by omega)]; exact h2, h4⟩
    · exact ⟨q, S 3 q - 1, by rw [e1 0 2 (by omega)]; exact hq, by rw [e1 3 _ (by omega)]; omega, by rw [h, hj]⟩
  · rw [e1 0 2 (by omega)] at hq9
    rw [e1 3 _ (by omega)] at hp
    have o8 := ((hI4 q9 hq9).2.2.2.2.2.2 p hp).1
    rw [hcnt, hP2 q9 hq9 p hp pl hpl]
    by_cases z : 3 * q9 + p = j
    · rw [z]
      unfold ai_pc
      rw [ai_tS_8]
      show _ = ai_sm (S 8 j) _ + _
      dsimp only
      rw [ai_tS_9, ai_tS_10, ai_tS_11, ai_tS_12]
      congr 1
      · exact ai_sm_cong (fun t ht => by rw [ai_tS_k (k := 9) (by omega) (by omega), ai_tS_k (k := 10) (by omega) (by omega), ai_tS_k (k := 11) (by omega) (by omega), ai_tS_k (k := 12) (by omega) (by omega)])
      · by_cases y : bv = 0
        · rw [if_pos ⟨rfl, y⟩, if_pos y]
        · rw [if_neg (fun w9 => y w9.2), if_neg y]
    · have hne : pa (3 * q9 + p) ≠ pa j := by
        obtain ⟨_, _, _, z1, -⟩ := pd q9 p hq9 hp z
        exact ai_ne z1 hPa (by omega)
      rw [if_neg (fun w9 => hne w9.1), Nat.add_zero]
      exact (ai_pc_S (ai_tS_k (Or.inr z) (Or.inl (by omega))) (fun k t hk1 hk2 ht => ai_tS_k (Or.inl (by omega)) (Or.inr (Or.inr (by omega))))).symm
theorem i_X6_test_X3 : ∀ w ∈ wsX30, w ∈ wsX6_test := fun _ h => List.mem_cons_of_mem _ (List.mem_append_left _ (List.mem_append_left _ (List.mem_append_left _ (List.mem_append_left _ (List.mem_append_left _ (List.mem_append_left _ (List.mem_append_left _ (List.mem_append_left _ (List.mem_append_left _ (List.mem_append_right _ h))))))))))
theorem i_X6_test_X5 : ∀ w ∈ wsX50, w ∈ wsX6_test := fun _ h => List.mem_cons_of_mem _ (List.mem_append_left _ (List.mem_append_left _ (List.mem_append_left _ (List.mem_append_left _ (List.mem_append_left _ (List.mem_append_left _ (List.mem_append_left _ (List.mem_append_left _ (List.mem_append_right _ h)))))))))
theorem i_X6_test_X6 : ∀ w ∈ wsX60, w ∈ wsX6_test := fun _ h => List.mem_cons_of_mem _ (List.mem_append_left _ (List.mem_append_left _ (List.mem_append_left _ (List.mem_append_left _ (List.mem_append_left _ (List.mem_append_left _ (List.mem_append_left _ (List.mem_append_right _ h))))))))
set_option maxHeartbeats 4000000 in
set_option maxRecDepth 100000 in
theorem k_X6_test (l : Launch) (G : ai_G) (M : ai_M) (hst : l.stackTraces = false) {S : ai_S} {o x : Nat} (hR : ai_Rx G M S x) (hI : ai_I S o) {z nm lo hi : Int32} {bv : Nat} (hbv : bv = 0 ∨ bv = 1) : ai_D l yX6_test wsX6_test ({ frames := 7, cells := 70, slots := 200, locals := 171 } : Room) 70 200 G M [.ref x, .int z, .int nm, .int lo, .int hi, .int (nI bv)] (fun r M1 => ai_qo S z = true ∧ ai_r nm 6 = true ∧ ai_rg lo hi = true ∧ S 3 z.toNatClampNeg ≠ 0 ∧ S 8 (3 * z.toNatClampNeg + (S 3 z.toNatClampNeg - 1)) < 4 ∧ r = some (.int (nI (S 8 (3 * z.toNatClampNeg + (S 3 z.toNatClampNeg - 1)) + 1))) ∧ ai_Rx G M1 (ai_tS S (3 * z.toNatClampNeg + (S 3 z.toNatClampNeg - 1)) nm.toNatClampNeg lo.toNatClampNeg hi.toNatClampNeg bv) x ∧ ai_kq M M1) (fun E M1 => M1 = M ∧ ((E = "java/lang/IndexOutOfBoundsException" ∧ (ai_qo S z && ai_r nm 6) = false) ∨ (E = "java/lang/IllegalArgumentException" ∧ ai_qo S z = true ∧ ai_r nm 6 = true ∧ ai_rg lo hi = false) ∨ (E = "java/lang/IllegalStateException" ∧ ai_qo S z = true ∧ ai_r nm 6 = true ∧ ai_rg lo hi = true ∧ (S 3 z.toNatClampNeg = 0 ∨ S 8 (3 * z.toNatClampNeg + (S 3 z.toNatClampNeg - 1)) = 4)))) := by
  refine x_start (by decide +kernel) rfl (Nat.le_of_ble_eq_true rfl) (Nat.le_of_ble_eq_true rfl) (fun x hx => by simp only [List.mem_cons, List.not_mem_nil, or_false] at hx; rcases hx with rfl | rfl | rfl | rfl | rfl | rfl <;> rfl) ?_
  intro p e s m below meth c B htab
  obtain ⟨qs, dr, ix, fa, qa, pa, pst, hx0, -⟩ := id hR
  refine y_aload_n B dX6_test_0 rfl ?_
  refine y_iload_n B dX6_test_1 rfl ?_
  refine x_callV B 1 (q := (RX6, TX6, 4)) _ _ (k_X6_questionOf l G _ hst hR hI) hx0 rfl gX6_test_X6_questionOf (by decide +kernel) rfl rfl rfl rfl ⟨(Nat.le_of_ble_eq_true rfl), (Nat.le_of_ble_eq_true rfl)⟩ (Nat.le_of_ble_eq_true rfl) ⟨(Nat.le_of_ble_eq_true rfl), (Nat.le_of_ble_eq_true rfl)⟩ dX6_test_2 rfl (fun E M1 hr => ?_) (fun r M1 hr => ?_)
  · exact z_out B (fun x hx => (htab x hx).elim) (Nat.le_of_ble_eq_true rfl) (Nat.le_of_ble_eq_true rfl) (by obtain ⟨e1, e2, e3⟩ := hr; exact ⟨e3, Or.inl ⟨e1, by rw [e2]; rfl⟩⟩)
  obtain ⟨q, qs, dr, ix, fa, qa, pa, pst, hq, rfl, hq2, rfl, hR9, e9⟩ := hr; obtain rfl := e9.symm
  obtain ⟨hx, hL, hD, hIx, hQ, hP1, hP2⟩ := id hR9
  obtain ⟨dv, hD1, hD2⟩ := id hD
  obtain ⟨pl, hQa, hQl, hQp⟩ := id (hQ q hq)
  have hqo := ai_qo_t hI.2.1 hq hq2
  have eq9 : (nI q).toNatClampNeg = q := nI_clamp (by have := hI.2.1; omega)
  have hok := hI.2.2.2 q hq
  refine y_astore B dX6_test_5 (Nat.le_of_ble_eq_true rfl) ?_
  refine y_iload_n B dX6_test_7 rfl ?_
  refine x_callS B 1 _ _ (k_X6_refuseNoName l G _ hst) gX6_test_X6_refuseNoName (by decide +kernel) rfl rfl rfl rfl ⟨(Nat.le_of_ble_eq_true rfl), (Nat.le_of_ble_eq_true rfl)⟩ (Nat.le_of_ble_eq_true rfl) ⟨(Nat.le_of_ble_eq_true rfl), (Nat.le_of_ble_eq_true rfl)⟩ dX6_test_8 rfl (fun E M1 hr => ?_) (fun r M1 hr => ?_)
  · exact z_out B (fun x hx => (htab x hx).elim) (Nat.le_of_ble_eq_true rfl) (Nat.le_of_ble_eq_true rfl) (by obtain ⟨e1, e2, e3⟩ := hr; exact ⟨e2, Or.inl ⟨e1, by rw [e3, Bool.and_false]⟩⟩)
  obtain ⟨rfl, e9, hnm⟩ := hr
  obtain rfl := e9.symm
  obtain ⟨u, hu9, rfl⟩ := ai_r_of (by decide) hnm
  have eu9 : (nI u).toNatClampNeg = u := nI_clamp (by omega)
  refine y_iload_n B dX6_test_11 rfl ?_
  refine y_iload B dX6_test_12 rfl ?_
  refine x_callS B 2 _ _ (k_X6_refuseNoRange l G _ hst) gX6_test_X6_refuseNoRange (by decide +kernel) rfl rfl rfl rfl ⟨(Nat.le_of_ble_eq_true rfl), (Nat.le_of_ble_eq_true rfl)⟩ (Nat.le_of_ble_eq_true rfl) ⟨(Nat.le_of_ble_eq_true rfl), (Nat.le_of_ble_eq_true rfl)⟩ dX6_test_14 rfl (fun E M1 hr => ?_) (fun r M1 hr => ?_)
  · exact z_out B (fun x hx => (htab x hx).elim) (Nat.le_of_ble_eq_true rfl) (Nat.le_of_ble_eq_true rfl) (by obtain ⟨e1, e2, e3⟩ := hr; exact ⟨e2, Or.inr (Or.inl ⟨e1, hqo, hnm, e3⟩)⟩)
  obtain ⟨rfl, e9, hrg⟩ := hr
  obtain rfl := e9.symm
  obtain ⟨v1, v2, rfl, rfl, hu, hv, huv⟩ := ai_rg_of hrg
  have eu : (nI v1).toNatClampNeg = v1 := nI_clamp (by omega)
  have ev : (nI v2).toNatClampNeg = v2 := nI_clamp (by omega)
  refine y_aload B dX6_test_17 rfl ?_
  refine y_callV B 0 (q := (RX4, TX4, 6)) _ _ (k_X4_lastProduct l G _ (hQ q hq)) hQa rfl gX6_test_X4_lastProduct (by decide +kernel) rfl rfl rfl rfl ⟨(Nat.le_of_ble_eq_true rfl), (Nat.le_of_ble_eq_true rfl)⟩ (Nat.le_of_ble_eq_true rfl) ⟨(Nat.le_of_ble_eq_true rfl), (Nat.le_of_ble_eq_true rfl)⟩ dX6_test_19 rfl (fun r M9 hr => ?_)
  obtain ⟨rfl, e9⟩ := hr
  obtain rfl := e9.symm
  by_cases q19 : S 3 q = 0
  · rw [if_pos q19]
    refine y_astoreN B dX6_test_22 (Nat.le_of_ble_eq_true rfl) ?_
    refine y_aloadN B dX6_test_24 rfl ?_
    refine y_ifnonnullN B dX6_test_26 ?_
    exact x_throw B (E := "java/lang/IllegalStateException") (text := "the question has no product") (sv := 12) hst htab (by decide +kernel) (by decide +kernel) (by decide +kernel) (by decide +kernel) (fun w h => List.mem_cons_of_mem _ (List.mem_append_left _ (List.mem_append_left _ (List.mem_append_right _ h)))) x_bad_44 x_good_44 dX6_test_29 dX6_test_32 dX6_test_33 dX6_test_35 dX6_test_38 (Nat.le_of_ble_eq_true rfl) (Nat.le_of_ble_eq_true rfl) (Nat.le_of_ble_eq_true rfl) (Nat.le_of_ble_eq_true rfl) (Nat.le_of_ble_eq_true rfl) (Nat.le_of_ble_eq_true rfl) (⟨rfl, Or.inr (Or.inr ⟨rfl, hqo, hnm, hrg, Or.inl (by rw [eq9]; exact q19)⟩)⟩)
  · rw [if_neg q19]
    obtain ⟨tl, ta, hits, hPa, hPl, hPt⟩ := hQp (S 3 q - 1) (by omega)
    have ho8 := (hok.2.2.2.2.2.2 (S 3 q - 1) (by omega)).1
    obtain ⟨j, hj⟩ : ∃ j, j = 3 * q + (S 3 q - 1) := ⟨_, rfl⟩
    rw [← hj] at hPa hPl hPt ho8 ⊢
    obtain ⟨mct, arrt, capt, hht, hlt, -⟩ := id hPl
    have hn20 := hI.2.1
    have hbl := hok.2.1
    refine y_astore B dX6_test_22 (Nat.le_of_ble_eq_true rfl) ?_
    refine y_aload B dX6_test_24 rfl ?_
    refine y_ifnonnull B 39 dX6_test_26 (by decide) ?_
    refine y_aload B dX6_test_39 rfl ?_
    refine y_get B (ref := "AlertIndex$Product") (ci := 4) (C := RX3) (T := TX3) (N := 3) hPa rfl i_X6_test_X3 0 (by decide) (by decide +kernel) (fun _ h9 => h9) rfl dX6_test_41 ?_
    refine y_callF B 0 (x := ⟨"java/util/List", "size", "()I"⟩) (q := (RJx4a65c, TJx4a65c, 3)) _ _ (k_Jx4a65c_size_8abf5 l G _ hPl) hlt rfl gX6_test_Jx4a65c_size_8abf5_f34Jx4a65c B.2.2.2.2.2.2.2.2.1.1.2.2.2.2.2.2.1 (by decide +kernel) rfl rfl rfl rfl ⟨(Nat.le_of_ble_eq_true rfl), (Nat.le_of_ble_eq_true rfl)⟩ (Nat.le_of_ble_eq_true rfl) ⟨(Nat.le_of_ble_eq_true rfl), (Nat.le_of_ble_eq_true rfl)⟩ dX6_test_44 rfl (fun r M9 hr => ?_)
    obtain ⟨rfl, e9⟩ := hr
    obtain rfl := e9.symm
    refine y_iconst B (nI 4) dX6_test_49 (by decide +kernel) ?_
    refine y_icmp_lt B 63 dX6_test_50 (by decide) (fun c50 => ?_) (fun c50 => ?_)
    · have q50 : S 8 j < 4 := (nI_ltI (by omega) (by decide)).mp c50
      refine y_aload B dX6_test_63 rfl ?_
      refine y_get B (ref := "AlertIndex$Product") (ci := 4) (C := RX3) (T := TX3) (N := 3) hPa rfl i_X6_test_X3 0 (by decide) (by decide +kernel) (fun _ h9 => h9) rfl dX6_test_65 ?_
      refine y_new B (C := RX5) (T := TX5) (N := 4) (ci := 6) (10000 + 100 * j + 10 + S 8 j) [.int 0, .int 0, .int 0, .int 0] i_X6_test_X5 tyX5 tyX5_ok (by decide +kernel) (by decide +kernel) (by decide +kernel) rfl (fun j hj => by rcases (show j = 0 ∨ j = 1 ∨ j = 2 ∨ j = 3 by omega) with rfl | rfl | rfl | rfl <;> rfl) (Nat.le_of_ble_eq_true rfl) (Nat.le_of_ble_eq_true rfl) dX6_test_68 (fun a ha => ?_)
      refine y_dup B dX6_test_71 rfl ?_
      refine y_iload_n B dX6_test_72 rfl ?_
      refine y_iload_n B dX6_test_73 rfl ?_
      refine y_iload B dX6_test_74 rfl ?_
      refine y_iload B dX6_test_76 rfl ?_
      refine y_callI B 4 _ _ (k_X5_init l G _ ai_U_s hbv) gX6_test_X5_init (by decide +kernel) (by decide +kernel) (by decide +kernel) rfl (by decide +kernel) rfl rfl rfl rfl ⟨(Nat.le_of_ble_eq_true rfl), (Nat.le_of_ble_eq_true rfl)⟩ (Nat.le_of_ble_eq_true rfl) ⟨(Nat.le_of_ble_eq_true rfl), (Nat.le_of_ble_eq_true rfl)⟩ dX6_test_78 rfl (fun r M9 hr => ?_)
      obtain ⟨rfl, rfl⟩ := hr
      rw [ai_UU]
      obtain ⟨MA, eA⟩ : ∃ z, z = ai_U M a (10000 + 100 * j + 10 + S 8 j) (.inr (6, [.int (nI u), .int (nI v1), .int (nI v2), .int (nI bv)])) := ⟨_, rfl⟩
      refine y_mem (M' := MA) (fun b g e hb => by rw [eA] at hb; exact hb) ?_
      have kA : ∀ (b g : Nat) (e : va_E), M b = some (g, e) → MA b = some (g, e) := fun b g e hb => by rw [eA]; exact ai_U_f ha hb
      have hAa : MA a = some (10000 + 100 * j + 10 + S 8 j, .inr (6, [.int (nI u), .int (nI v1), .int (nI v2), .int (nI bv)])) := by rw [eA]; exact ai_U_s
      have hlA := hPl.keep (M' := MA) (fun b g e hb _ => kA b g e hb)
      obtain ⟨mcA, arrA, capA, hhA, hlA1, -⟩ := id hlA
      refine y_callF B 1 (x := ⟨"java/util/List", "add", "(Ljava/lang/Object;)Z"⟩) (q := (RJx4a65c, TJx4a65c, 3)) _ _ (k_Jx4a65c_add_9ea2d l G _ (ci := 6) (qc := (RX5, TX5, 4)) rfl (by decide +kernel) hlA (by omega) (fun i hi => ⟨_, _, kA _ _ _ (hPt i hi)⟩) hAa (by omega) (fun i hi g9 e9 z9 => by rw [kA _ _ _ (hPt i hi)] at z9; cases z9; omega)) hlA1 rfl gX6_test_Jx4a65c_add_9ea2d_f50Jx4a65c B.2.2.2.2.2.2.2.2.1.1.2.2.2.2.2.2.2.2.2.1 (by decide +kernel) rfl rfl rfl rfl ⟨(Nat.le_of_ble_eq_true rfl), (Nat.le_of_ble_eq_true rfl)⟩ (Nat.le_of_ble_eq_true rfl) ⟨(Nat.le_of_ble_eq_true rfl), (Nat.le_of_ble_eq_true rfl)⟩ dX6_test_81 rfl (fun r MB hr => ?_)
      obtain ⟨rfl, hl2, hk3⟩ := hr
      have kB : ∀ (b g : Nat) (e : va_E), M b = some (g, e) → g ≠ 10000 + 100 * j + 2 → g ≠ 10000 + 100 * j + 3 → MB b = some (g, e) := fun b g e hb g1 g2 => hk3 b g e (kA b g e hb) g1 g2
      have hPB := kB _ _ _ hPa (by omega) (by omega)
      have hNB := hk3 _ _ _ hAa (by omega) (by omega)
      refine y_pop B dX6_test_86 rfl ?_
      refine y_iload B dX6_test_87 rfl ?_
      refine y_if_ne B 116 dX6_test_89 (by decide) (fun c89 => ?_) (fun c89 => ?_)
      · have q89 : bv ≠ 0 := fun z => c89 (by rw [z]; rfl)
        have keepF : ∀ (b g : Nat) (e : va_E), M b = some (g, e) → g ≠ 10000 + 100 * j → g ≠ 10000 + 100 * j + 2 → g ≠ 10000 + 100 * j + 3 → g ≠ 107 → MB b = some (g, e) := fun b g e hb _ g2 g3 _ => kB b g e hb g2 g3
        have hlF := hl2
        obtain ⟨fi, hIx9⟩ := hIx
        have hRT := hR9.addT (M4 := MB) (u := u) (lo := v1) (hi := v2) (bv := bv) hI hq (by omega) hj q50 keepF (by rw [ai_tS_pn, if_neg q89]; exact hPB) hl2 (fun t ht => by rw [va_up, if_neg (by omega)]; exact kB _ _ _ (hPt t ht) (by omega) (by omega)) (by rw [va_up, if_pos rfl]; exact hNB) ⟨fi, hIx9.keep (fun b g e hb hg => kB b g e hb (by omega) (by omega))⟩ (fun pl b hb => Or.inl hb) (fun pl b => by rw [if_neg (fun z => q89 z.2), Nat.add_zero])
        obtain ⟨mcF, arrF, capF, hhF, hlF1, -⟩ := id hlF
        refine y_aload B dX6_test_116 rfl ?_
        refine y_get B (ref := "AlertIndex$Product") (ci := 4) (C := RX3) (T := TX3) (N := 3) hPB rfl i_X6_test_X3 0 (by decide) (by decide +kernel) (fun _ h9 => h9) rfl dX6_test_118 ?_
        refine y_callF B 0 (x := ⟨"java/util/List", "size", "()I"⟩) (q := (RJx4a65c, TJx4a65c, 3)) _ _ (k_Jx4a65c_size_8abf5 l G _ hlF) hlF1 rfl gX6_test_Jx4a65c_size_8abf5_f34Jx4a65c B.2.2.2.2.2.2.2.2.1.1.2.2.2.2.2.2.1 (by decide +kernel) rfl rfl rfl rfl ⟨(Nat.le_of_ble_eq_true rfl), (Nat.le_of_ble_eq_true rfl)⟩ (Nat.le_of_ble_eq_true rfl) ⟨(Nat.le_of_ble_eq_true rfl), (Nat.le_of_ble_eq_true rfl)⟩ dX6_test_121 rfl (fun r M9 hr => ?_)
        obtain ⟨rfl, e9⟩ := hr
        obtain rfl := e9.symm
        exact x_iret B dX6_test_126 (Nat.le_of_ble_eq_true rfl) (Nat.le_of_ble_eq_true rfl) (⟨hqo, hnm, hrg, by rw [eq9]; exact q19, by rw [eq9, ← hj]; exact q50, by rw [eq9, ← hj], ⟨qs, dr, ix, fa, qa, pa, pst, by rw [eq9, ← hj, eu9, eu, ev]; exact hRT⟩, fun b g e hb g1 _ => keepF b g e hb (by omega) (by omega) (by omega) (by omega)⟩)
      · have q89 : bv = 0 := (nI_eq (by omega) (by decide)).mp c89
        refine y_aload B dX6_test_92 rfl ?_
        refine y_dup B dX6_test_94 rfl ?_
        refine y_get B (ref := "AlertIndex$Product") (ci := 4) (C := RX3) (T := TX3) (N := 3) hPB rfl i_X6_test_X3 1 (by decide) (by decide +kernel) (fun _ h9 => h9) rfl dX6_test_95 ?_
        refine y_iconst B (nI 1) dX6_test_98 (by decide +kernel) ?_
        refine y_iadd B (nI (ai_pn S j + 1)) dX6_test_99 (nI_1 _) ?_
        refine y_put B (ref := "AlertIndex$Product") (ci := 4) (C := RX3) (T := TX3) (N := 3) (ty := .int) hPB rfl i_X6_test_X3 tyX3 tyX3_ok nmX3 1 (by decide) (by decide +kernel) (fun _ h9 => h9) rfl (by decide +kernel) rfl rfl (Nat.le_of_ble_eq_true rfl) dX6_test_100 ?_
        obtain ⟨MC, eC⟩ : ∃ z, z = ai_U MB (pa j) (10000 + 100 * j) (.inr (4, [.ref tl, .int (nI (ai_pn S j + 1)), .int hits])) := ⟨_, rfl⟩
        refine y_mem (M' := MC) (fun b g e hb => by rw [eC] at hb; exact hb) ?_
        have kC : ∀ (b g : Nat) (e : va_E), MB b = some (g, e) → g ≠ 10000 + 100 * j → MC b = some (g, e) := fun b g e hb g1 => by rw [eC]; exact ai_U_k hPB hb g1
        have hPC : MC (pa j) = some (10000 + 100 * j, .inr (4, [.ref tl, .int (nI (ai_pn S j + 1)), .int hits])) := by rw [eC]; exact ai_U_s
        obtain ⟨fi, hIx9⟩ := hIx
        have hIxC := (hIx9.keep (fun b g e hb hg => kB b g e hb (by omega) (by omega))).keep (fun b g e hb hg => kC b g e hb (by omega))
        have hxC := kC _ _ _ (kB _ _ _ hx (by omega) (by omega)) (by omega)
        refine y_aload_n B dX6_test_103 rfl ?_
        refine y_get B (ref := "AlertIndex") (ci := 7) (C := RX6) (T := TX6) (N := 4) hxC rfl i_X6_test_X6 2 (by decide) (by decide +kernel) (fun _ h9 => h9) rfl dX6_test_104 ?_
        refine y_aload B dX6_test_107 rfl ?_
        refine y_iload_n B dX6_test_109 rfl ?_
        refine y_iload_n B dX6_test_110 rfl ?_
        refine y_iload B dX6_test_111 rfl ?_
        refine y_callV B 4 (q := (RX1, TX1, 1)) _ _ (k_X1_enter l G _ hIxC (pr := pa j) hu9 hu hv) hIxC.1 rfl gX6_test_X1_enter (by decide +kernel) rfl rfl rfl rfl ⟨(Nat.le_of_ble_eq_true rfl), (Nat.le_of_ble_eq_true rfl)⟩ (Nat.le_of_ble_eq_true rfl) ⟨(Nat.le_of_ble_eq_true rfl), (Nat.le_of_ble_eq_true rfl)⟩ dX6_test_113 rfl (fun r MD hr => ?_)
        obtain ⟨rfl, hIxD, kD⟩ := hr
        have nfa : ∀ (b g : Nat) (e : va_E), MC b = some (g, e) → g ≠ 107 → b ≠ fa := fun b g e hb hg => ai_ne hb hIxC.2.1 hg
        have keepF : ∀ (b g : Nat) (e : va_E), M b = some (g, e) → g ≠ 10000 + 100 * j → g ≠ 10000 + 100 * j + 2 → g ≠ 10000 + 100 * j + 3 → g ≠ 107 → MD b = some (g, e) := fun b g e hb g1 g2 g3 g4 => kD b g e (kC b g e (kB b g e hb g2 g3) g1) (nfa b g e (kC b g e (kB b g e hb g2 g3) g1) g4)
        have hPD := kD _ _ _ hPC (nfa _ _ _ hPC (by omega))
        have hlF := (hl2.keep (fun b g e hb hg => kC b g e hb (by omega))).keep (M' := MD) (fun b g e hb hg => kD b g e hb (nfa b g e hb (by omega)))
        have hRT := hR9.addT (M4 := MD) (u := u) (lo := v1) (hi := v2) (bv := bv) hI hq (by omega) hj q50 keepF (by rw [ai_tS_pn, if_pos q89]; exact hPD) hlF (fun t ht => by rw [va_up, if_neg (by omega)]; exact keepF _ _ _ (hPt t ht) (by omega) (by omega) (by omega) (by omega)) (by rw [va_up, if_pos rfl]; exact kD _ _ _ (kC _ _ _ hNB (by omega)) (nfa _ _ _ (kC _ _ _ hNB (by omega)) (by omega))) hIxD (fun pl b hb => ai_en_mem hb) (fun pl b => by rw [ai_en_count]; by_cases y : b = pa j; rw [if_pos y, if_pos ⟨y, q89⟩]; rw [if_neg y, if_neg (fun z => y z.1)])
        obtain ⟨mcF, arrF, capF, hhF, hlF1, -⟩ := id hlF
        refine y_aload B dX6_test_116 rfl ?_
        refine y_get B (ref := "AlertIndex$Product") (ci := 4) (C := RX3) (T := TX3) (N := 3) hPD rfl i_X6_test_X3 0 (by decide) (by decide +kernel) (fun _ h9 => h9) rfl dX6_test_118 ?_
        refine y_callF B 0 (x := ⟨"java/util/List", "size", "()I"⟩) (q := (RJx4a65c, TJx4a65c, 3)) _ _ (k_Jx4a65c_size_8abf5 l G _ hlF) hlF1 rfl gX6_test_Jx4a65c_size_8abf5_f34Jx4a65c B.2.2.2.2.2.2.2.2.1.1.2.2.2.2.2.2.1 (by decide +kernel) rfl rfl rfl rfl ⟨(Nat.le_of_ble_eq_true rfl), (Nat.le_of_ble_eq_true rfl)⟩ (Nat.le_of_ble_eq_true rfl) ⟨(Nat.le_of_ble_eq_true rfl), (Nat.le_of_ble_eq_true rfl)⟩ dX6_test_121 rfl (fun r M9 hr => ?_)
        obtain ⟨rfl, e9⟩ := hr
        obtain rfl := e9.symm
        exact x_iret B dX6_test_126 (Nat.le_of_ble_eq_true rfl) (Nat.le_of_ble_eq_true rfl) (⟨hqo, hnm, hrg, by rw [eq9]; exact q19, by rw [eq9, ← hj]; exact q50, by rw [eq9, ← hj], ⟨qs, dr, ix, fa, qa, pa, _, by rw [eq9, ← hj, eu9, eu, ev]; exact hRT⟩, fun b g e hb g1 _ => keepF b g e hb (by omega) (by omega) (by omega) (by omega)⟩)
    · have q50 : S 8 j = 4 := by have y : ¬ S 8 j < 4 := fun z => c50 ((nI_ltI (by omega) (by decide)).mpr z); omega
      exact x_throw B (E := "java/lang/IllegalStateException") (text := "the last product has 4 tests") (sv := 13) hst htab (by decide +kernel) (by decide +kernel) (by decide +kernel) (by decide +kernel) (fun w h => List.mem_cons_of_mem _ (List.mem_append_left _ (List.mem_append_left _ (List.mem_append_right _ h)))) x_bad_44 x_good_44 dX6_test_53 dX6_test_56 dX6_test_57 dX6_test_59 dX6_test_62 (Nat.le_of_ble_eq_true rfl) (Nat.le_of_ble_eq_true rfl) (Nat.le_of_ble_eq_true rfl) (Nat.le_of_ble_eq_true rfl) (Nat.le_of_ble_eq_true rfl) (Nat.le_of_ble_eq_true rfl) (⟨rfl, Or.inr (Or.inr ⟨rfl, hqo, hnm, hrg, Or.inr (by rw [eq9, ← hj]; exact q50)⟩)⟩)
