/-! ===== WHAT CHANGES QUESTIONS, DRAFT AND TIME ===== -/
theorem ai_Pd.S {G : ai_G} {M : ai_M} {S S' : ai_S} {j a : Nat} (hp : ai_Pd G M S j a) (h8 : S' 8 j = S 8 j) (h : ∀ k t, 9 ≤ k → k ≤ 12 → t < S 8 j → S' k (4 * j + t) = S k (4 * j + t)) : ai_Pd G M S' j a := by
  obtain ⟨tl, ta, hits, h1, h2, h3⟩ := hp
  have e : ai_pn S' j = ai_pn S j := by
    unfold ai_pn
    rw [h8]
    exact ai_cn_cong (fun t ht => by rw [h 12 t (by omega) (by omega) ht])
  refine ⟨tl, ta, hits, by rw [e]; exact h1, by rw [h8]; exact h2, fun t ht => ?_⟩
  rw [h8] at ht
  unfold ai_Te
  rw [h 9 t (by omega) (by omega) ht, h 10 t (by omega) (by omega) ht, h 11 t (by omega) (by omega) ht, h 12 t (by omega) (by omega) ht]
  exact h3 t ht
theorem ai_pc_S {S S' : ai_S} {j pl : Nat} (h8 : S' 8 j = S 8 j) (h : ∀ k t, 9 ≤ k → k ≤ 12 → t < S 8 j → S' k (4 * j + t) = S k (4 * j + t)) : ai_pc S' j pl = ai_pc S j pl := by
  unfold ai_pc
  rw [h8]
  exact ai_sm_cong (fun t ht => by rw [h 9 t (by omega) (by omega) ht, h 10 t (by omega) (by omega) ht, h 11 t (by omega) (by omega) ht, h 12 t (by omega) (by omega) ht])
theorem ai_Qd.S {G : ai_G} {M : ai_M} {S S' : ai_S} {pa : Nat → Nat} {q a : Nat} (hq : ai_Qd G M S pa q a) (h2 : ∀ k, 2 ≤ k → k ≤ 7 → S' k q = S k q) (h8 : ∀ k i, 8 ≤ k → S' k i = S k i) : ai_Qd G M S' pa q a := by
  obtain ⟨pl, h1, hl, hp⟩ := hq
  refine ⟨pl, ?_, ?_, fun p hp9 => ?_⟩
  · rw [h2 2 (by omega) (by omega), h2 4 (by omega) (by omega), h2 5 (by omega) (by omega), h2 6 (by omega) (by omega), h2 7 (by omega) (by omega)]
    exact h1
  · rw [h2 3 (by omega) (by omega)]
    exact hl
  · rw [h2 3 (by omega) (by omega)] at hp9
    exact (hp p hp9).S (h8 8 _ (by omega)) (fun k t hk _ _ => h8 k _ (by omega))
theorem ai_Pd.keep {G : ai_G} {M M' : ai_M} {S : ai_S} {j a : Nat} (hp : ai_Pd G M S j a) (h4 : S 8 j ≤ 4) (hk : ∀ (b g : Nat) (e : va_E), M b = some (g, e) → 10000 + 100 * j ≤ g → g < 10100 + 100 * j → M' b = some (g, e)) : ai_Pd G M' S j a := by
  obtain ⟨tl, ta, hits, h1, h2, h3⟩ := hp
  exact ⟨tl, ta, hits, hk _ _ _ h1 (by omega) (by omega), h2.keep (fun b g e hb hg => hk b g e hb (by omega) (by omega)), fun t ht => hk _ _ _ (h3 t ht) (by omega) (by omega)⟩
theorem ai_Qd.keep {G : ai_G} {M M' : ai_M} {S : ai_S} {pa : Nat → Nat} {q a : Nat} (hq : ai_Qd G M S pa q a) (h3 : S 3 q ≤ 3) (h4 : ∀ p, p < S 3 q → S 8 (3 * q + p) ≤ 4) (hk : ∀ (b g : Nat) (e : va_E), M b = some (g, e) → (1000 + 100 * q ≤ g ∧ g < 1100 + 100 * q) ∨ (10000 + 300 * q ≤ g ∧ g < 10300 + 300 * q) → M' b = some (g, e)) : ai_Qd G M' S pa q a := by
  obtain ⟨pl, h1, hl, hp⟩ := hq
  exact ⟨pl, hk _ _ _ h1 (Or.inl (by omega)), hl.keep (fun b g e hb hg => hk b g e hb (Or.inl (by omega))), fun p hp9 => (hp p hp9).keep (h4 p hp9) (fun b g e hb g1 g2 => hk b g e hb (Or.inr (by omega)))⟩
theorem ai_Dr.keep {G : ai_G} {M M' : ai_M} {S : ai_S} {dr : Nat} (h : ai_Dr G M S dr) (hk : ∀ (b g : Nat) (e : va_E), M b = some (g, e) → g = 104 ∨ g = 105 → M' b = some (g, e)) : ai_Dr G M' S dr := by
  obtain ⟨dv, h1, h2⟩ := h
  exact ⟨dv, hk _ _ _ h1 (Or.inl rfl), hk _ _ _ h2 (Or.inr rfl)⟩
theorem ai_Ix.keep {G : ai_G} {M M' : ai_M} {pst : Nat → List Nat} {ix fa : Nat} {fi : Nat → Option Nat} (h : ai_Ix G M pst ix fa fi) (hk : ∀ (b g : Nat) (e : va_E), M b = some (g, e) → g = 106 ∨ g = 107 ∨ g = 108 → M' b = some (g, e)) : ai_Ix G M' pst ix fa fi :=
  ⟨hk _ _ _ h.1 (Or.inl rfl), hk _ _ _ h.2.1 (Or.inr (Or.inl rfl)), fun pl hp => (h.2.2 pl hp).keep (fun b e hb => hk _ _ _ hb (Or.inr (Or.inr rfl)))⟩
/-- bounds alone -/
def ai_okJ (S : ai_S) (q : Nat) : Prop := S 2 q ≤ 1 ∧ S 3 q ≤ 3 ∧ S 4 q ≤ 1000 ∧ S 5 q ≤ 1002000 ∧ S 7 q ≤ 100000 ∧ ∀ p, p < S 3 q → ai_okP S (3 * q + p)
def ai_J (S : ai_S) : Prop := S 0 1 ≤ 1000000 ∧ S 0 2 ≤ 20 ∧ (∀ i, i < 6 → S 1 i ≤ 64) ∧ ∀ q, q < S 0 2 → ai_okJ S q
theorem ai_I.J {S : ai_S} {o : Nat} (h : ai_I S o) (ho : o ≤ 100000) : ai_J S := ⟨h.1, h.2.1, h.2.2.1, fun q hq => by
  obtain ⟨h2, h3, h4, h5, h7, h8, h9⟩ := h.2.2.2 q hq
  exact ⟨h2, h3, h4, by have := h.1; omega, by omega, h9⟩⟩
/-- one question's numbers change -/
theorem ai_R.q {G : ai_G} {M : ai_M} {S S' : ai_S} {x qs dr ix fa q pl : Nat} {qa pa : Nat → Nat} {pst : Nat → List Nat} {v : Value} {e0 : va_E} (hR : ai_R G M S x qs dr ix fa qa pa pst) (hI : ai_J S) (hq : q < S 0 2) (hS : ∀ k i, (k < 2 ∨ k = 3 ∨ 8 ≤ k ∨ i ≠ q) → S' k i = S k i) (hQa : M (qa q) = some (1000 + 100 * q, .inr (5, [.ref pl, .int (nI (S 2 q)), .int (nI (S 4 q)), .int (nI (S 5 q)), .int (nI (S 6 q)), .int (nI (S 7 q))])))
    (he : e0 = .inr (5, [.ref pl, .int (nI (S' 2 q)), .int (nI (S' 4 q)), .int (nI (S' 5 q)), .int (nI (S' 6 q)), .int (nI (S' 7 q))])) : ai_R G (ai_U M (qa q) (1000 + 100 * q) e0) S' x qs dr ix fa qa pa pst := by
  obtain ⟨hx, hL, hD, ⟨fi, hIx⟩, hQ, hP1, hP2⟩ := hR
  have keep : ∀ (b g : Nat) (e : va_E), M b = some (g, e) → g ≠ 1000 + 100 * q → ai_U M (qa q) (1000 + 100 * q) e0 b = some (g, e) := fun b g e hb hg => ai_U_k hQa hb hg
  have e8 : ∀ k i, 8 ≤ k → S' k i = S k i := fun k i hk => hS k i (Or.inr (Or.inr (Or.inl hk)))
  have n2 : S' 0 2 = S 0 2 := hS 0 2 (Or.inl (by omega))
  have hI4 := hI.2.2.2
  refine ⟨?_, ?_, ?_, ⟨fi, hIx.keep (fun b g e hb hg => keep b g e hb (by omega))⟩, fun q9 hq9 => ?_, fun pl hpl b hb => ?_, fun q9 hq9 p hp pl hpl => ?_⟩
  · rw [hS 0 1 (Or.inl (by omega))]
    exact keep _ _ _ hx (by omega)
  · rw [n2]
    exact hL.keep (fun b g e hb hg => keep b g e hb (by omega))
  · have z := hD.keep (M' := ai_U M (qa q) (1000 + 100 * q) e0) (fun b g e hb hg => keep b g e hb (by omega))
    obtain ⟨dv, z1, z2⟩ := z
    exact ⟨dv, z1, by rw [show (fun i => ai_nD (S' 1 i)) = fun i => ai_nD (S 1 i) from by funext i; rw [hS 1 i (Or.inl (by omega))]]; exact z2⟩
  · rw [n2] at hq9
    by_cases z : q9 = q
    · subst z
      obtain ⟨pl9, h1, hl, hp⟩ := hQ q9 hq9
      have epl : pl9 = pl := by rw [h1] at hQa; cases hQa; rfl
      subst epl
      have o9 := hI4 q9 hq9
      refine ⟨pl9, ?_, ?_, fun p hp9 => ?_⟩
      · rw [he]; exact ai_U_s
      · rw [hS 3 q9 (Or.inr (Or.inl rfl))]
        exact hl.keep (fun b g e hb hg => keep b g e hb (by omega))
      · rw [hS 3 q9 (Or.inr (Or.inl rfl))] at hp9
        exact ((hp p hp9).keep (o9.2.2.2.2.2 p hp9).1 (fun b g e hb g1 g2 => keep b g e hb (by have := hI.2.1; omega))).S (e8 8 _ (by omega)) (fun k t hk _ _ => e8 k _ (by omega))
    · have o9 := hI4 q9 hq9
      exact ((hQ q9 hq9).keep o9.2.1 (fun p hp9 => (o9.2.2.2.2.2 p hp9).1) (fun b g e hb hg => keep b g e hb (by have := hI.2.1; omega))).S (fun k hk1 hk2 => hS k q9 (Or.inr (Or.inr (Or.inr z)))) e8
  · obtain ⟨q9, p, h1, h2, h3⟩ := hP1 pl hpl b hb
    exact ⟨q9, p, by rw [n2]; exact h1, by rw [hS 3 q9 (Or.inr (Or.inl rfl))]; exact h2, h3⟩
  · rw [n2] at hq9
    rw [hS 3 q9 (Or.inr (Or.inl rfl))] at hp
    rw [hP2 q9 hq9 p hp pl hpl]
    exact (ai_pc_S (e8 8 _ (by omega)) (fun k t hk _ _ => e8 k _ (by omega))).symm
theorem ai_kq.U {M : ai_M} {a g : Nat} {e0 e : va_E} (h : M a = some (g, e0)) (hg : 100 ≤ g) : ai_kq M (ai_U M a g e) := fun b g' e' hb h1 _ => ai_U_k h hb (by omega)
theorem ai_kq.rf {M : ai_M} : ai_kq M M := fun b g e h _ _ => h
theorem ai_kq.tr {M M1 M2 : ai_M} (h1 : ai_kq M M1) (h2 : ai_kq M1 M2) : ai_kq M M2 := fun b g e h hg he => h2 b g e (h1 b g e h hg he) hg he
theorem i_X6_setQuiet_X4 : ∀ w ∈ wsX40, w ∈ wsX6_setQuiet := fun _ h => List.mem_cons_of_mem _ (List.mem_append_left _ (List.mem_append_left _ (List.mem_append_left _ (List.mem_append_left _ (List.mem_append_right _ h)))))
theorem i_X6_drop_X4 : ∀ w ∈ wsX40, w ∈ wsX6_drop := fun _ h => List.mem_cons_of_mem _ (List.mem_append_left _ (List.mem_append_left _ (List.mem_append_left _ (List.mem_append_right _ h))))
theorem i_X6_set_X6 : ∀ w ∈ wsX60, w ∈ wsX6_set := fun _ h => List.mem_cons_of_mem _ (List.mem_append_left _ (List.mem_append_left _ (List.mem_append_left _ (List.mem_append_right _ h))))
theorem i_X6_come_X6 : ∀ w ∈ wsX60, w ∈ wsX6_come := fun _ h => List.mem_cons_of_mem _ (List.mem_append_left _ (List.mem_append_left _ (List.mem_append_left _ (List.mem_append_left _ (List.mem_append_left _ (List.mem_append_right _ h))))))
theorem i_X6_advance_X6 : ∀ w ∈ wsX60, w ∈ wsX6_advance := fun _ h => List.mem_cons_of_mem _ (List.mem_append_left _ (List.mem_append_left _ (List.mem_append_left _ (List.mem_append_left _ (List.mem_append_right _ h)))))
set_option maxHeartbeats 4000000 in
set_option maxRecDepth 100000 in
theorem k_X6_setQuiet (l : Launch) (G : ai_G) (M : ai_M) (hst : l.stackTraces = false) {S : ai_S} {o x : Nat} (hR : ai_Rx G M S x) (hI : ai_I S o) (ho : o ≤ 100000) {z mm : Int32} : ai_D l yX6_setQuiet wsX6_setQuiet ({ frames := 7, cells := 2, slots := 12, locals := 112 } : Room) 2 12 G M [.ref x, .int z, .int mm] (fun r M1 => ai_qo S z = true ∧ ai_r mm 1001 = true ∧ r = some (.int (nI (S 4 z.toNatClampNeg))) ∧ ai_Rx G M1 (ai_u S 4 z.toNatClampNeg mm.toNatClampNeg) x ∧ ai_kq M M1) (fun E M1 => M1 = M ∧ ((E = "java/lang/IndexOutOfBoundsException" ∧ ai_qo S z = false) ∨ (E = "java/lang/IllegalArgumentException" ∧ ai_qo S z = true ∧ ai_r mm 1001 = false))) := by
  refine x_start (by decide +kernel) rfl (Nat.le_of_ble_eq_true rfl) (Nat.le_of_ble_eq_true rfl) (fun x hx => by simp only [List.mem_cons, List.not_mem_nil, or_false] at hx; rcases hx with rfl | rfl | rfl <;> rfl) ?_
  intro p e s m below meth c B htab
  obtain ⟨qs, dr, ix, fa, qa, pa, pst, hx0, -⟩ := id hR
  refine y_aload_n B dX6_setQuiet_0 rfl ?_
  refine y_iload_n B dX6_setQuiet_1 rfl ?_
  refine x_callV B 1 (q := (RX6, TX6, 4)) _ _ (k_X6_questionOf l G _ hst hR hI) hx0 rfl gX6_setQuiet_X6_questionOf (by decide +kernel) rfl rfl rfl rfl ⟨(Nat.le_of_ble_eq_true rfl), (Nat.le_of_ble_eq_true rfl)⟩ (Nat.le_of_ble_eq_true rfl) ⟨(Nat.le_of_ble_eq_true rfl), (Nat.le_of_ble_eq_true rfl)⟩ dX6_setQuiet_2 rfl (fun E M1 hr => ?_) (fun r M1 hr => ?_)
  · exact z_out B (fun x hx => (htab x hx).elim) (Nat.le_of_ble_eq_true rfl) (Nat.le_of_ble_eq_true rfl) (by obtain ⟨e1, e2, e3⟩ := hr; exact ⟨e3, Or.inl ⟨e1, e2⟩⟩)
  obtain ⟨q, qs, dr, ix, fa, qa, pa, pst, hq, rfl, hq2, rfl, hR9, rfl⟩ := hr
  obtain ⟨hx, hL, hD, hIx, hQ, hP1, hP2⟩ := id hR9
  obtain ⟨dv, hD1, hD2⟩ := id hD
  obtain ⟨pl, hQa, hQl, hQp⟩ := id (hQ q hq)
  have hqo := ai_qo_t hI.2.1 hq hq2
  have eq9 : (nI q).toNatClampNeg = q := nI_clamp (by have := hI.2.1; omega)
  refine y_astore_n B dX6_setQuiet_5 (Nat.le_of_ble_eq_true rfl) ?_
  refine y_iload_n B dX6_setQuiet_6 rfl ?_
  refine y_if_lt B 17 dX6_setQuiet_7 (by decide) (fun c7 => ?_) (fun c7 => ?_)
  · have q7 : ai_r mm 1001 = false := ai_r_neg c7
    exact x_throw B (E := "java/lang/IllegalArgumentException") (text := "a quiet time is 0 to 1000 minutes") (sv := 14) hst htab (by decide +kernel) (by decide +kernel) (by decide +kernel) (by decide +kernel) (fun w h => List.mem_cons_of_mem _ (List.mem_append_left _ (List.mem_append_right _ h))) x_bad_108 x_good_108 dX6_setQuiet_17 dX6_setQuiet_20 dX6_setQuiet_21 dX6_setQuiet_23 dX6_setQuiet_26 (Nat.le_of_ble_eq_true rfl) (Nat.le_of_ble_eq_true rfl) (Nat.le_of_ble_eq_true rfl) (Nat.le_of_ble_eq_true rfl) (Nat.le_of_ble_eq_true rfl) (Nat.le_of_ble_eq_true rfl) (⟨rfl, Or.inr ⟨rfl, hqo, q7⟩⟩)
  · refine y_iload_n B dX6_setQuiet_10 rfl ?_
    refine y_sipush B (nI 1000) dX6_setQuiet_11 (by decide +kernel) ?_
    refine y_icmp_le B 27 dX6_setQuiet_14 (by decide) (fun c14 => ?_) (fun c14 => ?_)
    · have q14 : ai_r mm 1001 = true := ai_r_ok (by decide) c7 (fun z => by rw [Int32.le_iff_toInt_le] at c14 z; rw [nI_toInt (by decide)] at c14 z; omega)
      obtain ⟨v, hv, rfl⟩ := ai_r_of (by decide) q14
      refine y_aload_n B dX6_setQuiet_27 rfl ?_
      refine y_get B (ref := "AlertIndex$Question") (ci := 5) (C := RX4) (T := TX4) (N := 6) hQa rfl i_X6_setQuiet_X4 2 (by decide) (by decide +kernel) (fun _ h9 => h9) rfl dX6_setQuiet_28 ?_
      refine y_istore B dX6_setQuiet_31 (Nat.le_of_ble_eq_true rfl) ?_
      refine y_aload_n B dX6_setQuiet_33 rfl ?_
      refine y_iload_n B dX6_setQuiet_34 rfl ?_
      refine y_put B (ref := "AlertIndex$Question") (ci := 5) (C := RX4) (T := TX4) (N := 6) (ty := .int) hQa rfl i_X6_setQuiet_X4 tyX4 tyX4_ok nmX4 2 (by decide) (by decide +kernel) (fun _ h9 => h9) rfl (by decide +kernel) rfl rfl (Nat.le_of_ble_eq_true rfl) dX6_setQuiet_35 ?_
      refine y_iload B dX6_setQuiet_38 rfl ?_
      exact x_iret B dX6_setQuiet_40 (Nat.le_of_ble_eq_true rfl) (Nat.le_of_ble_eq_true rfl) (⟨hqo, q14, by rw [eq9], ⟨qs, dr, ix, fa, qa, pa, pst, by rw [eq9, nI_clamp (by omega)]; exact hR9.q (v := .null) (hI.J ho) hq (fun k i hki => by unfold ai_u; rw [if_neg (by omega)]) hQa (by rw [ai_u_k (by omega), ai_u_s, ai_u_k (by omega), ai_u_k (by omega), ai_u_k (by omega)]; rfl)⟩, ai_kq.U hQa (by omega)⟩)
    · have q14 : ai_r mm 1001 = false := ai_r_big (by decide) (by rw [Int32.le_iff_toInt_le] at c14 ⊢; rw [nI_toInt (by decide)] at c14 ⊢; omega)
      exact x_throw B (E := "java/lang/IllegalArgumentException") (text := "a quiet time is 0 to 1000 minutes") (sv := 14) hst htab (by decide +kernel) (by decide +kernel) (by decide +kernel) (by decide +kernel) (fun w h => List.mem_cons_of_mem _ (List.mem_append_left _ (List.mem_append_right _ h))) x_bad_108 x_good_108 dX6_setQuiet_17 dX6_setQuiet_20 dX6_setQuiet_21 dX6_setQuiet_23 dX6_setQuiet_26 (Nat.le_of_ble_eq_true rfl) (Nat.le_of_ble_eq_true rfl) (Nat.le_of_ble_eq_true rfl) (Nat.le_of_ble_eq_true rfl) (Nat.le_of_ble_eq_true rfl) (Nat.le_of_ble_eq_true rfl) (⟨rfl, Or.inr ⟨rfl, hqo, q14⟩⟩)
set_option maxHeartbeats 4000000 in
set_option maxRecDepth 100000 in
theorem k_X6_drop (l : Launch) (G : ai_G) (M : ai_M) (hst : l.stackTraces = false) {S : ai_S} {o x : Nat} (hR : ai_Rx G M S x) (hI : ai_I S o) (ho : o ≤ 100000) {z : Int32} : ai_D l yX6_drop wsX6_drop ({ frames := 7, cells := 1, slots := 6, locals := 112 } : Room) 1 6 G M [.ref x, .int z] (fun r M1 => ai_qo S z = true ∧ r = some (.int (nI (S 7 z.toNatClampNeg))) ∧ ai_Rx G M1 (ai_u S 2 z.toNatClampNeg 1) x ∧ ai_kq M M1) (fun E M1 => E = "java/lang/IndexOutOfBoundsException" ∧ ai_qo S z = false ∧ M1 = M) := by
  refine x_start (by decide +kernel) rfl (Nat.le_of_ble_eq_true rfl) (Nat.le_of_ble_eq_true rfl) (fun x hx => by simp only [List.mem_cons, List.not_mem_nil, or_false] at hx; rcases hx with rfl | rfl <;> rfl) ?_
  intro p e s m below meth c B htab
  obtain ⟨qs, dr, ix, fa, qa, pa, pst, hx0, -⟩ := id hR
  refine y_aload_n B dX6_drop_0 rfl ?_
  refine y_iload_n B dX6_drop_1 rfl ?_
  refine x_callV B 1 (q := (RX6, TX6, 4)) _ _ (k_X6_questionOf l G _ hst hR hI) hx0 rfl gX6_drop_X6_questionOf (by decide +kernel) rfl rfl rfl rfl ⟨(Nat.le_of_ble_eq_true rfl), (Nat.le_of_ble_eq_true rfl)⟩ (Nat.le_of_ble_eq_true rfl) ⟨(Nat.le_of_ble_eq_true rfl), (Nat.le_of_ble_eq_true rfl)⟩ dX6_drop_2 rfl (fun E M1 hr => ?_) (fun r M1 hr => ?_)
  · exact z_out B (fun x hx => (htab x hx).elim) (Nat.le_of_ble_eq_true rfl) (Nat.le_of_ble_eq_true rfl) (by obtain ⟨e1, e2, e3⟩ := hr; exact ⟨e1, e2, e3⟩)
  obtain ⟨q, qs, dr, ix, fa, qa, pa, pst, hq, rfl, hq2, rfl, hR9, rfl⟩ := hr
  obtain ⟨hx, hL, hD, hIx, hQ, hP1, hP2⟩ := id hR9
  obtain ⟨dv, hD1, hD2⟩ := id hD
  obtain ⟨pl, hQa, hQl, hQp⟩ := id (hQ q hq)
  have hqo := ai_qo_t hI.2.1 hq hq2
  have eq9 : (nI q).toNatClampNeg = q := nI_clamp (by have := hI.2.1; omega)
  refine y_astore_n B dX6_drop_5 (Nat.le_of_ble_eq_true rfl) ?_
  refine y_aload_n B dX6_drop_6 rfl ?_
  refine y_iconst B (nI 1) dX6_drop_7 (by decide +kernel) ?_
  refine y_put B (ref := "AlertIndex$Question") (ci := 5) (C := RX4) (T := TX4) (N := 6) (ty := .boolean) hQa rfl i_X6_drop_X4 tyX4 tyX4_ok nmX4 1 (by decide) (by decide +kernel) (fun _ h9 => h9) rfl (by decide +kernel) rfl rfl (Nat.le_of_ble_eq_true rfl) dX6_drop_8 ?_
  refine y_aload_n B dX6_drop_11 rfl ?_
  refine y_get B (ref := "AlertIndex$Question") (ci := 5) (C := RX4) (T := TX4) (N := 6) ai_U_s rfl i_X6_drop_X4 5 (by decide) (by decide +kernel) (fun _ h9 => h9) rfl dX6_drop_12 ?_
  exact x_iret B dX6_drop_15 (Nat.le_of_ble_eq_true rfl) (Nat.le_of_ble_eq_true rfl) (⟨hqo, by rw [eq9], ⟨qs, dr, ix, fa, qa, pa, pst, by rw [eq9]; exact hR9.q (v := .null) (hI.J ho) hq (fun k i hki => by unfold ai_u; rw [if_neg (by omega)]) hQa (by rw [ai_u_s, ai_u_k (by omega), ai_u_k (by omega), ai_u_k (by omega), ai_u_k (by omega)]; rfl)⟩, ai_kq.U hQa (by omega)⟩)
/-- a value of the draft, or none, as a number: none is 0 -/
def ai_dn (v : Int32) : Nat := if v = -1 then 0 else v.toNatClampNeg + 1
theorem ai_dn_nD {v : Int32} (h : v = -1 ∨ ai_r v 64 = true) : ai_nD (ai_dn v) = v ∧ ai_dn v ≤ 64 := by
  unfold ai_dn
  by_cases q : v = -1
  · rw [if_pos q, q]; exact ⟨rfl, by omega⟩
  · rw [if_neg q]
    obtain ⟨j, hj, rfl⟩ := ai_r_of (by decide) (h.resolve_left q)
    rw [nI_clamp (by omega)]
    exact ⟨ai_nDs j, by omega⟩
theorem ai_R.d {G : ai_G} {M : ai_M} {S : ai_S} {o x qs dr dv ix fa i v : Nat} {qa pa : Nat → Nat} {pst : Nat → List Nat} (hR : ai_R G M S x qs dr ix fa qa pa pst) (hI : ai_I S o) (hD1 : M dr = some (104, .inr (1, [.ref dv]))) (hD2 : M dv = some (105, ai_eI G 6 (fun i => ai_nD (S 1 i)))) : ai_R G (ai_U M dv 105 (ai_eI G 6 (fun b => ai_nD (va_up (S 1) i v b)))) (ai_u S 1 i v) x qs dr ix fa qa pa pst := by
  obtain ⟨hx, hL, hD, ⟨fi, hIx⟩, hQ, hP1, hP2⟩ := hR
  have keep : ∀ (b g : Nat) (e : va_E), M b = some (g, e) → g ≠ 105 → ai_U M dv 105 (ai_eI G 6 (fun b => ai_nD (va_up (S 1) i v b))) b = some (g, e) := fun b g e hb hg => ai_U_k hD2 hb hg
  refine ⟨keep _ _ _ hx (by omega), hL.keep (fun b g e hb hg => keep b g e hb (by omega)), ⟨dv, keep _ _ _ hD1 (by omega), ?_⟩, ⟨fi, hIx.keep (fun b g e hb hg => keep b g e hb (by omega))⟩, fun q9 hq9 => ?_, hP1, hP2⟩
  · rw [show (fun b => ai_nD (ai_u S 1 i v 1 b)) = (fun b => ai_nD (va_up (S 1) i v b)) from by funext b; rw [← ai_u_row]]
    exact ai_U_s
  · have o9 := hI.2.2.2 q9 hq9
    exact ((hQ q9 hq9).keep o9.2.1 (fun p hp9 => (o9.2.2.2.2.2.2 p hp9).1) (fun b g e hb hg => keep b g e hb (by omega))).S (fun k hk1 hk2 => ai_u_k (by omega)) (fun k i hk => ai_u_k (by omega))
set_option maxHeartbeats 4000000 in
set_option maxRecDepth 100000 in
theorem k_X6_set (l : Launch) (G : ai_G) (M : ai_M) (hst : l.stackTraces = false) {S : ai_S} {o x : Nat} (hR : ai_Rx G M S x) (hI : ai_I S o) (ho : o ≤ 100000) {z v : Int32} : ai_D l yX6_set wsX6_set ({ frames := 7, cells := 2, slots := 12, locals := 110 } : Room) 2 12 G M [.ref x, .int z, .int v] (fun r M1 => ai_r z 6 = true ∧ (v = -1 ∨ ai_r v 64 = true) ∧ r = some (.int (ai_nD (S 1 z.toNatClampNeg))) ∧ ai_Rx G M1 (ai_u S 1 z.toNatClampNeg (ai_dn v)) x ∧ ai_kq M M1) (fun E M1 => M1 = M ∧ ((E = "java/lang/IndexOutOfBoundsException" ∧ ai_r z 6 = false) ∨ (E = "java/lang/IllegalArgumentException" ∧ ai_r z 6 = true ∧ ¬ (v = -1 ∨ ai_r v 64 = true)))) := by
  refine x_start (by decide +kernel) rfl (Nat.le_of_ble_eq_true rfl) (Nat.le_of_ble_eq_true rfl) (fun x hx => by simp only [List.mem_cons, List.not_mem_nil, or_false] at hx; rcases hx with rfl | rfl | rfl <;> rfl) ?_
  intro p e s m below meth c B htab
  obtain ⟨qs, dr, ix, fa, qa, pa, pst, hR9⟩ := id hR
  obtain ⟨hx, hL, hD, hIx, hQ, hP1, hP2⟩ := id hR9
  obtain ⟨mc, arr, cap, h9, hl1, -⟩ := id hL
  obtain ⟨hI1, hI2, hI3, hI4⟩ := id hI
  obtain ⟨dv, hD1, hD2⟩ := id hD
  refine y_iload_n B dX6_set_0 rfl ?_
  refine x_callS B 1 _ _ (k_X6_refuseNoName l G _ hst) gX6_set_X6_refuseNoName (by decide +kernel) rfl rfl rfl rfl ⟨(Nat.le_of_ble_eq_true rfl), (Nat.le_of_ble_eq_true rfl)⟩ (Nat.le_of_ble_eq_true rfl) ⟨(Nat.le_of_ble_eq_true rfl), (Nat.le_of_ble_eq_true rfl)⟩ dX6_set_1 rfl (fun E M1 hr => ?_) (fun r M1 hr => ?_)
  · exact z_out B (fun x hx => (htab x hx).elim) (Nat.le_of_ble_eq_true rfl) (Nat.le_of_ble_eq_true rfl) (by obtain ⟨e1, e2, e3⟩ := hr; exact ⟨e2, Or.inl ⟨e1, e3⟩⟩)
  obtain ⟨rfl, e9, hnm⟩ := hr
  obtain rfl := e9.symm
  obtain ⟨u, hu, rfl⟩ := ai_r_of (by decide) hnm
  have eu : (nI u).toNatClampNeg = u := nI_clamp (by omega)
  refine y_iload_n B dX6_set_4 rfl ?_
  refine y_iconst B (-1) dX6_set_5 (by decide +kernel) ?_
  refine y_icmp_eq B 26 dX6_set_6 (by decide) (fun c6 => ?_) (fun c6 => ?_)
  · have hvv : v = -1 ∨ ai_r v 64 = true := Or.inl c6
    have hv9 := ai_dn_nD hvv
    refine y_aload_n B dX6_set_26 rfl ?_
    refine y_get B (ref := "AlertIndex") (ci := 7) (C := RX6) (T := TX6) (N := 4) hx rfl i_X6_set_X6 1 (by decide) (by decide +kernel) (fun _ h9 => h9) rfl dX6_set_27 ?_
    refine y_iload_n B dX6_set_30 rfl ?_
    refine y_iload_n B dX6_set_31 rfl ?_
    refine y_callV B 2 (q := (RX0, TX0, 1)) _ _ ((by have z := k_X0_replace l G M (w := ai_dn v) hD1 hD2 hu; rw [hv9.1] at z; exact z)) hD1 rfl gX6_set_X0_replace (by decide +kernel) rfl rfl rfl rfl ⟨(Nat.le_of_ble_eq_true rfl), (Nat.le_of_ble_eq_true rfl)⟩ (Nat.le_of_ble_eq_true rfl) ⟨(Nat.le_of_ble_eq_true rfl), (Nat.le_of_ble_eq_true rfl)⟩ dX6_set_32 rfl (fun r M1 hr => ?_)
    obtain ⟨rfl, rfl⟩ := hr
    exact x_iret B dX6_set_35 (Nat.le_of_ble_eq_true rfl) (Nat.le_of_ble_eq_true rfl) (⟨hnm, hvv, by rw [eu], ⟨qs, dr, ix, fa, qa, pa, pst, by rw [eu]; exact hR9.d hI hD1 hD2⟩, ai_kq.U hD2 (by decide)⟩)
  · refine y_iload_n B dX6_set_9 rfl ?_
    refine y_callS B 1 _ _ (k_X6_isValue l G _) gX6_set_X6_isValue (by decide +kernel) rfl rfl rfl rfl ⟨(Nat.le_of_ble_eq_true rfl), (Nat.le_of_ble_eq_true rfl)⟩ (Nat.le_of_ble_eq_true rfl) ⟨(Nat.le_of_ble_eq_true rfl), (Nat.le_of_ble_eq_true rfl)⟩ dX6_set_10 rfl (fun r M1 hr => ?_)
    obtain ⟨rfl, e9⟩ := hr
    obtain rfl := e9.symm
    refine y_if_ne B 26 dX6_set_13 (by decide) (fun c13 => ?_) (fun c13 => ?_)
    · have q13 := ai_b1 c13
      have hvv : v = -1 ∨ ai_r v 64 = true := Or.inr q13
      have hv9 := ai_dn_nD hvv
      refine y_aload_n B dX6_set_26 rfl ?_
      refine y_get B (ref := "AlertIndex") (ci := 7) (C := RX6) (T := TX6) (N := 4) hx rfl i_X6_set_X6 1 (by decide) (by decide +kernel) (fun _ h9 => h9) rfl dX6_set_27 ?_
      refine y_iload_n B dX6_set_30 rfl ?_
      refine y_iload_n B dX6_set_31 rfl ?_
      refine y_callV B 2 (q := (RX0, TX0, 1)) _ _ ((by have z := k_X0_replace l G M (w := ai_dn v) hD1 hD2 hu; rw [hv9.1] at z; exact z)) hD1 rfl gX6_set_X0_replace (by decide +kernel) rfl rfl rfl rfl ⟨(Nat.le_of_ble_eq_true rfl), (Nat.le_of_ble_eq_true rfl)⟩ (Nat.le_of_ble_eq_true rfl) ⟨(Nat.le_of_ble_eq_true rfl), (Nat.le_of_ble_eq_true rfl)⟩ dX6_set_32 rfl (fun r M1 hr => ?_)
      obtain ⟨rfl, rfl⟩ := hr
      exact x_iret B dX6_set_35 (Nat.le_of_ble_eq_true rfl) (Nat.le_of_ble_eq_true rfl) (⟨hnm, hvv, by rw [eu], ⟨qs, dr, ix, fa, qa, pa, pst, by rw [eu]; exact hR9.d hI hD1 hD2⟩, ai_kq.U hD2 (by decide)⟩)
    · have q13 := (ai_b0 _).mp c13
      exact x_throw B (E := "java/lang/IllegalArgumentException") (text := "a value is 0 to 63, or NONE") (sv := 15) hst htab (by decide +kernel) (by decide +kernel) (by decide +kernel) (by decide +kernel) (fun w h => List.mem_cons_of_mem _ (List.mem_append_left _ (List.mem_append_right _ h))) x_bad_108 x_good_108 dX6_set_16 dX6_set_19 dX6_set_20 dX6_set_22 dX6_set_25 (Nat.le_of_ble_eq_true rfl) (Nat.le_of_ble_eq_true rfl) (Nat.le_of_ble_eq_true rfl) (Nat.le_of_ble_eq_true rfl) (Nat.le_of_ble_eq_true rfl) (Nat.le_of_ble_eq_true rfl) (⟨rfl, Or.inr ⟨rfl, hnm, fun z => z.elim c6 (fun y => by rw [q13] at y; cases y)⟩⟩)
/-! == come == -/
def ai_c1 (S : ai_S) (q : Nat) : ai_S := if S 2 q = 0 ∧ ai_qt S q = true then (if S 5 q ≤ S 0 1 then ai_u (ai_u S 6 q (S 6 q + 1)) 5 q (S 0 1 + S 4 q) else ai_u S 7 q (S 7 q + 1)) else S
def ai_cS : Nat → ai_S → ai_S
  | 0, S => S
  | n + 1, S => ai_c1 (ai_cS n S) n
def ai_cV : Nat → ai_S → Int32
  | 0, _ => nI 0
  | n + 1, S => if ai_cS n S 2 n = 0 ∧ ai_qt (ai_cS n S) n = true ∧ ai_cS n S 5 n ≤ ai_cS n S 0 1 then ai_cV n S ||| (nI 1 <<< (nI n &&& 31)) else ai_cV n S
theorem ai_c1_k {S : ai_S} {q k i : Nat} (h : (k ≠ 5 ∧ k ≠ 6 ∧ k ≠ 7) ∨ i ≠ q) : ai_c1 S q k i = S k i := by
  unfold ai_c1
  split
  · split
    · rcases h with h | h
      · rw [ai_u_k h.1, ai_u_k h.2.1]
      · rw [ai_u_i h, ai_u_i h]
    · rcases h with h | h
      · rw [ai_u_k h.2.2]
      · rw [ai_u_i h]
  · rfl
theorem ai_cS_k {S : ai_S} {k i : Nat} : ∀ {n : Nat}, ((k ≠ 5 ∧ k ≠ 6 ∧ k ≠ 7) ∨ n ≤ i) → ai_cS n S k i = S k i
  | 0, _ => rfl
  | n + 1, h => by
    show ai_c1 (ai_cS n S) n k i = S k i
    rw [ai_c1_k (by omega), ai_cS_k (n := n) (by omega)]
theorem ai_okP.S {S S' : ai_S} {j : Nat} (h : ai_okP S j) (h8 : ∀ k i, 8 ≤ k → S' k i = S k i) : ai_okP S' j := by
  unfold ai_okP ai_okT
  rw [h8 8 j (by omega)]
  exact ⟨h.1, fun t ht => by rw [h8 9 _ (by omega), h8 10 _ (by omega), h8 11 _ (by omega), h8 12 _ (by omega)]; exact h.2 t ht⟩
theorem ai_c1_I {S : ai_S} {o q : Nat} (h : ai_I S (o + 1)) (hq : q < S 0 2) (h7 : S 7 q ≤ o) : ai_I (ai_c1 S q) (o + 1) := by
  have e : ∀ k i, ((k ≠ 5 ∧ k ≠ 6 ∧ k ≠ 7) ∨ i ≠ q) → ai_c1 S q k i = S k i := fun k i hk => ai_c1_k hk
  refine ⟨by rw [e 0 1 (by omega)]; exact h.1, by rw [e 0 2 (by omega)]; exact h.2.1, fun i hi => by rw [e 1 i (by omega)]; exact h.2.2.1 i hi, fun i hi => ?_⟩
  rw [e 0 2 (by omega)] at hi
  obtain ⟨g2, g3, g4, g5, g7, g8, g9⟩ := h.2.2.2 i hi
  refine ⟨by rw [e 2 i (by omega)]; exact g2, by rw [e 3 i (by omega)]; exact g3, by rw [e 4 i (by omega)]; exact g4, ?_, ?_, ?_, fun p hp => ?_⟩
  · rw [e 0 1 (by omega)]
    by_cases z : i = q
    · subst z
      unfold ai_c1
      split
      · split
        · rw [ai_u_s]; omega
        · rw [ai_u_k (by omega)]; exact g5
      · exact g5
    · rw [e 5 i (by omega)]; exact g5
  · by_cases z : i = q
    · subst z
      unfold ai_c1
      split
      · split
        · rw [ai_u_k (by omega), ai_u_k (by omega)]; exact g7
        · rw [ai_u_s]; omega
      · exact g7
    · rw [e 7 i (by omega)]; exact g7
  · rw [e 2 i (by omega), e 0 1 (by omega)]
    intro y
    by_cases z : i = q
    · subst z
      have g := g8 y
      unfold ai_c1
      split
      · split
        · rw [ai_u_k (by omega), ai_u_k (by omega)]; omega
        · rw [ai_u_k (a := 5) (by omega)]; omega
      · exact g
    · rw [e 7 i (by omega), e 5 i (by omega)]; exact g8 y
  · rw [e 3 i (by omega)] at hp
    exact (g9 p hp).S (fun k i hk => e k i (by omega))
theorem ai_I.up {S : ai_S} {o : Nat} (h : ai_I S o) : ai_I S (o + 1) := ⟨h.1, h.2.1, h.2.2.1, fun q hq => by
  obtain ⟨g2, g3, g4, g5, g7, g8, g9⟩ := h.2.2.2 q hq
  exact ⟨g2, g3, g4, g5, by omega, g8, g9⟩⟩
theorem ai_cS_I {S : ai_S} {o : Nat} (h : ai_I S o) : ∀ {n : Nat}, n ≤ S 0 2 → ai_I (ai_cS n S) (o + 1)
  | 0, _ => h.up
  | n + 1, hn => ai_c1_I (ai_cS_I h (n := n) (by omega)) (by rw [ai_cS_k (by omega)]; omega) (by rw [ai_cS_k (by omega)]; exact (h.2.2.2 n (by omega)).2.2.2.2.1)
set_option maxHeartbeats 4000000 in
set_option maxRecDepth 100000 in
theorem k_X6_come (l : Launch) (G : ai_G) (M : ai_M) {S : ai_S} {o x : Nat} (hR : ai_Rx G M S x) (hI : ai_I S o) (ho : o ≤ 10000) : ai_C l yX6_come wsX6_come ({ frames := 5, cells := 0, slots := 0, locals := 108 } : Room) 0 0 G M [.ref x] (fun r M1 => r = some (.int (ai_cV (S 0 2) S)) ∧ ai_Rx G M1 (ai_cS (S 0 2) S) x ∧ ai_kq M M1) := by
  refine y_start (by decide +kernel) rfl (Nat.le_of_ble_eq_true rfl) (Nat.le_of_ble_eq_true rfl) (fun x hx => by simp only [List.mem_cons, List.not_mem_nil, or_false] at hx; rcases hx with rfl <;> rfl) ?_
  intro p e s m below meth c B hnm
  obtain ⟨qs, dr, ix, fa, qa, pa, pst, hR9⟩ := id hR
  have lp : ∀ (d : Nat) (i : Nat) (Mi : ai_M) (x3 : Option Value), (S 0 2 < i + d) → (i ≤ S 0 2) → (ai_R G Mi (ai_cS i S) x qs dr ix fa qa pa pst) → (ai_kq M Mi) → ai_Y p l e ({ frames := 5, cells := 0, slots := 0, locals := 108 } : Room) s m [.ref x].toArray below meth c G (MQ below (ai_Q G (fun r M1 => r = some (.int (ai_cV (S 0 2) S)) ∧ ai_Rx G M1 (ai_cS (S 0 2) S) x ∧ ai_kq M M1)) [.ref x].toArray s 0 0 (ai_A G)) Mi 0 0 [some (.ref x), some (.int (ai_cV i S)), some (.int (nI i)), x3] 4 [] := by
    intro d
    induction d with
    | zero => intros; omega
    | succ d ih =>
      intro i Mi x3 hm hi hRi hkq
      have hIi := ai_cS_I hI hi
      obtain ⟨hx, hL, hD, hIx, hQ, hP1, hP2⟩ := id hRi
      obtain ⟨mc, arr, cap, h9, hl1, -⟩ := id hL
      obtain ⟨hI1, hI2, hI3, hI4⟩ := id hIi
      obtain ⟨dv, hD1, hD2⟩ := id hD
      have en : ai_cS i S 0 2 = S 0 2 := ai_cS_k (Or.inl (by omega))
      refine y_iload_n B dX6_come_4 rfl ?_
      refine y_aload_n B dX6_come_5 rfl ?_
      refine y_get B (ref := "AlertIndex") (ci := 7) (C := RX6) (T := TX6) (N := 4) hx rfl i_X6_come_X6 0 (by decide) (by decide +kernel) (fun _ h9 => h9) rfl dX6_come_6 ?_
      refine y_callF B 0 (x := ⟨"java/util/List", "size", "()I"⟩) (q := (RJx4a65c, TJx4a65c, 3)) _ _ (k_Jx4a65c_size_8abf5 l G _ hL) hl1 rfl gX6_come_Jx4a65c_size_8abf5_f34Jx4a65c B.2.2.2.2.2.2.2.2.1.1.2.2.2.2.2.2.1 (by decide +kernel) rfl rfl rfl rfl ⟨(Nat.le_of_ble_eq_true rfl), (Nat.le_of_ble_eq_true rfl)⟩ (Nat.le_of_ble_eq_true rfl) ⟨(Nat.le_of_ble_eq_true rfl), (Nat.le_of_ble_eq_true rfl)⟩ dX6_come_9 rfl (fun r M1 hr => ?_)
      obtain ⟨rfl, e9⟩ := hr
      obtain rfl := e9.symm
      refine y_icmp_ge B 65 dX6_come_14 (by decide) (fun c14 => ?_) (fun c14 => ?_)
      · have q14 : (ai_cS i S) 0 2 ≤ i := (nI_leI (by omega) (by omega)).mp c14
        have ei : i = S 0 2 := by omega
        refine y_iload_n B dX6_come_65 rfl ?_
        exact y_iret B dX6_come_66 (Nat.le_of_ble_eq_true rfl) (Nat.le_of_ble_eq_true rfl) (⟨by rw [ei], ⟨qs, dr, ix, fa, qa, pa, pst, by rw [ei] at hRi; exact hRi⟩, hkq⟩)
      · have q14 : i < (ai_cS i S) 0 2 := Nat.lt_of_not_le (fun z => c14 ((nI_leI (by omega) (by omega)).mpr z))
        have hok := hI4 i q14
        have h7i : ai_cS i S 7 i = S 7 i := ai_cS_k (Or.inr (Nat.le_refl i))
        refine y_aload_n B dX6_come_17 rfl ?_
        refine y_get B (ref := "AlertIndex") (ci := 7) (C := RX6) (T := TX6) (N := 4) hx rfl i_X6_come_X6 0 (by decide) (by decide +kernel) (fun _ h9 => h9) rfl dX6_come_18 ?_
        refine y_iload_n B dX6_come_21 rfl ?_
        refine y_callF B 1 (x := ⟨"java/util/List", "get", "(I)Ljava/lang/Object;"⟩) (q := (RJx4a65c, TJx4a65c, 3)) _ _ (k_Jx4a65c_get_915e3 l G _ hL q14) hl1 rfl gX6_come_Jx4a65c_get_915e3_f122Jx4a65c B.2.2.2.2.2.2.2.2.1.1.2.2.2.2.2.2.2.2.1 (by decide +kernel) rfl rfl rfl rfl ⟨(Nat.le_of_ble_eq_true rfl), (Nat.le_of_ble_eq_true rfl)⟩ (Nat.le_of_ble_eq_true rfl) ⟨(Nat.le_of_ble_eq_true rfl), (Nat.le_of_ble_eq_true rfl)⟩ dX6_come_22 rfl (fun r M1 hr => ?_)
        obtain ⟨rfl, e9⟩ := hr
        obtain rfl := e9.symm
        obtain ⟨pl, hQa, -⟩ := id (hQ i q14)
        refine y_cast B hQa (q := (RX4, TX4, 6)) rfl (by decide +kernel) dX6_come_27 ?_
        refine y_astore_n B dX6_come_30 (Nat.le_of_ble_eq_true rfl) ?_
        refine y_aload_n B dX6_come_31 rfl ?_
        refine y_aload_n B dX6_come_32 rfl ?_
        refine y_get B (ref := "AlertIndex") (ci := 7) (C := RX6) (T := TX6) (N := 4) hx rfl i_X6_come_X6 1 (by decide) (by decide +kernel) (fun _ h9 => h9) rfl dX6_come_33 ?_
        refine y_callV B 1 (q := (RX4, TX4, 6)) _ _ (k_X4_isSatisfied l G _ hD hI3 (hQ i q14) hok.1 hok.2.1 hok.2.2.2.2.2.2) hQa rfl gX6_come_X4_isSatisfied (by decide +kernel) rfl rfl rfl rfl ⟨(Nat.le_of_ble_eq_true rfl), (Nat.le_of_ble_eq_true rfl)⟩ (Nat.le_of_ble_eq_true rfl) ⟨(Nat.le_of_ble_eq_true rfl), (Nat.le_of_ble_eq_true rfl)⟩ dX6_come_36 rfl (fun r M1 hr => ?_)
        obtain ⟨rfl, e9⟩ := hr
        obtain rfl := e9.symm
        refine y_if_eq B 59 dX6_come_39 (by decide) (fun c39 => ?_) (fun c39 => ?_)
        · have q39 := (ai_b0 _).mp c39
          have qn : ¬ ((ai_cS i S) 2 i = 0 ∧ ai_qt (ai_cS i S) i = true) := fun z => by rw [decide_eq_true z.1, z.2] at q39; cases q39
          refine y_iinc B (nI (i + 1)) dX6_come_59 rfl (nI_1 i) ?_
          refine y_goto B 4 dX6_come_62 (by decide) ?_
          have z := ih (i + 1) Mi (some (.ref (qa i))) (by omega) (by omega) (by show ai_R G Mi (ai_c1 (ai_cS i S) i) x qs dr ix fa qa pa pst; unfold ai_c1; rw [if_neg qn]; exact hRi) hkq
          rw [show ai_cV (i + 1) S = ai_cV i S from by conv => lhs; unfold ai_cV; rw [if_neg (fun y => qn ⟨y.1, y.2.1⟩)]] at z
          exact z
        · have q39 := ai_b1 c39
          rw [Bool.and_eq_true, decide_eq_true_eq] at q39
          refine y_aload_n B dX6_come_42 rfl ?_
          refine y_aload_n B dX6_come_43 rfl ?_
          refine y_get B (ref := "AlertIndex") (ci := 7) (C := RX6) (T := TX6) (N := 4) hx rfl i_X6_come_X6 3 (by decide) (by decide +kernel) (fun _ h9 => h9) rfl dX6_come_44 ?_
          refine y_callV B 1 (q := (RX4, TX4, 6)) _ _ (k_X4_takeDocument l G _ hQa (now := ai_cS i S 0 1) (by have := hok.2.2.2.1; omega) (by omega)) hQa rfl gX6_come_X4_takeDocument (by decide +kernel) rfl rfl rfl rfl ⟨(Nat.le_of_ble_eq_true rfl), (Nat.le_of_ble_eq_true rfl)⟩ (Nat.le_of_ble_eq_true rfl) ⟨(Nat.le_of_ble_eq_true rfl), (Nat.le_of_ble_eq_true rfl)⟩ dX6_come_47 rfl (fun r M1 hr => ?_)
          obtain ⟨rfl, rfl⟩ := hr
          have hR2 : ai_R G (ai_U Mi (qa i) (1000 + 100 * i) (.inr (5, [.ref pl, .int (nI (ai_cS i S 2 i)), .int (nI (ai_cS i S 4 i)), .int (nI (if ai_cS i S 5 i ≤ ai_cS i S 0 1 then ai_cS i S 0 1 + ai_cS i S 4 i else ai_cS i S 5 i)), .int (nI (if ai_cS i S 5 i ≤ ai_cS i S 0 1 then ai_cS i S 6 i + 1 else ai_cS i S 6 i)), .int (nI (if ai_cS i S 5 i ≤ ai_cS i S 0 1 then ai_cS i S 7 i else ai_cS i S 7 i + 1))]))) (ai_cS (i + 1) S) x qs dr ix fa qa pa pst := by
            refine hRi.q (v := .null) (hIi.J (by omega)) q14 (fun k i9 hki => ai_c1_k (by omega)) hQa ?_
            show _ = Sum.inr (5, [Value.ref pl, .int (nI (ai_c1 (ai_cS i S) i 2 i)), .int (nI (ai_c1 (ai_cS i S) i 4 i)), .int (nI (ai_c1 (ai_cS i S) i 5 i)), .int (nI (ai_c1 (ai_cS i S) i 6 i)), .int (nI (ai_c1 (ai_cS i S) i 7 i))])
            unfold ai_c1
            rw [if_pos q39]
            by_cases z : ai_cS i S 5 i ≤ ai_cS i S 0 1
            · simp only [if_pos z]
              simp [ai_u]
            · simp only [if_neg z]
              simp [ai_u]
          have hkq2 := hkq.tr (ai_kq.U (e := (.inr (5, [.ref pl, .int (nI (ai_cS i S 2 i)), .int (nI (ai_cS i S 4 i)), .int (nI (if ai_cS i S 5 i ≤ ai_cS i S 0 1 then ai_cS i S 0 1 + ai_cS i S 4 i else ai_cS i S 5 i)), .int (nI (if ai_cS i S 5 i ≤ ai_cS i S 0 1 then ai_cS i S 6 i + 1 else ai_cS i S 6 i)), .int (nI (if ai_cS i S 5 i ≤ ai_cS i S 0 1 then ai_cS i S 7 i else ai_cS i S 7 i + 1))]))) hQa (by omega))
          refine y_if_eq B 59 dX6_come_50 (by decide) (fun c50 => ?_) (fun c50 => ?_)
          · have q50 : ¬ ai_cS i S 5 i ≤ ai_cS i S 0 1 := of_decide_eq_false ((ai_b0 _).mp c50)
            refine y_iinc B (nI (i + 1)) dX6_come_59 rfl (nI_1 i) ?_
            refine y_goto B 4 dX6_come_62 (by decide) ?_
            have z := ih (i + 1) _ (some (.ref (qa i))) (by omega) (by omega) hR2 hkq2
            rw [show ai_cV (i + 1) S = ai_cV i S from by conv => lhs; unfold ai_cV; rw [if_neg (fun y => q50 y.2.2)]] at z
            exact z
          · have q50 : ai_cS i S 5 i ≤ ai_cS i S 0 1 := of_decide_eq_true (ai_b1 c50)
            refine y_iload_n B dX6_come_53 rfl ?_
            refine y_iconst B (nI 1) dX6_come_54 (by decide +kernel) ?_
            refine y_iload_n B dX6_come_55 rfl ?_
            refine y_ishl B ((nI 1 <<< (nI i &&& 31))) dX6_come_56 (rfl) ?_
            refine y_ior B (ai_cV (i + 1) S) dX6_come_57 (by conv => rhs; unfold ai_cV; rw [if_pos (show _ ∧ _ from ⟨q39.1, q39.2, q50⟩)]) ?_
            refine y_istore_n B dX6_come_58 (Nat.le_of_ble_eq_true rfl) ?_
            refine y_iinc B (nI (i + 1)) dX6_come_59 rfl (nI_1 i) ?_
            refine y_goto B 4 dX6_come_62 (by decide) ?_
            exact ih (i + 1) _ (some (.ref (qa i))) (by omega) (by omega) hR2 hkq2
  obtain ⟨hx, -⟩ := id hR9
  refine y_iconst B (nI 0) dX6_come_0 (by decide +kernel) ?_
  refine y_istore_n B dX6_come_1 (Nat.le_of_ble_eq_true rfl) ?_
  refine y_iconst B (nI 0) dX6_come_2 (by decide +kernel) ?_
  refine y_istore_n B dX6_come_3 (Nat.le_of_ble_eq_true rfl) ?_
  exact lp (S 0 2 + 1) 0 M none (by omega) (by omega) hR9 ai_kq.rf
/-! == advance == -/
def ai_ac (S : ai_S) (q : Nat) : Prop := S 2 q = 0 ∧ S 7 q ≠ 0 ∧ S 5 q ≤ S 0 1
theorem ai_ac_dec (S : ai_S) (q : Nat) : (S 2 q = 0 ∧ S 7 q ≠ 0 ∧ S 5 q ≤ S 0 1) ↔ ai_ac S q := Iff.rfl
def ai_a1 (S : ai_S) (q : Nat) : ai_S := if S 2 q = 0 ∧ S 7 q ≠ 0 ∧ S 5 q ≤ S 0 1 then ai_u (ai_u (ai_u S 7 q 0) 6 q (S 6 q + 1)) 5 q (S 5 q + S 4 q) else S
def ai_aS : Nat → ai_S → ai_S
  | 0, S => S
  | n + 1, S => ai_a1 (ai_aS n S) n
def ai_aV : Nat → ai_S → Nat
  | 0, _ => 0
  | n + 1, S => if ai_aS n S 2 n = 0 ∧ ai_aS n S 7 n ≠ 0 ∧ ai_aS n S 5 n ≤ ai_aS n S 0 1 then ai_aV n S + 1 else ai_aV n S
theorem ai_a1_k {S : ai_S} {q k i : Nat} (h : (k ≠ 5 ∧ k ≠ 6 ∧ k ≠ 7) ∨ i ≠ q) : ai_a1 S q k i = S k i := by
  unfold ai_a1
  split
  · rcases h with h | h
    · rw [ai_u_k h.1, ai_u_k h.2.1, ai_u_k h.2.2]
    · rw [ai_u_i h, ai_u_i h, ai_u_i h]
  · rfl
theorem ai_aS_k {S : ai_S} {k i : Nat} : ∀ {n : Nat}, ((k ≠ 5 ∧ k ≠ 6 ∧ k ≠ 7) ∨ n ≤ i) → ai_aS n S k i = S k i
  | 0, _ => rfl
  | n + 1, h => by
    show ai_a1 (ai_aS n S) n k i = S k i
    rw [ai_a1_k (by omega), ai_aS_k (n := n) (by omega)]
theorem ai_a1_J {S : ai_S} {q : Nat} (h : ai_J S) (hq : q < S 0 2) : ai_J (ai_a1 S q) := by
  have e : ∀ k i, ((k ≠ 5 ∧ k ≠ 6 ∧ k ≠ 7) ∨ i ≠ q) → ai_a1 S q k i = S k i := fun k i hk => ai_a1_k hk
  refine ⟨by rw [e 0 1 (by omega)]; exact h.1, by rw [e 0 2 (by omega)]; exact h.2.1, fun i hi => by rw [e 1 i (by omega)]; exact h.2.2.1 i hi, fun i hi => ?_⟩
  rw [e 0 2 (by omega)] at hi
  obtain ⟨g2, g3, g4, g5, g7, g9⟩ := h.2.2.2 i hi
  refine ⟨by rw [e 2 i (by omega)]; exact g2, by rw [e 3 i (by omega)]; exact g3, by rw [e 4 i (by omega)]; exact g4, ?_, ?_, fun p hp => ?_⟩
  · by_cases z : i = q
    · subst z
      unfold ai_a1
      split
      · rw [ai_u_s]; have := h.1; omega
      · exact g5
    · rw [e 5 i (by omega)]; exact g5
  · by_cases z : i = q
    · subst z
      unfold ai_a1
      split
      · rw [ai_u_k (by omega), ai_u_k (by omega), ai_u_s]; omega
      · exact g7
    · rw [e 7 i (by omega)]; exact g7
  · rw [e 3 i (by omega)] at hp
    exact (g9 p hp).S (fun k i hk => e k i (by omega))
theorem ai_aS_J {S : ai_S} (h : ai_J S) : ∀ {n : Nat}, n ≤ S 0 2 → ai_J (ai_aS n S)
  | 0, _ => h
  | n + 1, hn => ai_a1_J (ai_aS_J h (n := n) (by omega)) (by rw [ai_aS_k (by omega)]; omega)
theorem ai_R.t {G : ai_G} {M : ai_M} {S : ai_S} {x qs dr ix fa v : Nat} {qa pa : Nat → Nat} {pst : Nat → List Nat} (hR : ai_R G M S x qs dr ix fa qa pa pst) (hI : ai_J S) : ai_R G (ai_U M x 100 (.inr (7, [.ref qs, .ref dr, .ref ix, .int (nI v)]))) (ai_u S 0 1 v) x qs dr ix fa qa pa pst := by
  obtain ⟨hx, hL, hD, ⟨fi, hIx⟩, hQ, hP1, hP2⟩ := hR
  have keep : ∀ (b g : Nat) (e : va_E), M b = some (g, e) → g ≠ 100 → ai_U M x 100 (.inr (7, [.ref qs, .ref dr, .ref ix, .int (nI v)])) b = some (g, e) := fun b g e hb hg => ai_U_k hx hb hg
  refine ⟨ai_U_s, hL.keep (fun b g e hb hg => keep b g e hb (by omega)), hD.keep (fun b g e hb hg => keep b g e hb (by omega)), ⟨fi, hIx.keep (fun b g e hb hg => keep b g e hb (by omega))⟩, fun q9 hq9 => ?_, hP1, hP2⟩
  have o9 := hI.2.2.2 q9 hq9
  exact ((hQ q9 hq9).keep o9.2.1 (fun p hp9 => (o9.2.2.2.2.2 p hp9).1) (fun b g e hb hg => keep b g e hb (by omega))).S (fun k hk1 hk2 => ai_u_k (by omega)) (fun k i hk => ai_u_k (by omega))
theorem ai_u_J {S : ai_S} {v : Nat} (h : ai_J S) (hv : v ≤ 1000000) : ai_J (ai_u S 0 1 v) := ⟨hv, h.2.1, h.2.2.1, fun q hq => h.2.2.2 q hq⟩
set_option maxHeartbeats 4000000 in
set_option maxRecDepth 100000 in
theorem k_X6_advance (l : Launch) (G : ai_G) (M : ai_M) (hst : l.stackTraces = false) {S : ai_S} {o x : Nat} (hR : ai_Rx G M S x) (hI : ai_I S o) (ho : o ≤ 100000) {zz : Int32} : ai_D l yX6_advance wsX6_advance ({ frames := 6, cells := 2, slots := 12, locals := 90 } : Room) 2 12 G M [.ref x, .int zz] (fun r M1 => ∃ v, zz = nI v ∧ 1 ≤ v ∧ v ≤ 1000 ∧ S 0 1 + v ≤ 1000000 ∧ r = some (.int (nI (ai_aV (S 0 2) (ai_u S 0 1 (S 0 1 + v))))) ∧ ai_Rx G M1 (ai_aS (S 0 2) (ai_u S 0 1 (S 0 1 + v))) x ∧ ai_kq M M1) (fun E M1 => M1 = M ∧ ((E = "java/lang/IllegalArgumentException" ∧ ¬ ∃ v, zz = nI v ∧ 1 ≤ v ∧ v ≤ 1000) ∨ (E = "java/lang/IllegalStateException" ∧ ∃ v, zz = nI v ∧ 1 ≤ v ∧ v ≤ 1000 ∧ 1000000 < S 0 1 + v))) := by
  refine x_start (by decide +kernel) rfl (Nat.le_of_ble_eq_true rfl) (Nat.le_of_ble_eq_true rfl) (fun x hx => by simp only [List.mem_cons, List.not_mem_nil, or_false] at hx; rcases hx with rfl | rfl <;> rfl) ?_
  intro p e s m below meth c B htab
  obtain ⟨qs, dr, ix, fa, qa, pa, pst, hR9⟩ := id hR
  have hJ := hI.J ho
  obtain ⟨hx0, -⟩ := id hR9
  refine y_iload_n B dX6_advance_0 rfl ?_
  refine y_iconst B (nI 1) dX6_advance_1 (by decide +kernel) ?_
  refine y_icmp_lt B 12 dX6_advance_2 (by decide) (fun c2 => ?_) (fun c2 => ?_)
  · have q2 : ¬ ∃ v, zz = nI v ∧ 1 ≤ v ∧ v ≤ 1000 := fun ⟨v, y1, y2, y3⟩ => by rw [y1] at c2; exact absurd ((nI_ltI (by omega) (by decide)).mp c2) (by omega)
    exact x_throw B (E := "java/lang/IllegalArgumentException") (text := "1 to 1000 minutes pass") (sv := 16) hst htab (by decide +kernel) (by decide +kernel) (by decide +kernel) (by decide +kernel) (fun w h => List.mem_cons_of_mem _ (List.mem_append_left _ (List.mem_append_right _ h))) x_bad_108 x_good_108 dX6_advance_12 dX6_advance_15 dX6_advance_16 dX6_advance_18 dX6_advance_21 (Nat.le_of_ble_eq_true rfl) (Nat.le_of_ble_eq_true rfl) (Nat.le_of_ble_eq_true rfl) (Nat.le_of_ble_eq_true rfl) (Nat.le_of_ble_eq_true rfl) (Nat.le_of_ble_eq_true rfl) (⟨rfl, Or.inl ⟨rfl, q2⟩⟩)
  · have q2 : 1 ≤ zz.toInt := by rw [Int32.lt_iff_toInt_lt, nI_toInt (by decide)] at c2; omega
    refine y_iload_n B dX6_advance_5 rfl ?_
    refine y_sipush B (nI 1000) dX6_advance_6 (by decide +kernel) ?_
    refine y_icmp_le B 22 dX6_advance_9 (by decide) (fun c9 => ?_) (fun c9 => ?_)
    · have q9 : zz.toInt ≤ 1000 := by rw [Int32.le_iff_toInt_le, nI_toInt (by decide)] at c9; omega
      obtain ⟨v, hv9, rfl⟩ := nI_of (x := zz) (fun z => by rw [Int32.lt_iff_toInt_lt, Int32.toInt_zero] at z; omega)
      rw [nI_toInt hv9] at q2 q9
      have hv1 : 1 ≤ v := by omega
      have hv2 : v ≤ 1000 := by omega
      refine y_iload_n B dX6_advance_22 rfl ?_
      refine y_ldc B (nI 1000000) (B.2.2.2.2.2.1 _ (by decide +kernel)) dX6_advance_23 ?_
      refine y_aload_n B dX6_advance_25 rfl ?_
      refine y_get B (ref := "AlertIndex") (ci := 7) (C := RX6) (T := TX6) (N := 4) hx0 rfl i_X6_advance_X6 3 (by decide) (by decide +kernel) (fun _ h9 => h9) rfl dX6_advance_26 ?_
      refine y_isub B (nI (1000000 - S 0 1)) dX6_advance_29 (pk_sub hJ.1) ?_
      refine y_icmp_le B 43 dX6_advance_30 (by decide) (fun c30 => ?_) (fun c30 => ?_)
      · have q30 := (nI_leI (by omega) (by omega)).mp c30
        have hv3 : S 0 1 + v ≤ 1000000 := by have := hJ.1; omega
        refine y_aload_n B dX6_advance_43 rfl ?_
        refine y_dup B dX6_advance_44 rfl ?_
        refine y_get B (ref := "AlertIndex") (ci := 7) (C := RX6) (T := TX6) (N := 4) hx0 rfl i_X6_advance_X6 3 (by decide) (by decide +kernel) (fun _ h9 => h9) rfl dX6_advance_45 ?_
        refine y_iload_n B dX6_advance_48 rfl ?_
        refine y_iadd B (nI (S 0 1 + v)) dX6_advance_49 (nI_add _ _) ?_
        refine y_put B (ref := "AlertIndex") (ci := 7) (C := RX6) (T := TX6) (N := 4) (ty := .int) hx0 rfl i_X6_advance_X6 tyX6 tyX6_ok nmX6 3 (by decide) (by decide +kernel) (fun _ h9 => h9) rfl (by decide +kernel) rfl rfl (Nat.le_of_ble_eq_true rfl) dX6_advance_50 ?_
        have hJ1 : ai_J (ai_u S 0 1 (S 0 1 + v)) := ai_u_J hJ hv3
        have lp : ∀ (d : Nat) (i : Nat) (Mi : ai_M), (S 0 2 < i + d) → (i ≤ S 0 2) → (ai_R G Mi (ai_aS i (ai_u S 0 1 (S 0 1 + v))) x qs dr ix fa qa pa pst) → (ai_kq M Mi) → ai_Y p l e ({ frames := 6, cells := 2, slots := 12, locals := 90 } : Room) s m [.ref x, .int (nI v)].toArray below meth c G (vx_MQ below (ai_Q G (fun r M1 => ∃ w, nI v = nI w ∧ 1 ≤ w ∧ w ≤ 1000 ∧ S 0 1 + w ≤ 1000000 ∧ r = some (.int (nI (ai_aV (S 0 2) (ai_u S 0 1 (S 0 1 + w))))) ∧ ai_Rx G M1 (ai_aS (S 0 2) (ai_u S 0 1 (S 0 1 + w))) x ∧ ai_kq M M1)) (ai_X G (fun E M1 => M1 = M ∧ ((E = "java/lang/IllegalArgumentException" ∧ ¬ ∃ w, nI v = nI w ∧ 1 ≤ w ∧ w ≤ 1000) ∨ (E = "java/lang/IllegalStateException" ∧ ∃ w, nI v = nI w ∧ 1 ≤ w ∧ w ≤ 1000 ∧ 1000000 < S 0 1 + w)))) [.ref x, .int (nI v)].toArray s 2 12 (ai_A G)) Mi 0 0 [some (.ref x), some (.int (nI v)), some (.int (nI (ai_aV i (ai_u S 0 1 (S 0 1 + v))))), some (.int (nI i))] 57 [] := by
          intro d
          induction d with
          | zero => intros; omega
          | succ d ih =>
            intro i Mi hm hi hRi hkq
            have hJi := ai_aS_J hJ1 (n := i) hi
            obtain ⟨hx, hL, hD, hIx, hQ, hP1, hP2⟩ := id hRi
            obtain ⟨mc, arr, cap, h9, hl1, -⟩ := id hL
            obtain ⟨hI1, hI2, hI3, hI4⟩ := id hJi
            have en : (ai_aS i (ai_u S 0 1 (S 0 1 + v))) 0 2 = S 0 2 := ai_aS_k (Or.inl (by omega))
            refine y_iload_n B dX6_advance_57 rfl ?_
            refine y_aload_n B dX6_advance_58 rfl ?_
            refine y_get B (ref := "AlertIndex") (ci := 7) (C := RX6) (T := TX6) (N := 4) hx rfl i_X6_advance_X6 0 (by decide) (by decide +kernel) (fun _ h9 => h9) rfl dX6_advance_59 ?_
            refine y_callF B 0 (x := ⟨"java/util/List", "size", "()I"⟩) (q := (RJx4a65c, TJx4a65c, 3)) _ _ (k_Jx4a65c_size_8abf5 l G _ hL) hl1 rfl gX6_advance_Jx4a65c_size_8abf5_f34Jx4a65c B.2.2.2.2.2.2.2.2.1.1.2.2.2.2.2.2.1 (by decide +kernel) rfl rfl rfl rfl ⟨(Nat.le_of_ble_eq_true rfl), (Nat.le_of_ble_eq_true rfl)⟩ (Nat.le_of_ble_eq_true rfl) ⟨(Nat.le_of_ble_eq_true rfl), (Nat.le_of_ble_eq_true rfl)⟩ dX6_advance_62 rfl (fun r M1 hr => ?_)
            obtain ⟨rfl, e9⟩ := hr
            obtain rfl := e9.symm
            refine y_icmp_ge B 102 dX6_advance_67 (by decide) (fun c67 => ?_) (fun c67 => ?_)
            · have q67 : (ai_aS i (ai_u S 0 1 (S 0 1 + v))) 0 2 ≤ i := (nI_leI (by omega) (by omega)).mp c67
              have ei : i = S 0 2 := by omega
              refine y_iload_n B dX6_advance_102 rfl ?_
              exact x_iret B dX6_advance_103 (Nat.le_of_ble_eq_true rfl) (Nat.le_of_ble_eq_true rfl) (⟨v, rfl, hv1, hv2, hv3, by rw [ei], ⟨qs, dr, ix, fa, qa, pa, pst, by rw [ei] at hRi; exact hRi⟩, hkq⟩)
            · have q67 : i < (ai_aS i (ai_u S 0 1 (S 0 1 + v))) 0 2 := Nat.lt_of_not_le (fun z => c67 ((nI_leI (by omega) (by omega)).mpr z))
              have hok := hI4 i q67
              refine y_aload_n B dX6_advance_70 rfl ?_
              refine y_get B (ref := "AlertIndex") (ci := 7) (C := RX6) (T := TX6) (N := 4) hx rfl i_X6_advance_X6 0 (by decide) (by decide +kernel) (fun _ h9 => h9) rfl dX6_advance_71 ?_
              refine y_iload_n B dX6_advance_74 rfl ?_
              refine y_callF B 1 (x := ⟨"java/util/List", "get", "(I)Ljava/lang/Object;"⟩) (q := (RJx4a65c, TJx4a65c, 3)) _ _ (k_Jx4a65c_get_915e3 l G _ hL q67) hl1 rfl gX6_advance_Jx4a65c_get_915e3_f122Jx4a65c B.2.2.2.2.2.2.2.2.1.1.2.2.2.2.2.2.2.2.1 (by decide +kernel) rfl rfl rfl rfl ⟨(Nat.le_of_ble_eq_true rfl), (Nat.le_of_ble_eq_true rfl)⟩ (Nat.le_of_ble_eq_true rfl) ⟨(Nat.le_of_ble_eq_true rfl), (Nat.le_of_ble_eq_true rfl)⟩ dX6_advance_75 rfl (fun r M1 hr => ?_)
              obtain ⟨rfl, e9⟩ := hr
              obtain rfl := e9.symm
              obtain ⟨pl, hQa, -⟩ := id (hQ i q67)
              refine y_cast B hQa (q := (RX4, TX4, 6)) rfl (by decide +kernel) dX6_advance_80 ?_
              refine y_aload_n B dX6_advance_83 rfl ?_
              refine y_get B (ref := "AlertIndex") (ci := 7) (C := RX6) (T := TX6) (N := 4) hx rfl i_X6_advance_X6 3 (by decide) (by decide +kernel) (fun _ h9 => h9) rfl dX6_advance_84 ?_
              refine y_callV B 1 (q := (RX4, TX4, 6)) _ _ (k_X4_sendBatch l G _ hQa (now := (ai_aS i (ai_u S 0 1 (S 0 1 + v))) 0 1) (by have := hok.1; omega) (by have := hok.2.2.2.2.1; omega) (by have := hok.2.2.2.1; omega) (by omega)) hQa rfl gX6_advance_X4_sendBatch (by decide +kernel) rfl rfl rfl rfl ⟨(Nat.le_of_ble_eq_true rfl), (Nat.le_of_ble_eq_true rfl)⟩ (Nat.le_of_ble_eq_true rfl) ⟨(Nat.le_of_ble_eq_true rfl), (Nat.le_of_ble_eq_true rfl)⟩ dX6_advance_87 rfl (fun r M1 hr => ?_)
              obtain ⟨rfl, rfl⟩ := hr
              have hR2 : ai_R G (ai_U Mi (qa i) (1000 + 100 * i) (.inr (5, [.ref pl, .int (nI ((ai_aS i (ai_u S 0 1 (S 0 1 + v))) 2 i)), .int (nI ((ai_aS i (ai_u S 0 1 (S 0 1 + v))) 4 i)), .int (nI (if ((ai_aS i (ai_u S 0 1 (S 0 1 + v))) 2 i = 0 ∧ (ai_aS i (ai_u S 0 1 (S 0 1 + v))) 7 i ≠ 0 ∧ (ai_aS i (ai_u S 0 1 (S 0 1 + v))) 5 i ≤ (ai_aS i (ai_u S 0 1 (S 0 1 + v))) 0 1) then (ai_aS i (ai_u S 0 1 (S 0 1 + v))) 5 i + (ai_aS i (ai_u S 0 1 (S 0 1 + v))) 4 i else (ai_aS i (ai_u S 0 1 (S 0 1 + v))) 5 i)), .int (nI (if ((ai_aS i (ai_u S 0 1 (S 0 1 + v))) 2 i = 0 ∧ (ai_aS i (ai_u S 0 1 (S 0 1 + v))) 7 i ≠ 0 ∧ (ai_aS i (ai_u S 0 1 (S 0 1 + v))) 5 i ≤ (ai_aS i (ai_u S 0 1 (S 0 1 + v))) 0 1) then (ai_aS i (ai_u S 0 1 (S 0 1 + v))) 6 i + 1 else (ai_aS i (ai_u S 0 1 (S 0 1 + v))) 6 i)), .int (nI (if ((ai_aS i (ai_u S 0 1 (S 0 1 + v))) 2 i = 0 ∧ (ai_aS i (ai_u S 0 1 (S 0 1 + v))) 7 i ≠ 0 ∧ (ai_aS i (ai_u S 0 1 (S 0 1 + v))) 5 i ≤ (ai_aS i (ai_u S 0 1 (S 0 1 + v))) 0 1) then 0 else (ai_aS i (ai_u S 0 1 (S 0 1 + v))) 7 i))]))) (ai_aS (i + 1) (ai_u S 0 1 (S 0 1 + v))) x qs dr ix fa qa pa pst := by
                refine hRi.q (v := .null) hJi q67 (fun k i9 hki => ai_a1_k (by omega)) hQa ?_
                show _ = Sum.inr (5, [Value.ref pl, .int (nI (ai_a1 (ai_aS i (ai_u S 0 1 (S 0 1 + v))) i 2 i)), .int (nI (ai_a1 (ai_aS i (ai_u S 0 1 (S 0 1 + v))) i 4 i)), .int (nI (ai_a1 (ai_aS i (ai_u S 0 1 (S 0 1 + v))) i 5 i)), .int (nI (ai_a1 (ai_aS i (ai_u S 0 1 (S 0 1 + v))) i 6 i)), .int (nI (ai_a1 (ai_aS i (ai_u S 0 1 (S 0 1 + v))) i 7 i))])
                unfold ai_a1
                by_cases z : ((ai_aS i (ai_u S 0 1 (S 0 1 + v))) 2 i = 0 ∧ (ai_aS i (ai_u S 0 1 (S 0 1 + v))) 7 i ≠ 0 ∧ (ai_aS i (ai_u S 0 1 (S 0 1 + v))) 5 i ≤ (ai_aS i (ai_u S 0 1 (S 0 1 + v))) 0 1)
                · simp only [if_pos z]
                  simp [ai_u]
                · simp only [if_neg z]
              have hkq2 := hkq.tr (ai_kq.U (e := (.inr (5, [.ref pl, .int (nI ((ai_aS i (ai_u S 0 1 (S 0 1 + v))) 2 i)), .int (nI ((ai_aS i (ai_u S 0 1 (S 0 1 + v))) 4 i)), .int (nI (if ((ai_aS i (ai_u S 0 1 (S 0 1 + v))) 2 i = 0 ∧ (ai_aS i (ai_u S 0 1 (S 0 1 + v))) 7 i ≠ 0 ∧ (ai_aS i (ai_u S 0 1 (S 0 1 + v))) 5 i ≤ (ai_aS i (ai_u S 0 1 (S 0 1 + v))) 0 1) then (ai_aS i (ai_u S 0 1 (S 0 1 + v))) 5 i + (ai_aS i (ai_u S 0 1 (S 0 1 + v))) 4 i else (ai_aS i (ai_u S 0 1 (S 0 1 + v))) 5 i)), .int (nI (if ((ai_aS i (ai_u S 0 1 (S 0 1 + v))) 2 i = 0 ∧ (ai_aS i (ai_u S 0 1 (S 0 1 + v))) 7 i ≠ 0 ∧ (ai_aS i (ai_u S 0 1 (S 0 1 + v))) 5 i ≤ (ai_aS i (ai_u S 0 1 (S 0 1 + v))) 0 1) then (ai_aS i (ai_u S 0 1 (S 0 1 + v))) 6 i + 1 else (ai_aS i (ai_u S 0 1 (S 0 1 + v))) 6 i)), .int (nI (if ((ai_aS i (ai_u S 0 1 (S 0 1 + v))) 2 i = 0 ∧ (ai_aS i (ai_u S 0 1 (S 0 1 + v))) 7 i ≠ 0 ∧ (ai_aS i (ai_u S 0 1 (S 0 1 + v))) 5 i ≤ (ai_aS i (ai_u S 0 1 (S 0 1 + v))) 0 1) then 0 else (ai_aS i (ai_u S 0 1 (S 0 1 + v))) 7 i))]))) hQa (by omega))
              refine y_if_eq B 96 dX6_advance_90 (by decide) (fun c90 => ?_) (fun c90 => ?_)
              · have q90 : ¬ ((ai_aS i (ai_u S 0 1 (S 0 1 + v))) 2 i = 0 ∧ (ai_aS i (ai_u S 0 1 (S 0 1 + v))) 7 i ≠ 0 ∧ (ai_aS i (ai_u S 0 1 (S 0 1 + v))) 5 i ≤ (ai_aS i (ai_u S 0 1 (S 0 1 + v))) 0 1) := of_decide_eq_false ((ai_b0 _).mp c90)
                refine y_iinc B (nI (i + 1)) dX6_advance_96 rfl (nI_1 i) ?_
                refine y_goto B 57 dX6_advance_99 (by decide) ?_
                have z := ih (i + 1) _ (by omega) (by omega) hR2 hkq2
                rw [show ai_aV (i + 1) (ai_u S 0 1 (S 0 1 + v)) = ai_aV i (ai_u S 0 1 (S 0 1 + v)) from by conv => lhs; unfold ai_aV; rw [if_neg q90]] at z
                exact z
              · have q90 : ((ai_aS i (ai_u S 0 1 (S 0 1 + v))) 2 i = 0 ∧ (ai_aS i (ai_u S 0 1 (S 0 1 + v))) 7 i ≠ 0 ∧ (ai_aS i (ai_u S 0 1 (S 0 1 + v))) 5 i ≤ (ai_aS i (ai_u S 0 1 (S 0 1 + v))) 0 1) := of_decide_eq_true (ai_b1 c90)
                refine y_iinc B (nI (ai_aV (i + 1) (ai_u S 0 1 (S 0 1 + v)))) dX6_advance_93 rfl (by rw [show ai_aV (i + 1) (ai_u S 0 1 (S 0 1 + v)) = ai_aV i (ai_u S 0 1 (S 0 1 + v)) + 1 from by conv => lhs; unfold ai_aV; rw [if_pos q90]]; exact nI_1 _) ?_
                refine y_iinc B (nI (i + 1)) dX6_advance_96 rfl (nI_1 i) ?_
                refine y_goto B 57 dX6_advance_99 (by decide) ?_
                exact ih (i + 1) _ (by omega) (by omega) hR2 hkq2
        refine y_iconst B (nI 0) dX6_advance_53 (by decide +kernel) ?_
        refine y_istore_n B dX6_advance_54 (Nat.le_of_ble_eq_true rfl) ?_
        refine y_iconst B (nI 0) dX6_advance_55 (by decide +kernel) ?_
        refine y_istore_n B dX6_advance_56 (Nat.le_of_ble_eq_true rfl) ?_
        exact lp (S 0 2 + 1) 0 _ (by omega) (by omega) (hR9.t hJ) (ai_kq.U hx0 (by decide))
      · have q30 : ¬ v ≤ 1000000 - S 0 1 := fun z => c30 ((nI_leI (by omega) (by omega)).mpr z)
        exact x_throw B (E := "java/lang/IllegalStateException") (text := "the minute would be above 1000000") (sv := 17) hst htab (by decide +kernel) (by decide +kernel) (by decide +kernel) (by decide +kernel) (fun w h => List.mem_cons_of_mem _ (List.mem_append_right _ h)) x_bad_44 x_good_44 dX6_advance_33 dX6_advance_36 dX6_advance_37 dX6_advance_39 dX6_advance_42 (Nat.le_of_ble_eq_true rfl) (Nat.le_of_ble_eq_true rfl) (Nat.le_of_ble_eq_true rfl) (Nat.le_of_ble_eq_true rfl) (Nat.le_of_ble_eq_true rfl) (Nat.le_of_ble_eq_true rfl) (⟨rfl, Or.inr ⟨rfl, v, rfl, hv1, hv2, by have := hJ.1; omega⟩⟩)
    · have q9 : ¬ ∃ v, zz = nI v ∧ 1 ≤ v ∧ v ≤ 1000 := fun ⟨v, y1, y2, y3⟩ => c9 (by rw [y1]; exact nI_le y3 (by decide))
      exact x_throw B (E := "java/lang/IllegalArgumentException") (text := "1 to 1000 minutes pass") (sv := 16) hst htab (by decide +kernel) (by decide +kernel) (by decide +kernel) (by decide +kernel) (fun w h => List.mem_cons_of_mem _ (List.mem_append_left _ (List.mem_append_right _ h))) x_bad_108 x_good_108 dX6_advance_12 dX6_advance_15 dX6_advance_16 dX6_advance_18 dX6_advance_21 (Nat.le_of_ble_eq_true rfl) (Nat.le_of_ble_eq_true rfl) (Nat.le_of_ble_eq_true rfl) (Nat.le_of_ble_eq_true rfl) (Nat.le_of_ble_eq_true rfl) (Nat.le_of_ble_eq_true rfl) (⟨rfl, Or.inl ⟨rfl, q9⟩⟩)
