/-! ===== WHAT ADDS: question, product, test; a new object ===== -/
/-- what was never written is 0 -/
def ai_Z0 (S : ai_S) : Prop := (∀ q, S 0 2 ≤ q → S 2 q = 0 ∧ S 3 q = 0 ∧ S 4 q = 0 ∧ S 5 q = 0 ∧ S 6 q = 0 ∧ S 7 q = 0) ∧ ∀ q p, p < 3 → S 3 q ≤ p → S 8 (3 * q + p) = 0
theorem ai_R.addQ {G : ai_G} {M M2 : ai_M} {S : ai_S} {o x qs dr ix fa a q2 : Nat} {qa pa f : Nat → Nat} {pst : Nat → List Nat} (hR : ai_R G M S x qs dr ix fa qa pa pst) (hI : ai_I S o) (hz : ai_Z0 S) (keep : ∀ (b g : Nat) (e : va_E), M b = some (g, e) → g ≠ 102 → g ≠ 103 → M2 b = some (g, e)) (hl : ai_l G M2 qs 102 (S 0 2 + 1) (va_up qa (S 0 2) a)) (hA : M2 a = some (1000 + 100 * S 0 2, .inr (5, [.ref q2, .int (nI 0), .int (nI 0), .int (nI 0), .int (nI 0), .int (nI 0)]))) (hL2 : ai_l G M2 q2 (1000 + 100 * S 0 2 + 2) 0 f) : ai_R G M2 (ai_u S 0 2 (S 0 2 + 1)) x qs dr ix fa (va_up qa (S 0 2) a) pa pst := by
  obtain ⟨hx, hL, hD, ⟨fi, hIx⟩, hQ, hP1, hP2⟩ := hR
  obtain ⟨z2, z3, z4, z5, z6, z7⟩ := hz.1 (S 0 2) (Nat.le_refl _)
  have hI4 := hI.2.2.2
  have e1 : ∀ k i, 1 ≤ k → ai_u S 0 2 (S 0 2 + 1) k i = S k i := fun k i hk => ai_u_k (by omega)
  refine ⟨keep _ _ _ hx (by omega) (by omega), hl, hD.keep (fun b g e hb hg => keep b g e hb (by omega) (by omega)), ⟨fi, hIx.keep (fun b g e hb hg => keep b g e hb (by omega) (by omega))⟩, fun q9 hq9 => ?_, fun pl hpl b hb => ?_, fun q9 hq9 p hp pl hpl => ?_⟩
  · rw [ai_u_s] at hq9
    by_cases z : q9 = S 0 2
    · subst z
      refine ⟨q2, ?_, ?_, fun p hp => ?_⟩
      · rw [va_up, if_pos rfl, e1 2 _ (by omega), e1 4 _ (by omega), e1 5 _ (by omega), e1 6 _ (by omega), e1 7 _ (by omega), z2, z4, z5, z6, z7]
        exact hA
      · rw [e1 3 _ (by omega), z3]
        exact hL2.cong (fun i hi => absurd hi (Nat.not_lt_zero i))
      · rw [e1 3 _ (by omega), z3] at hp
        exact absurd hp (Nat.not_lt_zero p)
    · have o9 := hI4 q9 (by omega)
      rw [va_up, if_neg z]
      exact ((hQ q9 (by omega)).keep o9.2.1 (fun p hp9 => (o9.2.2.2.2.2.2 p hp9).1) (fun b g e hb hg => keep b g e hb (by omega) (by omega))).S (fun k hk1 hk2 => e1 k q9 (by omega)) (fun k i hk => e1 k i (by omega))
  · obtain ⟨q9, p, h1, h2, h3⟩ := hP1 pl hpl b hb
    exact ⟨q9, p, by rw [ai_u_s]; omega, by rw [e1 3 _ (by omega)]; exact h2, h3⟩
  · rw [ai_u_s] at hq9
    rw [e1 3 _ (by omega)] at hp
    by_cases z : q9 = S 0 2
    · rw [z, z3] at hp
      exact absurd hp (Nat.not_lt_zero p)
    · rw [hP2 q9 (by omega) p hp pl hpl]
      exact (ai_pc_S (e1 8 _ (by omega)) (fun k t hk _ _ => e1 k _ (by omega))).symm
theorem ai_R.addP {G : ai_G} {M M2 : ai_M} {S : ai_S} {o x qs dr ix fa a pl tl q : Nat} {qa pa f : Nat → Nat} {pst : Nat → List Nat} {v5 : List Value} (hR : ai_R G M S x qs dr ix fa qa pa pst) (hI : ai_I S o) (hz : ai_Z0 S) (hq : q < S 0 2) (h3 : S 3 q < 3) (ha : M a = none) (hQa : M (qa q) = some (1000 + 100 * q, .inr (5, .ref pl :: v5))) (keep : ∀ (b g : Nat) (e : va_E), M b = some (g, e) → g ≠ 1000 + 100 * q + 2 → g ≠ 1000 + 100 * q + 3 → M2 b = some (g, e)) (hl : ai_l G M2 pl (1000 + 100 * q + 2) (S 3 q + 1) (va_up (fun p => pa (3 * q + p)) (S 3 q) a)) (hA : M2 a = some (10000 + 100 * (3 * q + S 3 q), .inr (4, [.ref tl, .int (nI 0), .int (nI 0)]))) (hT : ai_l G M2 tl (10000 + 100 * (3 * q + S 3 q) + 2) 0 f) : ai_R G M2 (ai_u S 3 q (S 3 q + 1)) x qs dr ix fa qa (va_up pa (3 * q + S 3 q) a) pst := by
  obtain ⟨hx, hL, hD, ⟨fi, hIx⟩, hQ, hP1, hP2⟩ := hR
  have hI4 := hI.2.2.2
  have hn := hI.2.1
  have e1 : ∀ k i, k ≠ 3 → ai_u S 3 q (S 3 q + 1) k i = S k i := fun k i hk => ai_u_k hk
  have e3 : ∀ i, i ≠ q → ai_u S 3 q (S 3 q + 1) 3 i = S 3 i := fun i hi => ai_u_i hi
  have h8 := hz.2 q (S 3 q) h3 (Nat.le_refl _)
  have pne : ∀ q9 p, q9 < S 0 2 → p < S 3 q9 → va_up pa (3 * q + S 3 q) a (3 * q9 + p) = pa (3 * q9 + p) := fun q9 p h1 h2 => by
    have := (hI4 q9 h1).2.1
    rw [va_up, if_neg]
    intro z
    by_cases y : q9 = q
    · subst y; omega
    · omega
  refine ⟨keep _ _ _ hx (by omega) (by omega), hL.keep (fun b g e hb hg => keep b g e hb (by omega) (by omega)), hD.keep (fun b g e hb hg => keep b g e hb (by omega) (by omega)), ⟨fi, hIx.keep (fun b g e hb hg => keep b g e hb (by omega) (by omega))⟩, fun q9 hq9 => ?_, fun pl hpl b hb => ?_, fun q9 hq9 p hp pl hpl => ?_⟩
  · rw [e1 0 2 (by omega)] at hq9
    have o9 := hI4 q9 hq9
    by_cases z : q9 = q
    · subst z
      obtain ⟨pl9, h1, hl9, hp9⟩ := hQ q9 hq9
      have epl : pl9 = pl := by rw [h1] at hQa; cases hQa; rfl
      subst epl
      refine ⟨pl9, ?_, ?_, fun p hp => ?_⟩
      · rw [e1 2 _ (by omega), e1 4 _ (by omega), e1 5 _ (by omega), e1 6 _ (by omega), e1 7 _ (by omega)]
        exact keep _ _ _ h1 (by omega) (by omega)
      · rw [ai_u_s]
        exact hl.cong (fun i hi => by
          unfold va_up
          by_cases y : i = S 3 q9
          · rw [if_pos y, if_pos (by omega)]
          · rw [if_neg y, if_neg (by omega)])
      · rw [ai_u_s] at hp
        by_cases y : p = S 3 q9
        · subst y
          rw [va_up, if_pos rfl]
          have epn : ai_pn (ai_u S 3 q9 (S 3 q9 + 1)) (3 * q9 + S 3 q9) = 0 := by unfold ai_pn; rw [e1 8 _ (by omega), h8]; rfl
          refine ⟨tl, f, _, by rw [epn]; exact hA, by rw [e1 8 _ (by omega), h8]; exact hT, fun t ht => ?_⟩
          rw [e1 8 _ (by omega), h8] at ht
          exact absurd ht (Nat.not_lt_zero t)
        · rw [pne q9 p hq9 (by omega)]
          exact ((hp9 p (by omega)).keep (o9.2.2.2.2.2.2 p (by omega)).1 (fun b g e hb g1 g2 => keep b g e hb (by omega) (by omega))).S (e1 8 _ (by omega)) (fun k t _ _ _ => e1 k _ (by omega))
    · obtain ⟨pl9, h1, hl9, hp9⟩ := (hQ q9 hq9).keep o9.2.1 (fun p hp9 => (o9.2.2.2.2.2.2 p hp9).1) (M' := M2) (fun b g e hb hg => keep b g e hb (by omega) (by omega))
      refine ⟨pl9, ?_, ?_, fun p hp => ?_⟩
      · rw [e1 2 _ (by omega), e1 4 _ (by omega), e1 5 _ (by omega), e1 6 _ (by omega), e1 7 _ (by omega)]
        exact h1
      · rw [e3 q9 z]
        exact hl9.cong (fun i hi => (pne q9 i hq9 hi).symm)
      · rw [e3 q9 z] at hp
        rw [pne q9 p hq9 hp]
        exact (hp9 p hp).S (e1 8 _ (by omega)) (fun k t _ _ _ => e1 k _ (by omega))
  · obtain ⟨q9, p, h1, h2, h3⟩ := hP1 pl hpl b hb
    refine ⟨q9, p, h1, ?_, by rw [pne q9 p h1 h2]; exact h3⟩
    by_cases z : q9 = q
    · subst z; rw [ai_u_s]; omega
    · rw [e3 q9 z]; exact h2
  · rw [e1 0 2 (by omega)] at hq9
    have epc : ai_pc (ai_u S 3 q (S 3 q + 1)) (3 * q9 + p) pl = ai_pc S (3 * q9 + p) pl := ai_pc_S (e1 8 _ (by omega)) (fun k t _ _ _ => e1 k _ (by omega))
    rw [epc]
    by_cases y : q9 = q ∧ p = S 3 q
    · obtain ⟨rfl, rfl⟩ := y
      rw [va_up, if_pos rfl]
      have : a ∉ pst pl := fun hin => by
        obtain ⟨q8, p8, g1, g2, g3⟩ := hP1 pl hpl a hin
        obtain ⟨_, _, _, y1⟩ := hQ q8 g1
        obtain ⟨_, _, _, y2, -⟩ := y1 p8 g2
        rw [← g3, ha] at y2
        cases y2
      rw [List.count_eq_zero.mpr this]
      unfold ai_pc
      rw [h8]
      rfl
    · have hp2 : p < S 3 q9 := by
        by_cases z : q9 = q
        · subst z; rw [ai_u_s] at hp; omega
        · rw [e3 q9 z] at hp; exact hp
      rw [pne q9 p hq9 hp2]
      exact hP2 q9 hq9 p hp2 pl hpl
theorem i_X6_question_X6 : ∀ w ∈ wsX60, w ∈ wsX6_question := fun _ h => List.mem_cons_of_mem _ (List.mem_append_left _ (List.mem_append_left _ (List.mem_append_left _ (List.mem_append_right _ h))))
theorem i_X6_question_X4 : ∀ w ∈ wsX40, w ∈ wsX6_question := fun _ h => List.mem_cons_of_mem _ (List.mem_append_left _ (List.mem_append_left _ (List.mem_append_right _ h)))
theorem i_X6_product_X4 : ∀ w ∈ wsX40, w ∈ wsX6_product := fun _ h => List.mem_cons_of_mem _ (List.mem_append_left _ (List.mem_append_left _ (List.mem_append_left _ (List.mem_append_left _ (List.mem_append_left _ (List.mem_append_right _ h))))))
theorem i_X6_product_X3 : ∀ w ∈ wsX30, w ∈ wsX6_product := fun _ h => List.mem_cons_of_mem _ (List.mem_append_left _ (List.mem_append_left _ (List.mem_append_left _ (List.mem_append_left _ (List.mem_append_right _ h)))))
theorem i_X6_init_Jx4a65c : ∀ w ∈ wsJx4a65c0, w ∈ wsX6_init := fun _ h => List.mem_cons_of_mem _ (List.mem_append_left _ (List.mem_append_left _ (List.mem_append_left _ (List.mem_append_right _ h))))
theorem i_X6_init_X6 : ∀ w ∈ wsX60, w ∈ wsX6_init := fun _ h => List.mem_cons_of_mem _ (List.mem_append_left _ (List.mem_append_left _ (List.mem_append_right _ h)))
theorem i_X6_init_X0 : ∀ w ∈ wsX00, w ∈ wsX6_init := fun _ h => List.mem_cons_of_mem _ (List.mem_append_left _ (List.mem_append_right _ h))
theorem i_X6_init_X1 : ∀ w ∈ wsX10, w ∈ wsX6_init := fun _ h => List.mem_cons_of_mem _ (List.mem_append_right _ h)
set_option maxHeartbeats 4000000 in
set_option maxRecDepth 100000 in
theorem k_X6_question (l : Launch) (G : ai_G) (M : ai_M) (hst : l.stackTraces = false) {S : ai_S} {o x : Nat} (hR : ai_Rx G M S x) (hI : ai_I S o) (hz : ai_Z0 S) : ai_D l yX6_question wsX6_question ({ frames := 7, cells := 3, slots := 49, locals := 171 } : Room) 3 49 G M [.ref x] (fun r M1 => S 0 2 < 20 ∧ r = some (.int (nI (S 0 2))) ∧ ai_Rx G M1 (ai_u S 0 2 (S 0 2 + 1)) x ∧ ai_kq M M1) (fun E M1 => E = "java/lang/IllegalStateException" ∧ S 0 2 = 20 ∧ M1 = M) := by
  refine x_start (by decide +kernel) rfl (Nat.le_of_ble_eq_true rfl) (Nat.le_of_ble_eq_true rfl) (fun x hx => by simp only [List.mem_cons, List.not_mem_nil, or_false] at hx; rcases hx with rfl <;> rfl) ?_
  intro p e s m below meth c B htab
  obtain ⟨qs, dr, ix, fa, qa, pa, pst, hR9⟩ := id hR
  obtain ⟨hx, hL, hD, hIx, hQ, hP1, hP2⟩ := id hR9
  obtain ⟨mc, arr, cap, h9, hl1, -⟩ := id hL
  obtain ⟨hI1, hI2, hI3, hI4⟩ := id hI
  obtain ⟨dv, hD1, hD2⟩ := id hD
  refine y_aload_n B dX6_question_0 rfl ?_
  refine y_get B (ref := "AlertIndex") (ci := 7) (C := RX6) (T := TX6) (N := 4) hx rfl i_X6_question_X6 0 (by decide) (by decide +kernel) (fun _ h9 => h9) rfl dX6_question_1 ?_
  refine y_callF B 0 (x := ⟨"java/util/List", "size", "()I"⟩) (q := (RJx4a65c, TJx4a65c, 3)) _ _ (k_Jx4a65c_size_8abf5 l G _ hL) hl1 rfl gX6_question_Jx4a65c_size_8abf5_f34Jx4a65c B.2.2.2.2.2.2.2.2.1.1.2.2.2.2.2.2.1 (by decide +kernel) rfl rfl rfl rfl ⟨(Nat.le_of_ble_eq_true rfl), (Nat.le_of_ble_eq_true rfl)⟩ (Nat.le_of_ble_eq_true rfl) ⟨(Nat.le_of_ble_eq_true rfl), (Nat.le_of_ble_eq_true rfl)⟩ dX6_question_4 rfl (fun r M1 hr => ?_)
  obtain ⟨rfl, e9⟩ := hr; obtain rfl := e9.symm
  refine y_bipush B (nI 20) dX6_question_9 (by decide +kernel) ?_
  refine y_icmp_lt B 24 dX6_question_11 (by decide) (fun c11 => ?_) (fun c11 => ?_)
  · have q11 : S 0 2 < 20 := (nI_ltI (by omega) (by decide)).mp c11
    refine y_aload_n B dX6_question_24 rfl ?_
    refine y_get B (ref := "AlertIndex") (ci := 7) (C := RX6) (T := TX6) (N := 4) hx rfl i_X6_question_X6 0 (by decide) (by decide +kernel) (fun _ h9 => h9) rfl dX6_question_25 ?_
    refine y_new B (C := RX4) (T := TX4) (N := 6) (ci := 5) (1000 + 100 * S 0 2) [.null, .int 0, .int 0, .int 0, .int 0, .int 0] i_X6_question_X4 tyX4 tyX4_ok (by decide +kernel) (by decide +kernel) (by decide +kernel) rfl (fun j hj => by rcases (show j = 0 ∨ j = 1 ∨ j = 2 ∨ j = 3 ∨ j = 4 ∨ j = 5 by omega) with rfl | rfl | rfl | rfl | rfl | rfl <;> rfl) (Nat.le_of_ble_eq_true rfl) (Nat.le_of_ble_eq_true rfl) dX6_question_28 (fun a ha => ?_)
    refine y_dup B dX6_question_31 rfl ?_
    refine y_callI B 0 _ _ (k_X4_init l G _ (1000 + 100 * S 0 2 + 2) (by omega) ai_U_s) gX6_question_X4_init (by decide +kernel) (by decide +kernel) (by decide +kernel) rfl (by decide +kernel) rfl rfl rfl rfl ⟨(Nat.le_of_ble_eq_true rfl), (Nat.le_of_ble_eq_true rfl)⟩ (Nat.le_of_ble_eq_true rfl) ⟨(Nat.le_of_ble_eq_true rfl), (Nat.le_of_ble_eq_true rfl)⟩ dX6_question_32 rfl (fun r M1 hr => ?_)
    obtain ⟨rfl, q2, hq2, hA2, hL2, hk2⟩ := hr
    have keep1 : ∀ (b g : Nat) (e : va_E), M b = some (g, e) → M1 b = some (g, e) := fun b g e hb => hk2 b g e (ai_U_f ha hb) (fun z => by rw [z, ha] at hb; cases hb)
    have hL1 := hL.keep (M' := M1) (fun b g e hb _ => keep1 b g e hb)
    obtain ⟨mc1, arr1, cap1, h91, hl1b, -⟩ := id hL1
    refine y_callF B 1 (x := ⟨"java/util/List", "add", "(Ljava/lang/Object;)Z"⟩) (q := (RJx4a65c, TJx4a65c, 3)) _ _ (k_Jx4a65c_add_9ea2d l G _ (ci := 5) (qc := (RX4, TX4, 6)) rfl (by decide +kernel) hL1 (by omega) (fun i hi => by obtain ⟨pl, z, -⟩ := hQ i hi; exact ⟨_, _, keep1 _ _ _ z⟩) hA2 (by omega) (fun i hi g9 e9 z9 => by obtain ⟨pl, z, -⟩ := hQ i hi; rw [keep1 _ _ _ z] at z9; cases z9; omega)) hl1b rfl gX6_question_Jx4a65c_add_9ea2d_f50Jx4a65c B.2.2.2.2.2.2.2.2.1.1.2.2.2.2.2.2.2.2.2.1 (by decide +kernel) rfl rfl rfl rfl ⟨(Nat.le_of_ble_eq_true rfl), (Nat.le_of_ble_eq_true rfl)⟩ (Nat.le_of_ble_eq_true rfl) ⟨(Nat.le_of_ble_eq_true rfl), (Nat.le_of_ble_eq_true rfl)⟩ dX6_question_35 rfl (fun r M2 hr => ?_)
    obtain ⟨rfl, hl2, hk3⟩ := hr
    have hR2 := hR9.addQ (a := a) hI hz (fun b g e hb g1 g2 => hk3 b g e (keep1 b g e hb) g1 g2) hl2 (hk3 _ _ _ hA2 (by omega) (by omega)) (hL2.keep (fun b g e hb g1 => hk3 b g e hb (by omega) (by omega)))
    obtain ⟨mc2, arr2, cap2, h92, hl2b, -⟩ := id hl2
    have hx2 := hk3 _ _ _ (keep1 _ _ _ hx) (by decide) (by decide)
    refine y_pop B dX6_question_40 rfl ?_
    refine y_aload_n B dX6_question_41 rfl ?_
    refine y_get B (ref := "AlertIndex") (ci := 7) (C := RX6) (T := TX6) (N := 4) hx2 rfl i_X6_question_X6 0 (by decide) (by decide +kernel) (fun _ h9 => h9) rfl dX6_question_42 ?_
    refine y_callF B 0 (x := ⟨"java/util/List", "size", "()I"⟩) (q := (RJx4a65c, TJx4a65c, 3)) _ _ (k_Jx4a65c_size_8abf5 l G _ hl2) hl2b rfl gX6_question_Jx4a65c_size_8abf5_f34Jx4a65c B.2.2.2.2.2.2.2.2.1.1.2.2.2.2.2.2.1 (by decide +kernel) rfl rfl rfl rfl ⟨(Nat.le_of_ble_eq_true rfl), (Nat.le_of_ble_eq_true rfl)⟩ (Nat.le_of_ble_eq_true rfl) ⟨(Nat.le_of_ble_eq_true rfl), (Nat.le_of_ble_eq_true rfl)⟩ dX6_question_45 rfl (fun r M3 hr => ?_)
    obtain ⟨rfl, e9⟩ := hr
    obtain rfl := e9.symm
    refine y_iconst B (nI 1) dX6_question_50 (by decide +kernel) ?_
    refine y_isub B (nI (S 0 2)) dX6_question_51 ((pk_sub (by omega)).trans rfl) ?_
    exact x_iret B dX6_question_52 (Nat.le_of_ble_eq_true rfl) (Nat.le_of_ble_eq_true rfl) (⟨q11, rfl, ⟨qs, dr, ix, fa, _, pa, pst, hR2⟩, fun b g e hb g1 _ => hk3 b g e (keep1 b g e hb) (by omega) (by omega)⟩)
  · have q11 : S 0 2 = 20 := by have y : ¬ S 0 2 < 20 := fun z => c11 ((nI_ltI (by omega) (by decide)).mpr z); omega
    exact x_throw B (E := "java/lang/IllegalStateException") (text := "there were 20 questions") (sv := 10) hst htab (by decide +kernel) (by decide +kernel) (by decide +kernel) (by decide +kernel) (fun w h => List.mem_cons_of_mem _ (List.mem_append_right _ h)) x_bad_44 x_good_44 dX6_question_14 dX6_question_17 dX6_question_18 dX6_question_20 dX6_question_23 (Nat.le_of_ble_eq_true rfl) (Nat.le_of_ble_eq_true rfl) (Nat.le_of_ble_eq_true rfl) (Nat.le_of_ble_eq_true rfl) (Nat.le_of_ble_eq_true rfl) (Nat.le_of_ble_eq_true rfl) (⟨rfl, q11, rfl⟩)
set_option maxHeartbeats 4000000 in
set_option maxRecDepth 100000 in
theorem k_X6_product (l : Launch) (G : ai_G) (M : ai_M) (hst : l.stackTraces = false) {S : ai_S} {o x : Nat} (hR : ai_Rx G M S x) (hI : ai_I S o) (hz : ai_Z0 S) {z : Int32} : ai_D l yX6_product wsX6_product ({ frames := 7, cells := 4, slots := 60, locals := 171 } : Room) 4 60 G M [.ref x, .int z] (fun r M1 => ai_qo S z = true ∧ S 3 z.toNatClampNeg < 3 ∧ r = some (.int (nI (S 3 z.toNatClampNeg + 1))) ∧ ai_Rx G M1 (ai_u S 3 z.toNatClampNeg (S 3 z.toNatClampNeg + 1)) x ∧ ai_kq M M1) (fun E M1 => M1 = M ∧ ((E = "java/lang/IndexOutOfBoundsException" ∧ ai_qo S z = false) ∨ (E = "java/lang/IllegalStateException" ∧ ai_qo S z = true ∧ S 3 z.toNatClampNeg = 3))) := by
  refine x_start (by decide +kernel) rfl (Nat.le_of_ble_eq_true rfl) (Nat.le_of_ble_eq_true rfl) (fun x hx => by simp only [List.mem_cons, List.not_mem_nil, or_false] at hx; rcases hx with rfl | rfl <;> rfl) ?_
  intro p e s m below meth c B htab
  obtain ⟨qs, dr, ix, fa, qa, pa, pst, hx0, -⟩ := id hR
  refine y_aload_n B dX6_product_0 rfl ?_
  refine y_iload_n B dX6_product_1 rfl ?_
  refine x_callV B 1 (q := (RX6, TX6, 4)) _ _ (k_X6_questionOf l G _ hst hR hI) hx0 rfl gX6_product_X6_questionOf (by decide +kernel) rfl rfl rfl rfl ⟨(Nat.le_of_ble_eq_true rfl), (Nat.le_of_ble_eq_true rfl)⟩ (Nat.le_of_ble_eq_true rfl) ⟨(Nat.le_of_ble_eq_true rfl), (Nat.le_of_ble_eq_true rfl)⟩ dX6_product_2 rfl (fun E M1 hr => ?_) (fun r M1 hr => ?_)
  · exact z_out B (fun x hx => (htab x hx).elim) (Nat.le_of_ble_eq_true rfl) (Nat.le_of_ble_eq_true rfl) (by obtain ⟨e1, e2, e3⟩ := hr; exact ⟨e3, Or.inl ⟨e1, e2⟩⟩)
  obtain ⟨q, qs, dr, ix, fa, qa, pa, pst, hq, rfl, hq2, rfl, hR9, e9⟩ := hr; obtain rfl := e9.symm
  obtain ⟨hx, hL, hD, hIx, hQ, hP1, hP2⟩ := id hR9
  obtain ⟨dv, hD1, hD2⟩ := id hD
  obtain ⟨pl, hQa, hQl, hQp⟩ := id (hQ q hq)
  have hqo := ai_qo_t hI.2.1 hq hq2
  have eq9 : (nI q).toNatClampNeg = q := nI_clamp (by have := hI.2.1; omega)
  have hok := hI.2.2.2 q hq
  obtain ⟨mc, arr, cap, h9, hl1, -⟩ := id hQl
  refine y_astore_n B dX6_product_5 (Nat.le_of_ble_eq_true rfl) ?_
  refine y_aload_n B dX6_product_6 rfl ?_
  refine y_get B (ref := "AlertIndex$Question") (ci := 5) (C := RX4) (T := TX4) (N := 6) hQa rfl i_X6_product_X4 0 (by decide) (by decide +kernel) (fun _ h9 => h9) rfl dX6_product_7 ?_
  refine y_callF B 0 (x := ⟨"java/util/List", "size", "()I"⟩) (q := (RJx4a65c, TJx4a65c, 3)) _ _ (k_Jx4a65c_size_8abf5 l G _ hQl) hl1 rfl gX6_product_Jx4a65c_size_8abf5_f34Jx4a65c B.2.2.2.2.2.2.2.2.1.1.2.2.2.2.2.2.1 (by decide +kernel) rfl rfl rfl rfl ⟨(Nat.le_of_ble_eq_true rfl), (Nat.le_of_ble_eq_true rfl)⟩ (Nat.le_of_ble_eq_true rfl) ⟨(Nat.le_of_ble_eq_true rfl), (Nat.le_of_ble_eq_true rfl)⟩ dX6_product_10 rfl (fun r M9 hr => ?_)
  obtain ⟨rfl, e9⟩ := hr
  obtain rfl := e9.symm
  refine y_iconst B (nI 3) dX6_product_15 (by decide +kernel) ?_
  refine y_icmp_lt B 29 dX6_product_16 (by decide) (fun c16 => ?_) (fun c16 => ?_)
  · have q16 : S 3 q < 3 := (nI_ltI (by have := hok.2.1; omega) (by decide)).mp c16
    refine y_aload_n B dX6_product_29 rfl ?_
    refine y_get B (ref := "AlertIndex$Question") (ci := 5) (C := RX4) (T := TX4) (N := 6) hQa rfl i_X6_product_X4 0 (by decide) (by decide +kernel) (fun _ h9 => h9) rfl dX6_product_30 ?_
    refine y_new B (C := RX3) (T := TX3) (N := 3) (ci := 4) (10000 + 100 * (3 * q + S 3 q)) [.null, .int 0, .int 0] i_X6_product_X3 tyX3 tyX3_ok (by decide +kernel) (by decide +kernel) (by decide +kernel) rfl (fun j hj => by rcases (show j = 0 ∨ j = 1 ∨ j = 2 by omega) with rfl | rfl | rfl <;> rfl) (Nat.le_of_ble_eq_true rfl) (Nat.le_of_ble_eq_true rfl) dX6_product_33 (fun a ha => ?_)
    refine y_dup B dX6_product_36 rfl ?_
    refine y_callI B 0 _ _ (k_X3_init l G _ (10000 + 100 * (3 * q + S 3 q) + 2) (by omega) ai_U_s) gX6_product_X3_init (by decide +kernel) (by decide +kernel) (by decide +kernel) rfl (by decide +kernel) rfl rfl rfl rfl ⟨(Nat.le_of_ble_eq_true rfl), (Nat.le_of_ble_eq_true rfl)⟩ (Nat.le_of_ble_eq_true rfl) ⟨(Nat.le_of_ble_eq_true rfl), (Nat.le_of_ble_eq_true rfl)⟩ dX6_product_37 rfl (fun r M1 hr => ?_)
    obtain ⟨rfl, q2, hq2, hA2, hL2, hk2⟩ := hr
    have keep1 : ∀ (b g : Nat) (e : va_E), M b = some (g, e) → M1 b = some (g, e) := fun b g e hb => hk2 b g e (ai_U_f ha hb) (fun z => by rw [z, ha] at hb; cases hb)
    have hL1 := hQl.keep (M' := M1) (fun b g e hb _ => keep1 b g e hb)
    obtain ⟨mc1, arr1, cap1, h91, hl1b, -⟩ := id hL1
    refine y_callF B 1 (x := ⟨"java/util/List", "add", "(Ljava/lang/Object;)Z"⟩) (q := (RJx4a65c, TJx4a65c, 3)) _ _ (k_Jx4a65c_add_9ea2d l G _ (ci := 4) (qc := (RX3, TX3, 3)) rfl (by decide +kernel) hL1 (by omega) (fun i hi => by obtain ⟨tl, ta, hits, z, -⟩ := hQp i hi; exact ⟨_, _, keep1 _ _ _ z⟩) hA2 (by have := hI.2.1; omega) (fun i hi g9 e9 z9 => by obtain ⟨tl, ta, hits, z, -⟩ := hQp i hi; rw [keep1 _ _ _ z] at z9; cases z9; have := hI.2.1; omega)) hl1b rfl gX6_product_Jx4a65c_add_9ea2d_f50Jx4a65c B.2.2.2.2.2.2.2.2.1.1.2.2.2.2.2.2.2.2.2.1 (by decide +kernel) rfl rfl rfl rfl ⟨(Nat.le_of_ble_eq_true rfl), (Nat.le_of_ble_eq_true rfl)⟩ (Nat.le_of_ble_eq_true rfl) ⟨(Nat.le_of_ble_eq_true rfl), (Nat.le_of_ble_eq_true rfl)⟩ dX6_product_40 rfl (fun r M2 hr => ?_)
    obtain ⟨rfl, hl2, hk3⟩ := hr
    have hR2 := hR9.addP (a := a) hI hz hq q16 ha hQa (fun b g e hb g1 g2 => hk3 b g e (keep1 b g e hb) g1 g2) hl2 (hk3 _ _ _ hA2 (by have := hI.2.1; omega) (by have := hI.2.1; omega)) (hL2.keep (fun b g e hb g1 => hk3 b g e hb (by have := hI.2.1; omega) (by have := hI.2.1; omega)))
    obtain ⟨mc2, arr2, cap2, h92, hl2b, -⟩ := id hl2
    have hQa2 := hk3 _ _ _ (keep1 _ _ _ hQa) (by omega) (by omega)
    refine y_pop B dX6_product_45 rfl ?_
    refine y_aload_n B dX6_product_46 rfl ?_
    refine y_get B (ref := "AlertIndex$Question") (ci := 5) (C := RX4) (T := TX4) (N := 6) hQa2 rfl i_X6_product_X4 0 (by decide) (by decide +kernel) (fun _ h9 => h9) rfl dX6_product_47 ?_
    refine y_callF B 0 (x := ⟨"java/util/List", "size", "()I"⟩) (q := (RJx4a65c, TJx4a65c, 3)) _ _ (k_Jx4a65c_size_8abf5 l G _ hl2) hl2b rfl gX6_product_Jx4a65c_size_8abf5_f34Jx4a65c B.2.2.2.2.2.2.2.2.1.1.2.2.2.2.2.2.1 (by decide +kernel) rfl rfl rfl rfl ⟨(Nat.le_of_ble_eq_true rfl), (Nat.le_of_ble_eq_true rfl)⟩ (Nat.le_of_ble_eq_true rfl) ⟨(Nat.le_of_ble_eq_true rfl), (Nat.le_of_ble_eq_true rfl)⟩ dX6_product_50 rfl (fun r M3 hr => ?_)
    obtain ⟨rfl, e9⟩ := hr
    obtain rfl := e9.symm
    exact x_iret B dX6_product_55 (Nat.le_of_ble_eq_true rfl) (Nat.le_of_ble_eq_true rfl) (⟨hqo, by rw [eq9]; exact q16, by rw [eq9], ⟨qs, dr, ix, fa, qa, _, pst, by rw [eq9]; exact hR2⟩, fun b g e hb g1 _ => hk3 b g e (keep1 b g e hb) (by omega) (by omega)⟩)
  · have q16 : S 3 q = 3 := by have o9 := hok.2.1; have y : ¬ S 3 q < 3 := fun z => c16 ((nI_ltI (by omega) (by decide)).mpr z); omega
    exact x_throw B (E := "java/lang/IllegalStateException") (text := "the question has 3 products") (sv := 11) hst htab (by decide +kernel) (by decide +kernel) (by decide +kernel) (by decide +kernel) (fun w h => List.mem_cons_of_mem _ (List.mem_append_left _ (List.mem_append_right _ h))) x_bad_44 x_good_44 dX6_product_19 dX6_product_22 dX6_product_23 dX6_product_25 dX6_product_28 (Nat.le_of_ble_eq_true rfl) (Nat.le_of_ble_eq_true rfl) (Nat.le_of_ble_eq_true rfl) (Nat.le_of_ble_eq_true rfl) (Nat.le_of_ble_eq_true rfl) (Nat.le_of_ble_eq_true rfl) (⟨rfl, Or.inr ⟨rfl, hqo, by rw [eq9]; exact q16⟩⟩)
set_option maxHeartbeats 4000000 in
set_option maxRecDepth 100000 in
theorem k_X6_init (l : Launch) (G : ai_G) (M : ai_M) {x : Nat} {S : ai_S} (h1 : M x = some (100, .inr (7, [.null, .null, .null, .int 0]))) (s1 : S 0 1 = 0) (s2 : S 0 2 = 0) (s3 : S 1 = fun i => if i < 6 then 0 else 1) : ai_C l yX6_init wsX6_init ({ frames := 4, cells := 5, slots := 779, locals := 72 } : Room) 5 779 G M [.ref x] (fun r M1 => r = none ∧ ai_Rx G M1 S x ∧ ∀ (b g : Nat) (e : va_E), M b = some (g, e) → b ≠ x → M1 b = some (g, e)) := by
  refine y_start (by decide +kernel) rfl (Nat.le_of_ble_eq_true rfl) (Nat.le_of_ble_eq_true rfl) (fun x hx => by simp only [List.mem_cons, List.not_mem_nil, or_false] at hx; rcases hx with rfl <;> rfl) ?_
  intro p e s m below meth c B hnm
  have hinit : meth.name = "<init>" := hnm
  refine y_aload_n B dX6_init_0 rfl ?_
  refine y_oinit B (by decide +kernel) (by decide +kernel) (by decide +kernel) (Nat.le_of_ble_eq_true rfl) (Nat.le_of_ble_eq_true rfl) dX6_init_1 ?_
  refine y_aload_n B dX6_init_4 rfl ?_
  refine y_new B (C := RJx4a65c) (T := TJx4a65c) (N := 3) (ci := 0) (102) [.int 0, .null, .int 0] i_X6_init_Jx4a65c tyJx4a65c tyJx4a65c_ok (by decide +kernel) (by decide +kernel) (by decide +kernel) rfl (fun j hj => by rcases (show j = 0 ∨ j = 1 ∨ j = 2 by omega) with rfl | rfl | rfl <;> rfl) (Nat.le_of_ble_eq_true rfl) (Nat.le_of_ble_eq_true rfl) dX6_init_5 (fun qs hqs => ?_)
  have n1 : qs ≠ x := fun z => by rw [← z, hqs] at h1; cases h1
  refine y_dup B dX6_init_8 rfl ?_
  refine y_callI B 0 _ _ (k_Jx4a65c_init_da8c8 l G _ ai_U_s) gX6_init_Jx4a65c_init_da8c8 (by decide +kernel) (by decide +kernel) (by decide +kernel) rfl (by decide +kernel) rfl rfl rfl rfl ⟨(Nat.le_of_ble_eq_true rfl), (Nat.le_of_ble_eq_true rfl)⟩ (Nat.le_of_ble_eq_true rfl) ⟨(Nat.le_of_ble_eq_true rfl), (Nat.le_of_ble_eq_true rfl)⟩ dX6_init_9 rfl (fun r M1 hr => ?_)
  obtain ⟨rfl, rfl⟩ := hr
  rw [ai_UU]
  refine y_putF B hinit (ref := "AlertIndex") (ci := 7) (C := RX6) (T := TX6) (N := 4) (ty := (.object "java/util/List")) ((ai_U_n (fun z => n1 z.symm)).trans h1) rfl i_X6_init_X6 tyX6 tyX6_ok nmX6 0 (by decide) (by decide +kernel) (fun _ h9 => h9) rfl rfl (by decide +kernel) rfl rfl (Nat.le_of_ble_eq_true rfl) dX6_init_12 ?_
  obtain ⟨MA, eA⟩ : ∃ z, z = ai_U (ai_U M qs 102 (.inr (0, [.int (nI 0), .ref (G.2.2.1 0), .int (nI 0)]))) x 100 (.inr (7, [.ref qs, .null, .null, .int 0])) := ⟨_, rfl⟩
  have kA : ∀ (b g : Nat) (e : va_E), M b = some (g, e) → b ≠ x → MA b = some (g, e) := fun b g e hb hn => by rw [eA]; exact (ai_U_n hn).trans (ai_U_f hqs hb)
  have xA : MA x = some (100, .inr (7, [.ref qs, .null, .null, .int 0])) := by rw [eA]; exact ai_U_s
  have lA : ai_l G MA qs 102 0 (fun _ => 0) := by rw [eA]; exact ai_l_new.keep (fun b g e hb h9 => (ai_U_n (fun z => by subst z; rw [ai_U_n (fun z => n1 z.symm), h1] at hb; cases hb; omega)).trans hb)
  refine y_mem (M' := MA) (fun b g e hb => by rw [eA] at hb; exact hb) ?_
  refine y_aload_n B dX6_init_15 rfl ?_
  refine y_new B (C := RX0) (T := TX0) (N := 1) (ci := 1) (104) [.null] i_X6_init_X0 tyX0 tyX0_ok (by decide +kernel) (by decide +kernel) (by decide +kernel) rfl (fun j hj => by rcases (show j = 0 by omega) with rfl <;> rfl) (Nat.le_of_ble_eq_true rfl) (Nat.le_of_ble_eq_true rfl) dX6_init_16 (fun dr hdr => ?_)
  have n2 : dr ≠ x := fun z => by rw [← z, hdr] at xA; cases xA
  refine y_dup B dX6_init_19 rfl ?_
  refine y_callI B 0 _ _ (k_X0_init l G _ 105 ai_U_s) gX6_init_X0_init (by decide +kernel) (by decide +kernel) (by decide +kernel) rfl (by decide +kernel) rfl rfl rfl rfl ⟨(Nat.le_of_ble_eq_true rfl), (Nat.le_of_ble_eq_true rfl)⟩ (Nat.le_of_ble_eq_true rfl) ⟨(Nat.le_of_ble_eq_true rfl), (Nat.le_of_ble_eq_true rfl)⟩ dX6_init_20 rfl (fun r MB hr => ?_)
  obtain ⟨rfl, dv, hdv, hB1, hB2, hB3⟩ := hr
  have kB : ∀ (b g : Nat) (e : va_E), MA b = some (g, e) → MB b = some (g, e) := fun b g e hb => hB3 b g e (ai_U_f hdr hb) (fun z => by rw [z, hdr] at hb; cases hb)
  have xB := kB _ _ _ xA
  refine y_putF B hinit (ref := "AlertIndex") (ci := 7) (C := RX6) (T := TX6) (N := 4) (ty := (.object "AlertIndex$Draft")) xB rfl i_X6_init_X6 tyX6 tyX6_ok nmX6 1 (by decide) (by decide +kernel) (fun _ h9 => h9) rfl rfl (by decide +kernel) rfl rfl (Nat.le_of_ble_eq_true rfl) dX6_init_23 ?_
  obtain ⟨MC, eC⟩ : ∃ z, z = ai_U MB x 100 (.inr (7, [.ref qs, .ref dr, .null, .int 0])) := ⟨_, rfl⟩
  have kC : ∀ (b g : Nat) (e : va_E), MB b = some (g, e) → b ≠ x → MC b = some (g, e) := fun b g e hb hn => by rw [eC]; exact (ai_U_n hn).trans hb
  have xC : MC x = some (100, .inr (7, [.ref qs, .ref dr, .null, .int 0])) := by rw [eC]; exact ai_U_s
  refine y_mem (M' := MC) (fun b g e hb => by rw [eC] at hb; exact hb) ?_
  refine y_aload_n B dX6_init_26 rfl ?_
  refine y_new B (C := RX1) (T := TX1) (N := 1) (ci := 2) (106) [.null] i_X6_init_X1 tyX1 tyX1_ok (by decide +kernel) (by decide +kernel) (by decide +kernel) rfl (fun j hj => by rcases (show j = 0 by omega) with rfl <;> rfl) (Nat.le_of_ble_eq_true rfl) (Nat.le_of_ble_eq_true rfl) dX6_init_27 (fun ix hix => ?_)
  have n3 : ix ≠ x := fun z => by rw [← z, hix] at xC; cases xC
  refine y_dup B dX6_init_30 rfl ?_
  refine y_callI B 0 _ _ (k_X1_init l G _ 107 ai_U_s) gX6_init_X1_init (by decide +kernel) (by decide +kernel) (by decide +kernel) rfl (by decide +kernel) rfl rfl rfl rfl ⟨(Nat.le_of_ble_eq_true rfl), (Nat.le_of_ble_eq_true rfl)⟩ (Nat.le_of_ble_eq_true rfl) ⟨(Nat.le_of_ble_eq_true rfl), (Nat.le_of_ble_eq_true rfl)⟩ dX6_init_31 rfl (fun r MD hr => ?_)
  obtain ⟨rfl, fa, hfa, eD⟩ := hr
  have hfx : fa ≠ ix := fun z => by rw [z, ai_U_s] at hfa; cases hfa
  have kD : ∀ (b g : Nat) (e : va_E), MC b = some (g, e) → MD b = some (g, e) := fun b g e hb => by rw [eD]; exact (ai_U_n (fun z => by rw [z, hix] at hb; cases hb)).trans ((ai_U_n (fun z => by subst z; rw [ai_U_n hfx, hb] at hfa; cases hfa)).trans (ai_U_f hix hb))
  have xD := kD _ _ _ xC
  have iD : MD ix = some (106, .inr (2, [.ref fa])) := by rw [eD]; exact ai_U_s
  have fD : MD fa = some (107, ai_eP G 768 (fun _ => none)) := by rw [eD]; exact (ai_U_n hfx).trans ai_U_s
  refine y_putF B hinit (ref := "AlertIndex") (ci := 7) (C := RX6) (T := TX6) (N := 4) (ty := (.object "AlertIndex$PieceIndex")) xD rfl i_X6_init_X6 tyX6 tyX6_ok nmX6 2 (by decide) (by decide +kernel) (fun _ h9 => h9) rfl rfl (by decide +kernel) rfl rfl (Nat.le_of_ble_eq_true rfl) dX6_init_34 ?_
  refine y_aload_n B dX6_init_37 rfl ?_
  refine y_iconst B (nI 0) dX6_init_38 (by decide +kernel) ?_
  refine y_put B (ref := "AlertIndex") (ci := 7) (C := RX6) (T := TX6) (N := 4) (ty := .int) ai_U_s rfl i_X6_init_X6 tyX6 tyX6_ok nmX6 3 (by decide) (by decide +kernel) (fun _ h9 => h9) rfl (by decide +kernel) rfl rfl (Nat.le_of_ble_eq_true rfl) dX6_init_39 ?_
  rw [ai_UU]
  have keep : ∀ (b g : Nat) (e : va_E), MD b = some (g, e) → b ≠ x → ai_U MD x 100 (.inr (7, [.ref qs, .ref dr, .ref ix, .int (nI 0)])) b = some (g, e) := fun b g e hb hn => (ai_U_n hn).trans hb
  have tx : ∀ (b g : Nat) (e : va_E), MD b = some (g, e) → g ≠ 100 → b ≠ x := fun b g e hb hg => ai_ne hb xD hg
  have lC : ai_l G MC qs 102 0 (fun _ => 0) := (lA.keep (fun b g e hb _ => kB b g e hb)).keep (fun b g e hb h9 => kC b g e hb (ai_ne hb xB (by omega)))
  have dC1 := kC _ _ _ hB1 n2
  have dC2 := kC _ _ _ hB2 (ai_ne hB2 xB (by decide))
  exact y_vret B dX6_init_42 (Nat.le_of_ble_eq_true rfl) (Nat.le_of_ble_eq_true rfl) (⟨rfl, ⟨qs, dr, ix, fa, fun _ => 0, fun _ => 0, fun _ => [], by rw [s1]; exact ai_U_s, by rw [s2]; exact (lC.keep (fun b g e hb _ => kD b g e hb)).keep (fun b g e hb h9 => keep b g e hb (tx b g e hb (by omega))), ⟨dv, keep _ _ _ (kD _ _ _ dC1) n2, by rw [s3]; exact keep _ _ _ (kD _ _ _ dC2) (tx _ _ _ (kD _ _ _ dC2) (by decide))⟩, ⟨fun _ => none, keep _ _ _ iD n3, keep _ _ _ fD (tx _ _ _ fD (by decide)), fun pl _ => rfl⟩, fun q hq => absurd hq (by rw [s2]; exact Nat.not_lt_zero q), fun pl _ b hb => (nomatch hb), fun q hq => absurd hq (by rw [s2]; exact Nat.not_lt_zero q)⟩, fun b g e hb hn => keep _ _ _ (kD _ _ _ (kC _ _ _ (kB _ _ _ (kA b g e hb hn)) hn)) hn⟩)
