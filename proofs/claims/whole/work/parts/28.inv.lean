/-! ===== WHAT EACH CALL KEEPS ===== -/
theorem ai_okQ.S {S S' : ai_S} {o o' q : Nat} (h : ai_okQ S o q) (ho : o ≤ o') (hm : S 0 1 = S' 0 1) (hk : ∀ k i, 2 ≤ k → (8 ≤ k ∨ i = q) → S' k i = S k i) : ai_okQ S' o' q := by
  obtain ⟨g2, g3, g4, g5, g7, g8, g9⟩ := h
  refine ⟨by rw [hk 2 q (by omega) (Or.inr rfl)]; exact g2, by rw [hk 3 q (by omega) (Or.inr rfl)]; exact g3, by rw [hk 4 q (by omega) (Or.inr rfl)]; exact g4, by rw [hk 5 q (by omega) (Or.inr rfl), ← hm]; exact g5, by rw [hk 7 q (by omega) (Or.inr rfl)]; omega, by rw [hk 2 q (by omega) (Or.inr rfl), hk 7 q (by omega) (Or.inr rfl), hk 5 q (by omega) (Or.inr rfl), ← hm]; exact g8, fun p hp => ?_⟩
  rw [hk 3 q (by omega) (Or.inr rfl)] at hp
  exact (g9 p hp).S (fun k i h8 => hk k i (by omega) (Or.inl h8))
theorem op_question_I {S : ai_S} {o : Nat} (h : ai_I S o) (hz : ai_Z0 S) : ai_I (op_question S).2.2 (o + 1) ∧ ai_Z0 (op_question S).2.2 := by
  unfold op_question
  by_cases c : S 0 2 = 20
  · rw [if_pos c]; exact ⟨h.up, hz⟩
  · rw [if_neg c]
    have e : ∀ k i, (k ≠ 0 ∨ i ≠ 2) → ai_u S 0 2 (S 0 2 + 1) k i = S k i := fun k i hk => by unfold ai_u; rw [if_neg (by omega)]
    have hn := h.2.1
    refine ⟨⟨by show ai_u S 0 2 (S 0 2 + 1) 0 1 ≤ _; rw [e 0 1 (by omega)]; exact h.1, by show ai_u S 0 2 (S 0 2 + 1) 0 2 ≤ _; rw [ai_u_s]; omega, fun i hi => by show ai_u S 0 2 (S 0 2 + 1) 1 i ≤ _; rw [e 1 i (by omega)]; exact h.2.2.1 i hi, fun q hq => ?_⟩, ⟨fun q hq => ?_, fun q p hp h3 => ?_⟩⟩
    · show ai_okQ (ai_u S 0 2 (S 0 2 + 1)) _ q
      by_cases hq2 : q < S 0 2
      · exact (h.2.2.2 q hq2).S (by omega) (e 0 1 (by omega)).symm (fun k i hk _ => e k i (by omega))
      · obtain ⟨z2, z3, z4, z5, z6, z7⟩ := hz.1 q (by omega)
        refine ⟨by rw [e 2 q (by omega)]; omega, by rw [e 3 q (by omega)]; omega, by rw [e 4 q (by omega)]; omega, by rw [e 5 q (by omega)]; omega, by rw [e 7 q (by omega)]; omega, fun _ => Or.inl (by rw [e 7 q (by omega)]; exact z7), fun p hp => ?_⟩
        rw [e 3 q (by omega), z3] at hp
        exact absurd hp (Nat.not_lt_zero p)
    · have hq' : S 0 2 + 1 ≤ q := by have y : ai_u S 0 2 (S 0 2 + 1) 0 2 ≤ q := hq; rw [ai_u_s] at y; exact y
      show ai_u S 0 2 (S 0 2 + 1) 2 q = 0 ∧ ai_u S 0 2 (S 0 2 + 1) 3 q = 0 ∧ ai_u S 0 2 (S 0 2 + 1) 4 q = 0 ∧ ai_u S 0 2 (S 0 2 + 1) 5 q = 0 ∧ ai_u S 0 2 (S 0 2 + 1) 6 q = 0 ∧ ai_u S 0 2 (S 0 2 + 1) 7 q = 0
      rw [e 2 q (by omega), e 3 q (by omega), e 4 q (by omega), e 5 q (by omega), e 6 q (by omega), e 7 q (by omega)]
      exact hz.1 q (by omega)
    · show ai_u S 0 2 (S 0 2 + 1) 8 (3 * q + p) = 0
      have y : ai_u S 0 2 (S 0 2 + 1) 3 q ≤ p := h3
      rw [e 3 q (by omega)] at y
      rw [e 8 _ (by omega)]
      exact hz.2 q p hp y
/-- a row of a question's own changes -/
theorem ai_u_I {S : ai_S} {o q k v : Nat} (h : ai_I S o) (hz : ai_Z0 S) (hq : q < S 0 2) (hk : k = 2 ∨ k = 4) (h2 : k = 2 → v = 1) (h4 : k = 4 → v ≤ 1000) : ai_I (ai_u S k q v) (o + 1) ∧ ai_Z0 (ai_u S k q v) := by
  have e : ∀ a i, (a ≠ k ∨ i ≠ q) → ai_u S k q v a i = S a i := fun a i hk => by unfold ai_u; rw [if_neg (by omega)]
  refine ⟨⟨by rw [e 0 1 (by omega)]; exact h.1, by rw [e 0 2 (by omega)]; exact h.2.1, fun i hi => by rw [e 1 i (by omega)]; exact h.2.2.1 i hi, fun q9 hq9 => ?_⟩, ⟨fun q9 hq9 => ?_, fun q9 p hp h3 => ?_⟩⟩
  · rw [e 0 2 (by omega)] at hq9
    by_cases z : q9 = q
    · subst z
      obtain ⟨g2, g3, g4, g5, g7, g8, g9⟩ := h.2.2.2 q9 hq9
      refine ⟨?_, by rw [e 3 q9 (by omega)]; exact g3, ?_, by rw [e 5 q9 (by omega), e 0 1 (by omega)]; exact g5, by rw [e 7 q9 (by omega)]; omega, ?_, fun p hp => ?_⟩
      · rcases hk with rfl | rfl
        · rw [ai_u_s, h2 rfl]; omega
        · rw [e 2 q9 (by omega)]; exact g2
      · rcases hk with rfl | rfl
        · rw [e 4 q9 (by omega)]; exact g4
        · rw [ai_u_s]; exact h4 rfl
      · rw [e 7 q9 (by omega), e 5 q9 (by omega), e 0 1 (by omega)]
        rcases hk with rfl | rfl
        · rw [ai_u_s, h2 rfl]; exact fun y => by omega
        · rw [e 2 q9 (by omega)]; exact g8
      · rw [e 3 q9 (by omega)] at hp
        exact (g9 p hp).S (fun a i h8 => e a i (by omega))
    · exact (h.2.2.2 q9 hq9).S (by omega) (e 0 1 (by omega)).symm (fun a i ha hi => e a i (by omega))
  · rw [e 0 2 (by omega)] at hq9
    rw [e 2 q9 (by omega), e 3 q9 (by omega), e 4 q9 (by omega), e 5 q9 (by omega), e 6 q9 (by omega), e 7 q9 (by omega)]
    exact hz.1 q9 hq9
  · rw [e 3 q9 (by omega)] at h3
    rw [e 8 _ (by omega)]
    exact hz.2 q9 p hp h3
theorem op_drop_I {S : ai_S} {o : Nat} {z : Int32} (h : ai_I S o) (hz : ai_Z0 S) : ai_I (op_drop S z).2.2 (o + 1) ∧ ai_Z0 (op_drop S z).2.2 := by
  unfold op_drop
  by_cases c : ai_qo S z = false
  · rw [if_pos c]; exact ⟨h.up, hz⟩
  · rw [if_neg c]
    obtain ⟨q, hq, -, -, e⟩ := ai_qo_of h.2.1 (by simpa using c)
    show ai_I (ai_u S 2 z.toNatClampNeg 1) (o + 1) ∧ ai_Z0 (ai_u S 2 z.toNatClampNeg 1)
    rw [e]
    exact ai_u_I h hz hq (Or.inl rfl) (fun _ => rfl) (fun y => by omega)
theorem op_setQuiet_I {S : ai_S} {o : Nat} {z mm : Int32} (h : ai_I S o) (hz : ai_Z0 S) : ai_I (op_setQuiet S z mm).2.2 (o + 1) ∧ ai_Z0 (op_setQuiet S z mm).2.2 := by
  unfold op_setQuiet
  by_cases c : ai_qo S z = false
  · rw [if_pos c]; exact ⟨h.up, hz⟩
  · rw [if_neg c]
    obtain ⟨q, hq, -, -, e⟩ := ai_qo_of h.2.1 (by simpa using c)
    by_cases c2 : ai_r mm 1001 = false
    · rw [if_pos c2]; exact ⟨h.up, hz⟩
    · rw [if_neg c2]
      obtain ⟨v, hv, rfl⟩ := ai_r_of (by decide) (show ai_r mm 1001 = true by simpa using c2)
      show ai_I (ai_u S 4 z.toNatClampNeg (nI v).toNatClampNeg) (o + 1) ∧ ai_Z0 (ai_u S 4 z.toNatClampNeg (nI v).toNatClampNeg)
      rw [e, nI_clamp (by omega)]
      exact ai_u_I h hz hq (Or.inr rfl) (fun y => by omega) (fun _ => by omega)
theorem op_set_I {S : ai_S} {o : Nat} {z v : Int32} (h : ai_I S o) (hz : ai_Z0 S) : ai_I (op_set S z v).2.2 (o + 1) ∧ ai_Z0 (op_set S z v).2.2 := by
  unfold op_set
  by_cases c : ai_r z 6 = false
  · rw [if_pos c]; exact ⟨h.up, hz⟩
  · rw [if_neg c]
    by_cases c2 : v = -1 ∨ ai_r v 64 = true
    · rw [if_pos c2]
      have hd := (ai_dn_nD c2).2
      have e : ∀ a i, a ≠ 1 → ai_u S 1 z.toNatClampNeg (ai_dn v) a i = S a i := fun a i ha => ai_u_k ha
      show ai_I (ai_u S 1 z.toNatClampNeg (ai_dn v)) (o + 1) ∧ ai_Z0 (ai_u S 1 z.toNatClampNeg (ai_dn v))
      refine ⟨⟨by rw [e 0 1 (by omega)]; exact h.1, by rw [e 0 2 (by omega)]; exact h.2.1, fun i hi => ?_, fun q9 hq9 => ?_⟩, ⟨fun q9 hq9 => ?_, fun q9 p hp h3 => ?_⟩⟩
      · unfold ai_u
        split
        · exact hd
        · exact h.2.2.1 i hi
      · rw [e 0 2 (by omega)] at hq9
        exact (h.2.2.2 q9 hq9).S (by omega) (e 0 1 (by omega)).symm (fun a i ha _ => e a i (by omega))
      · rw [e 0 2 (by omega)] at hq9
        rw [e 2 q9 (by omega), e 3 q9 (by omega), e 4 q9 (by omega), e 5 q9 (by omega), e 6 q9 (by omega), e 7 q9 (by omega)]
        exact hz.1 q9 hq9
      · rw [e 3 q9 (by omega)] at h3
        rw [e 8 _ (by omega)]
        exact hz.2 q9 p hp h3
    · rw [if_neg c2]; exact ⟨h.up, hz⟩
theorem op_product_I {S : ai_S} {o : Nat} {z : Int32} (h : ai_I S o) (hz : ai_Z0 S) : ai_I (op_product S z).2.2 (o + 1) ∧ ai_Z0 (op_product S z).2.2 := by
  unfold op_product
  by_cases c : ai_qo S z = false
  · rw [if_pos c]; exact ⟨h.up, hz⟩
  · rw [if_neg c]
    obtain ⟨q, hq, -, -, e9⟩ := ai_qo_of h.2.1 (by simpa using c)
    rw [e9]
    by_cases c2 : S 3 q = 3
    · rw [if_pos c2]; exact ⟨h.up, hz⟩
    · rw [if_neg c2]
      show ai_I (ai_u S 3 q (S 3 q + 1)) (o + 1) ∧ ai_Z0 (ai_u S 3 q (S 3 q + 1))
      have e : ∀ a i, (a ≠ 3 ∨ i ≠ q) → ai_u S 3 q (S 3 q + 1) a i = S a i := fun a i hk => by unfold ai_u; rw [if_neg (by omega)]
      refine ⟨⟨by rw [e 0 1 (by omega)]; exact h.1, by rw [e 0 2 (by omega)]; exact h.2.1, fun i hi => by rw [e 1 i (by omega)]; exact h.2.2.1 i hi, fun q9 hq9 => ?_⟩, ⟨fun q9 hq9 => ?_, fun q9 p hp h3 => ?_⟩⟩
      · rw [e 0 2 (by omega)] at hq9
        by_cases y : q9 = q
        · subst y
          obtain ⟨g2, g3, g4, g5, g7, g8, g9⟩ := h.2.2.2 q9 hq9
          refine ⟨by rw [e 2 q9 (by omega)]; exact g2, by rw [ai_u_s]; omega, by rw [e 4 q9 (by omega)]; exact g4, by rw [e 5 q9 (by omega), e 0 1 (by omega)]; exact g5, by rw [e 7 q9 (by omega)]; omega, by rw [e 7 q9 (by omega), e 5 q9 (by omega), e 0 1 (by omega), e 2 q9 (by omega)]; exact g8, fun p hp => ?_⟩
          rw [ai_u_s] at hp
          by_cases y2 : p < S 3 q9
          · exact (g9 p y2).S (fun a i h8 => e a i (by omega))
          · have z8 := hz.2 q9 p (by omega) (by omega)
            refine ⟨by rw [e 8 _ (by omega)]; omega, fun t ht => ?_⟩
            rw [e 8 _ (by omega), z8] at ht
            exact absurd ht (Nat.not_lt_zero t)
        · exact (h.2.2.2 q9 hq9).S (by omega) (e 0 1 (by omega)).symm (fun a i ha hi => e a i (by omega))
      · rw [e 0 2 (by omega)] at hq9
        rw [e 2 q9 (by omega), e 3 q9 (by omega), e 4 q9 (by omega), e 5 q9 (by omega), e 6 q9 (by omega), e 7 q9 (by omega)]
        exact hz.1 q9 hq9
      · rw [e 8 _ (by omega)]
        refine hz.2 q9 p hp ?_
        by_cases y : q9 = q
        · subst y; rw [ai_u_s] at h3; omega
        · rw [e 3 q9 (by omega)] at h3; exact h3
theorem op_test_I {S : ai_S} {o bv : Nat} {z nm lo hi : Int32} (h : ai_I S o) (hz : ai_Z0 S) (hbv : bv = 0 ∨ bv = 1) : ai_I (op_test S z nm lo hi bv).2.2 (o + 1) ∧ ai_Z0 (op_test S z nm lo hi bv).2.2 := by
  unfold op_test
  by_cases c : (ai_qo S z && ai_r nm 6) = false
  · rw [if_pos c]; exact ⟨h.up, hz⟩
  · rw [if_neg c]
    have c' : (ai_qo S z && ai_r nm 6) = true := by simpa using c
    rw [Bool.and_eq_true] at c'
    obtain ⟨q, hq, -, -, e9⟩ := ai_qo_of h.2.1 c'.1
    obtain ⟨u, hu, rfl⟩ := ai_r_of (by decide) c'.2
    by_cases c2 : ai_rg lo hi = false
    · rw [if_pos c2]; exact ⟨h.up, hz⟩
    · rw [if_neg c2]
      obtain ⟨v1, v2, rfl, rfl, hv1, hv2, hv12⟩ := ai_rg_of (show ai_rg lo hi = true by simpa using c2)
      by_cases c3 : S 3 z.toNatClampNeg = 0 ∨ S 8 (ai_lj S z) = 4
      · rw [if_pos c3]; exact ⟨h.up, hz⟩
      · rw [if_neg c3]
        show ai_I (ai_tS S (ai_lj S z) (nI u).toNatClampNeg (nI v1).toNatClampNeg (nI v2).toNatClampNeg bv) (o + 1) ∧ ai_Z0 (ai_tS S (ai_lj S z) (nI u).toNatClampNeg (nI v1).toNatClampNeg (nI v2).toNatClampNeg bv)
        rw [nI_clamp (by omega), nI_clamp (by omega), nI_clamp (by omega)]
        have ej : ai_lj S z = 3 * q + (S 3 q - 1) := by unfold ai_lj; rw [e9]
        rw [e9, ej] at c3
        rw [ej]
        obtain ⟨j, hj⟩ : ∃ j, j = 3 * q + (S 3 q - 1) := ⟨_, rfl⟩
        rw [← hj] at c3 ⊢
        have hok := h.2.2.2 q hq
        have h3 := hok.2.1
        have o8 : S 8 j ≤ 4 := by rw [hj]; exact (hok.2.2.2.2.2.2 (S 3 q - 1) (by omega)).1
        have e : ∀ a i, a < 8 → ai_tS S j u v1 v2 bv a i = S a i := fun a i ha => ai_tS_k (by omega) (by omega)
        have pd : ∀ q9 p, q9 < S 0 2 → p < S 3 q9 → ai_okP (ai_tS S j u v1 v2 bv) (3 * q9 + p) := fun q9 p h9 hp => by
          have g := (h.2.2.2 q9 h9).2.2.2.2.2.2 p hp
          have g3 := (h.2.2.2 q9 h9).2.1
          by_cases y : 3 * q9 + p = j
          · rw [y] at g ⊢
            refine ⟨by rw [ai_tS_8]; omega, fun t ht => ?_⟩
            rw [ai_tS_8] at ht
            unfold ai_okT
            by_cases y2 : t = S 8 j
            · rw [y2, ai_tS_9, ai_tS_10, ai_tS_11, ai_tS_12]
              exact ⟨hu, hv12, hv2, by omega⟩
            · rw [ai_tS_k (k := 9) (by omega) (by omega), ai_tS_k (k := 10) (by omega) (by omega), ai_tS_k (k := 11) (by omega) (by omega), ai_tS_k (k := 12) (by omega) (by omega)]
              exact g.2 t (by omega)
          · refine ⟨by rw [ai_tS_k (Or.inr y) (by omega)]; exact g.1, fun t ht => ?_⟩
            rw [ai_tS_k (Or.inr y) (by omega)] at ht
            have g1 := g.1
            unfold ai_okT
            rw [ai_tS_k (k := 9) (by omega) (by omega), ai_tS_k (k := 10) (by omega) (by omega), ai_tS_k (k := 11) (by omega) (by omega), ai_tS_k (k := 12) (by omega) (by omega)]
            exact g.2 t ht
        refine ⟨⟨by rw [e 0 1 (by omega)]; exact h.1, by rw [e 0 2 (by omega)]; exact h.2.1, fun i hi => by rw [e 1 i (by omega)]; exact h.2.2.1 i hi, fun q9 hq9 => ?_⟩, ⟨fun q9 hq9 => ?_, fun q9 p hp h39 => ?_⟩⟩
        · rw [e 0 2 (by omega)] at hq9
          obtain ⟨g2, g3, g4, g5, g7, g8, g9⟩ := h.2.2.2 q9 hq9
          refine ⟨by rw [e 2 q9 (by omega)]; exact g2, by rw [e 3 q9 (by omega)]; exact g3, by rw [e 4 q9 (by omega)]; exact g4, by rw [e 5 q9 (by omega), e 0 1 (by omega)]; exact g5, by rw [e 7 q9 (by omega)]; omega, by rw [e 7 q9 (by omega), e 5 q9 (by omega), e 0 1 (by omega), e 2 q9 (by omega)]; exact g8, fun p hp => ?_⟩
          rw [e 3 q9 (by omega)] at hp
          exact pd q9 p hq9 hp
        · rw [e 0 2 (by omega)] at hq9
          rw [e 2 q9 (by omega), e 3 q9 (by omega), e 4 q9 (by omega), e 5 q9 (by omega), e 6 q9 (by omega), e 7 q9 (by omega)]
          exact hz.1 q9 hq9
        · rw [e 3 q9 (by omega)] at h39
          have hne : 3 * q9 + p ≠ j := fun y => by
            by_cases y2 : q9 = q
            · subst y2; omega
            · omega
          rw [ai_tS_k (Or.inr hne) (by omega)]
          exact hz.2 q9 p hp h39
theorem op_come_I {S : ai_S} {o : Nat} (h : ai_I S o) (hz : ai_Z0 S) : ai_I (op_come S).2.2 (o + 1) ∧ ai_Z0 (op_come S).2.2 := by
  show ai_I (ai_cS (S 0 2) S) (o + 1) ∧ ai_Z0 (ai_cS (S 0 2) S)
  refine ⟨ai_cS_I h (Nat.le_refl _), ⟨fun q hq => ?_, fun q p hp h3 => ?_⟩⟩
  · rw [ai_cS_k (by omega)] at hq
    rw [ai_cS_k (by omega), ai_cS_k (by omega), ai_cS_k (by omega), ai_cS_k (by omega), ai_cS_k (by omega), ai_cS_k (by omega)]
    exact hz.1 q hq
  · rw [ai_cS_k (by omega)] at h3
    rw [ai_cS_k (by omega)]
    exact hz.2 q p hp h3
theorem op_advance_I {S : ai_S} {o : Nat} {z : Int32} (h : ai_I S o) (hz : ai_Z0 S) : ai_I (op_advance S z).2.2 (o + 1) ∧ ai_Z0 (op_advance S z).2.2 := by
  unfold op_advance
  by_cases c : ¬ (1 ≤ z.toInt ∧ z.toInt ≤ 1000)
  · rw [if_pos c]; exact ⟨h.up, hz⟩
  · rw [if_neg c]
    by_cases c2 : 1000000 < S 0 1 + z.toNatClampNeg
    · rw [if_pos c2]; exact ⟨h.up, hz⟩
    · rw [if_neg c2]
      obtain ⟨v, hv⟩ : ∃ v, v = S 0 1 + z.toNatClampNeg := ⟨_, rfl⟩
      rw [← hv] at c2 ⊢
      show ai_I (ai_aS (S 0 2) (ai_u S 0 1 v)) (o + 1) ∧ ai_Z0 (ai_aS (S 0 2) (ai_u S 0 1 v))
      rw [ai_w_a]
      have e : ∀ a i, (a ≠ 0 ∨ i ≠ 1) → (a ≠ 5 ∧ a ≠ 6 ∧ a ≠ 7) → ai_w S (S 0 2) (fun _ => v) v a i = S a i := fun a i h0 hk => ai_w_k h0 hk
      have eo : ∀ a i, a ≠ 0 → S 0 2 ≤ i → ai_w S (S 0 2) (fun _ => v) v a i = S a i := fun a i h0 hi => ai_w_n h0 (fun y => by omega)
      refine ⟨⟨by rw [ai_w_m]; omega, by rw [e 0 2 (by omega) (by omega)]; exact h.2.1, fun i hi => by rw [e 1 i (by omega) (by omega)]; exact h.2.2.1 i hi, fun q9 hq9 => ?_⟩, ⟨fun q9 hq9 => ?_, fun q9 p hp h39 => ?_⟩⟩
      · rw [e 0 2 (by omega) (by omega)] at hq9
        obtain ⟨g2, g3, g4, g5, g7, g8, g9⟩ := h.2.2.2 q9 hq9
        have gp : ∀ p, p < ai_w S (S 0 2) (fun _ => v) v 3 q9 → ai_okP (ai_w S (S 0 2) (fun _ => v) v) (3 * q9 + p) := fun p hp => by
          rw [e 3 q9 (by omega) (by omega)] at hp
          exact (g9 p hp).S (fun a i h8 => e a i (by omega) (by omega))
        by_cases hf : ai_fd S v q9 = true
        · obtain ⟨f1, f2, f3⟩ := ai_fd_iff.mp hf
          have y := fun a h0 => ai_w_y (S := S) (n := S 0 2) (v := v) (k := a) (i := q9) (h := fun _ => v) h0 hq9 hf
          have y5 : ai_w S (S 0 2) (fun _ => v) v 5 q9 = S 5 q9 + S 4 q9 := y 5 (by decide)
          have y7 : ai_w S (S 0 2) (fun _ => v) v 7 q9 = 0 := y 7 (by decide)
          refine ⟨by rw [e 2 q9 (by omega) (by omega)]; exact g2, by rw [e 3 q9 (by omega) (by omega)]; exact g3, by rw [e 4 q9 (by omega) (by omega)]; exact g4, by rw [y5, ai_w_m]; omega, by rw [y7]; omega, fun _ => Or.inl y7, gp⟩
        · have hf0 : ai_fd S v q9 = false := by simpa using hf
          have y := fun a h0 => ai_w_n (S := S) (n := S 0 2) (v := v) (k := a) (i := q9) (h := fun _ => v) h0 (fun w => hf w.2)
          refine ⟨by rw [e 2 q9 (by omega) (by omega)]; exact g2, by rw [e 3 q9 (by omega) (by omega)]; exact g3, by rw [e 4 q9 (by omega) (by omega)]; exact g4, by rw [y 5 (by decide), ai_w_m]; omega, by rw [y 7 (by decide)]; omega, fun y2 => ?_, gp⟩
          rw [y 7 (by decide), y 5 (by decide), ai_w_m]
          rw [y 2 (by decide)] at y2
          by_cases c7 : S 7 q9 = 0
          · exact Or.inl c7
          · exact Or.inr (Nat.lt_of_not_le (fun c5 => hf (ai_fd_iff.mpr ⟨y2, c7, c5⟩)))
      · rw [e 0 2 (by omega) (by omega)] at hq9
        rw [eo 2 q9 (by omega) hq9, eo 3 q9 (by omega) hq9, eo 4 q9 (by omega) hq9, eo 5 q9 (by omega) hq9, eo 6 q9 (by omega) hq9, eo 7 q9 (by omega) hq9]
        exact hz.1 q9 hq9
      · rw [e 3 q9 (by omega) (by omega)] at h39
        rw [e 8 _ (by omega) (by omega)]
        exact hz.2 q9 p hp h39
/-- what only reads -/
theorem op_S {S : ai_S} {o : Nat} {q : ai_op} (h : ai_I S o) (hz : ai_Z0 S) (e : q.2.2 = S) : ai_I q.2.2 (o + 1) ∧ ai_Z0 q.2.2 := by rw [e]; exact ⟨h.up, hz⟩
theorem op_satisfies_S {S : ai_S} {z : Int32} : (op_satisfies S z).2.2 = S := by unfold op_satisfies; split <;> rfl
theorem op_sizeOf_S {S : ai_S} {z : Int32} : (op_sizeOf S z).2.2 = S := by unfold op_sizeOf; split <;> rfl
theorem op_isQuiet_S {S : ai_S} {z : Int32} : (op_isQuiet S z).2.2 = S := by unfold op_isQuiet; split <;> rfl
theorem op_alerts_S {S : ai_S} {z : Int32} : (op_alerts S z).2.2 = S := by unfold op_alerts; split <;> rfl
theorem op_batch_S {S : ai_S} {z : Int32} : (op_batch S z).2.2 = S := by unfold op_batch; split <;> rfl
theorem op_pieces_S {S : ai_S} {lo hi : Int32} : (op_pieces S lo hi).2.2 = S := by unfold op_pieces; split <;> rfl
theorem op_pieceAt_S {S : ai_S} {lo hi k : Int32} : (op_pieceAt S lo hi k).2.2 = S := by
  unfold op_pieceAt
  split
  · rfl
  · split <;> rfl
theorem ai_S0_I : ai_I ai_S0 0 ∧ ai_Z0 ai_S0 := by
  refine ⟨⟨Nat.zero_le _, Nat.zero_le _, fun i hi => ?_, fun q hq => absurd hq (Nat.not_lt_zero q)⟩, ⟨fun q _ => ⟨rfl, rfl, rfl, rfl, rfl, rfl⟩, fun q p _ _ => rfl⟩⟩
  show (if i < 6 then 0 else 1) ≤ 64
  split <;> omega
/-- the class's world is above tag 100 -/
theorem ai_Rx.keep {G : ai_G} {M M' : ai_M} {S : ai_S} {o x : Nat} (h : ai_Rx G M S x) (hI : ai_I S o) (keep : ∀ (b g : Nat) (e : va_E), M b = some (g, e) → 100 ≤ g → M' b = some (g, e)) : ai_Rx G M' S x := by
  obtain ⟨qs, dr, ix, fa, qa, pa, pst, hx, hL, hD, ⟨fi, hIx⟩, hQ, hP1, hP2⟩ := h
  refine ⟨qs, dr, ix, fa, qa, pa, pst, keep _ _ _ hx (by omega), hL.keep (fun b g e hb hg => keep b g e hb (by omega)), hD.keep (fun b g e hb hg => keep b g e hb (by omega)), ⟨fi, hIx.keep (fun b g e hb hg => keep b g e hb (by omega))⟩, fun q9 hq9 => ?_, hP1, hP2⟩
  have o9 := hI.2.2.2 q9 hq9
  exact (hQ q9 hq9).keep o9.2.1 (fun p hp9 => (o9.2.2.2.2.2.2 p hp9).1) (fun b g e hb hg => keep b g e hb (by omega))
