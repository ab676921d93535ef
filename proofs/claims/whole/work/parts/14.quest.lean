/-! ===== QUESTIONS THAT CHANGE ===== -/
theorem ai_U_id {M : ai_M} {a g : Nat} {e : va_E} (h : M a = some (g, e)) : ai_U M a g e = M := by
  funext q
  unfold ai_U
  by_cases z : q = a
  · rw [if_pos z, z, h]
  · rw [if_neg z]
theorem i_X4_isQuietAt_X4 : ∀ w ∈ wsX40, w ∈ wsX4_isQuietAt := fun _ h => List.mem_cons_of_mem _ (List.mem_append_right _ h)
theorem i_X4_raiseAlert_X4 : ∀ w ∈ wsX40, w ∈ wsX4_raiseAlert := fun _ h => List.mem_cons_of_mem _ (List.mem_append_right _ h)
theorem i_X4_takeDocument_X4 : ∀ w ∈ wsX40, w ∈ wsX4_takeDocument := fun _ h => List.mem_cons_of_mem _ (List.mem_append_right _ h)
theorem i_X4_sendBatch_X4 : ∀ w ∈ wsX40, w ∈ wsX4_sendBatch := fun _ h => List.mem_cons_of_mem _ (List.mem_append_right _ h)
theorem i_X4_forgetHits_X4 : ∀ w ∈ wsX40, w ∈ wsX4_forgetHits := fun _ h => List.mem_cons_of_mem _ (List.mem_append_left _ (List.mem_append_left _ (List.mem_append_right _ h)))
theorem i_X4_forgetHits_X3 : ∀ w ∈ wsX30, w ∈ wsX4_forgetHits := fun _ h => List.mem_cons_of_mem _ (List.mem_append_left _ (List.mem_append_right _ h))
set_option maxHeartbeats 4000000 in
set_option maxRecDepth 100000 in
theorem k_X4_isQuietAt (l : Launch) (G : ai_G) (M : ai_M) {a g x2 x4 x5 x6 x7 : Nat} {pl : Value} (hA : M a = some (g, .inr (5, [pl, .int (nI x2), .int (nI x4), .int (nI x5), .int (nI x6), .int (nI x7)]))) {now : Nat} (h5 : x5 < 2 ^ 31) (hn : now < 2 ^ 31) : ai_C l yX4_isQuietAt wsX4_isQuietAt ({ frames := 0, cells := 0, slots := 0, locals := 0 } : Room) 0 0 G M [.ref a, .int (nI now)] (fun r M1 => r = some (.int (ai_b (decide (now < x5)))) ∧ M1 = M) := by
  refine y_start (by decide +kernel) rfl (Nat.le_of_ble_eq_true rfl) (Nat.le_of_ble_eq_true rfl) (fun x hx => by simp only [List.mem_cons, List.not_mem_nil, or_false] at hx; rcases hx with rfl | rfl <;> rfl) ?_
  intro p e s m below meth c B hnm
  refine y_iload_n B dX4_isQuietAt_0 rfl ?_
  refine y_aload_n B dX4_isQuietAt_1 rfl ?_
  refine y_get B (ref := "AlertIndex$Question") (ci := 5) (C := RX4) (T := TX4) (N := 6) hA rfl i_X4_isQuietAt_X4 3 (by decide) (by decide +kernel) (fun _ h9 => h9) rfl dX4_isQuietAt_2 ?_
  refine y_icmp_ge B 12 dX4_isQuietAt_5 (by decide) (fun c5 => ?_) (fun c5 => ?_)
  · have q5 : ¬ now < x5 := Nat.not_lt.mpr ((nI_leI h5 hn).mp c5)
    refine y_iconst B (nI 0) dX4_isQuietAt_12 (by decide +kernel) ?_
    exact y_zret B dX4_isQuietAt_13 (Nat.le_of_ble_eq_true rfl) (Nat.le_of_ble_eq_true rfl) rfl (⟨by rw [decide_eq_false q5]; rfl, rfl⟩)
  · have q5 : now < x5 := Nat.lt_of_not_le (fun z => c5 ((nI_leI h5 hn).mpr z))
    refine y_iconst B (nI 1) dX4_isQuietAt_8 (by decide +kernel) ?_
    refine y_goto B 13 dX4_isQuietAt_9 (by decide) ?_
    exact y_zret B dX4_isQuietAt_13 (Nat.le_of_ble_eq_true rfl) (Nat.le_of_ble_eq_true rfl) rfl (⟨by rw [decide_eq_true q5]; rfl, rfl⟩)
set_option maxHeartbeats 4000000 in
set_option maxRecDepth 100000 in
theorem k_X4_raiseAlert (l : Launch) (G : ai_G) (M : ai_M) {a g x2 x4 x5 x6 x7 : Nat} {pl : Value} (hA : M a = some (g, .inr (5, [pl, .int (nI x2), .int (nI x4), .int (nI x5), .int (nI x6), .int (nI x7)]))) {now : Nat} : ai_C l yX4_raiseAlert wsX4_raiseAlert ({ frames := 0, cells := 0, slots := 0, locals := 0 } : Room) 0 0 G M [.ref a, .int (nI now)] (fun r M1 => r = none ∧ M1 = ai_U M a g (.inr (5, [pl, .int (nI x2), .int (nI x4), .int (nI (now + x4)), .int (nI (x6 + 1)), .int (nI x7)]))) := by
  refine y_start (by decide +kernel) rfl (Nat.le_of_ble_eq_true rfl) (Nat.le_of_ble_eq_true rfl) (fun x hx => by simp only [List.mem_cons, List.not_mem_nil, or_false] at hx; rcases hx with rfl | rfl <;> rfl) ?_
  intro p e s m below meth c B hnm
  refine y_aload_n B dX4_raiseAlert_0 rfl ?_
  refine y_dup B dX4_raiseAlert_1 rfl ?_
  refine y_get B (ref := "AlertIndex$Question") (ci := 5) (C := RX4) (T := TX4) (N := 6) hA rfl i_X4_raiseAlert_X4 4 (by decide) (by decide +kernel) (fun _ h9 => h9) rfl dX4_raiseAlert_2 ?_
  refine y_iconst B (nI 1) dX4_raiseAlert_5 (by decide +kernel) ?_
  refine y_iadd B (nI (x6 + 1)) dX4_raiseAlert_6 (nI_1 x6) ?_
  refine y_put B (ref := "AlertIndex$Question") (ci := 5) (C := RX4) (T := TX4) (N := 6) (ty := .int) hA rfl i_X4_raiseAlert_X4 tyX4 tyX4_ok nmX4 4 (by decide) (by decide +kernel) (fun _ h9 => h9) rfl (by decide +kernel) rfl rfl (Nat.le_of_ble_eq_true rfl) dX4_raiseAlert_7 ?_
  refine y_aload_n B dX4_raiseAlert_10 rfl ?_
  refine y_iload_n B dX4_raiseAlert_11 rfl ?_
  refine y_aload_n B dX4_raiseAlert_12 rfl ?_
  refine y_get B (ref := "AlertIndex$Question") (ci := 5) (C := RX4) (T := TX4) (N := 6) ai_U_s rfl i_X4_raiseAlert_X4 2 (by decide) (by decide +kernel) (fun _ h9 => h9) rfl dX4_raiseAlert_13 ?_
  refine y_iadd B (nI (now + x4)) dX4_raiseAlert_16 (nI_add _ _) ?_
  refine y_put B (ref := "AlertIndex$Question") (ci := 5) (C := RX4) (T := TX4) (N := 6) (ty := .int) ai_U_s rfl i_X4_raiseAlert_X4 tyX4 tyX4_ok nmX4 3 (by decide) (by decide +kernel) (fun _ h9 => h9) rfl (by decide +kernel) rfl rfl (Nat.le_of_ble_eq_true rfl) dX4_raiseAlert_17 ?_
  rw [ai_UU]
  exact y_vret B dX4_raiseAlert_20 (Nat.le_of_ble_eq_true rfl) (Nat.le_of_ble_eq_true rfl) (⟨rfl, rfl⟩)
set_option maxHeartbeats 4000000 in
set_option maxRecDepth 100000 in
theorem k_X4_takeDocument (l : Launch) (G : ai_G) (M : ai_M) {a g x2 x4 x5 x6 x7 : Nat} {pl : Value} (hA : M a = some (g, .inr (5, [pl, .int (nI x2), .int (nI x4), .int (nI x5), .int (nI x6), .int (nI x7)]))) {now : Nat} (h5 : x5 < 2 ^ 31) (hn : now < 2 ^ 31) : ai_C l yX4_takeDocument wsX4_takeDocument ({ frames := 1, cells := 0, slots := 0, locals := 21 } : Room) 0 0 G M [.ref a, .int (nI now)] (fun r M1 => r = some (.int (ai_b (decide (x5 ≤ now)))) ∧ M1 = ai_U M a g (.inr (5, [pl, .int (nI x2), .int (nI x4), .int (nI (if x5 ≤ now then now + x4 else x5)), .int (nI (if x5 ≤ now then x6 + 1 else x6)), .int (nI (if x5 ≤ now then x7 else x7 + 1))]))) := by
  refine y_start (by decide +kernel) rfl (Nat.le_of_ble_eq_true rfl) (Nat.le_of_ble_eq_true rfl) (fun x hx => by simp only [List.mem_cons, List.not_mem_nil, or_false] at hx; rcases hx with rfl | rfl <;> rfl) ?_
  intro p e s m below meth c B hnm
  refine y_aload_n B dX4_takeDocument_0 rfl ?_
  refine y_iload_n B dX4_takeDocument_1 rfl ?_
  refine y_callV B 1 (q := (RX4, TX4, 6)) _ _ (k_X4_isQuietAt l G _ hA h5 hn) hA rfl gX4_takeDocument_X4_isQuietAt (by decide +kernel) rfl rfl rfl rfl ⟨(Nat.le_of_ble_eq_true rfl), (Nat.le_of_ble_eq_true rfl)⟩ (Nat.le_of_ble_eq_true rfl) ⟨(Nat.le_of_ble_eq_true rfl), (Nat.le_of_ble_eq_true rfl)⟩ dX4_takeDocument_2 rfl (fun r M1 hr => ?_)
  obtain ⟨rfl, rfl⟩ := hr
  refine y_if_eq B 20 dX4_takeDocument_5 (by decide) (fun c5 => ?_) (fun c5 => ?_)
  · have q5 : x5 ≤ now := by have z := (ai_b0 _).mp c5; rw [decide_eq_false_iff_not] at z; omega
    refine y_aload_n B dX4_takeDocument_20 rfl ?_
    refine y_iload_n B dX4_takeDocument_21 rfl ?_
    refine y_callV B 1 (q := (RX4, TX4, 6)) _ _ (k_X4_raiseAlert l G _ hA) hA rfl gX4_takeDocument_X4_raiseAlert (by decide +kernel) rfl rfl rfl rfl ⟨(Nat.le_of_ble_eq_true rfl), (Nat.le_of_ble_eq_true rfl)⟩ (Nat.le_of_ble_eq_true rfl) ⟨(Nat.le_of_ble_eq_true rfl), (Nat.le_of_ble_eq_true rfl)⟩ dX4_takeDocument_22 rfl (fun r M1 hr => ?_)
    obtain ⟨rfl, rfl⟩ := hr
    refine y_iconst B (nI 1) dX4_takeDocument_25 (by decide +kernel) ?_
    exact y_zret B dX4_takeDocument_26 (Nat.le_of_ble_eq_true rfl) (Nat.le_of_ble_eq_true rfl) rfl (⟨by rw [decide_eq_true q5]; rfl, by rw [if_pos q5, if_pos q5, if_pos q5]⟩)
  · have q5 : ¬ x5 ≤ now := fun z => c5 ((ai_b0 _).mpr (decide_eq_false (by omega)))
    refine y_aload_n B dX4_takeDocument_8 rfl ?_
    refine y_dup B dX4_takeDocument_9 rfl ?_
    refine y_get B (ref := "AlertIndex$Question") (ci := 5) (C := RX4) (T := TX4) (N := 6) hA rfl i_X4_takeDocument_X4 5 (by decide) (by decide +kernel) (fun _ h9 => h9) rfl dX4_takeDocument_10 ?_
    refine y_iconst B (nI 1) dX4_takeDocument_13 (by decide +kernel) ?_
    refine y_iadd B (nI (x7 + 1)) dX4_takeDocument_14 (nI_1 x7) ?_
    refine y_put B (ref := "AlertIndex$Question") (ci := 5) (C := RX4) (T := TX4) (N := 6) (ty := .int) hA rfl i_X4_takeDocument_X4 tyX4 tyX4_ok nmX4 5 (by decide) (by decide +kernel) (fun _ h9 => h9) rfl (by decide +kernel) rfl rfl (Nat.le_of_ble_eq_true rfl) dX4_takeDocument_15 ?_
    refine y_iconst B (nI 0) dX4_takeDocument_18 (by decide +kernel) ?_
    exact y_zret B dX4_takeDocument_19 (Nat.le_of_ble_eq_true rfl) (Nat.le_of_ble_eq_true rfl) rfl (⟨by rw [decide_eq_false q5]; rfl, by rw [if_neg q5, if_neg q5, if_neg q5]; rfl⟩)
set_option maxHeartbeats 4000000 in
set_option maxRecDepth 100000 in
theorem k_X4_sendBatch (l : Launch) (G : ai_G) (M : ai_M) {a g x2 x4 x5 x6 x7 : Nat} {pl : Value} (hA : M a = some (g, .inr (5, [pl, .int (nI x2), .int (nI x4), .int (nI x5), .int (nI x6), .int (nI x7)]))) {now : Nat} (h2 : x2 < 2 ^ 31) (h7 : x7 < 2 ^ 31) (h5 : x5 < 2 ^ 31) (hn : now < 2 ^ 31) : ai_C l yX4_sendBatch wsX4_sendBatch ({ frames := 1, cells := 0, slots := 0, locals := 21 } : Room) 0 0 G M [.ref a, .int (nI now)] (fun r M1 => r = some (.int (ai_b (decide (x2 = 0 ∧ x7 ≠ 0 ∧ x5 ≤ now)))) ∧ M1 = ai_U M a g (.inr (5, [pl, .int (nI x2), .int (nI x4), .int (nI (if (x2 = 0 ∧ x7 ≠ 0 ∧ x5 ≤ now) then x5 + x4 else x5)), .int (nI (if (x2 = 0 ∧ x7 ≠ 0 ∧ x5 ≤ now) then x6 + 1 else x6)), .int (nI (if (x2 = 0 ∧ x7 ≠ 0 ∧ x5 ≤ now) then 0 else x7))]))) := by
  refine y_start (by decide +kernel) rfl (Nat.le_of_ble_eq_true rfl) (Nat.le_of_ble_eq_true rfl) (fun x hx => by simp only [List.mem_cons, List.not_mem_nil, or_false] at hx; rcases hx with rfl | rfl <;> rfl) ?_
  intro p e s m below meth c B hnm
  refine y_aload_n B dX4_sendBatch_0 rfl ?_
  refine y_get B (ref := "AlertIndex$Question") (ci := 5) (C := RX4) (T := TX4) (N := 6) hA rfl i_X4_sendBatch_X4 1 (by decide) (by decide +kernel) (fun _ h9 => h9) rfl dX4_sendBatch_1 ?_
  refine y_if_ne B 22 dX4_sendBatch_4 (by decide) (fun c4 => ?_) (fun c4 => ?_)
  · have qn : ¬ (x2 = 0 ∧ x7 ≠ 0 ∧ x5 ≤ now) := fun z => c4 (by rw [z.1]; rfl)
    refine y_iconst B (nI 0) dX4_sendBatch_22 (by decide +kernel) ?_
    exact y_zret B dX4_sendBatch_23 (Nat.le_of_ble_eq_true rfl) (Nat.le_of_ble_eq_true rfl) rfl (⟨by rw [decide_eq_false qn]; rfl, by rw [if_neg qn, if_neg qn, if_neg qn, ai_U_id hA]⟩)
  · have q4 : x2 = 0 := (nI_eq h2 (by decide)).mp c4
    refine y_aload_n B dX4_sendBatch_7 rfl ?_
    refine y_get B (ref := "AlertIndex$Question") (ci := 5) (C := RX4) (T := TX4) (N := 6) hA rfl i_X4_sendBatch_X4 5 (by decide) (by decide +kernel) (fun _ h9 => h9) rfl dX4_sendBatch_8 ?_
    refine y_if_eq B 22 dX4_sendBatch_11 (by decide) (fun c11 => ?_) (fun c11 => ?_)
    · have q11 : x7 = 0 := (nI_eq h7 (by decide)).mp c11
      have qn : ¬ (x2 = 0 ∧ x7 ≠ 0 ∧ x5 ≤ now) := fun z => z.2.1 q11
      refine y_iconst B (nI 0) dX4_sendBatch_22 (by decide +kernel) ?_
      exact y_zret B dX4_sendBatch_23 (Nat.le_of_ble_eq_true rfl) (Nat.le_of_ble_eq_true rfl) rfl (⟨by rw [decide_eq_false qn]; rfl, by rw [if_neg qn, if_neg qn, if_neg qn, ai_U_id hA]⟩)
    · have q11 : x7 ≠ 0 := fun z => c11 (by rw [z]; rfl)
      refine y_aload_n B dX4_sendBatch_14 rfl ?_
      refine y_iload_n B dX4_sendBatch_15 rfl ?_
      refine y_callV B 1 (q := (RX4, TX4, 6)) _ _ (k_X4_isQuietAt l G _ hA h5 hn) hA rfl gX4_sendBatch_X4_isQuietAt (by decide +kernel) rfl rfl rfl rfl ⟨(Nat.le_of_ble_eq_true rfl), (Nat.le_of_ble_eq_true rfl)⟩ (Nat.le_of_ble_eq_true rfl) ⟨(Nat.le_of_ble_eq_true rfl), (Nat.le_of_ble_eq_true rfl)⟩ dX4_sendBatch_16 rfl (fun r M1 hr => ?_)
      obtain ⟨rfl, rfl⟩ := hr
      refine y_if_eq B 24 dX4_sendBatch_19 (by decide) (fun c19 => ?_) (fun c19 => ?_)
      · have q19 : x5 ≤ now := by have z := (ai_b0 _).mp c19; rw [decide_eq_false_iff_not] at z; omega
        have qy : (x2 = 0 ∧ x7 ≠ 0 ∧ x5 ≤ now) := ⟨q4, q11, q19⟩
        refine y_aload_n B dX4_sendBatch_24 rfl ?_
        refine y_iconst B (nI 0) dX4_sendBatch_25 (by decide +kernel) ?_
        refine y_put B (ref := "AlertIndex$Question") (ci := 5) (C := RX4) (T := TX4) (N := 6) (ty := .int) hA rfl i_X4_sendBatch_X4 tyX4 tyX4_ok nmX4 5 (by decide) (by decide +kernel) (fun _ h9 => h9) rfl (by decide +kernel) rfl rfl (Nat.le_of_ble_eq_true rfl) dX4_sendBatch_26 ?_
        refine y_aload_n B dX4_sendBatch_29 rfl ?_
        refine y_aload_n B dX4_sendBatch_30 rfl ?_
        refine y_get B (ref := "AlertIndex$Question") (ci := 5) (C := RX4) (T := TX4) (N := 6) ai_U_s rfl i_X4_sendBatch_X4 3 (by decide) (by decide +kernel) (fun _ h9 => h9) rfl dX4_sendBatch_31 ?_
        refine y_callV B 1 (q := (RX4, TX4, 6)) _ _ (k_X4_raiseAlert l G _ ai_U_s) ai_U_s rfl gX4_sendBatch_X4_raiseAlert (by decide +kernel) rfl rfl rfl rfl ⟨(Nat.le_of_ble_eq_true rfl), (Nat.le_of_ble_eq_true rfl)⟩ (Nat.le_of_ble_eq_true rfl) ⟨(Nat.le_of_ble_eq_true rfl), (Nat.le_of_ble_eq_true rfl)⟩ dX4_sendBatch_34 rfl (fun r M1 hr => ?_)
        obtain ⟨rfl, rfl⟩ := hr
        refine y_iconst B (nI 1) dX4_sendBatch_37 (by decide +kernel) ?_
        exact y_zret B dX4_sendBatch_38 (Nat.le_of_ble_eq_true rfl) (Nat.le_of_ble_eq_true rfl) rfl (⟨by rw [decide_eq_true qy]; rfl, by rw [if_pos qy, if_pos qy, if_pos qy, ai_UU]⟩)
      · have qn : ¬ (x2 = 0 ∧ x7 ≠ 0 ∧ x5 ≤ now) := fun z => c19 ((ai_b0 _).mpr (decide_eq_false (by omega)))
        refine y_iconst B (nI 0) dX4_sendBatch_22 (by decide +kernel) ?_
        exact y_zret B dX4_sendBatch_23 (Nat.le_of_ble_eq_true rfl) (Nat.le_of_ble_eq_true rfl) rfl (⟨by rw [decide_eq_false qn]; rfl, by rw [if_neg qn, if_neg qn, if_neg qn, ai_U_id hA]⟩)
set_option maxHeartbeats 4000000 in
set_option maxRecDepth 100000 in
theorem k_X4_forgetHits (l : Launch) (G : ai_G) (M : ai_M) {a q : Nat} {S : ai_S} {pa : Nat → Nat} (hQ : ai_Qd G M S pa q a) : ai_C l yX4_forgetHits wsX4_forgetHits ({ frames := 3, cells := 0, slots := 0, locals := 64 } : Room) 0 0 G M [.ref a] (fun r M1 => r = none ∧ ai_hk M M1 ∧ (∀ p, p < S 3 q → ai_ht M1 (pa (3 * q + p)) (nI 0)) ∧ ∀ (b : Nat) (v : Int32), (∀ p, p < S 3 q → b ≠ pa (3 * q + p)) → ai_ht M b v → ai_ht M1 b v) := by
  refine y_start (by decide +kernel) rfl (Nat.le_of_ble_eq_true rfl) (Nat.le_of_ble_eq_true rfl) (fun x hx => by simp only [List.mem_cons, List.not_mem_nil, or_false] at hx; rcases hx with rfl <;> rfl) ?_
  intro p e s m below meth c B hnm
  have hbd : S 3 q ≤ 40 := by obtain ⟨_, _, z, _⟩ := hQ; exact z.bd
  have lp : ∀ (d : Nat) (i : Nat) (Mi : ai_M), (S 3 q < i + d) → (i ≤ S 3 q) → (ai_hk M Mi) → (∀ p, p < i → ai_ht Mi (pa (3 * q + p)) (nI 0)) → (∀ (b : Nat) (v : Int32), (∀ p, p < i → b ≠ pa (3 * q + p)) → ai_ht M b v → ai_ht Mi b v) → ai_Y p l e ({ frames := 3, cells := 0, slots := 0, locals := 64 } : Room) s m [.ref a].toArray below meth c G (MQ below (ai_Q G (fun r M1 => r = none ∧ ai_hk M M1 ∧ (∀ p, p < S 3 q → ai_ht M1 (pa (3 * q + p)) (nI 0)) ∧ ∀ (b : Nat) (v : Int32), (∀ p, p < S 3 q → b ≠ pa (3 * q + p)) → ai_ht M b v → ai_ht M1 b v)) [.ref a].toArray s 0 0 (ai_A G)) Mi 0 0 [some (.ref a), some (.int (nI i))] 2 [] := by
    intro d
    induction d with
    | zero => intros; omega
    | succ d ih =>
      intro i Mi hm hi hk h0 hz
      obtain ⟨pl, hA, hL, hPd⟩ := hk.qd hQ
      obtain ⟨mc, arr, cap, h9, hl1, -⟩ := id hL
      refine y_iload_n B dX4_forgetHits_2 rfl ?_
      refine y_aload_n B dX4_forgetHits_3 rfl ?_
      refine y_get B (ref := "AlertIndex$Question") (ci := 5) (C := RX4) (T := TX4) (N := 6) hA rfl i_X4_forgetHits_X4 0 (by decide) (by decide +kernel) (fun _ h9 => h9) rfl dX4_forgetHits_4 ?_
      refine y_callF B 0 (x := ⟨"java/util/List", "size", "()I"⟩) (q := (RJx4a65c, TJx4a65c, 3)) _ _ (k_Jx4a65c_size_8abf5 l G _ hL) hl1 rfl gX4_forgetHits_Jx4a65c_size_8abf5_f35Jx4a65c B.2.2.2.2.2.2.2.2.1.1.2.2.2.2.2.2.1 (by decide +kernel) rfl rfl rfl rfl ⟨(Nat.le_of_ble_eq_true rfl), (Nat.le_of_ble_eq_true rfl)⟩ (Nat.le_of_ble_eq_true rfl) ⟨(Nat.le_of_ble_eq_true rfl), (Nat.le_of_ble_eq_true rfl)⟩ dX4_forgetHits_7 rfl (fun r M1 hr => ?_)
      obtain ⟨rfl, rfl⟩ := hr
      refine y_icmp_ge B 38 dX4_forgetHits_12 (by decide) (fun c12 => ?_) (fun c12 => ?_)
      · have q12 : S 3 q ≤ i := (nI_leI (by omega) (by omega)).mp c12
        have ei : i = S 3 q := by omega
        exact y_vret B dX4_forgetHits_38 (Nat.le_of_ble_eq_true rfl) (Nat.le_of_ble_eq_true rfl) (⟨rfl, hk, fun p hp => h0 p (by omega), fun b v hb hv => hz b v (fun p hp => hb p (by omega)) hv⟩)
      · have q12 : i < S 3 q := Nat.lt_of_not_le (fun z => c12 ((nI_leI (by omega) (by omega)).mpr z))
        refine y_aload_n B dX4_forgetHits_15 rfl ?_
        refine y_get B (ref := "AlertIndex$Question") (ci := 5) (C := RX4) (T := TX4) (N := 6) hA rfl i_X4_forgetHits_X4 0 (by decide) (by decide +kernel) (fun _ h9 => h9) rfl dX4_forgetHits_16 ?_
        refine y_iload_n B dX4_forgetHits_19 rfl ?_
        refine y_callF B 1 (x := ⟨"java/util/List", "get", "(I)Ljava/lang/Object;"⟩) (q := (RJx4a65c, TJx4a65c, 3)) _ _ (k_Jx4a65c_get_915e3 l G _ hL q12) hl1 rfl gX4_forgetHits_Jx4a65c_get_915e3_f41Jx4a65c B.2.2.2.2.2.2.2.2.1.1.2.2.2.2.2.2.2.2.1 (by decide +kernel) rfl rfl rfl rfl ⟨(Nat.le_of_ble_eq_true rfl), (Nat.le_of_ble_eq_true rfl)⟩ (Nat.le_of_ble_eq_true rfl) ⟨(Nat.le_of_ble_eq_true rfl), (Nat.le_of_ble_eq_true rfl)⟩ dX4_forgetHits_20 rfl (fun r M1 hr => ?_)
        obtain ⟨rfl, rfl⟩ := hr
        obtain ⟨tl, ta, hits, hPa, -⟩ := id (hPd i q12)
        refine y_cast B hPa (q := (RX3, TX3, 3)) rfl (by decide +kernel) dX4_forgetHits_25 ?_
        refine y_iconst B (nI 0) dX4_forgetHits_28 (by decide +kernel) ?_
        refine y_put B (ref := "AlertIndex$Product") (ci := 4) (C := RX3) (T := TX3) (N := 3) (ty := .int) hPa rfl i_X4_forgetHits_X3 tyX3 tyX3_ok nmX3 2 (by decide) (by decide +kernel) (fun _ h9 => h9) rfl (by decide +kernel) rfl rfl (Nat.le_of_ble_eq_true rfl) dX4_forgetHits_29 ?_
        refine y_iinc B (nI (i + 1)) dX4_forgetHits_32 rfl (nI_1 i) ?_
        refine y_goto B 2 dX4_forgetHits_35 (by decide) ?_
        have hne : ∀ p, p < i → pa (3 * q + p) ≠ pa (3 * q + i) := fun p hp => by obtain ⟨_, _, _, z, -⟩ := hPd p (by omega); exact ai_ne z hPa (by omega)
        exact ih (i + 1) _ (by omega) (by omega) (hk.tr (ai_hk.one hPa)) (fun p hp => by rcases Nat.lt_succ_iff_lt_or_eq.mp hp with z | z; exact (h0 p z).u (hne p z); rw [z]; exact ⟨_, _, _, ai_U_s⟩) (fun b v hb hv => (hz b v (fun p hp => hb p (by omega)) hv).u (hb i (by omega)))
  refine y_iconst B (nI 0) dX4_forgetHits_0 (by decide +kernel) ?_
  refine y_istore_n B dX4_forgetHits_1 (Nat.le_of_ble_eq_true rfl) ?_
  exact lp (S 3 q + 1) 0 M (by omega) (by omega) ai_hk.rf (fun p hp => absurd hp (Nat.not_lt_zero p)) (fun b v _ h => h)
