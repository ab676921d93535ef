/-! ===== THE MODEL'S READERS ===== -/
def op_matching (S : ai_S) : ai_op := (0, ai_bs (S 0 2) (fun q => decide (S 2 q = 0) && ai_qt S q), S)
def op_withSize (S : ai_S) (z : Int32) : ai_op := (0, nI (ai_cn (S 0 2) (fun q => decide (S 2 q = 0) && decide (nI (ai_sz S q) = z))), S)
def op_minute (S : ai_S) : ai_op := (0, nI (S 0 1), S)
def op_come (S : ai_S) : ai_op := (0, ai_cV (S 0 2) S, ai_cS (S 0 2) S)
theorem ai_qo_i {S : ai_S} {q : Nat} (hn : S 0 2 ≤ 20) (hq : q < S 0 2) : ai_qo S (nI q) = decide (S 2 q = 0) := by
  by_cases h : S 2 q = 0
  · rw [ai_qo_t hn hq h, decide_eq_true h]
  · rw [ai_qo_d hn hq h, decide_eq_false h]
theorem ai_or0 {x : Int32} : x ||| nI 0 = x := Int32.or_zero
theorem i_X7_size_X7 : ∀ w ∈ wsX70, w ∈ wsX7_size := fun _ h => List.mem_cons_of_mem _ (List.mem_append_right _ h)
theorem i_X7_found_X7 : ∀ w ∈ wsX70, w ∈ wsX7_found := fun _ h => List.mem_cons_of_mem _ (List.mem_append_right _ h)
theorem i_X7_matching_X7 : ∀ w ∈ wsX70, w ∈ wsX7_matching := fun _ h => List.mem_cons_of_mem _ (List.mem_append_right _ h)
theorem i_X7_matchingByIndex_X7 : ∀ w ∈ wsX70, w ∈ wsX7_matchingByIndex := fun _ h => List.mem_cons_of_mem _ (List.mem_append_right _ h)
theorem i_X7_minute_X7 : ∀ w ∈ wsX70, w ∈ wsX7_minute := fun _ h => List.mem_cons_of_mem _ (List.mem_append_right _ h)
theorem i_X7_withSize_X7 : ∀ w ∈ wsX70, w ∈ wsX7_withSize := fun _ h => List.mem_cons_of_mem _ (List.mem_append_right _ h)
set_option maxHeartbeats 4000000 in
set_option maxRecDepth 100000 in
theorem k_X7_satisfies (l : Launch) (G : ai_G) (M : ai_M) {t0 : Int32} {S : ai_S} {mo : Nat} {ma : Nat → Nat} (hO : ai_O G M t0 S mo ma) (hJ : ai_J S) {z : Int32} : ai_C l yX7_satisfies wsX7_satisfies ({ frames := 2, cells := 0, slots := 0, locals := 48 } : Room) 0 0 G M [.ref mo, .int z] (fun r M1 => ai_did G M mo ma (op_satisfies S z) r M1) := by
  refine y_start (by decide +kernel) rfl (Nat.le_of_ble_eq_true rfl) (Nat.le_of_ble_eq_true rfl) (fun x hx => by simp only [List.mem_cons, List.not_mem_nil, or_false] at hx; rcases hx with rfl | rfl <;> rfl) ?_
  intro p e s m below meth c B hnm
  obtain ⟨a0, a1, a2, a3, a4, a5, a6, a7, a8, a9, a10, a11, a12⟩ := id hO
  have hn := hJ.2.1
  have hd := fun q hq => (hJ.2.2.2 q hq).1
  refine y_aload_n B dX7_satisfies_0 rfl ?_
  refine y_aload_n B dX7_satisfies_1 rfl ?_
  refine y_iload_n B dX7_satisfies_2 rfl ?_
  refine y_callV B 1 (q := (RX7, TX7, 15)) _ _ (k_X7_isQuestion l G _ hO hn hd) a0 rfl gX7_satisfies_X7_isQuestion (by decide +kernel) rfl rfl rfl rfl ⟨(Nat.le_of_ble_eq_true rfl), (Nat.le_of_ble_eq_true rfl)⟩ (Nat.le_of_ble_eq_true rfl) ⟨(Nat.le_of_ble_eq_true rfl), (Nat.le_of_ble_eq_true rfl)⟩ dX7_satisfies_3 rfl (fun r M1 hr => ?_)
  obtain ⟨rfl, e9⟩ := hr
  obtain rfl := e9.symm
  refine y_if_eq B 13 dX7_satisfies_6 (by decide) (fun c6 => ?_) (fun c6 => ?_)
  · have q6 := (ai_b0 _).mp c6
    refine y_iconst B (nI 1) dX7_satisfies_13 (by decide +kernel) ?_
    refine y_callV B 1 (q := (RX7, TX7, 15)) _ _ (k_X7_holds l G _ hO) a0 rfl gX7_satisfies_X7_holds (by decide +kernel) rfl rfl rfl rfl ⟨(Nat.le_of_ble_eq_true rfl), (Nat.le_of_ble_eq_true rfl)⟩ (Nat.le_of_ble_eq_true rfl) ⟨(Nat.le_of_ble_eq_true rfl), (Nat.le_of_ble_eq_true rfl)⟩ dX7_satisfies_14 rfl (fun r M1 hr => ?_)
    obtain ⟨rfl, hO1, hk1⟩ := hr
    obtain ⟨b0, b1, b2, b3, b4, b5, b6, b7, b8, b9, b10, b11, b12⟩ := id hO1
    refine y_if_eq B 32 dX7_satisfies_17 (by decide) (fun c17 => ?_) (fun c17 => absurd (by decide +kernel) c17)
    refine y_iconst B (nI 0) dX7_satisfies_32 (by decide +kernel) ?_
    exact y_zret B dX7_satisfies_33 (Nat.le_of_ble_eq_true rfl) (Nat.le_of_ble_eq_true rfl) rfl (by unfold op_satisfies; rw [if_pos q6]; exact ⟨hO1, hk1, _, rfl, fun h9 => absurd h9 (Nat.succ_ne_zero _)⟩)
  · have q6 := ai_b1 c6
    obtain ⟨q, hq, rfl, hq2, eq9⟩ := ai_qo_of hn q6
    have hok := hJ.2.2.2 q hq
    have hok3 := hok.2.1
    refine y_iconst B (nI 0) dX7_satisfies_9 (by decide +kernel) ?_
    refine y_goto B 14 dX7_satisfies_10 (by decide) ?_
    refine y_callV B 1 (q := (RX7, TX7, 15)) _ _ (k_X7_holds l G _ hO) a0 rfl gX7_satisfies_X7_holds (by decide +kernel) rfl rfl rfl rfl ⟨(Nat.le_of_ble_eq_true rfl), (Nat.le_of_ble_eq_true rfl)⟩ (Nat.le_of_ble_eq_true rfl) ⟨(Nat.le_of_ble_eq_true rfl), (Nat.le_of_ble_eq_true rfl)⟩ dX7_satisfies_14 rfl (fun r M1 hr => ?_)
    obtain ⟨rfl, hO1, hk1⟩ := hr
    obtain ⟨b0, b1, b2, b3, b4, b5, b6, b7, b8, b9, b10, b11, b12⟩ := id hO1
    refine y_if_eq B 32 dX7_satisfies_17 (by decide) (fun c17 => absurd c17 (by decide +kernel)) (fun c17 => ?_)
    refine y_aload_n B dX7_satisfies_20 rfl ?_
    refine y_iload_n B dX7_satisfies_21 rfl ?_
    refine y_callV B 1 (q := (RX7, TX7, 15)) _ _ (k_X7_does l G _ hO1 hJ.2.2.1 (q := q) (by omega) hok3 (fun p hp => hok.2.2.2.2.2 p hp)) b0 rfl gX7_satisfies_X7_does (by decide +kernel) rfl rfl rfl rfl ⟨(Nat.le_of_ble_eq_true rfl), (Nat.le_of_ble_eq_true rfl)⟩ (Nat.le_of_ble_eq_true rfl) ⟨(Nat.le_of_ble_eq_true rfl), (Nat.le_of_ble_eq_true rfl)⟩ dX7_satisfies_22 rfl (fun r M1 hr => ?_)
    obtain ⟨rfl, e9⟩ := hr
    obtain rfl := e9.symm
    refine y_if_eq B 32 dX7_satisfies_25 (by decide) (fun c25 => ?_) (fun c25 => ?_)
    · have q25 := (ai_b0 _).mp c25
      refine y_iconst B (nI 0) dX7_satisfies_32 (by decide +kernel) ?_
      exact y_zret B dX7_satisfies_33 (Nat.le_of_ble_eq_true rfl) (Nat.le_of_ble_eq_true rfl) rfl (by unfold op_satisfies; rw [eq9, if_neg (by rw [q6]; decide), q25]; exact ⟨hO1, hk1, _, rfl, fun _ => rfl⟩)
    · have q25 := ai_b1 c25
      refine y_iconst B (nI 1) dX7_satisfies_28 (by decide +kernel) ?_
      refine y_goto B 33 dX7_satisfies_29 (by decide) ?_
      exact y_zret B dX7_satisfies_33 (Nat.le_of_ble_eq_true rfl) (Nat.le_of_ble_eq_true rfl) rfl (by unfold op_satisfies; rw [eq9, if_neg (by rw [q6]; decide), q25]; exact ⟨hO1, hk1, _, rfl, fun _ => rfl⟩)
set_option maxHeartbeats 4000000 in
set_option maxRecDepth 100000 in
theorem k_X7_isQuiet (l : Launch) (G : ai_G) (M : ai_M) {t0 : Int32} {S : ai_S} {mo : Nat} {ma : Nat → Nat} (hO : ai_O G M t0 S mo ma) (hJ : ai_J S) {z : Int32} : ai_C l yX7_isQuiet wsX7_isQuiet ({ frames := 2, cells := 0, slots := 0, locals := 43 } : Room) 0 0 G M [.ref mo, .int z] (fun r M1 => ai_did G M mo ma (op_isQuiet S z) r M1) := by
  refine y_start (by decide +kernel) rfl (Nat.le_of_ble_eq_true rfl) (Nat.le_of_ble_eq_true rfl) (fun x hx => by simp only [List.mem_cons, List.not_mem_nil, or_false] at hx; rcases hx with rfl | rfl <;> rfl) ?_
  intro p e s m below meth c B hnm
  obtain ⟨a0, a1, a2, a3, a4, a5, a6, a7, a8, a9, a10, a11, a12⟩ := id hO
  have hn := hJ.2.1
  have hd := fun q hq => (hJ.2.2.2 q hq).1
  refine y_aload_n B dX7_isQuiet_0 rfl ?_
  refine y_aload_n B dX7_isQuiet_1 rfl ?_
  refine y_iload_n B dX7_isQuiet_2 rfl ?_
  refine y_callV B 1 (q := (RX7, TX7, 15)) _ _ (k_X7_isQuestion l G _ hO hn hd) a0 rfl gX7_isQuiet_X7_isQuestion (by decide +kernel) rfl rfl rfl rfl ⟨(Nat.le_of_ble_eq_true rfl), (Nat.le_of_ble_eq_true rfl)⟩ (Nat.le_of_ble_eq_true rfl) ⟨(Nat.le_of_ble_eq_true rfl), (Nat.le_of_ble_eq_true rfl)⟩ dX7_isQuiet_3 rfl (fun r M1 hr => ?_)
  obtain ⟨rfl, e9⟩ := hr
  obtain rfl := e9.symm
  refine y_if_eq B 13 dX7_isQuiet_6 (by decide) (fun c6 => ?_) (fun c6 => ?_)
  · have q6 := (ai_b0 _).mp c6
    refine y_iconst B (nI 1) dX7_isQuiet_13 (by decide +kernel) ?_
    refine y_callV B 1 (q := (RX7, TX7, 15)) _ _ (k_X7_holds l G _ hO) a0 rfl gX7_isQuiet_X7_holds (by decide +kernel) rfl rfl rfl rfl ⟨(Nat.le_of_ble_eq_true rfl), (Nat.le_of_ble_eq_true rfl)⟩ (Nat.le_of_ble_eq_true rfl) ⟨(Nat.le_of_ble_eq_true rfl), (Nat.le_of_ble_eq_true rfl)⟩ dX7_isQuiet_14 rfl (fun r M1 hr => ?_)
    obtain ⟨rfl, hO1, hk1⟩ := hr
    obtain ⟨b0, b1, b2, b3, b4, b5, b6, b7, b8, b9, b10, b11, b12⟩ := id hO1
    refine y_if_eq B 32 dX7_isQuiet_17 (by decide) (fun c17 => ?_) (fun c17 => absurd (by decide +kernel) c17)
    refine y_iconst B (nI 0) dX7_isQuiet_32 (by decide +kernel) ?_
    exact y_zret B dX7_isQuiet_33 (Nat.le_of_ble_eq_true rfl) (Nat.le_of_ble_eq_true rfl) rfl (by unfold op_isQuiet; rw [if_pos q6]; exact ⟨hO1, hk1, _, rfl, fun h9 => absurd h9 (Nat.succ_ne_zero _)⟩)
  · have q6 := ai_b1 c6
    obtain ⟨q, hq, rfl, hq2, eq9⟩ := ai_qo_of hn q6
    have hok := hJ.2.2.2 q hq
    have hok3 := hok.2.1
    refine y_iconst B (nI 0) dX7_isQuiet_9 (by decide +kernel) ?_
    refine y_goto B 14 dX7_isQuiet_10 (by decide) ?_
    refine y_callV B 1 (q := (RX7, TX7, 15)) _ _ (k_X7_holds l G _ hO) a0 rfl gX7_isQuiet_X7_holds (by decide +kernel) rfl rfl rfl rfl ⟨(Nat.le_of_ble_eq_true rfl), (Nat.le_of_ble_eq_true rfl)⟩ (Nat.le_of_ble_eq_true rfl) ⟨(Nat.le_of_ble_eq_true rfl), (Nat.le_of_ble_eq_true rfl)⟩ dX7_isQuiet_14 rfl (fun r M1 hr => ?_)
    obtain ⟨rfl, hO1, hk1⟩ := hr
    obtain ⟨b0, b1, b2, b3, b4, b5, b6, b7, b8, b9, b10, b11, b12⟩ := id hO1
    refine y_if_eq B 32 dX7_isQuiet_17 (by decide) (fun c17 => absurd c17 (by decide +kernel)) (fun c17 => ?_)
    refine y_aload_n B dX7_isQuiet_20 rfl ?_
    refine y_iload_n B dX7_isQuiet_21 rfl ?_
    refine y_callV B 1 (q := (RX7, TX7, 15)) _ _ (k_X7_quietNow l G _ hO1 hJ.1 (q := q) (by omega) hok.2.2.2.1) b0 rfl gX7_isQuiet_X7_quietNow (by decide +kernel) rfl rfl rfl rfl ⟨(Nat.le_of_ble_eq_true rfl), (Nat.le_of_ble_eq_true rfl)⟩ (Nat.le_of_ble_eq_true rfl) ⟨(Nat.le_of_ble_eq_true rfl), (Nat.le_of_ble_eq_true rfl)⟩ dX7_isQuiet_22 rfl (fun r M1 hr => ?_)
    obtain ⟨rfl, e9⟩ := hr
    obtain rfl := e9.symm
    refine y_if_eq B 32 dX7_isQuiet_25 (by decide) (fun c25 => ?_) (fun c25 => ?_)
    · have q25 := (ai_b0 _).mp c25
      refine y_iconst B (nI 0) dX7_isQuiet_32 (by decide +kernel) ?_
      exact y_zret B dX7_isQuiet_33 (Nat.le_of_ble_eq_true rfl) (Nat.le_of_ble_eq_true rfl) rfl (by unfold op_isQuiet; rw [eq9, if_neg (by rw [q6]; decide), q25]; exact ⟨hO1, hk1, _, rfl, fun _ => rfl⟩)
    · have q25 := ai_b1 c25
      refine y_iconst B (nI 1) dX7_isQuiet_28 (by decide +kernel) ?_
      refine y_goto B 33 dX7_isQuiet_29 (by decide) ?_
      exact y_zret B dX7_isQuiet_33 (Nat.le_of_ble_eq_true rfl) (Nat.le_of_ble_eq_true rfl) rfl (by unfold op_isQuiet; rw [eq9, if_neg (by rw [q6]; decide), q25]; exact ⟨hO1, hk1, _, rfl, fun _ => rfl⟩)
set_option maxHeartbeats 4000000 in
set_option maxRecDepth 100000 in
theorem k_X7_size (l : Launch) (G : ai_G) (M : ai_M) {t0 : Int32} {S : ai_S} {mo : Nat} {ma : Nat → Nat} (hO : ai_O G M t0 S mo ma) {q : Nat} (hq : q < 20) (h3 : S 3 q ≤ 3) (hok : ∀ p, p < S 3 q → ai_okP S (3 * q + p)) : ai_C l yX7_size wsX7_size ({ frames := 0, cells := 0, slots := 0, locals := 0 } : Room) 0 0 G M [.ref mo, .int (nI q)] (fun r M1 => r = some (.int (nI (ai_sz S q))) ∧ M1 = M) := by
  refine y_start (by decide +kernel) rfl (Nat.le_of_ble_eq_true rfl) (Nat.le_of_ble_eq_true rfl) (fun x hx => by simp only [List.mem_cons, List.not_mem_nil, or_false] at hx; rcases hx with rfl | rfl <;> rfl) ?_
  intro p e s m below meth c B hnm
  obtain ⟨a0, a1, a2, a3, a4, a5, a6, a7, a8, a9, a10, a11, a12⟩ := id hO
  have go : 0 < S 3 q → ai_Y p l e ({ frames := 0, cells := 0, slots := 0, locals := 0 } : Room) s m [.ref mo, .int (nI q)].toArray below meth c G (MQ below (ai_Q G (fun r M1 => r = some (.int (nI (ai_sz S q))) ∧ M1 = M)) [.ref mo, .int (nI q)].toArray s 0 0 (ai_A G)) M 0 0 [some (.ref mo), some (.int (nI q)), some (.int (nI 4)), some (.int (nI (3 * q))), none, none] 19 [] := by
    intro h30
    have lp : ∀ (d : Nat) (i : Nat) (x4 x5 : Option Value), (S 3 q < i + d) → (i ≤ S 3 q) → ai_Y p l e ({ frames := 0, cells := 0, slots := 0, locals := 0 } : Room) s m [.ref mo, .int (nI q)].toArray below meth c G (MQ below (ai_Q G (fun r M1 => r = some (.int (nI (ai_sz S q))) ∧ M1 = M)) [.ref mo, .int (nI q)].toArray s 0 0 (ai_A G)) M 0 0 [some (.ref mo), some (.int (nI q)), some (.int (nI (ai_mn i (fun p => ai_pn S (3 * q + p))))), some (.int (nI (3 * q + i))), x4, x5] 19 [] := by
      intro d
      induction d with
      | zero => intros; omega
      | succ d ih =>
        intro i x4 x5 hm hi
        refine y_iload_n B dX7_size_19 rfl ?_
        refine y_iconst B (nI 3) dX7_size_20 (by decide +kernel) ?_
        refine y_iload_n B dX7_size_21 rfl ?_
        refine y_imul B (nI (3 * q)) dX7_size_22 (pk_mul 3 _) ?_
        refine y_aload_n B dX7_size_23 rfl ?_
        refine y_get B (ref := "AlertIndexModel") (ci := 8) (C := RX7) (T := TX7) (N := 15) a0 rfl i_X7_size_X7 5 (by decide) (by decide +kernel) (fun _ h9 => h9) rfl dX7_size_24 ?_
        refine y_iload_n B dX7_size_27 rfl ?_
        refine y_ialoadI B (nI (S 3 q)) a3 (vp_in_nI (by omega) (by decide)) (by rw [nI_clamp (by omega)]) dX7_size_28 ?_
        refine y_iadd B (nI (3 * q + S 3 q)) dX7_size_29 (nI_add _ _) ?_
        refine y_icmp_ge B 101 dX7_size_30 (by decide) (fun c30 => ?_) (fun c30 => ?_)
        · have q30 : i = S 3 q := by have := (nI_leI (by omega) (by omega)).mp c30; omega
          refine y_iload_n B dX7_size_101 rfl ?_
          exact y_iret B dX7_size_102 (Nat.le_of_ble_eq_true rfl) (Nat.le_of_ble_eq_true rfl) (⟨by unfold ai_sz; rw [if_neg (by omega), q30], rfl⟩)
        · have q30 : i < S 3 q := Nat.lt_of_not_le (fun z => c30 ((nI_leI (by omega) (by omega)).mpr (by omega)))
          obtain ⟨h8a, h8⟩ := hok i q30
          refine y_iconst B (nI 0) dX7_size_33 (by decide +kernel) ?_
          refine y_istore B dX7_size_34 (Nat.le_of_ble_eq_true rfl) ?_
          refine y_iconst B (nI 4) dX7_size_36 (by decide +kernel) ?_
          refine y_iload_n B dX7_size_37 rfl ?_
          refine y_imul B (nI (4 * (3 * q + i))) dX7_size_38 (pk_mul 4 _) ?_
          refine y_istore B dX7_size_39 (Nat.le_of_ble_eq_true rfl) ?_
          have b1 := ai_mn_le i (fun p => ai_pn S (3 * q + p))
          have b2 : ai_pn S (3 * q + i) ≤ _ := ai_cn_le _ _
          have after : ai_Y p l e ({ frames := 0, cells := 0, slots := 0, locals := 0 } : Room) s m [.ref mo, .int (nI q)].toArray below meth c G (MQ below (ai_Q G (fun r M1 => r = some (.int (nI (ai_sz S q))) ∧ M1 = M)) [.ref mo, .int (nI q)].toArray s 0 0 (ai_A G)) M 0 0 [some (.ref mo), some (.int (nI q)), some (.int (nI (ai_mn i (fun p => ai_pn S (3 * q + p))))), some (.int (nI (3 * q + i))), some (.int (nI (ai_pn S (3 * q + i)))), some (.int (nI (4 * (3 * q + i) + S 8 (3 * q + i))))] 82 [] := by
            refine y_iload B dX7_size_82 rfl ?_
            refine y_iload_n B dX7_size_84 rfl ?_
            refine y_icmp_ge B 93 dX7_size_85 (by decide) (fun c85 => ?_) (fun c85 => ?_)
            · have q85 : ai_mn i (fun p => ai_pn S (3 * q + p)) ≤ ai_pn S (3 * q + i) := (nI_leI (by omega) (by omega)).mp c85
              refine y_iload_n B dX7_size_93 rfl ?_
              refine y_istore_n B dX7_size_94 (Nat.le_of_ble_eq_true rfl) ?_
              refine y_iinc B (nI (3 * q + (i + 1))) dX7_size_95 rfl (by rw [← Nat.add_assoc]; exact nI_1 _) ?_
              refine y_goto B 19 dX7_size_98 (by decide) ?_
              have e : ai_mn (i + 1) (fun p => ai_pn S (3 * q + p)) = ai_mn i (fun p => ai_pn S (3 * q + p)) := Nat.min_eq_left q85
              have z := ih (i + 1) (some (.int (nI (ai_pn S (3 * q + i))))) (some (.int (nI (4 * (3 * q + i) + S 8 (3 * q + i))))) (by omega) (by omega)
              rw [e] at z
              exact z
            · have q85 : ai_pn S (3 * q + i) < ai_mn i (fun p => ai_pn S (3 * q + p)) := Nat.lt_of_not_le (fun z => c85 ((nI_leI (by omega) (by omega)).mpr z))
              refine y_iload B dX7_size_88 rfl ?_
              refine y_goto B 94 dX7_size_90 (by decide) ?_
              refine y_istore_n B dX7_size_94 (Nat.le_of_ble_eq_true rfl) ?_
              refine y_iinc B (nI (3 * q + (i + 1))) dX7_size_95 rfl (by rw [← Nat.add_assoc]; exact nI_1 _) ?_
              refine y_goto B 19 dX7_size_98 (by decide) ?_
              have e : ai_mn (i + 1) (fun p => ai_pn S (3 * q + p)) = ai_pn S (3 * q + i) := Nat.min_eq_right (Nat.le_of_lt q85)
              have z := ih (i + 1) (some (.int (nI (ai_pn S (3 * q + i))))) (some (.int (nI (4 * (3 * q + i) + S 8 (3 * q + i))))) (by omega) (by omega)
              rw [e] at z
              exact z
          have lq : ∀ (d2 : Nat) (t : Nat), (S 8 (3 * q + i) < t + d2) → (t ≤ S 8 (3 * q + i)) → ai_Y p l e ({ frames := 0, cells := 0, slots := 0, locals := 0 } : Room) s m [.ref mo, .int (nI q)].toArray below meth c G (MQ below (ai_Q G (fun r M1 => r = some (.int (nI (ai_sz S q))) ∧ M1 = M)) [.ref mo, .int (nI q)].toArray s 0 0 (ai_A G)) M 0 0 [some (.ref mo), some (.int (nI q)), some (.int (nI (ai_mn i (fun p => ai_pn S (3 * q + p))))), some (.int (nI (3 * q + i))), some (.int (nI (ai_cn t (fun t => decide (S 12 (4 * (3 * q + i) + t) = 0))))), some (.int (nI (4 * (3 * q + i) + t)))] 41 [] := by
            intro d2
            induction d2 with
            | zero => intros; omega
            | succ d2 ih =>
              intro t hm ht
              refine y_iload B dX7_size_41 rfl ?_
              refine y_iconst B (nI 4) dX7_size_43 (by decide +kernel) ?_
              refine y_iload_n B dX7_size_44 rfl ?_
              refine y_imul B (nI (4 * (3 * q + i))) dX7_size_45 (pk_mul 4 _) ?_
              refine y_aload_n B dX7_size_46 rfl ?_
              refine y_get B (ref := "AlertIndexModel") (ci := 8) (C := RX7) (T := TX7) (N := 15) a0 rfl i_X7_size_X7 10 (by decide) (by decide +kernel) (fun _ h9 => h9) rfl dX7_size_47 ?_
              refine y_iload_n B dX7_size_50 rfl ?_
              refine y_ialoadI B (nI (S 8 (3 * q + i))) a8 (vp_in_nI (by omega) (by decide)) (by rw [nI_clamp (by omega)]) dX7_size_51 ?_
              refine y_iadd B (nI (4 * (3 * q + i) + S 8 (3 * q + i))) dX7_size_52 (nI_add _ _) ?_
              refine y_icmp_ge B 82 dX7_size_53 (by decide) (fun c53 => ?_) (fun c53 => ?_)
              · have q53 : S 8 (3 * q + i) ≤ t := by have := (nI_leI (by omega) (by omega)).mp c53; omega
                have et : t = S 8 (3 * q + i) := by omega
                rw [et]
                exact after
              · have q53 : t < S 8 (3 * q + i) := Nat.lt_of_not_le (fun z => c53 ((nI_leI (by omega) (by omega)).mpr (by omega)))
                have h12 := (h8 t q53).2.2.2
                refine y_iload B dX7_size_56 rfl ?_
                refine y_aload_n B dX7_size_58 rfl ?_
                refine y_get B (ref := "AlertIndexModel") (ci := 8) (C := RX7) (T := TX7) (N := 15) a0 rfl i_X7_size_X7 14 (by decide) (by decide +kernel) (fun _ h9 => h9) rfl dX7_size_59 ?_
                refine y_iload B dX7_size_62 rfl ?_
                refine y_baloadZ B (nI (S 12 (4 * (3 * q + i) + t))) a12 (vp_in_nI (by omega) (by decide)) (by rw [nI_clamp (by omega)]) dX7_size_64 ?_
                refine y_if_eq B 72 dX7_size_65 (by decide) (fun c65 => ?_) (fun c65 => ?_)
                · have q65 : S 12 (4 * (3 * q + i) + t) = 0 := (nI_eq (by omega) (by decide)).mp c65
                  refine y_iconst B (nI 1) dX7_size_72 (by decide +kernel) ?_
                  refine y_iadd B (nI (ai_cn t (fun t => decide (S 12 (4 * (3 * q + i) + t) = 0)) + 1)) dX7_size_73 (nI_1 _) ?_
                  refine y_istore B dX7_size_74 (Nat.le_of_ble_eq_true rfl) ?_
                  refine y_iinc B (nI (4 * (3 * q + i) + (t + 1))) dX7_size_76 rfl (by rw [← Nat.add_assoc]; exact nI_1 _) ?_
                  refine y_goto B 41 dX7_size_79 (by decide) ?_
                  have e : ai_cn (t + 1) (fun t => decide (S 12 (4 * (3 * q + i) + t) = 0)) = ai_cn t (fun t => decide (S 12 (4 * (3 * q + i) + t) = 0)) + 1 := ai_cn_t (p := (fun t => decide (S 12 (4 * (3 * q + i) + t) = 0))) (n := t) (decide_eq_true q65)
                  have z := ih (t + 1) (by omega) (by omega)
                  rw [e] at z
                  exact z
                · have q65 : ¬ S 12 (4 * (3 * q + i) + t) = 0 := fun z => c65 (by rw [z]; rfl)
                  refine y_iconst B (nI 0) dX7_size_68 (by decide +kernel) ?_
                  refine y_goto B 73 dX7_size_69 (by decide) ?_
                  refine y_iadd B (nI (ai_cn t (fun t => decide (S 12 (4 * (3 * q + i) + t) = 0)))) dX7_size_73 (nI_add _ 0) ?_
                  refine y_istore B dX7_size_74 (Nat.le_of_ble_eq_true rfl) ?_
                  refine y_iinc B (nI (4 * (3 * q + i) + (t + 1))) dX7_size_76 rfl (by rw [← Nat.add_assoc]; exact nI_1 _) ?_
                  refine y_goto B 41 dX7_size_79 (by decide) ?_
                  have e : ai_cn (t + 1) (fun t => decide (S 12 (4 * (3 * q + i) + t) = 0)) = ai_cn t (fun t => decide (S 12 (4 * (3 * q + i) + t) = 0)) := ai_cn_f (p := (fun t => decide (S 12 (4 * (3 * q + i) + t) = 0))) (n := t) (decide_eq_false q65)
                  have z := ih (t + 1) (by omega) (by omega)
                  rw [e] at z
                  exact z
          exact lq (S 8 (3 * q + i) + 1) 0 (by omega) (by omega)
    exact lp (S 3 q + 1) 0 none none (by omega) (by omega)
  refine y_aload_n B dX7_size_0 rfl ?_
  refine y_get B (ref := "AlertIndexModel") (ci := 8) (C := RX7) (T := TX7) (N := 15) a0 rfl i_X7_size_X7 5 (by decide) (by decide +kernel) (fun _ h9 => h9) rfl dX7_size_1 ?_
  refine y_iload_n B dX7_size_4 rfl ?_
  refine y_ialoadI B (nI (S 3 q)) a3 (vp_in_nI (by omega) (by decide)) (by rw [nI_clamp (by omega)]) dX7_size_5 ?_
  refine y_if_ne B 13 dX7_size_6 (by decide) (fun c6 => ?_) (fun c6 => ?_)
  · have q6 : 0 < S 3 q := by by_cases z : S 3 q = 0; exact absurd (by rw [z]; rfl) c6; omega
    refine y_iconst B (nI 4) dX7_size_13 (by decide +kernel) ?_
    refine y_istore_n B dX7_size_14 (Nat.le_of_ble_eq_true rfl) ?_
    refine y_iconst B (nI 3) dX7_size_15 (by decide +kernel) ?_
    refine y_iload_n B dX7_size_16 rfl ?_
    refine y_imul B (nI (3 * q)) dX7_size_17 (pk_mul 3 _) ?_
    refine y_istore_n B dX7_size_18 (Nat.le_of_ble_eq_true rfl) ?_
    exact go q6
  · have q6 : S 3 q = 0 := (nI_eq (by omega) (by decide)).mp c6
    refine y_iconst B (nI 0) dX7_size_9 (by decide +kernel) ?_
    refine y_goto B 14 dX7_size_10 (by decide) ?_
    refine y_istore_n B dX7_size_14 (Nat.le_of_ble_eq_true rfl) ?_
    refine y_iconst B (nI 3) dX7_size_15 (by decide +kernel) ?_
    refine y_iload_n B dX7_size_16 rfl ?_
    refine y_imul B (nI (3 * q)) dX7_size_17 (pk_mul 3 _) ?_
    refine y_istore_n B dX7_size_18 (Nat.le_of_ble_eq_true rfl) ?_
    refine y_iload_n B dX7_size_19 rfl ?_
    refine y_iconst B (nI 3) dX7_size_20 (by decide +kernel) ?_
    refine y_iload_n B dX7_size_21 rfl ?_
    refine y_imul B (nI (3 * q)) dX7_size_22 (pk_mul 3 _) ?_
    refine y_aload_n B dX7_size_23 rfl ?_
    refine y_get B (ref := "AlertIndexModel") (ci := 8) (C := RX7) (T := TX7) (N := 15) a0 rfl i_X7_size_X7 5 (by decide) (by decide +kernel) (fun _ h9 => h9) rfl dX7_size_24 ?_
    refine y_iload_n B dX7_size_27 rfl ?_
    refine y_ialoadI B (nI (S 3 q)) a3 (vp_in_nI (by omega) (by decide)) (by rw [nI_clamp (by omega)]) dX7_size_28 ?_
    refine y_iadd B (nI (3 * q + S 3 q)) dX7_size_29 (nI_add _ _) ?_
    refine y_icmp_ge B 101 dX7_size_30 (by decide) (fun c30 => ?_) (fun c30 => absurd ((nI_leI (by omega) (by omega)).mpr (by omega)) c30)
    refine y_iload_n B dX7_size_101 rfl ?_
    exact y_iret B dX7_size_102 (Nat.le_of_ble_eq_true rfl) (Nat.le_of_ble_eq_true rfl) (⟨by unfold ai_sz; rw [if_pos q6], rfl⟩)
set_option maxHeartbeats 4000000 in
set_option maxRecDepth 100000 in
theorem k_X7_sizeOf (l : Launch) (G : ai_G) (M : ai_M) {t0 : Int32} {S : ai_S} {mo : Nat} {ma : Nat → Nat} (hO : ai_O G M t0 S mo ma) (hJ : ai_J S) {z : Int32} : ai_C l yX7_sizeOf wsX7_sizeOf ({ frames := 2, cells := 0, slots := 0, locals := 43 } : Room) 0 0 G M [.ref mo, .int z] (fun r M1 => ai_did G M mo ma (op_sizeOf S z) r M1) := by
  refine y_start (by decide +kernel) rfl (Nat.le_of_ble_eq_true rfl) (Nat.le_of_ble_eq_true rfl) (fun x hx => by simp only [List.mem_cons, List.not_mem_nil, or_false] at hx; rcases hx with rfl | rfl <;> rfl) ?_
  intro p e s m below meth c B hnm
  obtain ⟨a0, a1, a2, a3, a4, a5, a6, a7, a8, a9, a10, a11, a12⟩ := id hO
  have hn := hJ.2.1
  have hd := fun q hq => (hJ.2.2.2 q hq).1
  refine y_aload_n B dX7_sizeOf_0 rfl ?_
  refine y_aload_n B dX7_sizeOf_1 rfl ?_
  refine y_iload_n B dX7_sizeOf_2 rfl ?_
  refine y_callV B 1 (q := (RX7, TX7, 15)) _ _ (k_X7_isQuestion l G _ hO hn hd) a0 rfl gX7_sizeOf_X7_isQuestion (by decide +kernel) rfl rfl rfl rfl ⟨(Nat.le_of_ble_eq_true rfl), (Nat.le_of_ble_eq_true rfl)⟩ (Nat.le_of_ble_eq_true rfl) ⟨(Nat.le_of_ble_eq_true rfl), (Nat.le_of_ble_eq_true rfl)⟩ dX7_sizeOf_3 rfl (fun r M1 hr => ?_)
  obtain ⟨rfl, e9⟩ := hr
  obtain rfl := e9.symm
  refine y_if_eq B 13 dX7_sizeOf_6 (by decide) (fun c6 => ?_) (fun c6 => ?_)
  · have q6 := (ai_b0 _).mp c6
    refine y_iconst B (nI 1) dX7_sizeOf_13 (by decide +kernel) ?_
    refine y_callV B 1 (q := (RX7, TX7, 15)) _ _ (k_X7_holds l G _ hO) a0 rfl gX7_sizeOf_X7_holds (by decide +kernel) rfl rfl rfl rfl ⟨(Nat.le_of_ble_eq_true rfl), (Nat.le_of_ble_eq_true rfl)⟩ (Nat.le_of_ble_eq_true rfl) ⟨(Nat.le_of_ble_eq_true rfl), (Nat.le_of_ble_eq_true rfl)⟩ dX7_sizeOf_14 rfl (fun r M1 hr => ?_)
    obtain ⟨rfl, hO1, hk1⟩ := hr
    obtain ⟨b0, b1, b2, b3, b4, b5, b6, b7, b8, b9, b10, b11, b12⟩ := id hO1
    refine y_if_eq B 28 dX7_sizeOf_17 (by decide) (fun c17 => ?_) (fun c17 => absurd (by decide +kernel) c17)
    refine y_iconst B (nI 0) dX7_sizeOf_28 (by decide +kernel) ?_
    exact y_iret B dX7_sizeOf_29 (Nat.le_of_ble_eq_true rfl) (Nat.le_of_ble_eq_true rfl) (by unfold op_sizeOf; rw [if_pos q6]; exact ⟨hO1, hk1, _, rfl, fun h9 => absurd h9 (Nat.succ_ne_zero _)⟩)
  · have q6 := ai_b1 c6
    obtain ⟨q, hq, rfl, hq2, eq9⟩ := ai_qo_of hn q6
    have hok := hJ.2.2.2 q hq
    have hok3 := hok.2.1
    refine y_iconst B (nI 0) dX7_sizeOf_9 (by decide +kernel) ?_
    refine y_goto B 14 dX7_sizeOf_10 (by decide) ?_
    refine y_callV B 1 (q := (RX7, TX7, 15)) _ _ (k_X7_holds l G _ hO) a0 rfl gX7_sizeOf_X7_holds (by decide +kernel) rfl rfl rfl rfl ⟨(Nat.le_of_ble_eq_true rfl), (Nat.le_of_ble_eq_true rfl)⟩ (Nat.le_of_ble_eq_true rfl) ⟨(Nat.le_of_ble_eq_true rfl), (Nat.le_of_ble_eq_true rfl)⟩ dX7_sizeOf_14 rfl (fun r M1 hr => ?_)
    obtain ⟨rfl, hO1, hk1⟩ := hr
    obtain ⟨b0, b1, b2, b3, b4, b5, b6, b7, b8, b9, b10, b11, b12⟩ := id hO1
    refine y_if_eq B 28 dX7_sizeOf_17 (by decide) (fun c17 => absurd c17 (by decide +kernel)) (fun c17 => ?_)
    refine y_aload_n B dX7_sizeOf_20 rfl ?_
    refine y_iload_n B dX7_sizeOf_21 rfl ?_
    refine y_callV B 1 (q := (RX7, TX7, 15)) _ _ (k_X7_size l G _ hO1 (q := q) (by omega) hok3 (fun p hp => hok.2.2.2.2.2 p hp)) b0 rfl gX7_sizeOf_X7_size (by decide +kernel) rfl rfl rfl rfl ⟨(Nat.le_of_ble_eq_true rfl), (Nat.le_of_ble_eq_true rfl)⟩ (Nat.le_of_ble_eq_true rfl) ⟨(Nat.le_of_ble_eq_true rfl), (Nat.le_of_ble_eq_true rfl)⟩ dX7_sizeOf_22 rfl (fun r M1 hr => ?_)
    obtain ⟨rfl, e9⟩ := hr
    obtain rfl := e9.symm
    refine y_goto B 29 dX7_sizeOf_25 (by decide) ?_
    exact y_iret B dX7_sizeOf_29 (Nat.le_of_ble_eq_true rfl) (Nat.le_of_ble_eq_true rfl) (by unfold op_sizeOf; rw [eq9, if_neg (by rw [q6]; decide)]; exact ⟨hO1, hk1, _, rfl, fun _ => rfl⟩)
set_option maxHeartbeats 4000000 in
set_option maxRecDepth 100000 in
theorem k_X7_found (l : Launch) (G : ai_G) (M : ai_M) {t0 : Int32} {S : ai_S} {mo : Nat} {ma : Nat → Nat} (hO : ai_O G M t0 S mo ma) (hJ : ai_J S) : ai_C l yX7_found wsX7_found ({ frames := 2, cells := 0, slots := 0, locals := 48 } : Room) 0 0 G M [.ref mo] (fun r M1 => r = some (.int (ai_bs (S 0 2) (fun q => decide (S 2 q = 0) && ai_qt S q))) ∧ M1 = M) := by
  refine y_start (by decide +kernel) rfl (Nat.le_of_ble_eq_true rfl) (Nat.le_of_ble_eq_true rfl) (fun x hx => by simp only [List.mem_cons, List.not_mem_nil, or_false] at hx; rcases hx with rfl <;> rfl) ?_
  intro p e s m below meth c B hnm
  obtain ⟨a0, a1, a2, a3, a4, a5, a6, a7, a8, a9, a10, a11, a12⟩ := id hO
  have hn := hJ.2.1
  have hd := fun q hq => (hJ.2.2.2 q hq).1
  have lp : ∀ (d : Nat) (i : Nat), (S 0 2 < i + d) → (i ≤ S 0 2) → ai_Y p l e ({ frames := 2, cells := 0, slots := 0, locals := 48 } : Room) s m [.ref mo].toArray below meth c G (MQ below (ai_Q G (fun r M1 => r = some (.int (ai_bs (S 0 2) (fun q => decide (S 2 q = 0) && ai_qt S q))) ∧ M1 = M)) [.ref mo].toArray s 0 0 (ai_A G)) M 0 0 [some (.ref mo), some (.int (ai_bs i (fun q => decide (S 2 q = 0) && ai_qt S q))), some (.int (nI i))] 4 [] := by
    intro d
    induction d with
    | zero => intros; omega
    | succ d ih =>
      intro i hm hi
      refine y_iload_n B dX7_found_4 rfl ?_
      refine y_aload_n B dX7_found_5 rfl ?_
      refine y_get B (ref := "AlertIndexModel") (ci := 8) (C := RX7) (T := TX7) (N := 15) a0 rfl i_X7_found_X7 2 (by decide) (by decide +kernel) (fun _ h9 => h9) rfl dX7_found_6 ?_
      refine y_icmp_ge B 44 dX7_found_9 (by decide) (fun c9 => ?_) (fun c9 => ?_)
      · have q9 : i = S 0 2 := by have := (nI_leI (by omega) (by omega)).mp c9; omega
        refine y_iload_n B dX7_found_44 rfl ?_
        exact y_iret B dX7_found_45 (Nat.le_of_ble_eq_true rfl) (Nat.le_of_ble_eq_true rfl) (⟨by rw [q9], rfl⟩)
      · have q9 : i < S 0 2 := Nat.lt_of_not_le (fun z => c9 ((nI_leI (by omega) (by omega)).mpr (by omega)))
        have hok := hJ.2.2.2 i q9
        refine y_iload_n B dX7_found_12 rfl ?_
        refine y_aload_n B dX7_found_13 rfl ?_
        refine y_iload_n B dX7_found_14 rfl ?_
        refine y_callV B 1 (q := (RX7, TX7, 15)) _ _ (k_X7_isQuestion l G _ hO hn hd) a0 rfl gX7_found_X7_isQuestion (by decide +kernel) rfl rfl rfl rfl ⟨(Nat.le_of_ble_eq_true rfl), (Nat.le_of_ble_eq_true rfl)⟩ (Nat.le_of_ble_eq_true rfl) ⟨(Nat.le_of_ble_eq_true rfl), (Nat.le_of_ble_eq_true rfl)⟩ dX7_found_15 rfl (fun r M1 hr => ?_)
        obtain ⟨rfl, e9⟩ := hr
        obtain rfl := e9.symm
        rw [ai_qo_i hn q9]
        refine y_if_eq B 35 dX7_found_18 (by decide) (fun c18 => ?_) (fun c18 => ?_)
        · have q18 := (ai_b0 _).mp c18
          refine y_iconst B (nI 0) dX7_found_35 (by decide +kernel) ?_
          refine y_ior B (ai_bs i (fun q => decide (S 2 q = 0) && ai_qt S q)) dX7_found_36 (ai_or0) ?_
          refine y_istore_n B dX7_found_37 (Nat.le_of_ble_eq_true rfl) ?_
          refine y_iinc B (nI (i + 1)) dX7_found_38 rfl (nI_1 i) ?_
          refine y_goto B 4 dX7_found_41 (by decide) ?_
          have e : ai_bs (i + 1) (fun q => decide (S 2 q = 0) && ai_qt S q) = ai_bs i (fun q => decide (S 2 q = 0) && ai_qt S q) := ai_bs_f (p := (fun q => decide (S 2 q = 0) && ai_qt S q)) (n := i) (by rw [q18]; rfl)
          have z9 := ih (i + 1) (by omega) (by omega)
          rw [e] at z9
          exact z9
        · have q18 := ai_b1 c18
          refine y_aload_n B dX7_found_21 rfl ?_
          refine y_iload_n B dX7_found_22 rfl ?_
          refine y_callV B 1 (q := (RX7, TX7, 15)) _ _ (k_X7_does l G _ hO hJ.2.2.1 (q := i) (by omega) hok.2.1 (fun p hp => hok.2.2.2.2.2 p hp)) a0 rfl gX7_found_X7_does (by decide +kernel) rfl rfl rfl rfl ⟨(Nat.le_of_ble_eq_true rfl), (Nat.le_of_ble_eq_true rfl)⟩ (Nat.le_of_ble_eq_true rfl) ⟨(Nat.le_of_ble_eq_true rfl), (Nat.le_of_ble_eq_true rfl)⟩ dX7_found_23 rfl (fun r M1 hr => ?_)
          obtain ⟨rfl, e9⟩ := hr
          obtain rfl := e9.symm
          refine y_if_eq B 35 dX7_found_26 (by decide) (fun c26 => ?_) (fun c26 => ?_)
          · have q26 := (ai_b0 _).mp c26
            refine y_iconst B (nI 0) dX7_found_35 (by decide +kernel) ?_
            refine y_ior B (ai_bs i (fun q => decide (S 2 q = 0) && ai_qt S q)) dX7_found_36 (ai_or0) ?_
            refine y_istore_n B dX7_found_37 (Nat.le_of_ble_eq_true rfl) ?_
            refine y_iinc B (nI (i + 1)) dX7_found_38 rfl (nI_1 i) ?_
            refine y_goto B 4 dX7_found_41 (by decide) ?_
            have e : ai_bs (i + 1) (fun q => decide (S 2 q = 0) && ai_qt S q) = ai_bs i (fun q => decide (S 2 q = 0) && ai_qt S q) := ai_bs_f (p := (fun q => decide (S 2 q = 0) && ai_qt S q)) (n := i) (by rw [q18, q26]; rfl)
            have z9 := ih (i + 1) (by omega) (by omega)
            rw [e] at z9
            exact z9
          · have q26 := ai_b1 c26
            refine y_iconst B (nI 1) dX7_found_29 (by decide +kernel) ?_
            refine y_iload_n B dX7_found_30 rfl ?_
            refine y_ishl B (nI 1 <<< (nI i &&& 31)) dX7_found_31 (rfl) ?_
            refine y_goto B 36 dX7_found_32 (by decide) ?_
            refine y_ior B (ai_bs i (fun q => decide (S 2 q = 0) && ai_qt S q) ||| (nI 1 <<< (nI i &&& 31))) dX7_found_36 (rfl) ?_
            refine y_istore_n B dX7_found_37 (Nat.le_of_ble_eq_true rfl) ?_
            refine y_iinc B (nI (i + 1)) dX7_found_38 rfl (nI_1 i) ?_
            refine y_goto B 4 dX7_found_41 (by decide) ?_
            have e : ai_bs (i + 1) (fun q => decide (S 2 q = 0) && ai_qt S q) = ai_bs i (fun q => decide (S 2 q = 0) && ai_qt S q) ||| (nI 1 <<< (nI i &&& 31)) := ai_bs_t (p := (fun q => decide (S 2 q = 0) && ai_qt S q)) (n := i) (by rw [q18, q26]; rfl)
            have z9 := ih (i + 1) (by omega) (by omega)
            rw [e] at z9
            exact z9
  refine y_iconst B (nI 0) dX7_found_0 (by decide +kernel) ?_
  refine y_istore_n B dX7_found_1 (Nat.le_of_ble_eq_true rfl) ?_
  refine y_iconst B (nI 0) dX7_found_2 (by decide +kernel) ?_
  refine y_istore_n B dX7_found_3 (Nat.le_of_ble_eq_true rfl) ?_
  exact lp (S 0 2 + 1) 0 (by omega) (by omega)
set_option maxHeartbeats 4000000 in
set_option maxRecDepth 100000 in
theorem k_X7_matching (l : Launch) (G : ai_G) (M : ai_M) {t0 : Int32} {S : ai_S} {mo : Nat} {ma : Nat → Nat} (hO : ai_O G M t0 S mo ma) (hJ : ai_J S) : ai_C l yX7_matching wsX7_matching ({ frames := 3, cells := 0, slots := 0, locals := 70 } : Room) 0 0 G M [.ref mo] (fun r M1 => ai_did G M mo ma (op_matching S) r M1) := by
  refine y_start (by decide +kernel) rfl (Nat.le_of_ble_eq_true rfl) (Nat.le_of_ble_eq_true rfl) (fun x hx => by simp only [List.mem_cons, List.not_mem_nil, or_false] at hx; rcases hx with rfl <;> rfl) ?_
  intro p e s m below meth c B hnm
  obtain ⟨a0, a1, a2, a3, a4, a5, a6, a7, a8, a9, a10, a11, a12⟩ := id hO
  have hn := hJ.2.1
  have hd := fun q hq => (hJ.2.2.2 q hq).1
  refine y_aload_n B dX7_matching_0 rfl ?_
  refine y_iconst B (nI 0) dX7_matching_1 (by decide +kernel) ?_
  refine y_put B (ref := "AlertIndexModel") (ci := 8) (C := RX7) (T := TX7) (N := 15) (ty := .int) a0 rfl i_X7_matching_X7 tyX7 tyX7_ok nmX7 0 (by decide) (by decide +kernel) (fun _ h9 => h9) rfl (by decide +kernel) rfl rfl (Nat.le_of_ble_eq_true rfl) dX7_matching_2 ?_
  have hO1 := hO.ot (nI 0)
  have hk1 : ai_km M _ := ai_km.U (e1 := .inr (8, [.int (nI 0), .int (nI (S 0 1)), .int (nI (S 0 2)), .ref (ma 1), .ref (ma 2), .ref (ma 3), .ref (ma 4), .ref (ma 5), .ref (ma 6), .ref (ma 7), .ref (ma 8), .ref (ma 9), .ref (ma 10), .ref (ma 11), .ref (ma 12)])) a0 (by decide)
  obtain ⟨b0, b1, b2, b3, b4, b5, b6, b7, b8, b9, b10, b11, b12⟩ := id hO1
  refine y_aload_n B dX7_matching_5 rfl ?_
  refine y_callV B 0 (q := (RX7, TX7, 15)) _ _ (k_X7_found l G _ hO1 hJ) b0 rfl gX7_matching_X7_found (by decide +kernel) rfl rfl rfl rfl ⟨(Nat.le_of_ble_eq_true rfl), (Nat.le_of_ble_eq_true rfl)⟩ (Nat.le_of_ble_eq_true rfl) ⟨(Nat.le_of_ble_eq_true rfl), (Nat.le_of_ble_eq_true rfl)⟩ dX7_matching_6 rfl (fun r M1 hr => ?_)
  obtain ⟨rfl, e9⟩ := hr
  obtain rfl := e9.symm
  exact y_iret B dX7_matching_9 (Nat.le_of_ble_eq_true rfl) (Nat.le_of_ble_eq_true rfl) (⟨hO1, hk1, _, rfl, fun _ => rfl⟩)
set_option maxHeartbeats 4000000 in
set_option maxRecDepth 100000 in
theorem k_X7_matchingByIndex (l : Launch) (G : ai_G) (M : ai_M) {t0 : Int32} {S : ai_S} {mo : Nat} {ma : Nat → Nat} (hO : ai_O G M t0 S mo ma) (hJ : ai_J S) : ai_C l yX7_matchingByIndex wsX7_matchingByIndex ({ frames := 3, cells := 0, slots := 0, locals := 70 } : Room) 0 0 G M [.ref mo] (fun r M1 => ai_did G M mo ma (op_matching S) r M1) := by
  refine y_start (by decide +kernel) rfl (Nat.le_of_ble_eq_true rfl) (Nat.le_of_ble_eq_true rfl) (fun x hx => by simp only [List.mem_cons, List.not_mem_nil, or_false] at hx; rcases hx with rfl <;> rfl) ?_
  intro p e s m below meth c B hnm
  obtain ⟨a0, a1, a2, a3, a4, a5, a6, a7, a8, a9, a10, a11, a12⟩ := id hO
  have hn := hJ.2.1
  have hd := fun q hq => (hJ.2.2.2 q hq).1
  refine y_aload_n B dX7_matchingByIndex_0 rfl ?_
  refine y_iconst B (nI 0) dX7_matchingByIndex_1 (by decide +kernel) ?_
  refine y_put B (ref := "AlertIndexModel") (ci := 8) (C := RX7) (T := TX7) (N := 15) (ty := .int) a0 rfl i_X7_matchingByIndex_X7 tyX7 tyX7_ok nmX7 0 (by decide) (by decide +kernel) (fun _ h9 => h9) rfl (by decide +kernel) rfl rfl (Nat.le_of_ble_eq_true rfl) dX7_matchingByIndex_2 ?_
  have hO1 := hO.ot (nI 0)
  have hk1 : ai_km M _ := ai_km.U (e1 := .inr (8, [.int (nI 0), .int (nI (S 0 1)), .int (nI (S 0 2)), .ref (ma 1), .ref (ma 2), .ref (ma 3), .ref (ma 4), .ref (ma 5), .ref (ma 6), .ref (ma 7), .ref (ma 8), .ref (ma 9), .ref (ma 10), .ref (ma 11), .ref (ma 12)])) a0 (by decide)
  obtain ⟨b0, b1, b2, b3, b4, b5, b6, b7, b8, b9, b10, b11, b12⟩ := id hO1
  refine y_aload_n B dX7_matchingByIndex_5 rfl ?_
  refine y_callV B 0 (q := (RX7, TX7, 15)) _ _ (k_X7_found l G _ hO1 hJ) b0 rfl gX7_matchingByIndex_X7_found (by decide +kernel) rfl rfl rfl rfl ⟨(Nat.le_of_ble_eq_true rfl), (Nat.le_of_ble_eq_true rfl)⟩ (Nat.le_of_ble_eq_true rfl) ⟨(Nat.le_of_ble_eq_true rfl), (Nat.le_of_ble_eq_true rfl)⟩ dX7_matchingByIndex_6 rfl (fun r M1 hr => ?_)
  obtain ⟨rfl, e9⟩ := hr
  obtain rfl := e9.symm
  exact y_iret B dX7_matchingByIndex_9 (Nat.le_of_ble_eq_true rfl) (Nat.le_of_ble_eq_true rfl) (⟨hO1, hk1, _, rfl, fun _ => rfl⟩)
set_option maxHeartbeats 4000000 in
set_option maxRecDepth 100000 in
theorem k_X7_minute (l : Launch) (G : ai_G) (M : ai_M) {t0 : Int32} {S : ai_S} {mo : Nat} {ma : Nat → Nat} (hO : ai_O G M t0 S mo ma) (hJ : ai_J S) : ai_C l yX7_minute wsX7_minute ({ frames := 0, cells := 0, slots := 0, locals := 0 } : Room) 0 0 G M [.ref mo] (fun r M1 => ai_did G M mo ma (op_minute S) r M1) := by
  refine y_start (by decide +kernel) rfl (Nat.le_of_ble_eq_true rfl) (Nat.le_of_ble_eq_true rfl) (fun x hx => by simp only [List.mem_cons, List.not_mem_nil, or_false] at hx; rcases hx with rfl <;> rfl) ?_
  intro p e s m below meth c B hnm
  obtain ⟨a0, a1, a2, a3, a4, a5, a6, a7, a8, a9, a10, a11, a12⟩ := id hO
  have hn := hJ.2.1
  have hd := fun q hq => (hJ.2.2.2 q hq).1
  refine y_aload_n B dX7_minute_0 rfl ?_
  refine y_iconst B (nI 0) dX7_minute_1 (by decide +kernel) ?_
  refine y_put B (ref := "AlertIndexModel") (ci := 8) (C := RX7) (T := TX7) (N := 15) (ty := .int) a0 rfl i_X7_minute_X7 tyX7 tyX7_ok nmX7 0 (by decide) (by decide +kernel) (fun _ h9 => h9) rfl (by decide +kernel) rfl rfl (Nat.le_of_ble_eq_true rfl) dX7_minute_2 ?_
  have hO1 := hO.ot (nI 0)
  have hk1 : ai_km M _ := ai_km.U (e1 := .inr (8, [.int (nI 0), .int (nI (S 0 1)), .int (nI (S 0 2)), .ref (ma 1), .ref (ma 2), .ref (ma 3), .ref (ma 4), .ref (ma 5), .ref (ma 6), .ref (ma 7), .ref (ma 8), .ref (ma 9), .ref (ma 10), .ref (ma 11), .ref (ma 12)])) a0 (by decide)
  obtain ⟨b0, b1, b2, b3, b4, b5, b6, b7, b8, b9, b10, b11, b12⟩ := id hO1
  refine y_aload_n B dX7_minute_5 rfl ?_
  refine y_get B (ref := "AlertIndexModel") (ci := 8) (C := RX7) (T := TX7) (N := 15) b0 rfl i_X7_minute_X7 1 (by decide) (by decide +kernel) (fun _ h9 => h9) rfl dX7_minute_6 ?_
  exact y_iret B dX7_minute_9 (Nat.le_of_ble_eq_true rfl) (Nat.le_of_ble_eq_true rfl) (⟨hO1, hk1, _, rfl, fun _ => rfl⟩)
set_option maxHeartbeats 4000000 in
set_option maxRecDepth 100000 in
theorem k_X7_withSize (l : Launch) (G : ai_G) (M : ai_M) {t0 : Int32} {S : ai_S} {mo : Nat} {ma : Nat → Nat} (hO : ai_O G M t0 S mo ma) (hJ : ai_J S) {z : Int32} : ai_C l yX7_withSize wsX7_withSize ({ frames := 2, cells := 0, slots := 0, locals := 43 } : Room) 0 0 G M [.ref mo, .int z] (fun r M1 => ai_did G M mo ma (op_withSize S z) r M1) := by
  refine y_start (by decide +kernel) rfl (Nat.le_of_ble_eq_true rfl) (Nat.le_of_ble_eq_true rfl) (fun x hx => by simp only [List.mem_cons, List.not_mem_nil, or_false] at hx; rcases hx with rfl | rfl <;> rfl) ?_
  intro p e s m below meth c B hnm
  obtain ⟨a0, a1, a2, a3, a4, a5, a6, a7, a8, a9, a10, a11, a12⟩ := id hO
  have hn := hJ.2.1
  have hd := fun q hq => (hJ.2.2.2 q hq).1
  refine y_aload_n B dX7_withSize_0 rfl ?_
  refine y_iconst B (nI 0) dX7_withSize_1 (by decide +kernel) ?_
  refine y_put B (ref := "AlertIndexModel") (ci := 8) (C := RX7) (T := TX7) (N := 15) (ty := .int) a0 rfl i_X7_withSize_X7 tyX7 tyX7_ok nmX7 0 (by decide) (by decide +kernel) (fun _ h9 => h9) rfl (by decide +kernel) rfl rfl (Nat.le_of_ble_eq_true rfl) dX7_withSize_2 ?_
  have hO1 := hO.ot (nI 0)
  have hk1 : ai_km M _ := ai_km.U (e1 := .inr (8, [.int (nI 0), .int (nI (S 0 1)), .int (nI (S 0 2)), .ref (ma 1), .ref (ma 2), .ref (ma 3), .ref (ma 4), .ref (ma 5), .ref (ma 6), .ref (ma 7), .ref (ma 8), .ref (ma 9), .ref (ma 10), .ref (ma 11), .ref (ma 12)])) a0 (by decide)
  obtain ⟨b0, b1, b2, b3, b4, b5, b6, b7, b8, b9, b10, b11, b12⟩ := id hO1
  have lp : ∀ (d : Nat) (i : Nat), (S 0 2 < i + d) → (i ≤ S 0 2) → ai_Y p l e ({ frames := 2, cells := 0, slots := 0, locals := 43 } : Room) s m [.ref mo, .int z].toArray below meth c G (MQ below (ai_Q G (fun r M1 => ai_did G M mo ma (op_withSize S z) r M1)) [.ref mo, .int z].toArray s 0 0 (ai_A G)) (ai_U M mo 9 (.inr (8, [.int (nI 0), .int (nI (S 0 1)), .int (nI (S 0 2)), .ref (ma 1), .ref (ma 2), .ref (ma 3), .ref (ma 4), .ref (ma 5), .ref (ma 6), .ref (ma 7), .ref (ma 8), .ref (ma 9), .ref (ma 10), .ref (ma 11), .ref (ma 12)]))) 0 0 [some (.ref mo), some (.int z), some (.int (nI (ai_cn i (fun q => decide (S 2 q = 0) && decide (nI (ai_sz S q) = z))))), some (.int (nI i))] 9 [] := by
    intro d
    induction d with
    | zero => intros; omega
    | succ d ih =>
      intro i hm hi
      refine y_iload_n B dX7_withSize_9 rfl ?_
      refine y_aload_n B dX7_withSize_10 rfl ?_
      refine y_get B (ref := "AlertIndexModel") (ci := 8) (C := RX7) (T := TX7) (N := 15) b0 rfl i_X7_withSize_X7 2 (by decide) (by decide +kernel) (fun _ h9 => h9) rfl dX7_withSize_11 ?_
      refine y_icmp_ge B 48 dX7_withSize_14 (by decide) (fun c14 => ?_) (fun c14 => ?_)
      · have q14 : i = S 0 2 := by have := (nI_leI (by omega) (by omega)).mp c14; omega
        refine y_iload_n B dX7_withSize_48 rfl ?_
        exact y_iret B dX7_withSize_49 (Nat.le_of_ble_eq_true rfl) (Nat.le_of_ble_eq_true rfl) (⟨hO1, hk1, _, rfl, fun _ => by rw [q14]; rfl⟩)
      · have q14 : i < S 0 2 := Nat.lt_of_not_le (fun z => c14 ((nI_leI (by omega) (by omega)).mpr (by omega)))
        have hok := hJ.2.2.2 i q14
        refine y_iload_n B dX7_withSize_17 rfl ?_
        refine y_aload_n B dX7_withSize_18 rfl ?_
        refine y_iload_n B dX7_withSize_19 rfl ?_
        refine y_callV B 1 (q := (RX7, TX7, 15)) _ _ (k_X7_isQuestion l G _ hO1 hn hd) b0 rfl gX7_withSize_X7_isQuestion (by decide +kernel) rfl rfl rfl rfl ⟨(Nat.le_of_ble_eq_true rfl), (Nat.le_of_ble_eq_true rfl)⟩ (Nat.le_of_ble_eq_true rfl) ⟨(Nat.le_of_ble_eq_true rfl), (Nat.le_of_ble_eq_true rfl)⟩ dX7_withSize_20 rfl (fun r M1 hr => ?_)
        obtain ⟨rfl, e9⟩ := hr
        obtain rfl := e9.symm
        rw [ai_qo_i hn q14]
        refine y_if_eq B 39 dX7_withSize_23 (by decide) (fun c23 => ?_) (fun c23 => ?_)
        · have q23 := (ai_b0 _).mp c23
          refine y_iconst B (nI 0) dX7_withSize_39 (by decide +kernel) ?_
          refine y_iadd B (nI (ai_cn i (fun q => decide (S 2 q = 0) && decide (nI (ai_sz S q) = z)))) dX7_withSize_40 (nI_add _ 0) ?_
          refine y_istore_n B dX7_withSize_41 (Nat.le_of_ble_eq_true rfl) ?_
          refine y_iinc B (nI (i + 1)) dX7_withSize_42 rfl (nI_1 i) ?_
          refine y_goto B 9 dX7_withSize_45 (by decide) ?_
          have e : ai_cn (i + 1) (fun q => decide (S 2 q = 0) && decide (nI (ai_sz S q) = z)) = ai_cn i (fun q => decide (S 2 q = 0) && decide (nI (ai_sz S q) = z)) := ai_cn_f (p := (fun q => decide (S 2 q = 0) && decide (nI (ai_sz S q) = z))) (n := i) (by rw [q23]; rfl)
          have z9 := ih (i + 1) (by omega) (by omega)
          rw [e] at z9
          exact z9
        · have q23 := ai_b1 c23
          refine y_aload_n B dX7_withSize_26 rfl ?_
          refine y_iload_n B dX7_withSize_27 rfl ?_
          refine y_callV B 1 (q := (RX7, TX7, 15)) _ _ (k_X7_size l G _ hO1 (q := i) (by omega) hok.2.1 (fun p hp => hok.2.2.2.2.2 p hp)) b0 rfl gX7_withSize_X7_size (by decide +kernel) rfl rfl rfl rfl ⟨(Nat.le_of_ble_eq_true rfl), (Nat.le_of_ble_eq_true rfl)⟩ (Nat.le_of_ble_eq_true rfl) ⟨(Nat.le_of_ble_eq_true rfl), (Nat.le_of_ble_eq_true rfl)⟩ dX7_withSize_28 rfl (fun r M1 hr => ?_)
          obtain ⟨rfl, e9⟩ := hr
          obtain rfl := e9.symm
          refine y_iload_n B dX7_withSize_31 rfl ?_
          refine y_icmp_ne B 39 dX7_withSize_32 (by decide) (fun c32 => ?_) (fun c32 => ?_)
          · have q32 : decide (nI (ai_sz S i) = z) = false := decide_eq_false c32
            refine y_iconst B (nI 0) dX7_withSize_39 (by decide +kernel) ?_
            refine y_iadd B (nI (ai_cn i (fun q => decide (S 2 q = 0) && decide (nI (ai_sz S q) = z)))) dX7_withSize_40 (nI_add _ 0) ?_
            refine y_istore_n B dX7_withSize_41 (Nat.le_of_ble_eq_true rfl) ?_
            refine y_iinc B (nI (i + 1)) dX7_withSize_42 rfl (nI_1 i) ?_
            refine y_goto B 9 dX7_withSize_45 (by decide) ?_
            have e : ai_cn (i + 1) (fun q => decide (S 2 q = 0) && decide (nI (ai_sz S q) = z)) = ai_cn i (fun q => decide (S 2 q = 0) && decide (nI (ai_sz S q) = z)) := ai_cn_f (p := (fun q => decide (S 2 q = 0) && decide (nI (ai_sz S q) = z))) (n := i) (by rw [q23, q32]; rfl)
            have z9 := ih (i + 1) (by omega) (by omega)
            rw [e] at z9
            exact z9
          · have q32 : decide (nI (ai_sz S i) = z) = true := decide_eq_true c32
            refine y_iconst B (nI 1) dX7_withSize_35 (by decide +kernel) ?_
            refine y_goto B 40 dX7_withSize_36 (by decide) ?_
            refine y_iadd B (nI (ai_cn i (fun q => decide (S 2 q = 0) && decide (nI (ai_sz S q) = z)) + 1)) dX7_withSize_40 (nI_1 _) ?_
            refine y_istore_n B dX7_withSize_41 (Nat.le_of_ble_eq_true rfl) ?_
            refine y_iinc B (nI (i + 1)) dX7_withSize_42 rfl (nI_1 i) ?_
            refine y_goto B 9 dX7_withSize_45 (by decide) ?_
            have e : ai_cn (i + 1) (fun q => decide (S 2 q = 0) && decide (nI (ai_sz S q) = z)) = ai_cn i (fun q => decide (S 2 q = 0) && decide (nI (ai_sz S q) = z)) + 1 := ai_cn_t (p := (fun q => decide (S 2 q = 0) && decide (nI (ai_sz S q) = z))) (n := i) (by rw [q23, q32]; rfl)
            have z9 := ih (i + 1) (by omega) (by omega)
            rw [e] at z9
            exact z9
  refine y_iconst B (nI 0) dX7_withSize_5 (by decide +kernel) ?_
  refine y_istore_n B dX7_withSize_6 (Nat.le_of_ble_eq_true rfl) ?_
  refine y_iconst B (nI 0) dX7_withSize_7 (by decide +kernel) ?_
  refine y_istore_n B dX7_withSize_8 (Nat.le_of_ble_eq_true rfl) ?_
  exact lp (S 0 2 + 1) 0 (by omega) (by omega)
