/-! ===== WHAT EACH CALL IS: (what is thrown, what is answered, the state after) ===== -/
abbrev ai_op := Nat × Int32 × ai_S
def op_question (S : ai_S) : ai_op := if S 0 2 = 20 then (1, 0, S) else (0, nI (S 0 2), ai_u S 0 2 (S 0 2 + 1))
def op_product (S : ai_S) (z : Int32) : ai_op := if ai_qo S z = false then (1, 0, S) else if S 3 z.toNatClampNeg = 3 then (2, 0, S) else (0, nI (S 3 z.toNatClampNeg + 1), ai_u S 3 z.toNatClampNeg (S 3 z.toNatClampNeg + 1))
def ai_lj (S : ai_S) (z : Int32) : Nat := 3 * z.toNatClampNeg + (S 3 z.toNatClampNeg - 1)
def op_test (S : ai_S) (z nm lo hi : Int32) (bv : Nat) : ai_op := if (ai_qo S z && ai_r nm 6) = false then (1, 0, S) else if ai_rg lo hi = false then (2, 0, S) else if S 3 z.toNatClampNeg = 0 ∨ S 8 (ai_lj S z) = 4 then (3, 0, S) else (0, nI (S 8 (ai_lj S z) + 1), ai_tS S (ai_lj S z) nm.toNatClampNeg lo.toNatClampNeg hi.toNatClampNeg bv)
def op_drop (S : ai_S) (z : Int32) : ai_op := if ai_qo S z = false then (1, 0, S) else (0, nI (S 7 z.toNatClampNeg), ai_u S 2 z.toNatClampNeg 1)
def op_setQuiet (S : ai_S) (z mm : Int32) : ai_op := if ai_qo S z = false then (1, 0, S) else if ai_r mm 1001 = false then (2, 0, S) else (0, nI (S 4 z.toNatClampNeg), ai_u S 4 z.toNatClampNeg mm.toNatClampNeg)
def op_set (S : ai_S) (z v : Int32) : ai_op := if ai_r z 6 = false then (1, 0, S) else if v = -1 ∨ ai_r v 64 = true then (0, ai_nD (S 1 z.toNatClampNeg), ai_u S 1 z.toNatClampNeg (ai_dn v)) else (2, 0, S)
def op_satisfies (S : ai_S) (z : Int32) : ai_op := if ai_qo S z = false then (1, 0, S) else (0, ai_b (ai_qt S z.toNatClampNeg), S)
def op_sizeOf (S : ai_S) (z : Int32) : ai_op := if ai_qo S z = false then (1, 0, S) else (0, nI (ai_sz S z.toNatClampNeg), S)
def op_isQuiet (S : ai_S) (z : Int32) : ai_op := if ai_qo S z = false then (1, 0, S) else (0, ai_b (decide (S 0 1 < S 5 z.toNatClampNeg)), S)
def op_alerts (S : ai_S) (z : Int32) : ai_op := if ai_qo S z = false then (1, 0, S) else (0, nI (S 6 z.toNatClampNeg), S)
def op_batch (S : ai_S) (z : Int32) : ai_op := if ai_qo S z = false then (1, 0, S) else (0, nI (S 7 z.toNatClampNeg), S)
def op_pieces (S : ai_S) (lo hi : Int32) : ai_op := if ai_rg lo hi = false then (1, 0, S) else (0, nI (ai_np 64 lo.toNatClampNeg hi.toNatClampNeg), S)
def op_pieceAt (S : ai_S) (lo hi k : Int32) : ai_op := if k < 0 then (1, 0, S) else if ai_rg lo hi = false then (2, 0, S) else (0, ai_pv k.toNatClampNeg lo.toNatClampNeg hi.toNatClampNeg, S)
def op_advance (S : ai_S) (z : Int32) : ai_op := if ¬ (1 ≤ z.toInt ∧ z.toInt ≤ 1000) then (1, 0, S) else if 1000000 < S 0 1 + z.toNatClampNeg then (2, 0, S) else (0, nI (ai_aV (S 0 2) (ai_u S 0 1 (S 0 1 + z.toNatClampNeg))), ai_aS (S 0 2) (ai_u S 0 1 (S 0 1 + z.toNatClampNeg)))
/-- the model has done it -/
def ai_did (G : ai_G) (M : ai_M) (mo : Nat) (ma : Nat → Nat) (q : ai_op) (r : Option Value) (M1 : ai_M) : Prop := ai_O G M1 (nI q.1) q.2.2 mo ma ∧ ai_km M M1 ∧ ∃ v : Int32, r = some (.int v) ∧ (q.1 = 0 → v = q.2.1)
theorem i_X7_question_X7 : ∀ w ∈ wsX70, w ∈ wsX7_question := fun _ h => List.mem_cons_of_mem _ (List.mem_append_right _ h)
theorem i_X7_product_X7 : ∀ w ∈ wsX70, w ∈ wsX7_product := fun _ h => List.mem_cons_of_mem _ (List.mem_append_right _ h)
theorem i_X7_drop_X7 : ∀ w ∈ wsX70, w ∈ wsX7_drop := fun _ h => List.mem_cons_of_mem _ (List.mem_append_right _ h)
theorem i_X7_setQuiet_X7 : ∀ w ∈ wsX70, w ∈ wsX7_setQuiet := fun _ h => List.mem_cons_of_mem _ (List.mem_append_right _ h)
theorem i_X7_set_X7 : ∀ w ∈ wsX70, w ∈ wsX7_set := fun _ h => List.mem_cons_of_mem _ (List.mem_append_right _ h)
theorem i_X7_alerts_X7 : ∀ w ∈ wsX70, w ∈ wsX7_alerts := fun _ h => List.mem_cons_of_mem _ (List.mem_append_right _ h)
theorem i_X7_batch_X7 : ∀ w ∈ wsX70, w ∈ wsX7_batch := fun _ h => List.mem_cons_of_mem _ (List.mem_append_right _ h)
set_option maxHeartbeats 4000000 in
set_option maxRecDepth 100000 in
theorem k_X7_question (l : Launch) (G : ai_G) (M : ai_M) {t0 : Int32} {S : ai_S} {mo : Nat} {ma : Nat → Nat} (hO : ai_O G M t0 S mo ma) (hJ : ai_J S) : ai_C l yX7_question wsX7_question ({ frames := 1, cells := 0, slots := 0, locals := 21 } : Room) 0 0 G M [.ref mo] (fun r M1 => ai_did G M mo ma (op_question S) r M1) := by
  refine y_start (by decide +kernel) rfl (Nat.le_of_ble_eq_true rfl) (Nat.le_of_ble_eq_true rfl) (fun x hx => by simp only [List.mem_cons, List.not_mem_nil, or_false] at hx; rcases hx with rfl <;> rfl) ?_
  intro p e s m below meth c B hnm
  obtain ⟨a0, a1, a2, a3, a4, a5, a6, a7, a8, a9, a10, a11, a12⟩ := id hO
  have hn := hJ.2.1
  have hd := fun q hq => (hJ.2.2.2 q hq).1
  refine y_aload_n B dX7_question_0 rfl ?_
  refine y_aload_n B dX7_question_1 rfl ?_
  refine y_get B (ref := "AlertIndexModel") (ci := 8) (C := RX7) (T := TX7) (N := 15) a0 rfl i_X7_question_X7 2 (by decide) (by decide +kernel) (fun _ h9 => h9) rfl dX7_question_2 ?_
  refine y_bipush B (nI 20) dX7_question_5 (by decide +kernel) ?_
  refine y_icmp_ne B 14 dX7_question_7 (by decide) (fun c7 => ?_) (fun c7 => ?_)
  · have q7 : ¬ S 0 2 = 20 := fun z => c7 (by rw [z])
    refine y_iconst B (nI 0) dX7_question_14 (by decide +kernel) ?_
    refine y_callV B 1 (q := (RX7, TX7, 15)) _ _ (k_X7_holds l G _ hO) a0 rfl gX7_question_X7_holds (by decide +kernel) rfl rfl rfl rfl ⟨(Nat.le_of_ble_eq_true rfl), (Nat.le_of_ble_eq_true rfl)⟩ (Nat.le_of_ble_eq_true rfl) ⟨(Nat.le_of_ble_eq_true rfl), (Nat.le_of_ble_eq_true rfl)⟩ dX7_question_15 rfl (fun r M1 hr => ?_)
    obtain ⟨rfl, hO1, hk1⟩ := hr
    obtain ⟨b0, b1, b2, b3, b4, b5, b6, b7, b8, b9, b10, b11, b12⟩ := id hO1
    refine y_if_ne B 23 dX7_question_18 (by decide) (fun c18 => ?_) (fun c18 => absurd c18 (by decide +kernel))
    refine y_aload_n B dX7_question_23 rfl ?_
    refine y_dup B dX7_question_24 rfl ?_
    refine y_get B (ref := "AlertIndexModel") (ci := 8) (C := RX7) (T := TX7) (N := 15) b0 rfl i_X7_question_X7 2 (by decide) (by decide +kernel) (fun _ h9 => h9) rfl dX7_question_25 ?_
    refine y_iconst B (nI 1) dX7_question_28 (by decide +kernel) ?_
    refine y_iadd B (nI (S 0 2 + 1)) dX7_question_29 (nI_1 _) ?_
    refine y_put B (ref := "AlertIndexModel") (ci := 8) (C := RX7) (T := TX7) (N := 15) (ty := .int) b0 rfl i_X7_question_X7 tyX7 tyX7_ok nmX7 2 (by decide) (by decide +kernel) (fun _ h9 => h9) rfl (by decide +kernel) rfl rfl (Nat.le_of_ble_eq_true rfl) dX7_question_30 ?_
    have hO2 := hO1.o2 (S 0 2 + 1)
    have kO2 := ai_km.U (e1 := .inr (8, [.int (nI 0), .int (nI (S 0 1)), .int (nI (S 0 2 + 1)), .ref (ma 1), .ref (ma 2), .ref (ma 3), .ref (ma 4), .ref (ma 5), .ref (ma 6), .ref (ma 7), .ref (ma 8), .ref (ma 9), .ref (ma 10), .ref (ma 11), .ref (ma 12)])) b0 (by decide)
    refine y_aload_n B dX7_question_33 rfl ?_
    refine y_get B (ref := "AlertIndexModel") (ci := 8) (C := RX7) (T := TX7) (N := 15) ai_U_s rfl i_X7_question_X7 2 (by decide) (by decide +kernel) (fun _ h9 => h9) rfl dX7_question_34 ?_
    refine y_iconst B (nI 1) dX7_question_37 (by decide +kernel) ?_
    refine y_isub B (nI (S 0 2)) dX7_question_38 (nI_pred _) ?_
    exact y_iret B dX7_question_39 (Nat.le_of_ble_eq_true rfl) (Nat.le_of_ble_eq_true rfl) (by unfold op_question; rw [if_neg q7]; exact ⟨hO2, hk1.tr kO2, _, rfl, fun _ => rfl⟩)
  · have q7 : S 0 2 = 20 := (nI_eq (by omega) (by decide)).mp c7
    refine y_iconst B (nI 1) dX7_question_10 (by decide +kernel) ?_
    refine y_goto B 15 dX7_question_11 (by decide) ?_
    refine y_callV B 1 (q := (RX7, TX7, 15)) _ _ (k_X7_holds l G _ hO) a0 rfl gX7_question_X7_holds (by decide +kernel) rfl rfl rfl rfl ⟨(Nat.le_of_ble_eq_true rfl), (Nat.le_of_ble_eq_true rfl)⟩ (Nat.le_of_ble_eq_true rfl) ⟨(Nat.le_of_ble_eq_true rfl), (Nat.le_of_ble_eq_true rfl)⟩ dX7_question_15 rfl (fun r M1 hr => ?_)
    obtain ⟨rfl, hO1, hk1⟩ := hr
    obtain ⟨b0, b1, b2, b3, b4, b5, b6, b7, b8, b9, b10, b11, b12⟩ := id hO1
    refine y_if_ne B 23 dX7_question_18 (by decide) (fun c18 => absurd (by decide +kernel) c18) (fun c18 => ?_)
    refine y_iconst B (nI 0) dX7_question_21 (by decide +kernel) ?_
    exact y_iret B dX7_question_22 (Nat.le_of_ble_eq_true rfl) (Nat.le_of_ble_eq_true rfl) (by unfold op_question; rw [if_pos q7]; exact ⟨hO1, hk1, _, rfl, fun h9 => absurd h9 (Nat.succ_ne_zero _)⟩)
set_option maxHeartbeats 4000000 in
set_option maxRecDepth 100000 in
theorem k_X7_product (l : Launch) (G : ai_G) (M : ai_M) {t0 : Int32} {S : ai_S} {mo : Nat} {ma : Nat → Nat} (hO : ai_O G M t0 S mo ma) (hJ : ai_J S) {z : Int32} : ai_C l yX7_product wsX7_product ({ frames := 2, cells := 0, slots := 0, locals := 43 } : Room) 0 0 G M [.ref mo, .int z] (fun r M1 => ai_did G M mo ma (op_product S z) r M1) := by
  refine y_start (by decide +kernel) rfl (Nat.le_of_ble_eq_true rfl) (Nat.le_of_ble_eq_true rfl) (fun x hx => by simp only [List.mem_cons, List.not_mem_nil, or_false] at hx; rcases hx with rfl | rfl <;> rfl) ?_
  intro p e s m below meth c B hnm
  obtain ⟨a0, a1, a2, a3, a4, a5, a6, a7, a8, a9, a10, a11, a12⟩ := id hO
  have hn := hJ.2.1
  have hd := fun q hq => (hJ.2.2.2 q hq).1
  refine y_aload_n B dX7_product_0 rfl ?_
  refine y_iload_n B dX7_product_1 rfl ?_
  refine y_callV B 1 (q := (RX7, TX7, 15)) _ _ (k_X7_isQuestion l G _ hO hn hd) a0 rfl gX7_product_X7_isQuestion (by decide +kernel) rfl rfl rfl rfl ⟨(Nat.le_of_ble_eq_true rfl), (Nat.le_of_ble_eq_true rfl)⟩ (Nat.le_of_ble_eq_true rfl) ⟨(Nat.le_of_ble_eq_true rfl), (Nat.le_of_ble_eq_true rfl)⟩ dX7_product_2 rfl (fun r M1 hr => ?_)
  obtain ⟨rfl, e9⟩ := hr
  obtain rfl := e9.symm
  refine y_istore_n B dX7_product_5 (Nat.le_of_ble_eq_true rfl) ?_
  refine y_aload_n B dX7_product_6 rfl ?_
  refine y_iload_n B dX7_product_7 rfl ?_
  refine y_if_ne B 15 dX7_product_8 (by decide) (fun c8 => ?_) (fun c8 => ?_)
  · have q8 := ai_b1 c8
    obtain ⟨q, hq, rfl, hq2, eq9⟩ := ai_qo_of hn q8
    have hok := hJ.2.2.2 q hq
    have hok3 := hok.2.1
    refine y_aload_n B dX7_product_15 rfl ?_
    refine y_get B (ref := "AlertIndexModel") (ci := 8) (C := RX7) (T := TX7) (N := 15) a0 rfl i_X7_product_X7 5 (by decide) (by decide +kernel) (fun _ h9 => h9) rfl dX7_product_16 ?_
    refine y_iload_n B dX7_product_19 rfl ?_
    refine y_ialoadI B (nI (S 3 q)) a3 (vp_in_nI (by omega) (by decide)) (by rw [nI_clamp (by omega)]) dX7_product_20 ?_
    refine y_iconst B (nI 3) dX7_product_21 (by decide +kernel) ?_
    refine y_icmp_ne B 29 dX7_product_22 (by decide) (fun c22 => ?_) (fun c22 => ?_)
    · have q22 : ¬ S 3 q = 3 := fun z => c22 (by rw [z])
      refine y_iconst B (nI 0) dX7_product_29 (by decide +kernel) ?_
      refine y_callV B 1 (q := (RX7, TX7, 15)) _ _ (k_X7_holds l G _ hO) a0 rfl gX7_product_X7_holds (by decide +kernel) rfl rfl rfl rfl ⟨(Nat.le_of_ble_eq_true rfl), (Nat.le_of_ble_eq_true rfl)⟩ (Nat.le_of_ble_eq_true rfl) ⟨(Nat.le_of_ble_eq_true rfl), (Nat.le_of_ble_eq_true rfl)⟩ dX7_product_30 rfl (fun r M1 hr => ?_)
      obtain ⟨rfl, hO1, hk1⟩ := hr
      obtain ⟨b0, b1, b2, b3, b4, b5, b6, b7, b8, b9, b10, b11, b12⟩ := id hO1
      refine y_if_ne B 38 dX7_product_33 (by decide) (fun c33 => ?_) (fun c33 => absurd c33 (by decide +kernel))
      refine y_aload_n B dX7_product_38 rfl ?_
      refine y_get B (ref := "AlertIndexModel") (ci := 8) (C := RX7) (T := TX7) (N := 15) b0 rfl i_X7_product_X7 5 (by decide) (by decide +kernel) (fun _ h9 => h9) rfl dX7_product_39 ?_
      refine y_iload_n B dX7_product_42 rfl ?_
      refine y_dup2 B dX7_product_43 rfl rfl ?_
      refine y_ialoadI B (nI (S 3 q)) b3 (vp_in_nI (by omega) (by decide)) (by rw [nI_clamp (by omega)]) dX7_product_44 ?_
      refine y_iconst B (nI 1) dX7_product_45 (by decide +kernel) ?_
      refine y_iadd B (nI (S 3 q + 1)) dX7_product_46 (nI_1 _) ?_
      refine y_iastoreI B b3 (vp_in_nI (by omega) (by decide)) dX7_product_47 ?_
      rw [nI_clamp (by omega)]
      have hO2 := hO1.r3 q (S 3 q + 1)
      have kO2 := ai_km.U (e1 := ai_eI G 20 (upd (fun j => nI (S 3 j)) q (nI (S 3 q + 1)))) b3 (by decide)
      obtain ⟨c0, c1, c2, c3, c4, c5, c6, c7, c8, c9, c10, c11, c12⟩ := id hO2
      refine y_aload_n B dX7_product_48 rfl ?_
      refine y_get B (ref := "AlertIndexModel") (ci := 8) (C := RX7) (T := TX7) (N := 15) c0 rfl i_X7_product_X7 5 (by decide) (by decide +kernel) (fun _ h9 => h9) rfl dX7_product_49 ?_
      refine y_iload_n B dX7_product_52 rfl ?_
      refine y_ialoadI B (nI (S 3 q + 1)) c3 (vp_in_nI (by omega) (by decide)) (by rw [nI_clamp (by omega), ai_u_s]) dX7_product_53 ?_
      exact y_iret B dX7_product_54 (Nat.le_of_ble_eq_true rfl) (Nat.le_of_ble_eq_true rfl) (by unfold op_product; rw [eq9, if_neg (by rw [q8]; decide), if_neg q22]; exact ⟨hO2, hk1.tr kO2, _, rfl, fun _ => rfl⟩)
    · have q22 : S 3 q = 3 := (nI_eq (by omega) (by decide)).mp c22
      refine y_iconst B (nI 2) dX7_product_25 (by decide +kernel) ?_
      refine y_goto B 30 dX7_product_26 (by decide) ?_
      refine y_callV B 1 (q := (RX7, TX7, 15)) _ _ (k_X7_holds l G _ hO) a0 rfl gX7_product_X7_holds (by decide +kernel) rfl rfl rfl rfl ⟨(Nat.le_of_ble_eq_true rfl), (Nat.le_of_ble_eq_true rfl)⟩ (Nat.le_of_ble_eq_true rfl) ⟨(Nat.le_of_ble_eq_true rfl), (Nat.le_of_ble_eq_true rfl)⟩ dX7_product_30 rfl (fun r M1 hr => ?_)
      obtain ⟨rfl, hO1, hk1⟩ := hr
      obtain ⟨b0, b1, b2, b3, b4, b5, b6, b7, b8, b9, b10, b11, b12⟩ := id hO1
      refine y_if_ne B 38 dX7_product_33 (by decide) (fun c33 => absurd (by decide +kernel) c33) (fun c33 => ?_)
      refine y_iconst B (nI 0) dX7_product_36 (by decide +kernel) ?_
      exact y_iret B dX7_product_37 (Nat.le_of_ble_eq_true rfl) (Nat.le_of_ble_eq_true rfl) (by unfold op_product; rw [eq9, if_neg (by rw [q8]; decide), if_pos q22]; exact ⟨hO1, hk1, _, rfl, fun h9 => absurd h9 (Nat.succ_ne_zero _)⟩)
  · have q8 := (ai_b0 _).mp c8
    refine y_iconst B (nI 1) dX7_product_11 (by decide +kernel) ?_
    refine y_goto B 30 dX7_product_12 (by decide) ?_
    refine y_callV B 1 (q := (RX7, TX7, 15)) _ _ (k_X7_holds l G _ hO) a0 rfl gX7_product_X7_holds (by decide +kernel) rfl rfl rfl rfl ⟨(Nat.le_of_ble_eq_true rfl), (Nat.le_of_ble_eq_true rfl)⟩ (Nat.le_of_ble_eq_true rfl) ⟨(Nat.le_of_ble_eq_true rfl), (Nat.le_of_ble_eq_true rfl)⟩ dX7_product_30 rfl (fun r M1 hr => ?_)
    obtain ⟨rfl, hO1, hk1⟩ := hr
    obtain ⟨b0, b1, b2, b3, b4, b5, b6, b7, b8, b9, b10, b11, b12⟩ := id hO1
    refine y_if_ne B 38 dX7_product_33 (by decide) (fun c33 => absurd (by decide +kernel) c33) (fun c33 => ?_)
    refine y_iconst B (nI 0) dX7_product_36 (by decide +kernel) ?_
    exact y_iret B dX7_product_37 (Nat.le_of_ble_eq_true rfl) (Nat.le_of_ble_eq_true rfl) (by unfold op_product; rw [if_pos q8]; exact ⟨hO1, hk1, _, rfl, fun h9 => absurd h9 (Nat.succ_ne_zero _)⟩)
set_option maxHeartbeats 4000000 in
set_option maxRecDepth 100000 in
theorem k_X7_drop (l : Launch) (G : ai_G) (M : ai_M) {t0 : Int32} {S : ai_S} {mo : Nat} {ma : Nat → Nat} (hO : ai_O G M t0 S mo ma) (hJ : ai_J S) {z : Int32} : ai_C l yX7_drop wsX7_drop ({ frames := 2, cells := 0, slots := 0, locals := 43 } : Room) 0 0 G M [.ref mo, .int z] (fun r M1 => ai_did G M mo ma (op_drop S z) r M1) := by
  refine y_start (by decide +kernel) rfl (Nat.le_of_ble_eq_true rfl) (Nat.le_of_ble_eq_true rfl) (fun x hx => by simp only [List.mem_cons, List.not_mem_nil, or_false] at hx; rcases hx with rfl | rfl <;> rfl) ?_
  intro p e s m below meth c B hnm
  obtain ⟨a0, a1, a2, a3, a4, a5, a6, a7, a8, a9, a10, a11, a12⟩ := id hO
  have hn := hJ.2.1
  have hd := fun q hq => (hJ.2.2.2 q hq).1
  refine y_aload_n B dX7_drop_0 rfl ?_
  refine y_aload_n B dX7_drop_1 rfl ?_
  refine y_iload_n B dX7_drop_2 rfl ?_
  refine y_callV B 1 (q := (RX7, TX7, 15)) _ _ (k_X7_isQuestion l G _ hO hn hd) a0 rfl gX7_drop_X7_isQuestion (by decide +kernel) rfl rfl rfl rfl ⟨(Nat.le_of_ble_eq_true rfl), (Nat.le_of_ble_eq_true rfl)⟩ (Nat.le_of_ble_eq_true rfl) ⟨(Nat.le_of_ble_eq_true rfl), (Nat.le_of_ble_eq_true rfl)⟩ dX7_drop_3 rfl (fun r M1 hr => ?_)
  obtain ⟨rfl, e9⟩ := hr
  obtain rfl := e9.symm
  refine y_if_eq B 13 dX7_drop_6 (by decide) (fun c6 => ?_) (fun c6 => ?_)
  · have q6 := (ai_b0 _).mp c6
    refine y_iconst B (nI 1) dX7_drop_13 (by decide +kernel) ?_
    refine y_callV B 1 (q := (RX7, TX7, 15)) _ _ (k_X7_holds l G _ hO) a0 rfl gX7_drop_X7_holds (by decide +kernel) rfl rfl rfl rfl ⟨(Nat.le_of_ble_eq_true rfl), (Nat.le_of_ble_eq_true rfl)⟩ (Nat.le_of_ble_eq_true rfl) ⟨(Nat.le_of_ble_eq_true rfl), (Nat.le_of_ble_eq_true rfl)⟩ dX7_drop_14 rfl (fun r M1 hr => ?_)
    obtain ⟨rfl, hO1, hk1⟩ := hr
    obtain ⟨b0, b1, b2, b3, b4, b5, b6, b7, b8, b9, b10, b11, b12⟩ := id hO1
    refine y_if_ne B 22 dX7_drop_17 (by decide) (fun c17 => absurd (by decide +kernel) c17) (fun c17 => ?_)
    refine y_iconst B (nI 0) dX7_drop_20 (by decide +kernel) ?_
    exact y_iret B dX7_drop_21 (Nat.le_of_ble_eq_true rfl) (Nat.le_of_ble_eq_true rfl) (by unfold op_drop; rw [if_pos q6]; exact ⟨hO1, hk1, _, rfl, fun h9 => absurd h9 (Nat.succ_ne_zero _)⟩)
  · have q6 := ai_b1 c6
    obtain ⟨q, hq, rfl, hq2, eq9⟩ := ai_qo_of hn q6
    have hok := hJ.2.2.2 q hq
    have hok3 := hok.2.1
    refine y_iconst B (nI 0) dX7_drop_9 (by decide +kernel) ?_
    refine y_goto B 14 dX7_drop_10 (by decide) ?_
    refine y_callV B 1 (q := (RX7, TX7, 15)) _ _ (k_X7_holds l G _ hO) a0 rfl gX7_drop_X7_holds (by decide +kernel) rfl rfl rfl rfl ⟨(Nat.le_of_ble_eq_true rfl), (Nat.le_of_ble_eq_true rfl)⟩ (Nat.le_of_ble_eq_true rfl) ⟨(Nat.le_of_ble_eq_true rfl), (Nat.le_of_ble_eq_true rfl)⟩ dX7_drop_14 rfl (fun r M1 hr => ?_)
    obtain ⟨rfl, hO1, hk1⟩ := hr
    obtain ⟨b0, b1, b2, b3, b4, b5, b6, b7, b8, b9, b10, b11, b12⟩ := id hO1
    refine y_if_ne B 22 dX7_drop_17 (by decide) (fun c17 => ?_) (fun c17 => absurd c17 (by decide +kernel))
    refine y_aload_n B dX7_drop_22 rfl ?_
    refine y_get B (ref := "AlertIndexModel") (ci := 8) (C := RX7) (T := TX7) (N := 15) b0 rfl i_X7_drop_X7 4 (by decide) (by decide +kernel) (fun _ h9 => h9) rfl dX7_drop_23 ?_
    refine y_iload_n B dX7_drop_26 rfl ?_
    refine y_iconst B (nI 1) dX7_drop_27 (by decide +kernel) ?_
    refine y_bastoreZ B b2 (vp_in_nI (by omega) (by decide)) dX7_drop_28 ?_
    rw [nI_clamp (by omega), show vp_nar .boolean (nI 1) = nI 1 from by decide +kernel]
    have hO2 := hO1.r2 q 1
    have kO2 := ai_km.U (e1 := ai_eZ G 20 (upd (fun j => nI (S 2 j)) q (nI 1))) b2 (by decide)
    obtain ⟨c0, c1, c2, c3, c4, c5, c6, c7, c8, c9, c10, c11, c12⟩ := id hO2
    refine y_aload_n B dX7_drop_29 rfl ?_
    refine y_get B (ref := "AlertIndexModel") (ci := 8) (C := RX7) (T := TX7) (N := 15) c0 rfl i_X7_drop_X7 9 (by decide) (by decide +kernel) (fun _ h9 => h9) rfl dX7_drop_30 ?_
    refine y_iload_n B dX7_drop_33 rfl ?_
    refine y_ialoadI B (nI (S 7 q)) c7 (vp_in_nI (by omega) (by decide)) (by rw [nI_clamp (by omega), ai_u_k (by omega)]) dX7_drop_34 ?_
    exact y_iret B dX7_drop_35 (Nat.le_of_ble_eq_true rfl) (Nat.le_of_ble_eq_true rfl) (by unfold op_drop; rw [eq9, if_neg (by rw [q6]; decide)]; exact ⟨hO2, hk1.tr kO2, _, rfl, fun _ => rfl⟩)
set_option maxHeartbeats 4000000 in
set_option maxRecDepth 100000 in
theorem k_X7_setQuiet (l : Launch) (G : ai_G) (M : ai_M) {t0 : Int32} {S : ai_S} {mo : Nat} {ma : Nat → Nat} (hO : ai_O G M t0 S mo ma) (hJ : ai_J S) {z mm : Int32} : ai_C l yX7_setQuiet wsX7_setQuiet ({ frames := 2, cells := 0, slots := 0, locals := 43 } : Room) 0 0 G M [.ref mo, .int z, .int mm] (fun r M1 => ai_did G M mo ma (op_setQuiet S z mm) r M1) := by
  refine y_start (by decide +kernel) rfl (Nat.le_of_ble_eq_true rfl) (Nat.le_of_ble_eq_true rfl) (fun x hx => by simp only [List.mem_cons, List.not_mem_nil, or_false] at hx; rcases hx with rfl | rfl | rfl <;> rfl) ?_
  intro p e s m below meth c B hnm
  obtain ⟨a0, a1, a2, a3, a4, a5, a6, a7, a8, a9, a10, a11, a12⟩ := id hO
  have hn := hJ.2.1
  have hd := fun q hq => (hJ.2.2.2 q hq).1
  refine y_aload_n B dX7_setQuiet_0 rfl ?_
  refine y_iload_n B dX7_setQuiet_1 rfl ?_
  refine y_callV B 1 (q := (RX7, TX7, 15)) _ _ (k_X7_isQuestion l G _ hO hn hd) a0 rfl gX7_setQuiet_X7_isQuestion (by decide +kernel) rfl rfl rfl rfl ⟨(Nat.le_of_ble_eq_true rfl), (Nat.le_of_ble_eq_true rfl)⟩ (Nat.le_of_ble_eq_true rfl) ⟨(Nat.le_of_ble_eq_true rfl), (Nat.le_of_ble_eq_true rfl)⟩ dX7_setQuiet_2 rfl (fun r M1 hr => ?_)
  obtain ⟨rfl, e9⟩ := hr
  obtain rfl := e9.symm
  refine y_istore_n B dX7_setQuiet_5 (Nat.le_of_ble_eq_true rfl) ?_
  refine y_aload_n B dX7_setQuiet_6 rfl ?_
  refine y_iload_n B dX7_setQuiet_7 rfl ?_
  refine y_if_ne B 15 dX7_setQuiet_8 (by decide) (fun c8 => ?_) (fun c8 => ?_)
  · have q8 := ai_b1 c8
    obtain ⟨q, hq, rfl, hq2, eq9⟩ := ai_qo_of hn q8
    have hok := hJ.2.2.2 q hq
    have hok3 := hok.2.1
    refine y_iload_n B dX7_setQuiet_15 rfl ?_
    refine y_iconst B (nI 0) dX7_setQuiet_16 (by decide +kernel) ?_
    refine y_sipush B (nI 1000) dX7_setQuiet_17 (by decide +kernel) ?_
    refine y_callS B 3 _ _ (k_X7_isIn l G _) gX7_setQuiet_X7_isIn (by decide +kernel) rfl rfl rfl rfl ⟨(Nat.le_of_ble_eq_true rfl), (Nat.le_of_ble_eq_true rfl)⟩ (Nat.le_of_ble_eq_true rfl) ⟨(Nat.le_of_ble_eq_true rfl), (Nat.le_of_ble_eq_true rfl)⟩ dX7_setQuiet_20 rfl (fun r M1 hr => ?_)
    obtain ⟨rfl, e9⟩ := hr
    obtain rfl := e9.symm
    rw [ai_r_in2 (n := 1000) (by omega)]
    refine y_if_eq B 30 dX7_setQuiet_23 (by decide) (fun c23 => ?_) (fun c23 => ?_)
    · have q23 := (ai_b0 _).mp c23
      refine y_iconst B (nI 2) dX7_setQuiet_30 (by decide +kernel) ?_
      refine y_callV B 1 (q := (RX7, TX7, 15)) _ _ (k_X7_holds l G _ hO) a0 rfl gX7_setQuiet_X7_holds (by decide +kernel) rfl rfl rfl rfl ⟨(Nat.le_of_ble_eq_true rfl), (Nat.le_of_ble_eq_true rfl)⟩ (Nat.le_of_ble_eq_true rfl) ⟨(Nat.le_of_ble_eq_true rfl), (Nat.le_of_ble_eq_true rfl)⟩ dX7_setQuiet_31 rfl (fun r M1 hr => ?_)
      obtain ⟨rfl, hO1, hk1⟩ := hr
      obtain ⟨b0, b1, b2, b3, b4, b5, b6, b7, b8, b9, b10, b11, b12⟩ := id hO1
      refine y_if_ne B 39 dX7_setQuiet_34 (by decide) (fun c34 => absurd (by decide +kernel) c34) (fun c34 => ?_)
      refine y_iconst B (nI 0) dX7_setQuiet_37 (by decide +kernel) ?_
      exact y_iret B dX7_setQuiet_38 (Nat.le_of_ble_eq_true rfl) (Nat.le_of_ble_eq_true rfl) (by unfold op_setQuiet; rw [if_neg (by rw [q8]; decide), if_pos q23]; exact ⟨hO1, hk1, _, rfl, fun h9 => absurd h9 (Nat.succ_ne_zero _)⟩)
    · have q23 := ai_b1 c23
      obtain ⟨v, hv, rfl⟩ := ai_r_of (by omega) q23
      have ev9 : (nI v).toNatClampNeg = v := nI_clamp (by omega)
      refine y_iconst B (nI 0) dX7_setQuiet_26 (by decide +kernel) ?_
      refine y_goto B 31 dX7_setQuiet_27 (by decide) ?_
      refine y_callV B 1 (q := (RX7, TX7, 15)) _ _ (k_X7_holds l G _ hO) a0 rfl gX7_setQuiet_X7_holds (by decide +kernel) rfl rfl rfl rfl ⟨(Nat.le_of_ble_eq_true rfl), (Nat.le_of_ble_eq_true rfl)⟩ (Nat.le_of_ble_eq_true rfl) ⟨(Nat.le_of_ble_eq_true rfl), (Nat.le_of_ble_eq_true rfl)⟩ dX7_setQuiet_31 rfl (fun r M1 hr => ?_)
      obtain ⟨rfl, hO1, hk1⟩ := hr
      obtain ⟨b0, b1, b2, b3, b4, b5, b6, b7, b8, b9, b10, b11, b12⟩ := id hO1
      refine y_if_ne B 39 dX7_setQuiet_34 (by decide) (fun c34 => ?_) (fun c34 => absurd c34 (by decide +kernel))
      refine y_aload_n B dX7_setQuiet_39 rfl ?_
      refine y_get B (ref := "AlertIndexModel") (ci := 8) (C := RX7) (T := TX7) (N := 15) b0 rfl i_X7_setQuiet_X7 6 (by decide) (by decide +kernel) (fun _ h9 => h9) rfl dX7_setQuiet_40 ?_
      refine y_iload_n B dX7_setQuiet_43 rfl ?_
      refine y_ialoadI B (nI (S 4 q)) b4 (vp_in_nI (by omega) (by decide)) (by rw [nI_clamp (by omega)]) dX7_setQuiet_44 ?_
      refine y_istore B dX7_setQuiet_45 (Nat.le_of_ble_eq_true rfl) ?_
      refine y_aload_n B dX7_setQuiet_47 rfl ?_
      refine y_get B (ref := "AlertIndexModel") (ci := 8) (C := RX7) (T := TX7) (N := 15) b0 rfl i_X7_setQuiet_X7 6 (by decide) (by decide +kernel) (fun _ h9 => h9) rfl dX7_setQuiet_48 ?_
      refine y_iload_n B dX7_setQuiet_51 rfl ?_
      refine y_iload_n B dX7_setQuiet_52 rfl ?_
      refine y_iastoreI B b4 (vp_in_nI (by omega) (by decide)) dX7_setQuiet_53 ?_
      rw [nI_clamp (by omega)]
      have hO2 := hO1.r4 q v
      have kO2 := ai_km.U (e1 := ai_eI G 20 (upd (fun j => nI (S 4 j)) q (nI v))) b4 (by decide)
      refine y_iload B dX7_setQuiet_54 rfl ?_
      exact y_iret B dX7_setQuiet_56 (Nat.le_of_ble_eq_true rfl) (Nat.le_of_ble_eq_true rfl) (by unfold op_setQuiet; rw [eq9, ev9, if_neg (by rw [q8]; decide), if_neg (by rw [q23]; decide)]; exact ⟨hO2, hk1.tr kO2, _, rfl, fun _ => rfl⟩)
  · have q8 := (ai_b0 _).mp c8
    refine y_iconst B (nI 1) dX7_setQuiet_11 (by decide +kernel) ?_
    refine y_goto B 31 dX7_setQuiet_12 (by decide) ?_
    refine y_callV B 1 (q := (RX7, TX7, 15)) _ _ (k_X7_holds l G _ hO) a0 rfl gX7_setQuiet_X7_holds (by decide +kernel) rfl rfl rfl rfl ⟨(Nat.le_of_ble_eq_true rfl), (Nat.le_of_ble_eq_true rfl)⟩ (Nat.le_of_ble_eq_true rfl) ⟨(Nat.le_of_ble_eq_true rfl), (Nat.le_of_ble_eq_true rfl)⟩ dX7_setQuiet_31 rfl (fun r M1 hr => ?_)
    obtain ⟨rfl, hO1, hk1⟩ := hr
    obtain ⟨b0, b1, b2, b3, b4, b5, b6, b7, b8, b9, b10, b11, b12⟩ := id hO1
    refine y_if_ne B 39 dX7_setQuiet_34 (by decide) (fun c34 => absurd (by decide +kernel) c34) (fun c34 => ?_)
    refine y_iconst B (nI 0) dX7_setQuiet_37 (by decide +kernel) ?_
    exact y_iret B dX7_setQuiet_38 (Nat.le_of_ble_eq_true rfl) (Nat.le_of_ble_eq_true rfl) (by unfold op_setQuiet; rw [if_pos q8]; exact ⟨hO1, hk1, _, rfl, fun h9 => absurd h9 (Nat.succ_ne_zero _)⟩)
theorem ai_vin {v : Int32} : decide ((-1 : Int32) ≤ v ∧ v ≤ nI 63) = decide (v = -1 ∨ ai_r v 64 = true) := by
  refine decide_eq_decide.mpr ?_
  unfold ai_r
  have e : (nI 63).toInt = 63 := by decide
  have e1 : (-1 : Int32).toInt = -1 := by decide
  rw [Int32.le_iff_toInt_le, Int32.le_iff_toInt_le, ← Int32.toInt_inj, e, e1, decide_eq_true_eq]
  omega
set_option maxHeartbeats 4000000 in
set_option maxRecDepth 100000 in
theorem k_X7_set (l : Launch) (G : ai_G) (M : ai_M) {t0 : Int32} {S : ai_S} {mo : Nat} {ma : Nat → Nat} (hO : ai_O G M t0 S mo ma) (hJ : ai_J S) {z v : Int32} : ai_C l yX7_set wsX7_set ({ frames := 2, cells := 0, slots := 0, locals := 42 } : Room) 0 0 G M [.ref mo, .int z, .int v] (fun r M1 => ai_did G M mo ma (op_set S z v) r M1) := by
  refine y_start (by decide +kernel) rfl (Nat.le_of_ble_eq_true rfl) (Nat.le_of_ble_eq_true rfl) (fun x hx => by simp only [List.mem_cons, List.not_mem_nil, or_false] at hx; rcases hx with rfl | rfl | rfl <;> rfl) ?_
  intro p e s m below meth c B hnm
  obtain ⟨a0, a1, a2, a3, a4, a5, a6, a7, a8, a9, a10, a11, a12⟩ := id hO
  have hn := hJ.2.1
  have hd := fun q hq => (hJ.2.2.2 q hq).1
  refine y_aload_n B dX7_set_0 rfl ?_
  refine y_iload_n B dX7_set_1 rfl ?_
  refine y_callS B 1 _ _ (k_X7_isName l G _) gX7_set_X7_isName (by decide +kernel) rfl rfl rfl rfl ⟨(Nat.le_of_ble_eq_true rfl), (Nat.le_of_ble_eq_true rfl)⟩ (Nat.le_of_ble_eq_true rfl) ⟨(Nat.le_of_ble_eq_true rfl), (Nat.le_of_ble_eq_true rfl)⟩ dX7_set_2 rfl (fun r M1 hr => ?_)
  obtain ⟨rfl, e9⟩ := hr
  obtain rfl := e9.symm
  refine y_if_ne B 12 dX7_set_5 (by decide) (fun c5 => ?_) (fun c5 => ?_)
  · have q5 := ai_b1 c5
    obtain ⟨u, hu, rfl⟩ := ai_r_of (by omega) q5
    have eu9 : (nI u).toNatClampNeg = u := nI_clamp (by omega)
    refine y_iload_n B dX7_set_12 rfl ?_
    refine y_iconst B (-1) dX7_set_13 (by decide +kernel) ?_
    refine y_bipush B (nI 63) dX7_set_14 (by decide +kernel) ?_
    refine y_callS B 3 _ _ (k_X7_isIn l G _) gX7_set_X7_isIn (by decide +kernel) rfl rfl rfl rfl ⟨(Nat.le_of_ble_eq_true rfl), (Nat.le_of_ble_eq_true rfl)⟩ (Nat.le_of_ble_eq_true rfl) ⟨(Nat.le_of_ble_eq_true rfl), (Nat.le_of_ble_eq_true rfl)⟩ dX7_set_16 rfl (fun r M1 hr => ?_)
    obtain ⟨rfl, e9⟩ := hr
    obtain rfl := e9.symm
    rw [ai_vin]
    refine y_if_eq B 26 dX7_set_19 (by decide) (fun c19 => ?_) (fun c19 => ?_)
    · have q19 := of_decide_eq_false ((ai_b0 _).mp c19)
      refine y_iconst B (nI 2) dX7_set_26 (by decide +kernel) ?_
      refine y_callV B 1 (q := (RX7, TX7, 15)) _ _ (k_X7_holds l G _ hO) a0 rfl gX7_set_X7_holds (by decide +kernel) rfl rfl rfl rfl ⟨(Nat.le_of_ble_eq_true rfl), (Nat.le_of_ble_eq_true rfl)⟩ (Nat.le_of_ble_eq_true rfl) ⟨(Nat.le_of_ble_eq_true rfl), (Nat.le_of_ble_eq_true rfl)⟩ dX7_set_27 rfl (fun r M1 hr => ?_)
      obtain ⟨rfl, hO1, hk1⟩ := hr
      obtain ⟨b0, b1, b2, b3, b4, b5, b6, b7, b8, b9, b10, b11, b12⟩ := id hO1
      refine y_if_ne B 35 dX7_set_30 (by decide) (fun c30 => absurd (by decide +kernel) c30) (fun c30 => ?_)
      refine y_iconst B (nI 0) dX7_set_33 (by decide +kernel) ?_
      exact y_iret B dX7_set_34 (Nat.le_of_ble_eq_true rfl) (Nat.le_of_ble_eq_true rfl) (by unfold op_set; rw [if_neg (by rw [q5]; decide), if_neg q19]; exact ⟨hO1, hk1, _, rfl, fun h9 => absurd h9 (Nat.succ_ne_zero _)⟩)
    · have q19 := of_decide_eq_true (ai_b1 c19)
      have hv9 := ai_dn_nD q19
      refine y_iconst B (nI 0) dX7_set_22 (by decide +kernel) ?_
      refine y_goto B 27 dX7_set_23 (by decide) ?_
      refine y_callV B 1 (q := (RX7, TX7, 15)) _ _ (k_X7_holds l G _ hO) a0 rfl gX7_set_X7_holds (by decide +kernel) rfl rfl rfl rfl ⟨(Nat.le_of_ble_eq_true rfl), (Nat.le_of_ble_eq_true rfl)⟩ (Nat.le_of_ble_eq_true rfl) ⟨(Nat.le_of_ble_eq_true rfl), (Nat.le_of_ble_eq_true rfl)⟩ dX7_set_27 rfl (fun r M1 hr => ?_)
      obtain ⟨rfl, hO1, hk1⟩ := hr
      obtain ⟨b0, b1, b2, b3, b4, b5, b6, b7, b8, b9, b10, b11, b12⟩ := id hO1
      refine y_if_ne B 35 dX7_set_30 (by decide) (fun c30 => ?_) (fun c30 => absurd c30 (by decide +kernel))
      refine y_aload_n B dX7_set_35 rfl ?_
      refine y_get B (ref := "AlertIndexModel") (ci := 8) (C := RX7) (T := TX7) (N := 15) b0 rfl i_X7_set_X7 3 (by decide) (by decide +kernel) (fun _ h9 => h9) rfl dX7_set_36 ?_
      refine y_iload_n B dX7_set_39 rfl ?_
      refine y_ialoadI B (ai_nD (S 1 u)) b1 (vp_in_nI (by omega) (by decide)) (by rw [nI_clamp (by omega)]) dX7_set_40 ?_
      refine y_istore_n B dX7_set_41 (Nat.le_of_ble_eq_true rfl) ?_
      refine y_aload_n B dX7_set_42 rfl ?_
      refine y_get B (ref := "AlertIndexModel") (ci := 8) (C := RX7) (T := TX7) (N := 15) b0 rfl i_X7_set_X7 3 (by decide) (by decide +kernel) (fun _ h9 => h9) rfl dX7_set_43 ?_
      refine y_iload_n B dX7_set_46 rfl ?_
      refine y_iload_n B dX7_set_47 rfl ?_
      refine y_iastoreI B b1 (vp_in_nI (by omega) (by decide)) dX7_set_48 ?_
      rw [nI_clamp (by omega)]
      have hO2 := hO1.r1 u (ai_dn v)
      rw [hv9.1] at hO2
      have kO2 := ai_km.U (e1 := ai_eI G 6 (upd (fun j => ai_nD (S 1 j)) u v)) b1 (by decide)
      refine y_iload_n B dX7_set_49 rfl ?_
      exact y_iret B dX7_set_50 (Nat.le_of_ble_eq_true rfl) (Nat.le_of_ble_eq_true rfl) (by unfold op_set; rw [eu9, if_neg (by rw [q5]; decide), if_pos q19]; exact ⟨hO2, hk1.tr kO2, _, rfl, fun _ => rfl⟩)
  · have q5 := (ai_b0 _).mp c5
    refine y_iconst B (nI 1) dX7_set_8 (by decide +kernel) ?_
    refine y_goto B 27 dX7_set_9 (by decide) ?_
    refine y_callV B 1 (q := (RX7, TX7, 15)) _ _ (k_X7_holds l G _ hO) a0 rfl gX7_set_X7_holds (by decide +kernel) rfl rfl rfl rfl ⟨(Nat.le_of_ble_eq_true rfl), (Nat.le_of_ble_eq_true rfl)⟩ (Nat.le_of_ble_eq_true rfl) ⟨(Nat.le_of_ble_eq_true rfl), (Nat.le_of_ble_eq_true rfl)⟩ dX7_set_27 rfl (fun r M1 hr => ?_)
    obtain ⟨rfl, hO1, hk1⟩ := hr
    obtain ⟨b0, b1, b2, b3, b4, b5, b6, b7, b8, b9, b10, b11, b12⟩ := id hO1
    refine y_if_ne B 35 dX7_set_30 (by decide) (fun c30 => absurd (by decide +kernel) c30) (fun c30 => ?_)
    refine y_iconst B (nI 0) dX7_set_33 (by decide +kernel) ?_
    exact y_iret B dX7_set_34 (Nat.le_of_ble_eq_true rfl) (Nat.le_of_ble_eq_true rfl) (by unfold op_set; rw [if_pos q5]; exact ⟨hO1, hk1, _, rfl, fun h9 => absurd h9 (Nat.succ_ne_zero _)⟩)
set_option maxHeartbeats 4000000 in
set_option maxRecDepth 100000 in
theorem k_X7_alerts (l : Launch) (G : ai_G) (M : ai_M) {t0 : Int32} {S : ai_S} {mo : Nat} {ma : Nat → Nat} (hO : ai_O G M t0 S mo ma) (hJ : ai_J S) {z : Int32} : ai_C l yX7_alerts wsX7_alerts ({ frames := 2, cells := 0, slots := 0, locals := 43 } : Room) 0 0 G M [.ref mo, .int z] (fun r M1 => ai_did G M mo ma (op_alerts S z) r M1) := by
  refine y_start (by decide +kernel) rfl (Nat.le_of_ble_eq_true rfl) (Nat.le_of_ble_eq_true rfl) (fun x hx => by simp only [List.mem_cons, List.not_mem_nil, or_false] at hx; rcases hx with rfl | rfl <;> rfl) ?_
  intro p e s m below meth c B hnm
  obtain ⟨a0, a1, a2, a3, a4, a5, a6, a7, a8, a9, a10, a11, a12⟩ := id hO
  have hn := hJ.2.1
  have hd := fun q hq => (hJ.2.2.2 q hq).1
  refine y_aload_n B dX7_alerts_0 rfl ?_
  refine y_aload_n B dX7_alerts_1 rfl ?_
  refine y_iload_n B dX7_alerts_2 rfl ?_
  refine y_callV B 1 (q := (RX7, TX7, 15)) _ _ (k_X7_isQuestion l G _ hO hn hd) a0 rfl gX7_alerts_X7_isQuestion (by decide +kernel) rfl rfl rfl rfl ⟨(Nat.le_of_ble_eq_true rfl), (Nat.le_of_ble_eq_true rfl)⟩ (Nat.le_of_ble_eq_true rfl) ⟨(Nat.le_of_ble_eq_true rfl), (Nat.le_of_ble_eq_true rfl)⟩ dX7_alerts_3 rfl (fun r M1 hr => ?_)
  obtain ⟨rfl, e9⟩ := hr
  obtain rfl := e9.symm
  refine y_if_eq B 13 dX7_alerts_6 (by decide) (fun c6 => ?_) (fun c6 => ?_)
  · have q6 := (ai_b0 _).mp c6
    refine y_iconst B (nI 1) dX7_alerts_13 (by decide +kernel) ?_
    refine y_callV B 1 (q := (RX7, TX7, 15)) _ _ (k_X7_holds l G _ hO) a0 rfl gX7_alerts_X7_holds (by decide +kernel) rfl rfl rfl rfl ⟨(Nat.le_of_ble_eq_true rfl), (Nat.le_of_ble_eq_true rfl)⟩ (Nat.le_of_ble_eq_true rfl) ⟨(Nat.le_of_ble_eq_true rfl), (Nat.le_of_ble_eq_true rfl)⟩ dX7_alerts_14 rfl (fun r M1 hr => ?_)
    obtain ⟨rfl, hO1, hk1⟩ := hr
    obtain ⟨b0, b1, b2, b3, b4, b5, b6, b7, b8, b9, b10, b11, b12⟩ := id hO1
    refine y_if_eq B 29 dX7_alerts_17 (by decide) (fun c17 => ?_) (fun c17 => absurd (by decide +kernel) c17)
    refine y_iconst B (nI 0) dX7_alerts_29 (by decide +kernel) ?_
    exact y_iret B dX7_alerts_30 (Nat.le_of_ble_eq_true rfl) (Nat.le_of_ble_eq_true rfl) (by unfold op_alerts; rw [if_pos q6]; exact ⟨hO1, hk1, _, rfl, fun h9 => absurd h9 (Nat.succ_ne_zero _)⟩)
  · have q6 := ai_b1 c6
    obtain ⟨q, hq, rfl, hq2, eq9⟩ := ai_qo_of hn q6
    have hok := hJ.2.2.2 q hq
    have hok3 := hok.2.1
    refine y_iconst B (nI 0) dX7_alerts_9 (by decide +kernel) ?_
    refine y_goto B 14 dX7_alerts_10 (by decide) ?_
    refine y_callV B 1 (q := (RX7, TX7, 15)) _ _ (k_X7_holds l G _ hO) a0 rfl gX7_alerts_X7_holds (by decide +kernel) rfl rfl rfl rfl ⟨(Nat.le_of_ble_eq_true rfl), (Nat.le_of_ble_eq_true rfl)⟩ (Nat.le_of_ble_eq_true rfl) ⟨(Nat.le_of_ble_eq_true rfl), (Nat.le_of_ble_eq_true rfl)⟩ dX7_alerts_14 rfl (fun r M1 hr => ?_)
    obtain ⟨rfl, hO1, hk1⟩ := hr
    obtain ⟨b0, b1, b2, b3, b4, b5, b6, b7, b8, b9, b10, b11, b12⟩ := id hO1
    refine y_if_eq B 29 dX7_alerts_17 (by decide) (fun c17 => absurd c17 (by decide +kernel)) (fun c17 => ?_)
    refine y_aload_n B dX7_alerts_20 rfl ?_
    refine y_get B (ref := "AlertIndexModel") (ci := 8) (C := RX7) (T := TX7) (N := 15) b0 rfl i_X7_alerts_X7 8 (by decide) (by decide +kernel) (fun _ h9 => h9) rfl dX7_alerts_21 ?_
    refine y_iload_n B dX7_alerts_24 rfl ?_
    refine y_ialoadI B (nI (S 6 q)) b6 (vp_in_nI (by omega) (by decide)) (by rw [nI_clamp (by omega)]) dX7_alerts_25 ?_
    refine y_goto B 30 dX7_alerts_26 (by decide) ?_
    exact y_iret B dX7_alerts_30 (Nat.le_of_ble_eq_true rfl) (Nat.le_of_ble_eq_true rfl) (by unfold op_alerts; rw [eq9, if_neg (by rw [q6]; decide)]; exact ⟨hO1, hk1, _, rfl, fun _ => rfl⟩)
set_option maxHeartbeats 4000000 in
set_option maxRecDepth 100000 in
theorem k_X7_batch (l : Launch) (G : ai_G) (M : ai_M) {t0 : Int32} {S : ai_S} {mo : Nat} {ma : Nat → Nat} (hO : ai_O G M t0 S mo ma) (hJ : ai_J S) {z : Int32} : ai_C l yX7_batch wsX7_batch ({ frames := 2, cells := 0, slots := 0, locals := 43 } : Room) 0 0 G M [.ref mo, .int z] (fun r M1 => ai_did G M mo ma (op_batch S z) r M1) := by
  refine y_start (by decide +kernel) rfl (Nat.le_of_ble_eq_true rfl) (Nat.le_of_ble_eq_true rfl) (fun x hx => by simp only [List.mem_cons, List.not_mem_nil, or_false] at hx; rcases hx with rfl | rfl <;> rfl) ?_
  intro p e s m below meth c B hnm
  obtain ⟨a0, a1, a2, a3, a4, a5, a6, a7, a8, a9, a10, a11, a12⟩ := id hO
  have hn := hJ.2.1
  have hd := fun q hq => (hJ.2.2.2 q hq).1
  refine y_aload_n B dX7_batch_0 rfl ?_
  refine y_aload_n B dX7_batch_1 rfl ?_
  refine y_iload_n B dX7_batch_2 rfl ?_
  refine y_callV B 1 (q := (RX7, TX7, 15)) _ _ (k_X7_isQuestion l G _ hO hn hd) a0 rfl gX7_batch_X7_isQuestion (by decide +kernel) rfl rfl rfl rfl ⟨(Nat.le_of_ble_eq_true rfl), (Nat.le_of_ble_eq_true rfl)⟩ (Nat.le_of_ble_eq_true rfl) ⟨(Nat.le_of_ble_eq_true rfl), (Nat.le_of_ble_eq_true rfl)⟩ dX7_batch_3 rfl (fun r M1 hr => ?_)
  obtain ⟨rfl, e9⟩ := hr
  obtain rfl := e9.symm
  refine y_if_eq B 13 dX7_batch_6 (by decide) (fun c6 => ?_) (fun c6 => ?_)
  · have q6 := (ai_b0 _).mp c6
    refine y_iconst B (nI 1) dX7_batch_13 (by decide +kernel) ?_
    refine y_callV B 1 (q := (RX7, TX7, 15)) _ _ (k_X7_holds l G _ hO) a0 rfl gX7_batch_X7_holds (by decide +kernel) rfl rfl rfl rfl ⟨(Nat.le_of_ble_eq_true rfl), (Nat.le_of_ble_eq_true rfl)⟩ (Nat.le_of_ble_eq_true rfl) ⟨(Nat.le_of_ble_eq_true rfl), (Nat.le_of_ble_eq_true rfl)⟩ dX7_batch_14 rfl (fun r M1 hr => ?_)
    obtain ⟨rfl, hO1, hk1⟩ := hr
    obtain ⟨b0, b1, b2, b3, b4, b5, b6, b7, b8, b9, b10, b11, b12⟩ := id hO1
    refine y_if_eq B 29 dX7_batch_17 (by decide) (fun c17 => ?_) (fun c17 => absurd (by decide +kernel) c17)
    refine y_iconst B (nI 0) dX7_batch_29 (by decide +kernel) ?_
    exact y_iret B dX7_batch_30 (Nat.le_of_ble_eq_true rfl) (Nat.le_of_ble_eq_true rfl) (by unfold op_batch; rw [if_pos q6]; exact ⟨hO1, hk1, _, rfl, fun h9 => absurd h9 (Nat.succ_ne_zero _)⟩)
  · have q6 := ai_b1 c6
    obtain ⟨q, hq, rfl, hq2, eq9⟩ := ai_qo_of hn q6
    have hok := hJ.2.2.2 q hq
    have hok3 := hok.2.1
    refine y_iconst B (nI 0) dX7_batch_9 (by decide +kernel) ?_
    refine y_goto B 14 dX7_batch_10 (by decide) ?_
    refine y_callV B 1 (q := (RX7, TX7, 15)) _ _ (k_X7_holds l G _ hO) a0 rfl gX7_batch_X7_holds (by decide +kernel) rfl rfl rfl rfl ⟨(Nat.le_of_ble_eq_true rfl), (Nat.le_of_ble_eq_true rfl)⟩ (Nat.le_of_ble_eq_true rfl) ⟨(Nat.le_of_ble_eq_true rfl), (Nat.le_of_ble_eq_true rfl)⟩ dX7_batch_14 rfl (fun r M1 hr => ?_)
    obtain ⟨rfl, hO1, hk1⟩ := hr
    obtain ⟨b0, b1, b2, b3, b4, b5, b6, b7, b8, b9, b10, b11, b12⟩ := id hO1
    refine y_if_eq B 29 dX7_batch_17 (by decide) (fun c17 => absurd c17 (by decide +kernel)) (fun c17 => ?_)
    refine y_aload_n B dX7_batch_20 rfl ?_
    refine y_get B (ref := "AlertIndexModel") (ci := 8) (C := RX7) (T := TX7) (N := 15) b0 rfl i_X7_batch_X7 9 (by decide) (by decide +kernel) (fun _ h9 => h9) rfl dX7_batch_21 ?_
    refine y_iload_n B dX7_batch_24 rfl ?_
    refine y_ialoadI B (nI (S 7 q)) b7 (vp_in_nI (by omega) (by decide)) (by rw [nI_clamp (by omega)]) dX7_batch_25 ?_
    refine y_goto B 30 dX7_batch_26 (by decide) ?_
    exact y_iret B dX7_batch_30 (Nat.le_of_ble_eq_true rfl) (Nat.le_of_ble_eq_true rfl) (by unfold op_batch; rw [eq9, if_neg (by rw [q6]; decide)]; exact ⟨hO1, hk1, _, rfl, fun _ => rfl⟩)

