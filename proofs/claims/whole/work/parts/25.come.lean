/-! ===== THE MODEL: pieces, test, come ===== -/
def ai_pl : Nat → Nat → Nat → Nat
  | 0, _, _ => 0
  | i + 1, b, h => if b % 2 ^ (i + 1) = 0 ∧ b + 2 ^ (i + 1) ≤ h + 1 then i + 1 else ai_pl i b h
theorem ai_pl6 : ∀ b, b < 64 → ∀ h, h < 64 → ai_pl 6 b h = ai_lv b h := by decide +kernel
theorem i_X7_test_X7 : ∀ w ∈ wsX70, w ∈ wsX7_test := fun _ h => List.mem_cons_of_mem _ (List.mem_append_right _ h)
theorem i_X7_come_X7 : ∀ w ∈ wsX70, w ∈ wsX7_come := fun _ h => List.mem_cons_of_mem _ (List.mem_append_right _ h)
theorem ai_O.k1 {G : ai_G} {M : ai_M} {t : Int32} {S : ai_S} {mo : Nat} {ma : Nat → Nat} (h : ai_O G M t S mo ma) (i v : Nat) : ai_km M (ai_U M (ma 1) 21 (ai_eI G 6 (upd (fun j => ai_nD (S 1 j)) i (ai_nD v)))) := by
  obtain ⟨h0, h1, h2, h3, h4, h5, h6, h7, h8, h9, h10, h11, h12⟩ := h
  exact ai_km.U h1 (by decide)
theorem ai_O.k2 {G : ai_G} {M : ai_M} {t : Int32} {S : ai_S} {mo : Nat} {ma : Nat → Nat} (h : ai_O G M t S mo ma) (i v : Nat) : ai_km M (ai_U M (ma 2) 22 (ai_eZ G 20 (upd (fun j => nI (S 2 j)) i (nI v)))) := by
  obtain ⟨h0, h1, h2, h3, h4, h5, h6, h7, h8, h9, h10, h11, h12⟩ := h
  exact ai_km.U h2 (by decide)
theorem ai_O.k3 {G : ai_G} {M : ai_M} {t : Int32} {S : ai_S} {mo : Nat} {ma : Nat → Nat} (h : ai_O G M t S mo ma) (i v : Nat) : ai_km M (ai_U M (ma 3) 23 (ai_eI G 20 (upd (fun j => nI (S 3 j)) i (nI v)))) := by
  obtain ⟨h0, h1, h2, h3, h4, h5, h6, h7, h8, h9, h10, h11, h12⟩ := h
  exact ai_km.U h3 (by decide)
theorem ai_O.k4 {G : ai_G} {M : ai_M} {t : Int32} {S : ai_S} {mo : Nat} {ma : Nat → Nat} (h : ai_O G M t S mo ma) (i v : Nat) : ai_km M (ai_U M (ma 4) 24 (ai_eI G 20 (upd (fun j => nI (S 4 j)) i (nI v)))) := by
  obtain ⟨h0, h1, h2, h3, h4, h5, h6, h7, h8, h9, h10, h11, h12⟩ := h
  exact ai_km.U h4 (by decide)
theorem ai_O.k5 {G : ai_G} {M : ai_M} {t : Int32} {S : ai_S} {mo : Nat} {ma : Nat → Nat} (h : ai_O G M t S mo ma) (i v : Nat) : ai_km M (ai_U M (ma 5) 25 (ai_eI G 20 (upd (fun j => nI (S 5 j)) i (nI v)))) := by
  obtain ⟨h0, h1, h2, h3, h4, h5, h6, h7, h8, h9, h10, h11, h12⟩ := h
  exact ai_km.U h5 (by decide)
theorem ai_O.k6 {G : ai_G} {M : ai_M} {t : Int32} {S : ai_S} {mo : Nat} {ma : Nat → Nat} (h : ai_O G M t S mo ma) (i v : Nat) : ai_km M (ai_U M (ma 6) 26 (ai_eI G 20 (upd (fun j => nI (S 6 j)) i (nI v)))) := by
  obtain ⟨h0, h1, h2, h3, h4, h5, h6, h7, h8, h9, h10, h11, h12⟩ := h
  exact ai_km.U h6 (by decide)
theorem ai_O.k7 {G : ai_G} {M : ai_M} {t : Int32} {S : ai_S} {mo : Nat} {ma : Nat → Nat} (h : ai_O G M t S mo ma) (i v : Nat) : ai_km M (ai_U M (ma 7) 27 (ai_eI G 20 (upd (fun j => nI (S 7 j)) i (nI v)))) := by
  obtain ⟨h0, h1, h2, h3, h4, h5, h6, h7, h8, h9, h10, h11, h12⟩ := h
  exact ai_km.U h7 (by decide)
theorem ai_O.k8 {G : ai_G} {M : ai_M} {t : Int32} {S : ai_S} {mo : Nat} {ma : Nat → Nat} (h : ai_O G M t S mo ma) (i v : Nat) : ai_km M (ai_U M (ma 8) 28 (ai_eI G 60 (upd (fun j => nI (S 8 j)) i (nI v)))) := by
  obtain ⟨h0, h1, h2, h3, h4, h5, h6, h7, h8, h9, h10, h11, h12⟩ := h
  exact ai_km.U h8 (by decide)
theorem ai_O.k9 {G : ai_G} {M : ai_M} {t : Int32} {S : ai_S} {mo : Nat} {ma : Nat → Nat} (h : ai_O G M t S mo ma) (i v : Nat) : ai_km M (ai_U M (ma 9) 29 (ai_eI G 240 (upd (fun j => nI (S 9 j)) i (nI v)))) := by
  obtain ⟨h0, h1, h2, h3, h4, h5, h6, h7, h8, h9, h10, h11, h12⟩ := h
  exact ai_km.U h9 (by decide)
theorem ai_O.k10 {G : ai_G} {M : ai_M} {t : Int32} {S : ai_S} {mo : Nat} {ma : Nat → Nat} (h : ai_O G M t S mo ma) (i v : Nat) : ai_km M (ai_U M (ma 10) 30 (ai_eI G 240 (upd (fun j => nI (S 10 j)) i (nI v)))) := by
  obtain ⟨h0, h1, h2, h3, h4, h5, h6, h7, h8, h9, h10, h11, h12⟩ := h
  exact ai_km.U h10 (by decide)
theorem ai_O.k11 {G : ai_G} {M : ai_M} {t : Int32} {S : ai_S} {mo : Nat} {ma : Nat → Nat} (h : ai_O G M t S mo ma) (i v : Nat) : ai_km M (ai_U M (ma 11) 31 (ai_eI G 240 (upd (fun j => nI (S 11 j)) i (nI v)))) := by
  obtain ⟨h0, h1, h2, h3, h4, h5, h6, h7, h8, h9, h10, h11, h12⟩ := h
  exact ai_km.U h11 (by decide)
theorem ai_O.k12 {G : ai_G} {M : ai_M} {t : Int32} {S : ai_S} {mo : Nat} {ma : Nat → Nat} (h : ai_O G M t S mo ma) (i v : Nat) : ai_km M (ai_U M (ma 12) 32 (ai_eZ G 240 (upd (fun j => nI (S 12 j)) i (nI v)))) := by
  obtain ⟨h0, h1, h2, h3, h4, h5, h6, h7, h8, h9, h10, h11, h12⟩ := h
  exact ai_km.U h12 (by decide)
set_option maxHeartbeats 4000000 in
set_option maxRecDepth 100000 in
theorem k_X7_piece (l : Launch) (G : ai_G) (M : ai_M) {b h : Nat} (hb : b < 64) (hh : h < 64) : ai_C l yX7_piece wsX7_piece ({ frames := 0, cells := 0, slots := 0, locals := 0 } : Room) 0 0 G M [.int (nI b), .int (nI h)] (fun r M1 => r = some (.int (nI (2 ^ ai_lv b h))) ∧ M1 = M) := by
  refine y_start (by decide +kernel) rfl (Nat.le_of_ble_eq_true rfl) (Nat.le_of_ble_eq_true rfl) (fun x hx => by simp only [List.mem_cons, List.not_mem_nil, or_false] at hx; rcases hx with rfl | rfl <;> rfl) ?_
  intro p e s m below meth c B hnm
  have lp : ∀ (d : Nat) (i : Nat), (6 < i + d) → (i ≤ 6) → ai_Y p l e ({ frames := 0, cells := 0, slots := 0, locals := 0 } : Room) s m [.int (nI b), .int (nI h)].toArray below meth c G (MQ below (ai_Q G (fun r M1 => r = some (.int (nI (2 ^ ai_lv b h))) ∧ M1 = M)) [.int (nI b), .int (nI h)].toArray s 0 0 (ai_A G)) M 0 0 [some (.int (nI b)), some (.int (nI h)), some (.int (nI (2 ^ ai_pl i b h))), some (.int (nI (2 ^ (i + 1))))] 4 [] := by
    intro d
    induction d with
    | zero => intros; omega
    | succ d ih =>
      intro i hm hi
      have hp := ai_p2 i (by omega)
      have hmod : b % 2 ^ (i + 1) < 2 ^ (i + 1) := Nat.mod_lt _ (by omega)
      refine y_iload_n B dX7_piece_4 rfl ?_
      refine y_bipush B (nI 64) dX7_piece_5 (by decide +kernel) ?_
      refine y_icmp_gt B 38 dX7_piece_7 (by decide) (fun c7 => ?_) (fun c7 => ?_)
      · have q7 : i = 6 := ai_p66 i (by omega) (Nat.lt_of_not_le (fun z => absurd c7 (Int32.not_lt.mpr ((nI_leI (by omega) (by decide)).mpr z))))
        refine y_iload_n B dX7_piece_38 rfl ?_
        exact y_iret B dX7_piece_39 (Nat.le_of_ble_eq_true rfl) (Nat.le_of_ble_eq_true rfl) (⟨by rw [q7, ai_pl6 b hb h hh], rfl⟩)
      · have q7 : i < 6 := ai_p26 i (by omega) (fun z => c7 (Int32.not_le.mp (fun y => absurd ((nI_leI (by omega) (by decide)).mp y) (by omega))))
        refine y_iload_n B dX7_piece_10 rfl ?_
        refine y_iload_n B dX7_piece_11 rfl ?_
        refine y_irem B (nI (b % 2 ^ (i + 1))) dX7_piece_12 (nI_ne0 (by omega) (by omega)) (pk_rem (by omega) (by omega) (by omega)) ?_
        refine y_if_ne B 29 dX7_piece_13 (by decide) (fun c13 => ?_) (fun c13 => ?_)
        · have q13 : ¬ b % 2 ^ (i + 1) = 0 := fun z => c13 (by rw [z]; rfl)
          refine y_iload_n B dX7_piece_29 rfl ?_
          refine y_istore_n B dX7_piece_30 (Nat.le_of_ble_eq_true rfl) ?_
          refine y_iload_n B dX7_piece_31 rfl ?_
          refine y_iload_n B dX7_piece_32 rfl ?_
          refine y_iadd B (nI (2 ^ (i + 1 + 1))) dX7_piece_33 ((nI_add _ _).trans (congrArg nI (by rw [Nat.pow_succ 2 (i + 1)]; omega))) ?_
          refine y_istore_n B dX7_piece_34 (Nat.le_of_ble_eq_true rfl) ?_
          refine y_goto B 4 dX7_piece_35 (by decide) ?_
          have e : ai_pl (i + 1) b h = ai_pl i b h := by conv => lhs; unfold ai_pl; rw [if_neg (fun z => q13 z.1)]
          have z9 := ih (i + 1) (by omega) (by omega)
          rw [e] at z9
          exact z9
        · have q13 : b % 2 ^ (i + 1) = 0 := (nI_eq (by omega) (by decide)).mp c13
          refine y_iload_n B dX7_piece_16 rfl ?_
          refine y_iload_n B dX7_piece_17 rfl ?_
          refine y_iadd B (nI (b + 2 ^ (i + 1))) dX7_piece_18 (nI_add _ _) ?_
          refine y_iconst B (nI 1) dX7_piece_19 (by decide +kernel) ?_
          refine y_isub B (nI (b + 2 ^ (i + 1) - 1)) dX7_piece_20 (pk_sub (by omega)) ?_
          refine y_iload_n B dX7_piece_21 rfl ?_
          refine y_icmp_gt B 29 dX7_piece_22 (by decide) (fun c22 => ?_) (fun c22 => ?_)
          · have q22 : h < b + 2 ^ (i + 1) - 1 := Nat.lt_of_not_le (fun z => absurd c22 (Int32.not_lt.mpr ((nI_leI (by omega) (by omega)).mpr z)))
            refine y_iload_n B dX7_piece_29 rfl ?_
            refine y_istore_n B dX7_piece_30 (Nat.le_of_ble_eq_true rfl) ?_
            refine y_iload_n B dX7_piece_31 rfl ?_
            refine y_iload_n B dX7_piece_32 rfl ?_
            refine y_iadd B (nI (2 ^ (i + 1 + 1))) dX7_piece_33 ((nI_add _ _).trans (congrArg nI (by rw [Nat.pow_succ 2 (i + 1)]; omega))) ?_
            refine y_istore_n B dX7_piece_34 (Nat.le_of_ble_eq_true rfl) ?_
            refine y_goto B 4 dX7_piece_35 (by decide) ?_
            have e : ai_pl (i + 1) b h = ai_pl i b h := by conv => lhs; unfold ai_pl; rw [if_neg (fun z => by omega)]
            have z9 := ih (i + 1) (by omega) (by omega)
            rw [e] at z9
            exact z9
          · have q22 : b + 2 ^ (i + 1) - 1 ≤ h := (nI_leI (by omega) (by omega)).mp (Int32.not_lt.mp c22)
            refine y_iload_n B dX7_piece_25 rfl ?_
            refine y_goto B 30 dX7_piece_26 (by decide) ?_
            refine y_istore_n B dX7_piece_30 (Nat.le_of_ble_eq_true rfl) ?_
            refine y_iload_n B dX7_piece_31 rfl ?_
            refine y_iload_n B dX7_piece_32 rfl ?_
            refine y_iadd B (nI (2 ^ (i + 1 + 1))) dX7_piece_33 ((nI_add _ _).trans (congrArg nI (by rw [Nat.pow_succ 2 (i + 1)]; omega))) ?_
            refine y_istore_n B dX7_piece_34 (Nat.le_of_ble_eq_true rfl) ?_
            refine y_goto B 4 dX7_piece_35 (by decide) ?_
            have e : ai_pl (i + 1) b h = i + 1 := by conv => lhs; unfold ai_pl; rw [if_pos (show _ ∧ _ from ⟨q13, by omega⟩)]
            have z9 := ih (i + 1) (by omega) (by omega)
            rw [e] at z9
            exact z9
  refine y_iconst B (nI 1) dX7_piece_0 (by decide +kernel) ?_
  refine y_istore_n B dX7_piece_1 (Nat.le_of_ble_eq_true rfl) ?_
  refine y_iconst B (nI 2) dX7_piece_2 (by decide +kernel) ?_
  refine y_istore_n B dX7_piece_3 (Nat.le_of_ble_eq_true rfl) ?_
  exact lp 7 0 (by omega) (by omega)
set_option maxHeartbeats 4000000 in
set_option maxRecDepth 100000 in
theorem k_X7_pieces (l : Launch) (G : ai_G) (M : ai_M) {t0 : Int32} {S : ai_S} {mo : Nat} {ma : Nat → Nat} (hO : ai_O G M t0 S mo ma) (hJ : ai_J S) {lo hi : Int32} : ai_C l yX7_pieces wsX7_pieces ({ frames := 2, cells := 0, slots := 0, locals := 43 } : Room) 0 0 G M [.ref mo, .int lo, .int hi] (fun r M1 => ai_did G M mo ma (op_pieces S lo hi) r M1) := by
  refine y_start (by decide +kernel) rfl (Nat.le_of_ble_eq_true rfl) (Nat.le_of_ble_eq_true rfl) (fun x hx => by simp only [List.mem_cons, List.not_mem_nil, or_false] at hx; rcases hx with rfl | rfl | rfl <;> rfl) ?_
  intro p e s m below meth c B hnm
  obtain ⟨a0, a1, a2, a3, a4, a5, a6, a7, a8, a9, a10, a11, a12⟩ := id hO
  have hn := hJ.2.1
  have hd := fun q hq => (hJ.2.2.2 q hq).1
  refine y_aload_n B dX7_pieces_0 rfl ?_
  refine y_iload_n B dX7_pieces_1 rfl ?_
  refine y_iload_n B dX7_pieces_2 rfl ?_
  refine y_callS B 2 _ _ (k_X7_isRange l G _) gX7_pieces_X7_isRange (by decide +kernel) rfl rfl rfl rfl ⟨(Nat.le_of_ble_eq_true rfl), (Nat.le_of_ble_eq_true rfl)⟩ (Nat.le_of_ble_eq_true rfl) ⟨(Nat.le_of_ble_eq_true rfl), (Nat.le_of_ble_eq_true rfl)⟩ dX7_pieces_3 rfl (fun r M1 hr => ?_)
  obtain ⟨rfl, e9⟩ := hr
  obtain rfl := e9.symm
  refine y_if_eq B 13 dX7_pieces_6 (by decide) (fun c6 => ?_) (fun c6 => ?_)
  · have q6 := (ai_b0 _).mp c6
    refine y_iconst B (nI 1) dX7_pieces_13 (by decide +kernel) ?_
    refine y_callV B 1 (q := (RX7, TX7, 15)) _ _ (k_X7_holds l G _ hO) a0 rfl gX7_pieces_X7_holds (by decide +kernel) rfl rfl rfl rfl ⟨(Nat.le_of_ble_eq_true rfl), (Nat.le_of_ble_eq_true rfl)⟩ (Nat.le_of_ble_eq_true rfl) ⟨(Nat.le_of_ble_eq_true rfl), (Nat.le_of_ble_eq_true rfl)⟩ dX7_pieces_14 rfl (fun r M1 hr => ?_)
    obtain ⟨rfl, hO1, hk1⟩ := hr
    obtain ⟨b0, b1, b2, b3, b4, b5, b6, b7, b8, b9, b10, b11, b12⟩ := id hO1
    refine y_if_ne B 22 dX7_pieces_17 (by decide) (fun c17 => absurd (by decide +kernel) c17) (fun c17 => ?_)
    refine y_iconst B (nI 0) dX7_pieces_20 (by decide +kernel) ?_
    exact y_iret B dX7_pieces_21 (Nat.le_of_ble_eq_true rfl) (Nat.le_of_ble_eq_true rfl) (by unfold op_pieces; rw [if_pos q6]; exact ⟨hO1, hk1, _, rfl, fun h9 => absurd h9 (Nat.succ_ne_zero _)⟩)
  · have q6 := ai_b1 c6
    obtain ⟨u, v, rfl, rfl, hu, hv, huv⟩ := ai_rg_of q6
    have eu : (nI u).toNatClampNeg = u := nI_clamp (by omega)
    have ev : (nI v).toNatClampNeg = v := nI_clamp (by omega)
    refine y_iconst B (nI 0) dX7_pieces_9 (by decide +kernel) ?_
    refine y_goto B 14 dX7_pieces_10 (by decide) ?_
    refine y_callV B 1 (q := (RX7, TX7, 15)) _ _ (k_X7_holds l G _ hO) a0 rfl gX7_pieces_X7_holds (by decide +kernel) rfl rfl rfl rfl ⟨(Nat.le_of_ble_eq_true rfl), (Nat.le_of_ble_eq_true rfl)⟩ (Nat.le_of_ble_eq_true rfl) ⟨(Nat.le_of_ble_eq_true rfl), (Nat.le_of_ble_eq_true rfl)⟩ dX7_pieces_14 rfl (fun r M1 hr => ?_)
    obtain ⟨rfl, hO1, hk1⟩ := hr
    obtain ⟨b0, b1, b2, b3, b4, b5, b6, b7, b8, b9, b10, b11, b12⟩ := id hO1
    refine y_if_ne B 22 dX7_pieces_17 (by decide) (fun c17 => ?_) (fun c17 => absurd c17 (by decide +kernel))
    refine y_iconst B (nI 0) dX7_pieces_22 (by decide +kernel) ?_
    refine y_istore_n B dX7_pieces_23 (Nat.le_of_ble_eq_true rfl) ?_
    refine y_iload_n B dX7_pieces_24 rfl ?_
    refine y_istore B dX7_pieces_25 (Nat.le_of_ble_eq_true rfl) ?_
    have lp : ∀ (d i b : Nat), 64 < b + d → b ≤ 64 → i ≤ b → ai_np 64 u v = i + ai_np (64 - i) b v → ai_Y p l e ({ frames := 2, cells := 0, slots := 0, locals := 43 } : Room) s m [.ref mo, .int (nI u), .int (nI v)].toArray below meth c G (MQ below (ai_Q G (fun r M1 => ai_did G M mo ma (op_pieces S (nI u) (nI v)) r M1)) [.ref mo, .int (nI u), .int (nI v)].toArray s 0 0 (ai_A G)) M1 0 0 [some (.ref mo), some (.int (nI u)), some (.int (nI v)), some (.int (nI i)), some (.int (nI b))] 27 [] := by
      intro d
      induction d with
      | zero => intros; omega
      | succ d ih =>
        intro i b hm hb9 hib he
        refine y_iload B dX7_pieces_27 rfl ?_
        refine y_iload_n B dX7_pieces_29 rfl ?_
        refine y_icmp_gt B 50 dX7_pieces_30 (by decide) (fun c30 => ?_) (fun c30 => ?_)
        · have q30 : v < b := Nat.lt_of_not_le (fun z => absurd c30 (Int32.not_lt.mpr ((nI_leI (by omega) (by omega)).mpr z)))
          refine y_iload_n B dX7_pieces_50 rfl ?_
          exact y_iret B dX7_pieces_51 (Nat.le_of_ble_eq_true rfl) (Nat.le_of_ble_eq_true rfl) (by unfold op_pieces; rw [eu, ev, if_neg (by rw [q6]; decide), he, ai_np_0 q30, Nat.add_zero]; exact ⟨hO1, hk1, _, rfl, fun _ => rfl⟩)
        · have q30 : b ≤ v := (nI_leI (by omega) (by omega)).mp (Int32.not_lt.mp c30)
          obtain ⟨l1, l2, l3⟩ := ai_lv_le b (by omega) v hv q30
          obtain ⟨n, hn9⟩ : ∃ n, 64 - i = n + 1 := ⟨63 - i, by omega⟩
          have hp2 : 1 ≤ 2 ^ ai_lv b v := Nat.one_le_two_pow
          refine y_iinc B (nI (i + 1)) dX7_pieces_33 rfl (nI_1 i) ?_
          refine y_iload B dX7_pieces_36 rfl ?_
          refine y_iload B dX7_pieces_38 rfl ?_
          refine y_iload_n B dX7_pieces_40 rfl ?_
          refine y_callS B 2 _ _ (k_X7_piece l G _ (b := b) (h := v) (by omega) (by omega)) gX7_pieces_X7_piece (by decide +kernel) rfl rfl rfl rfl ⟨(Nat.le_of_ble_eq_true rfl), (Nat.le_of_ble_eq_true rfl)⟩ (Nat.le_of_ble_eq_true rfl) ⟨(Nat.le_of_ble_eq_true rfl), (Nat.le_of_ble_eq_true rfl)⟩ dX7_pieces_41 rfl (fun r M1 hr => ?_)
          obtain ⟨rfl, e9⟩ := hr
          obtain rfl := e9.symm
          refine y_iadd B (nI (b + 2 ^ ai_lv b v)) dX7_pieces_44 (nI_add _ _) ?_
          refine y_istore B dX7_pieces_45 (Nat.le_of_ble_eq_true rfl) ?_
          refine y_goto B 27 dX7_pieces_47 (by decide) ?_
          refine ih (i + 1) (b + 2 ^ ai_lv b v) (by omega) (by omega) (by omega) ?_
          rw [he, hn9, show 64 - (i + 1) = n by omega]
          conv => lhs; unfold ai_np
          rw [if_pos q30]
          omega
    exact lp 65 0 u (by omega) (by omega) (by omega) (by show ai_np 64 u v = 0 + ai_np 64 u v; omega)
set_option maxHeartbeats 4000000 in
set_option maxRecDepth 100000 in
theorem k_X7_pieceAt (l : Launch) (G : ai_G) (M : ai_M) {t0 : Int32} {S : ai_S} {mo : Nat} {ma : Nat → Nat} (hO : ai_O G M t0 S mo ma) (hJ : ai_J S) {lo hi kk : Int32} : ai_C l yX7_pieceAt wsX7_pieceAt ({ frames := 2, cells := 0, slots := 0, locals := 43 } : Room) 0 0 G M [.ref mo, .int lo, .int hi, .int kk] (fun r M1 => ai_did G M mo ma (op_pieceAt S lo hi kk) r M1) := by
  refine y_start (by decide +kernel) rfl (Nat.le_of_ble_eq_true rfl) (Nat.le_of_ble_eq_true rfl) (fun x hx => by simp only [List.mem_cons, List.not_mem_nil, or_false] at hx; rcases hx with rfl | rfl | rfl | rfl <;> rfl) ?_
  intro p e s m below meth c B hnm
  obtain ⟨a0, a1, a2, a3, a4, a5, a6, a7, a8, a9, a10, a11, a12⟩ := id hO
  have hn := hJ.2.1
  have hd := fun q hq => (hJ.2.2.2 q hq).1
  refine y_aload_n B dX7_pieceAt_0 rfl ?_
  refine y_iload_n B dX7_pieceAt_1 rfl ?_
  refine y_if_ge B 9 dX7_pieceAt_2 (by decide) (fun c2 => ?_) (fun c2 => ?_)
  · have hk0 : ¬ kk < 0 := fun z => absurd c2 (Int32.not_le.mpr z)
    obtain ⟨k, hk9, rfl⟩ := nI_of hk0
    have ek : (nI k).toNatClampNeg = k := nI_clamp hk9
    refine y_iload_n B dX7_pieceAt_9 rfl ?_
    refine y_iload_n B dX7_pieceAt_10 rfl ?_
    refine y_callS B 2 _ _ (k_X7_isRange l G _) gX7_pieceAt_X7_isRange (by decide +kernel) rfl rfl rfl rfl ⟨(Nat.le_of_ble_eq_true rfl), (Nat.le_of_ble_eq_true rfl)⟩ (Nat.le_of_ble_eq_true rfl) ⟨(Nat.le_of_ble_eq_true rfl), (Nat.le_of_ble_eq_true rfl)⟩ dX7_pieceAt_11 rfl (fun r M1 hr => ?_)
    obtain ⟨rfl, e9⟩ := hr
    obtain rfl := e9.symm
    refine y_if_eq B 21 dX7_pieceAt_14 (by decide) (fun c14 => ?_) (fun c14 => ?_)
    · have q14 := (ai_b0 _).mp c14
      refine y_iconst B (nI 2) dX7_pieceAt_21 (by decide +kernel) ?_
      refine y_callV B 1 (q := (RX7, TX7, 15)) _ _ (k_X7_holds l G _ hO) a0 rfl gX7_pieceAt_X7_holds (by decide +kernel) rfl rfl rfl rfl ⟨(Nat.le_of_ble_eq_true rfl), (Nat.le_of_ble_eq_true rfl)⟩ (Nat.le_of_ble_eq_true rfl) ⟨(Nat.le_of_ble_eq_true rfl), (Nat.le_of_ble_eq_true rfl)⟩ dX7_pieceAt_22 rfl (fun r M1 hr => ?_)
      obtain ⟨rfl, hO1, hk1⟩ := hr
      obtain ⟨b0, b1, b2, b3, b4, b5, b6, b7, b8, b9, b10, b11, b12⟩ := id hO1
      refine y_if_ne B 30 dX7_pieceAt_25 (by decide) (fun c25 => absurd (by decide +kernel) c25) (fun c25 => ?_)
      refine y_iconst B (nI 0) dX7_pieceAt_28 (by decide +kernel) ?_
      exact y_iret B dX7_pieceAt_29 (Nat.le_of_ble_eq_true rfl) (Nat.le_of_ble_eq_true rfl) (by unfold op_pieceAt; rw [if_neg hk0, if_pos q14]; exact ⟨hO1, hk1, _, rfl, fun h9 => absurd h9 (Nat.succ_ne_zero _)⟩)
    · have q14 := ai_b1 c14
      obtain ⟨u, v, rfl, rfl, hu, hv, huv⟩ := ai_rg_of q14
      have eu : (nI u).toNatClampNeg = u := nI_clamp (by omega)
      have ev : (nI v).toNatClampNeg = v := nI_clamp (by omega)
      refine y_iconst B (nI 0) dX7_pieceAt_17 (by decide +kernel) ?_
      refine y_goto B 22 dX7_pieceAt_18 (by decide) ?_
      refine y_callV B 1 (q := (RX7, TX7, 15)) _ _ (k_X7_holds l G _ hO) a0 rfl gX7_pieceAt_X7_holds (by decide +kernel) rfl rfl rfl rfl ⟨(Nat.le_of_ble_eq_true rfl), (Nat.le_of_ble_eq_true rfl)⟩ (Nat.le_of_ble_eq_true rfl) ⟨(Nat.le_of_ble_eq_true rfl), (Nat.le_of_ble_eq_true rfl)⟩ dX7_pieceAt_22 rfl (fun r M1 hr => ?_)
      obtain ⟨rfl, hO1, hk1⟩ := hr
      obtain ⟨b0, b1, b2, b3, b4, b5, b6, b7, b8, b9, b10, b11, b12⟩ := id hO1
      refine y_if_ne B 30 dX7_pieceAt_25 (by decide) (fun c25 => ?_) (fun c25 => absurd c25 (by decide +kernel))
      refine y_iconst B (nI 0) dX7_pieceAt_30 (by decide +kernel) ?_
      refine y_istore B dX7_pieceAt_31 (Nat.le_of_ble_eq_true rfl) ?_
      refine y_iload_n B dX7_pieceAt_33 rfl ?_
      refine y_istore B dX7_pieceAt_34 (Nat.le_of_ble_eq_true rfl) ?_
      have lp : ∀ (d i b : Nat), 64 < b + d → b ≤ 64 → i ≤ b → i ≤ k → ai_pb 64 k u v = ai_pb (64 - i) (k - i) b v → ai_Y p l e ({ frames := 2, cells := 0, slots := 0, locals := 43 } : Room) s m [.ref mo, .int (nI u), .int (nI v), .int (nI k)].toArray below meth c G (MQ below (ai_Q G (fun r M1 => ai_did G M mo ma (op_pieceAt S (nI u) (nI v) (nI k)) r M1)) [.ref mo, .int (nI u), .int (nI v), .int (nI k)].toArray s 0 0 (ai_A G)) M1 0 0 [some (.ref mo), some (.int (nI u)), some (.int (nI v)), some (.int (nI k)), some (.int (nI i)), some (.int (nI b))] 36 [] := by
        intro d
        induction d with
        | zero => intros; omega
        | succ d ih =>
          intro i b hm hb9 hib hik he
          refine y_iload B dX7_pieceAt_36 rfl ?_
          refine y_iload_n B dX7_pieceAt_38 rfl ?_
          refine y_icmp_gt B 78 dX7_pieceAt_39 (by decide) (fun c39 => ?_) (fun c39 => ?_)
          · have q39 : v < b := Nat.lt_of_not_le (fun z => absurd c39 (Int32.not_lt.mpr ((nI_leI (by omega) (by omega)).mpr z)))
            refine y_iconst B (-1) dX7_pieceAt_78 (by decide +kernel) ?_
            exact y_iret B dX7_pieceAt_79 (Nat.le_of_ble_eq_true rfl) (Nat.le_of_ble_eq_true rfl) (by unfold op_pieceAt; rw [eu, ev, ek, if_neg hk0, if_neg (by rw [q14]; decide), show ai_pv k u v = -1 from by unfold ai_pv; rw [he, ai_pb_0 (Or.inr q39), if_pos q39]]; exact ⟨hO1, hk1, _, rfl, fun _ => rfl⟩)
          · have q39 : b ≤ v := (nI_leI (by omega) (by omega)).mp (Int32.not_lt.mp c39)
            obtain ⟨l1, l2, l3⟩ := ai_lv_le b (by omega) v hv q39
            obtain ⟨n, hn9⟩ : ∃ n, 64 - i = n + 1 := ⟨63 - i, by omega⟩
            have hp2 : 1 ≤ 2 ^ ai_lv b v := Nat.one_le_two_pow
            refine y_iload B dX7_pieceAt_42 rfl ?_
            refine y_iload_n B dX7_pieceAt_44 rfl ?_
            refine y_icmp_ne B 61 dX7_pieceAt_45 (by decide) (fun c45 => ?_) (fun c45 => ?_)
            · have q45 : ¬ i = k := fun z => c45 (by rw [z])
              refine y_iinc B (nI (i + 1)) dX7_pieceAt_61 rfl (nI_1 i) ?_
              refine y_iload B dX7_pieceAt_64 rfl ?_
              refine y_iload B dX7_pieceAt_66 rfl ?_
              refine y_iload_n B dX7_pieceAt_68 rfl ?_
              refine y_callS B 2 _ _ (k_X7_piece l G _ (b := b) (h := v) (by omega) (by omega)) gX7_pieceAt_X7_piece (by decide +kernel) rfl rfl rfl rfl ⟨(Nat.le_of_ble_eq_true rfl), (Nat.le_of_ble_eq_true rfl)⟩ (Nat.le_of_ble_eq_true rfl) ⟨(Nat.le_of_ble_eq_true rfl), (Nat.le_of_ble_eq_true rfl)⟩ dX7_pieceAt_69 rfl (fun r M1 hr => ?_)
              obtain ⟨rfl, e9⟩ := hr
              obtain rfl := e9.symm
              refine y_iadd B (nI (b + 2 ^ ai_lv b v)) dX7_pieceAt_72 (nI_add _ _) ?_
              refine y_istore B dX7_pieceAt_73 (Nat.le_of_ble_eq_true rfl) ?_
              refine y_goto B 36 dX7_pieceAt_75 (by decide) ?_
              refine ih (i + 1) (b + 2 ^ ai_lv b v) (by omega) (by omega) (by omega) (by omega) ?_
              rw [he, hn9, show 64 - (i + 1) = n by omega, show k - (i + 1) = k - i - 1 by omega]
              conv => lhs; unfold ai_pb
              rw [if_pos (show _ ∧ _ from ⟨by omega, q39⟩)]
            · have q45 : i = k := (nI_eq (by omega) (by omega)).mp c45
              refine y_bipush B (nI 100) dX7_pieceAt_48 (by decide +kernel) ?_
              refine y_iload B dX7_pieceAt_50 rfl ?_
              refine y_imul B (nI (100 * b)) dX7_pieceAt_52 (pk_mul 100 _) ?_
              refine y_iload B dX7_pieceAt_53 rfl ?_
              refine y_iload_n B dX7_pieceAt_55 rfl ?_
              refine y_callS B 2 _ _ (k_X7_piece l G _ (b := b) (h := v) (by omega) (by omega)) gX7_pieceAt_X7_piece (by decide +kernel) rfl rfl rfl rfl ⟨(Nat.le_of_ble_eq_true rfl), (Nat.le_of_ble_eq_true rfl)⟩ (Nat.le_of_ble_eq_true rfl) ⟨(Nat.le_of_ble_eq_true rfl), (Nat.le_of_ble_eq_true rfl)⟩ dX7_pieceAt_56 rfl (fun r M1 hr => ?_)
              obtain ⟨rfl, e9⟩ := hr
              obtain rfl := e9.symm
              refine y_iadd B (nI (100 * b + 2 ^ ai_lv b v)) dX7_pieceAt_59 (nI_add _ _) ?_
              exact y_iret B dX7_pieceAt_60 (Nat.le_of_ble_eq_true rfl) (Nat.le_of_ble_eq_true rfl) (by unfold op_pieceAt; rw [eu, ev, ek, if_neg hk0, if_neg (by rw [q14]; decide), show ai_pv k u v = nI (100 * b + 2 ^ ai_lv b v) from by unfold ai_pv; rw [he, ai_pb_0 (Or.inl (by omega)), if_neg (by omega)]]; exact ⟨hO1, hk1, _, rfl, fun _ => rfl⟩)
      exact lp 65 0 u (by omega) (by omega) (by omega) (by omega) rfl
  · have q2 : kk < 0 := Int32.not_le.mp c2
    refine y_iconst B (nI 1) dX7_pieceAt_5 (by decide +kernel) ?_
    refine y_goto B 22 dX7_pieceAt_6 (by decide) ?_
    refine y_callV B 1 (q := (RX7, TX7, 15)) _ _ (k_X7_holds l G _ hO) a0 rfl gX7_pieceAt_X7_holds (by decide +kernel) rfl rfl rfl rfl ⟨(Nat.le_of_ble_eq_true rfl), (Nat.le_of_ble_eq_true rfl)⟩ (Nat.le_of_ble_eq_true rfl) ⟨(Nat.le_of_ble_eq_true rfl), (Nat.le_of_ble_eq_true rfl)⟩ dX7_pieceAt_22 rfl (fun r M1 hr => ?_)
    obtain ⟨rfl, hO1, hk1⟩ := hr
    obtain ⟨b0, b1, b2, b3, b4, b5, b6, b7, b8, b9, b10, b11, b12⟩ := id hO1
    refine y_if_ne B 30 dX7_pieceAt_25 (by decide) (fun c25 => absurd (by decide +kernel) c25) (fun c25 => ?_)
    refine y_iconst B (nI 0) dX7_pieceAt_28 (by decide +kernel) ?_
    exact y_iret B dX7_pieceAt_29 (Nat.le_of_ble_eq_true rfl) (Nat.le_of_ble_eq_true rfl) (by unfold op_pieceAt; rw [if_pos q2]; exact ⟨hO1, hk1, _, rfl, fun h9 => absurd h9 (Nat.succ_ne_zero _)⟩)
set_option maxHeartbeats 4000000 in
set_option maxRecDepth 100000 in
theorem k_X7_test (l : Launch) (G : ai_G) (M : ai_M) {t0 : Int32} {S : ai_S} {mo : Nat} {ma : Nat → Nat} (hO : ai_O G M t0 S mo ma) (hJ : ai_J S) {z nm lo hi : Int32} {bv : Nat} (hbv : bv = 0 ∨ bv = 1) : ai_C l yX7_test wsX7_test ({ frames := 2, cells := 0, slots := 0, locals := 43 } : Room) 0 0 G M [.ref mo, .int z, .int nm, .int lo, .int hi, .int (nI bv)] (fun r M1 => ai_did G M mo ma (op_test S z nm lo hi bv) r M1) := by
  refine y_start (by decide +kernel) rfl (Nat.le_of_ble_eq_true rfl) (Nat.le_of_ble_eq_true rfl) (fun x hx => by simp only [List.mem_cons, List.not_mem_nil, or_false] at hx; rcases hx with rfl | rfl | rfl | rfl | rfl | rfl <;> rfl) ?_
  intro p e s m below meth c B hnm
  obtain ⟨a0, a1, a2, a3, a4, a5, a6, a7, a8, a9, a10, a11, a12⟩ := id hO
  have hn := hJ.2.1
  have hd := fun q hq => (hJ.2.2.2 q hq).1
  refine y_aload_n B dX7_test_0 rfl ?_
  refine y_iload_n B dX7_test_1 rfl ?_
  refine y_callV B 1 (q := (RX7, TX7, 15)) _ _ (k_X7_isQuestion l G _ hO hn hd) a0 rfl gX7_test_X7_isQuestion (by decide +kernel) rfl rfl rfl rfl ⟨(Nat.le_of_ble_eq_true rfl), (Nat.le_of_ble_eq_true rfl)⟩ (Nat.le_of_ble_eq_true rfl) ⟨(Nat.le_of_ble_eq_true rfl), (Nat.le_of_ble_eq_true rfl)⟩ dX7_test_2 rfl (fun r M1 hr => ?_)
  obtain ⟨rfl, e9⟩ := hr
  obtain rfl := e9.symm
  refine y_if_eq B 19 dX7_test_5 (by decide) (fun c5 => ?_) (fun c5 => ?_)
  · have q5 := (ai_b0 _).mp c5
    refine y_iconst B (nI 0) dX7_test_19 (by decide +kernel) ?_
    refine y_istore B dX7_test_20 (Nat.le_of_ble_eq_true rfl) ?_
    refine y_iload B dX7_test_22 rfl ?_
    refine y_if_eq B 42 dX7_test_24 (by decide) (fun c24 => ?_) (fun c24 => absurd (by decide +kernel) c24)
    refine y_iconst B (nI 0) dX7_test_42 (by decide +kernel) ?_
    refine y_istore B dX7_test_43 (Nat.le_of_ble_eq_true rfl) ?_
    refine y_iload B dX7_test_45 rfl ?_
    refine y_if_eq B 74 dX7_test_47 (by decide) (fun c47 => ?_) (fun c47 => absurd (by decide +kernel) c47)
    refine y_iconst B (nI 0) dX7_test_74 (by decide +kernel) ?_
    refine y_istore B dX7_test_75 (Nat.le_of_ble_eq_true rfl) ?_
    refine y_aload_n B dX7_test_77 rfl ?_
    refine y_iload B dX7_test_78 rfl ?_
    refine y_if_ne B 87 dX7_test_80 (by decide) (fun c80 => absurd (by decide +kernel) c80) (fun c80 => ?_)
    refine y_iconst B (nI 1) dX7_test_83 (by decide +kernel) ?_
    refine y_goto B 110 dX7_test_84 (by decide) ?_
    refine y_callV B 1 (q := (RX7, TX7, 15)) _ _ (k_X7_holds l G _ hO) a0 rfl gX7_test_X7_holds (by decide +kernel) rfl rfl rfl rfl ⟨(Nat.le_of_ble_eq_true rfl), (Nat.le_of_ble_eq_true rfl)⟩ (Nat.le_of_ble_eq_true rfl) ⟨(Nat.le_of_ble_eq_true rfl), (Nat.le_of_ble_eq_true rfl)⟩ dX7_test_110 rfl (fun r M1 hr => ?_)
    obtain ⟨rfl, hO1, hk1⟩ := hr
    obtain ⟨b0, b1, b2, b3, b4, b5, b6, b7, b8, b9, b10, b11, b12⟩ := id hO1
    refine y_if_ne B 118 dX7_test_113 (by decide) (fun c113 => absurd (by decide +kernel) c113) (fun c113 => ?_)
    refine y_iconst B (nI 0) dX7_test_116 (by decide +kernel) ?_
    exact y_iret B dX7_test_117 (Nat.le_of_ble_eq_true rfl) (Nat.le_of_ble_eq_true rfl) (by unfold op_test; rw [if_pos (by rw [q5]; rfl)]; exact ⟨hO1, hk1, _, rfl, fun h9 => absurd h9 (Nat.succ_ne_zero _)⟩)
  · have q5 := ai_b1 c5
    obtain ⟨q, hq, rfl, hq2, eq9⟩ := ai_qo_of hn q5
    have hok := hJ.2.2.2 q hq
    have hok3 := hok.2.1
    refine y_iload_n B dX7_test_8 rfl ?_
    refine y_callS B 1 _ _ (k_X7_isName l G _) gX7_test_X7_isName (by decide +kernel) rfl rfl rfl rfl ⟨(Nat.le_of_ble_eq_true rfl), (Nat.le_of_ble_eq_true rfl)⟩ (Nat.le_of_ble_eq_true rfl) ⟨(Nat.le_of_ble_eq_true rfl), (Nat.le_of_ble_eq_true rfl)⟩ dX7_test_9 rfl (fun r M1 hr => ?_)
    obtain ⟨rfl, e9⟩ := hr
    obtain rfl := e9.symm
    refine y_if_eq B 19 dX7_test_12 (by decide) (fun c12 => ?_) (fun c12 => ?_)
    · have q12 := (ai_b0 _).mp c12
      refine y_iconst B (nI 0) dX7_test_19 (by decide +kernel) ?_
      refine y_istore B dX7_test_20 (Nat.le_of_ble_eq_true rfl) ?_
      refine y_iload B dX7_test_22 rfl ?_
      refine y_if_eq B 42 dX7_test_24 (by decide) (fun c24 => ?_) (fun c24 => absurd (by decide +kernel) c24)
      refine y_iconst B (nI 0) dX7_test_42 (by decide +kernel) ?_
      refine y_istore B dX7_test_43 (Nat.le_of_ble_eq_true rfl) ?_
      refine y_iload B dX7_test_45 rfl ?_
      refine y_if_eq B 74 dX7_test_47 (by decide) (fun c47 => ?_) (fun c47 => absurd (by decide +kernel) c47)
      refine y_iconst B (nI 0) dX7_test_74 (by decide +kernel) ?_
      refine y_istore B dX7_test_75 (Nat.le_of_ble_eq_true rfl) ?_
      refine y_aload_n B dX7_test_77 rfl ?_
      refine y_iload B dX7_test_78 rfl ?_
      refine y_if_ne B 87 dX7_test_80 (by decide) (fun c80 => absurd (by decide +kernel) c80) (fun c80 => ?_)
      refine y_iconst B (nI 1) dX7_test_83 (by decide +kernel) ?_
      refine y_goto B 110 dX7_test_84 (by decide) ?_
      refine y_callV B 1 (q := (RX7, TX7, 15)) _ _ (k_X7_holds l G _ hO) a0 rfl gX7_test_X7_holds (by decide +kernel) rfl rfl rfl rfl ⟨(Nat.le_of_ble_eq_true rfl), (Nat.le_of_ble_eq_true rfl)⟩ (Nat.le_of_ble_eq_true rfl) ⟨(Nat.le_of_ble_eq_true rfl), (Nat.le_of_ble_eq_true rfl)⟩ dX7_test_110 rfl (fun r M1 hr => ?_)
      obtain ⟨rfl, hO1, hk1⟩ := hr
      obtain ⟨b0, b1, b2, b3, b4, b5, b6, b7, b8, b9, b10, b11, b12⟩ := id hO1
      refine y_if_ne B 118 dX7_test_113 (by decide) (fun c113 => absurd (by decide +kernel) c113) (fun c113 => ?_)
      refine y_iconst B (nI 0) dX7_test_116 (by decide +kernel) ?_
      exact y_iret B dX7_test_117 (Nat.le_of_ble_eq_true rfl) (Nat.le_of_ble_eq_true rfl) (by unfold op_test; rw [if_pos (by rw [q5, q12]; rfl)]; exact ⟨hO1, hk1, _, rfl, fun h9 => absurd h9 (Nat.succ_ne_zero _)⟩)
    · have q12 := ai_b1 c12
      obtain ⟨u, hu, rfl⟩ := ai_r_of (by omega) q12
      have eu9 : (nI u).toNatClampNeg = u := nI_clamp (by omega)
      refine y_iconst B (nI 1) dX7_test_15 (by decide +kernel) ?_
      refine y_goto B 20 dX7_test_16 (by decide) ?_
      refine y_istore B dX7_test_20 (Nat.le_of_ble_eq_true rfl) ?_
      refine y_iload B dX7_test_22 rfl ?_
      refine y_if_eq B 42 dX7_test_24 (by decide) (fun c24 => absurd c24 (by decide +kernel)) (fun c24 => ?_)
      by_cases q3 : S 3 q = 0
      · refine y_iconst B (nI 3) dX7_test_27 (by decide +kernel) ?_
        refine y_iload_n B dX7_test_28 rfl ?_
        refine y_imul B (nI (3 * q)) dX7_test_29 (pk_mul 3 _) ?_
        refine y_aload_n B dX7_test_30 rfl ?_
        refine y_get B (ref := "AlertIndexModel") (ci := 8) (C := RX7) (T := TX7) (N := 15) a0 rfl i_X7_test_X7 5 (by decide) (by decide +kernel) (fun _ h9 => h9) rfl dX7_test_31 ?_
        refine y_iload_n B dX7_test_34 rfl ?_
        refine y_ialoadI B (nI (S 3 q)) a3 (vp_in_nI (by omega) (by decide)) (by rw [nI_clamp (by omega)]) dX7_test_35 ?_
        refine y_iadd B (nI (3 * q + S 3 q)) dX7_test_36 (nI_add _ _) ?_
        refine y_iconst B (nI 1) dX7_test_37 (by decide +kernel) ?_
        refine y_isub B (nI (3 * q + S 3 q) - nI 1) dX7_test_38 (rfl) ?_
        refine y_goto B 43 dX7_test_39 (by decide) ?_
        refine y_istore B dX7_test_43 (Nat.le_of_ble_eq_true rfl) ?_
        refine y_iload B dX7_test_45 rfl ?_
        refine y_if_eq B 74 dX7_test_47 (by decide) (fun c47 => absurd c47 (by decide +kernel)) (fun c47 => ?_)
        refine y_aload_n B dX7_test_50 rfl ?_
        refine y_get B (ref := "AlertIndexModel") (ci := 8) (C := RX7) (T := TX7) (N := 15) a0 rfl i_X7_test_X7 5 (by decide) (by decide +kernel) (fun _ h9 => h9) rfl dX7_test_51 ?_
        refine y_iload_n B dX7_test_54 rfl ?_
        refine y_ialoadI B (nI (S 3 q)) a3 (vp_in_nI (by omega) (by decide)) (by rw [nI_clamp (by omega)]) dX7_test_55 ?_
        refine y_if_le B 74 dX7_test_56 (by decide) (fun c56 => ?_) (fun c56 => absurd (by rw [q3]; decide +kernel) c56)
        refine y_iconst B (nI 0) dX7_test_74 (by decide +kernel) ?_
        refine y_istore B dX7_test_75 (Nat.le_of_ble_eq_true rfl) ?_
        refine y_aload_n B dX7_test_77 rfl ?_
        refine y_iload B dX7_test_78 rfl ?_
        refine y_if_ne B 87 dX7_test_80 (by decide) (fun c80 => ?_) (fun c80 => absurd c80 (by decide +kernel))
        refine y_iload_n B dX7_test_87 rfl ?_
        refine y_iload B dX7_test_88 rfl ?_
        refine y_callS B 2 _ _ (k_X7_isRange l G _) gX7_test_X7_isRange (by decide +kernel) rfl rfl rfl rfl ⟨(Nat.le_of_ble_eq_true rfl), (Nat.le_of_ble_eq_true rfl)⟩ (Nat.le_of_ble_eq_true rfl) ⟨(Nat.le_of_ble_eq_true rfl), (Nat.le_of_ble_eq_true rfl)⟩ dX7_test_90 rfl (fun r M1 hr => ?_)
        obtain ⟨rfl, e9⟩ := hr
        obtain rfl := e9.symm
        refine y_if_ne B 100 dX7_test_93 (by decide) (fun c93 => ?_) (fun c93 => ?_)
        · have q93 := ai_b1 c93
          refine y_iload B dX7_test_100 rfl ?_
          refine y_if_eq B 109 dX7_test_102 (by decide) (fun c102 => ?_) (fun c102 => absurd (by decide +kernel) c102)
          refine y_iconst B (nI 3) dX7_test_109 (by decide +kernel) ?_
          refine y_callV B 1 (q := (RX7, TX7, 15)) _ _ (k_X7_holds l G _ hO) a0 rfl gX7_test_X7_holds (by decide +kernel) rfl rfl rfl rfl ⟨(Nat.le_of_ble_eq_true rfl), (Nat.le_of_ble_eq_true rfl)⟩ (Nat.le_of_ble_eq_true rfl) ⟨(Nat.le_of_ble_eq_true rfl), (Nat.le_of_ble_eq_true rfl)⟩ dX7_test_110 rfl (fun r M1 hr => ?_)
          obtain ⟨rfl, hO1, hk1⟩ := hr
          obtain ⟨b0, b1, b2, b3, b4, b5, b6, b7, b8, b9, b10, b11, b12⟩ := id hO1
          refine y_if_ne B 118 dX7_test_113 (by decide) (fun c113 => absurd (by decide +kernel) c113) (fun c113 => ?_)
          refine y_iconst B (nI 0) dX7_test_116 (by decide +kernel) ?_
          exact y_iret B dX7_test_117 (Nat.le_of_ble_eq_true rfl) (Nat.le_of_ble_eq_true rfl) (by unfold op_test; rw [if_neg (by rw [q5, q12]; decide), if_neg (by rw [q93]; decide), if_pos (Or.inl (by rw [eq9]; exact q3))]; exact ⟨hO1, hk1, _, rfl, fun h9 => absurd h9 (Nat.succ_ne_zero _)⟩)
        · have q93 := (ai_b0 _).mp c93
          refine y_iconst B (nI 2) dX7_test_96 (by decide +kernel) ?_
          refine y_goto B 110 dX7_test_97 (by decide) ?_
          refine y_callV B 1 (q := (RX7, TX7, 15)) _ _ (k_X7_holds l G _ hO) a0 rfl gX7_test_X7_holds (by decide +kernel) rfl rfl rfl rfl ⟨(Nat.le_of_ble_eq_true rfl), (Nat.le_of_ble_eq_true rfl)⟩ (Nat.le_of_ble_eq_true rfl) ⟨(Nat.le_of_ble_eq_true rfl), (Nat.le_of_ble_eq_true rfl)⟩ dX7_test_110 rfl (fun r M1 hr => ?_)
          obtain ⟨rfl, hO1, hk1⟩ := hr
          obtain ⟨b0, b1, b2, b3, b4, b5, b6, b7, b8, b9, b10, b11, b12⟩ := id hO1
          refine y_if_ne B 118 dX7_test_113 (by decide) (fun c113 => absurd (by decide +kernel) c113) (fun c113 => ?_)
          refine y_iconst B (nI 0) dX7_test_116 (by decide +kernel) ?_
          exact y_iret B dX7_test_117 (Nat.le_of_ble_eq_true rfl) (Nat.le_of_ble_eq_true rfl) (by unfold op_test; rw [if_neg (by rw [q5, q12]; decide), if_pos q93]; exact ⟨hO1, hk1, _, rfl, fun h9 => absurd h9 (Nat.succ_ne_zero _)⟩)
      · obtain ⟨j, ej⟩ : ∃ j, j = 3 * q + (S 3 q - 1) := ⟨_, rfl⟩
        have ho8 : S 8 j ≤ 4 := by rw [ej]; exact (hok.2.2.2.2.2 (S 3 q - 1) (by omega)).1
        refine y_iconst B (nI 3) dX7_test_27 (by decide +kernel) ?_
        refine y_iload_n B dX7_test_28 rfl ?_
        refine y_imul B (nI (3 * q)) dX7_test_29 (pk_mul 3 _) ?_
        refine y_aload_n B dX7_test_30 rfl ?_
        refine y_get B (ref := "AlertIndexModel") (ci := 8) (C := RX7) (T := TX7) (N := 15) a0 rfl i_X7_test_X7 5 (by decide) (by decide +kernel) (fun _ h9 => h9) rfl dX7_test_31 ?_
        refine y_iload_n B dX7_test_34 rfl ?_
        refine y_ialoadI B (nI (S 3 q)) a3 (vp_in_nI (by omega) (by decide)) (by rw [nI_clamp (by omega)]) dX7_test_35 ?_
        refine y_iadd B (nI (3 * q + S 3 q)) dX7_test_36 (nI_add _ _) ?_
        refine y_iconst B (nI 1) dX7_test_37 (by decide +kernel) ?_
        refine y_isub B (nI j) dX7_test_38 ((pk_sub (by omega)).trans (congrArg nI (by omega))) ?_
        refine y_goto B 43 dX7_test_39 (by decide) ?_
        refine y_istore B dX7_test_43 (Nat.le_of_ble_eq_true rfl) ?_
        refine y_iload B dX7_test_45 rfl ?_
        refine y_if_eq B 74 dX7_test_47 (by decide) (fun c47 => absurd c47 (by decide +kernel)) (fun c47 => ?_)
        refine y_aload_n B dX7_test_50 rfl ?_
        refine y_get B (ref := "AlertIndexModel") (ci := 8) (C := RX7) (T := TX7) (N := 15) a0 rfl i_X7_test_X7 5 (by decide) (by decide +kernel) (fun _ h9 => h9) rfl dX7_test_51 ?_
        refine y_iload_n B dX7_test_54 rfl ?_
        refine y_ialoadI B (nI (S 3 q)) a3 (vp_in_nI (by omega) (by decide)) (by rw [nI_clamp (by omega)]) dX7_test_55 ?_
        refine y_if_le B 74 dX7_test_56 (by decide) (fun c56 => absurd c56 (nI_nle (by omega) (by omega))) (fun c56 => ?_)
        refine y_aload_n B dX7_test_59 rfl ?_
        refine y_get B (ref := "AlertIndexModel") (ci := 8) (C := RX7) (T := TX7) (N := 15) a0 rfl i_X7_test_X7 10 (by decide) (by decide +kernel) (fun _ h9 => h9) rfl dX7_test_60 ?_
        refine y_iload B dX7_test_63 rfl ?_
        refine y_ialoadI B (nI (S 8 j)) a8 (vp_in_nI (by omega) (by decide)) (by rw [nI_clamp (by omega)]) dX7_test_65 ?_
        refine y_iconst B (nI 4) dX7_test_66 (by decide +kernel) ?_
        refine y_icmp_ge B 74 dX7_test_67 (by decide) (fun c67 => ?_) (fun c67 => ?_)
        · have q67 : 4 ≤ S 8 j := (nI_leI (by decide) (by omega)).mp c67
          refine y_iconst B (nI 0) dX7_test_74 (by decide +kernel) ?_
          refine y_istore B dX7_test_75 (Nat.le_of_ble_eq_true rfl) ?_
          refine y_aload_n B dX7_test_77 rfl ?_
          refine y_iload B dX7_test_78 rfl ?_
          refine y_if_ne B 87 dX7_test_80 (by decide) (fun c80 => ?_) (fun c80 => absurd c80 (by decide +kernel))
          refine y_iload_n B dX7_test_87 rfl ?_
          refine y_iload B dX7_test_88 rfl ?_
          refine y_callS B 2 _ _ (k_X7_isRange l G _) gX7_test_X7_isRange (by decide +kernel) rfl rfl rfl rfl ⟨(Nat.le_of_ble_eq_true rfl), (Nat.le_of_ble_eq_true rfl)⟩ (Nat.le_of_ble_eq_true rfl) ⟨(Nat.le_of_ble_eq_true rfl), (Nat.le_of_ble_eq_true rfl)⟩ dX7_test_90 rfl (fun r M1 hr => ?_)
          obtain ⟨rfl, e9⟩ := hr
          obtain rfl := e9.symm
          refine y_if_ne B 100 dX7_test_93 (by decide) (fun c93 => ?_) (fun c93 => ?_)
          · have q93 := ai_b1 c93
            refine y_iload B dX7_test_100 rfl ?_
            refine y_if_eq B 109 dX7_test_102 (by decide) (fun c102 => ?_) (fun c102 => absurd (by decide +kernel) c102)
            refine y_iconst B (nI 3) dX7_test_109 (by decide +kernel) ?_
            refine y_callV B 1 (q := (RX7, TX7, 15)) _ _ (k_X7_holds l G _ hO) a0 rfl gX7_test_X7_holds (by decide +kernel) rfl rfl rfl rfl ⟨(Nat.le_of_ble_eq_true rfl), (Nat.le_of_ble_eq_true rfl)⟩ (Nat.le_of_ble_eq_true rfl) ⟨(Nat.le_of_ble_eq_true rfl), (Nat.le_of_ble_eq_true rfl)⟩ dX7_test_110 rfl (fun r M1 hr => ?_)
            obtain ⟨rfl, hO1, hk1⟩ := hr
            obtain ⟨b0, b1, b2, b3, b4, b5, b6, b7, b8, b9, b10, b11, b12⟩ := id hO1
            refine y_if_ne B 118 dX7_test_113 (by decide) (fun c113 => absurd (by decide +kernel) c113) (fun c113 => ?_)
            refine y_iconst B (nI 0) dX7_test_116 (by decide +kernel) ?_
            exact y_iret B dX7_test_117 (Nat.le_of_ble_eq_true rfl) (Nat.le_of_ble_eq_true rfl) (by unfold op_test; rw [if_neg (by rw [q5, q12]; decide), if_neg (by rw [q93]; decide), if_pos (Or.inr (by unfold ai_lj; rw [eq9, ← ej]; omega))]; exact ⟨hO1, hk1, _, rfl, fun h9 => absurd h9 (Nat.succ_ne_zero _)⟩)
          · have q93 := (ai_b0 _).mp c93
            refine y_iconst B (nI 2) dX7_test_96 (by decide +kernel) ?_
            refine y_goto B 110 dX7_test_97 (by decide) ?_
            refine y_callV B 1 (q := (RX7, TX7, 15)) _ _ (k_X7_holds l G _ hO) a0 rfl gX7_test_X7_holds (by decide +kernel) rfl rfl rfl rfl ⟨(Nat.le_of_ble_eq_true rfl), (Nat.le_of_ble_eq_true rfl)⟩ (Nat.le_of_ble_eq_true rfl) ⟨(Nat.le_of_ble_eq_true rfl), (Nat.le_of_ble_eq_true rfl)⟩ dX7_test_110 rfl (fun r M1 hr => ?_)
            obtain ⟨rfl, hO1, hk1⟩ := hr
            obtain ⟨b0, b1, b2, b3, b4, b5, b6, b7, b8, b9, b10, b11, b12⟩ := id hO1
            refine y_if_ne B 118 dX7_test_113 (by decide) (fun c113 => absurd (by decide +kernel) c113) (fun c113 => ?_)
            refine y_iconst B (nI 0) dX7_test_116 (by decide +kernel) ?_
            exact y_iret B dX7_test_117 (Nat.le_of_ble_eq_true rfl) (Nat.le_of_ble_eq_true rfl) (by unfold op_test; rw [if_neg (by rw [q5, q12]; decide), if_pos q93]; exact ⟨hO1, hk1, _, rfl, fun h9 => absurd h9 (Nat.succ_ne_zero _)⟩)
        · have q67 : S 8 j < 4 := Nat.lt_of_not_le (fun z => c67 ((nI_leI (by decide) (by omega)).mpr z))
          refine y_iconst B (nI 1) dX7_test_70 (by decide +kernel) ?_
          refine y_goto B 75 dX7_test_71 (by decide) ?_
          refine y_istore B dX7_test_75 (Nat.le_of_ble_eq_true rfl) ?_
          refine y_aload_n B dX7_test_77 rfl ?_
          refine y_iload B dX7_test_78 rfl ?_
          refine y_if_ne B 87 dX7_test_80 (by decide) (fun c80 => ?_) (fun c80 => absurd c80 (by decide +kernel))
          refine y_iload_n B dX7_test_87 rfl ?_
          refine y_iload B dX7_test_88 rfl ?_
          refine y_callS B 2 _ _ (k_X7_isRange l G _) gX7_test_X7_isRange (by decide +kernel) rfl rfl rfl rfl ⟨(Nat.le_of_ble_eq_true rfl), (Nat.le_of_ble_eq_true rfl)⟩ (Nat.le_of_ble_eq_true rfl) ⟨(Nat.le_of_ble_eq_true rfl), (Nat.le_of_ble_eq_true rfl)⟩ dX7_test_90 rfl (fun r M1 hr => ?_)
          obtain ⟨rfl, e9⟩ := hr
          obtain rfl := e9.symm
          refine y_if_ne B 100 dX7_test_93 (by decide) (fun c93 => ?_) (fun c93 => ?_)
          · have q93 := ai_b1 c93
            refine y_iload B dX7_test_100 rfl ?_
            refine y_if_eq B 109 dX7_test_102 (by decide) (fun c102 => absurd c102 (by decide +kernel)) (fun c102 => ?_)
            refine y_iconst B (nI 0) dX7_test_105 (by decide +kernel) ?_
            refine y_goto B 110 dX7_test_106 (by decide) ?_
            refine y_callV B 1 (q := (RX7, TX7, 15)) _ _ (k_X7_holds l G _ hO) a0 rfl gX7_test_X7_holds (by decide +kernel) rfl rfl rfl rfl ⟨(Nat.le_of_ble_eq_true rfl), (Nat.le_of_ble_eq_true rfl)⟩ (Nat.le_of_ble_eq_true rfl) ⟨(Nat.le_of_ble_eq_true rfl), (Nat.le_of_ble_eq_true rfl)⟩ dX7_test_110 rfl (fun r M1 hr => ?_)
            obtain ⟨rfl, hO1, hk1⟩ := hr
            obtain ⟨b0, b1, b2, b3, b4, b5, b6, b7, b8, b9, b10, b11, b12⟩ := id hO1
            obtain ⟨v1, v2, rfl, rfl, hv1, hv2, hv12⟩ := ai_rg_of q93
            have ev1 : (nI v1).toNatClampNeg = v1 := nI_clamp (by omega)
            have ev2 : (nI v2).toNatClampNeg = v2 := nI_clamp (by omega)
            refine y_if_ne B 118 dX7_test_113 (by decide) (fun c113 => ?_) (fun c113 => absurd c113 (by decide +kernel))
            refine y_iconst B (nI 4) dX7_test_118 (by decide +kernel) ?_
            refine y_iload B dX7_test_119 rfl ?_
            refine y_imul B (nI (4 * j)) dX7_test_121 (pk_mul 4 _) ?_
            refine y_aload_n B dX7_test_122 rfl ?_
            refine y_get B (ref := "AlertIndexModel") (ci := 8) (C := RX7) (T := TX7) (N := 15) b0 rfl i_X7_test_X7 10 (by decide) (by decide +kernel) (fun _ h9 => h9) rfl dX7_test_123 ?_
            refine y_iload B dX7_test_126 rfl ?_
            refine y_ialoadI B (nI (S 8 j)) b8 (vp_in_nI (by omega) (by decide)) (by rw [nI_clamp (by omega)]) dX7_test_128 ?_
            refine y_iadd B (nI (4 * j + S 8 j)) dX7_test_129 (nI_add _ _) ?_
            refine y_istore B dX7_test_130 (Nat.le_of_ble_eq_true rfl) ?_
            refine y_aload_n B dX7_test_132 rfl ?_
            refine y_get B (ref := "AlertIndexModel") (ci := 8) (C := RX7) (T := TX7) (N := 15) b0 rfl i_X7_test_X7 11 (by decide) (by decide +kernel) (fun _ h9 => h9) rfl dX7_test_133 ?_
            refine y_iload B dX7_test_136 rfl ?_
            refine y_iload_n B dX7_test_138 rfl ?_
            refine y_iastoreI B b9 (vp_in_nI (by omega) (by decide)) dX7_test_139 ?_
            rw [nI_clamp (by omega)]
            have hO2 := hO1.r9 (4 * j + S 8 j) u
            have kO2 := hO1.k9 (4 * j + S 8 j) u
            obtain ⟨c0, c1, c2, c3, c4, c5, c6, c7, c8, c9, c10, c11, c12⟩ := id hO2
            refine y_aload_n B dX7_test_140 rfl ?_
            refine y_get B (ref := "AlertIndexModel") (ci := 8) (C := RX7) (T := TX7) (N := 15) c0 rfl i_X7_test_X7 12 (by decide) (by decide +kernel) (fun _ h9 => h9) rfl dX7_test_141 ?_
            refine y_iload B dX7_test_144 rfl ?_
            refine y_iload_n B dX7_test_146 rfl ?_
            refine y_iastoreI B c10 (vp_in_nI (by omega) (by decide)) dX7_test_147 ?_
            rw [nI_clamp (by omega)]
            have hO3 := hO2.r10 (4 * j + S 8 j) v1
            have kO3 := hO2.k10 (4 * j + S 8 j) v1
            obtain ⟨d0, d1, d2, d3, d4, d5, d6, d7, d8, d9, d10, d11, d12⟩ := id hO3
            refine y_aload_n B dX7_test_148 rfl ?_
            refine y_get B (ref := "AlertIndexModel") (ci := 8) (C := RX7) (T := TX7) (N := 15) d0 rfl i_X7_test_X7 13 (by decide) (by decide +kernel) (fun _ h9 => h9) rfl dX7_test_149 ?_
            refine y_iload B dX7_test_152 rfl ?_
            refine y_iload B dX7_test_154 rfl ?_
            refine y_iastoreI B d11 (vp_in_nI (by omega) (by decide)) dX7_test_156 ?_
            rw [nI_clamp (by omega)]
            have hO4 := hO3.r11 (4 * j + S 8 j) v2
            have kO4 := hO3.k11 (4 * j + S 8 j) v2
            obtain ⟨f0, f1, f2, f3, f4, f5, f6, f7, f8, f9, f10, f11, f12⟩ := id hO4
            refine y_aload_n B dX7_test_157 rfl ?_
            refine y_get B (ref := "AlertIndexModel") (ci := 8) (C := RX7) (T := TX7) (N := 15) f0 rfl i_X7_test_X7 14 (by decide) (by decide +kernel) (fun _ h9 => h9) rfl dX7_test_158 ?_
            refine y_iload B dX7_test_161 rfl ?_
            refine y_iload B dX7_test_163 rfl ?_
            refine y_bastoreZ B f12 (vp_in_nI (by omega) (by decide)) dX7_test_165 ?_
            rw [nI_clamp (by omega), show vp_nar .boolean (nI bv) = nI bv from by rcases hbv with rfl | rfl <;> decide +kernel]
            have hO5 := hO4.r12 (4 * j + S 8 j) bv
            have kO5 := hO4.k12 (4 * j + S 8 j) bv
            obtain ⟨g0, g1, g2, g3, g4, g5, g6, g7, g8, g9, g10, g11, g12⟩ := id hO5
            refine y_aload_n B dX7_test_166 rfl ?_
            refine y_get B (ref := "AlertIndexModel") (ci := 8) (C := RX7) (T := TX7) (N := 15) g0 rfl i_X7_test_X7 10 (by decide) (by decide +kernel) (fun _ h9 => h9) rfl dX7_test_167 ?_
            refine y_iload B dX7_test_170 rfl ?_
            refine y_dup2 B dX7_test_172 rfl rfl ?_
            refine y_ialoadI B (nI (S 8 j)) g8 (vp_in_nI (by omega) (by decide)) (by rw [nI_clamp (by omega), ai_u_k (by omega), ai_u_k (by omega), ai_u_k (by omega), ai_u_k (by omega)]) dX7_test_173 ?_
            refine y_iconst B (nI 1) dX7_test_174 (by decide +kernel) ?_
            refine y_iadd B (nI (S 8 j + 1)) dX7_test_175 (nI_1 _) ?_
            refine y_iastoreI B g8 (vp_in_nI (by omega) (by decide)) dX7_test_176 ?_
            rw [nI_clamp (by omega)]
            have hO6 := hO5.r8 j (S 8 j + 1)
            have kO6 := hO5.k8 j (S 8 j + 1)
            obtain ⟨w0, w1, w2, w3, w4, w5, w6, w7, w8, w9, w10, w11, w12⟩ := id hO6
            refine y_aload_n B dX7_test_177 rfl ?_
            refine y_get B (ref := "AlertIndexModel") (ci := 8) (C := RX7) (T := TX7) (N := 15) w0 rfl i_X7_test_X7 10 (by decide) (by decide +kernel) (fun _ h9 => h9) rfl dX7_test_178 ?_
            refine y_iload B dX7_test_181 rfl ?_
            refine y_ialoadI B (nI (S 8 j + 1)) w8 (vp_in_nI (by omega) (by decide)) (by rw [nI_clamp (by omega), ai_u_s]) dX7_test_183 ?_
            exact y_iret B dX7_test_184 (Nat.le_of_ble_eq_true rfl) (Nat.le_of_ble_eq_true rfl) (by unfold op_test; rw [if_neg (by rw [q5, q12]; decide), if_neg (by rw [q93]; decide), show ai_lj S (nI q) = j from by unfold ai_lj; rw [eq9, ej], eq9, eu9, ev1, ev2, if_neg (by omega)]; exact ⟨hO6, ((((hk1.tr kO2).tr kO3).tr kO4).tr kO5).tr kO6, _, rfl, fun _ => rfl⟩)
          · have q93 := (ai_b0 _).mp c93
            refine y_iconst B (nI 2) dX7_test_96 (by decide +kernel) ?_
            refine y_goto B 110 dX7_test_97 (by decide) ?_
            refine y_callV B 1 (q := (RX7, TX7, 15)) _ _ (k_X7_holds l G _ hO) a0 rfl gX7_test_X7_holds (by decide +kernel) rfl rfl rfl rfl ⟨(Nat.le_of_ble_eq_true rfl), (Nat.le_of_ble_eq_true rfl)⟩ (Nat.le_of_ble_eq_true rfl) ⟨(Nat.le_of_ble_eq_true rfl), (Nat.le_of_ble_eq_true rfl)⟩ dX7_test_110 rfl (fun r M1 hr => ?_)
            obtain ⟨rfl, hO1, hk1⟩ := hr
            obtain ⟨b0, b1, b2, b3, b4, b5, b6, b7, b8, b9, b10, b11, b12⟩ := id hO1
            refine y_if_ne B 118 dX7_test_113 (by decide) (fun c113 => absurd (by decide +kernel) c113) (fun c113 => ?_)
            refine y_iconst B (nI 0) dX7_test_116 (by decide +kernel) ?_
            exact y_iret B dX7_test_117 (Nat.le_of_ble_eq_true rfl) (Nat.le_of_ble_eq_true rfl) (by unfold op_test; rw [if_neg (by rw [q5, q12]; decide), if_pos q93]; exact ⟨hO1, hk1, _, rfl, fun h9 => absurd h9 (Nat.succ_ne_zero _)⟩)
set_option maxHeartbeats 4000000 in
set_option maxRecDepth 100000 in
theorem k_X7_come (l : Launch) (G : ai_G) (M : ai_M) {t0 : Int32} {S : ai_S} {mo : Nat} {ma : Nat → Nat} (hO : ai_O G M t0 S mo ma) {o : Nat} (hI : ai_I S o) (ho : o ≤ 10000) : ai_C l yX7_come wsX7_come ({ frames := 2, cells := 0, slots := 0, locals := 48 } : Room) 0 0 G M [.ref mo] (fun r M1 => ai_did G M mo ma (op_come S) r M1) := by
  refine y_start (by decide +kernel) rfl (Nat.le_of_ble_eq_true rfl) (Nat.le_of_ble_eq_true rfl) (fun x hx => by simp only [List.mem_cons, List.not_mem_nil, or_false] at hx; rcases hx with rfl <;> rfl) ?_
  intro p e s m below meth c B hnm
  obtain ⟨a0, a1, a2, a3, a4, a5, a6, a7, a8, a9, a10, a11, a12⟩ := id hO
  have lp : ∀ (d : Nat) (i : Nat) (Mi : ai_M), (S 0 2 < i + d) → (i ≤ S 0 2) → (ai_O G Mi (nI 0) (ai_cS i S) mo ma) → (ai_km M Mi) → ai_Y p l e ({ frames := 2, cells := 0, slots := 0, locals := 48 } : Room) s m [.ref mo].toArray below meth c G (MQ below (ai_Q G (fun r M1 => ai_did G M mo ma (op_come S) r M1)) [.ref mo].toArray s 0 0 (ai_A G)) Mi 0 0 [some (.ref mo), some (.int (ai_cV i S)), some (.int (nI i))] 9 [] := by
    intro d
    induction d with
    | zero => intros; omega
    | succ d ih =>
      intro i Mi hm hi hOi hk
      have hJ := (ai_cS_I hI (n := i) hi).J (by omega)
      have eT : ai_cS i S 0 2 = S 0 2 := ai_cS_k (by omega)
      have hn20 := hJ.2.1
      obtain ⟨c0, c1, c2, c3, c4, c5, c6, c7, c8, c9, c10, c11, c12⟩ := id hOi
      refine y_iload_n B dX7_come_9 rfl ?_
      refine y_aload_n B dX7_come_10 rfl ?_
      refine y_get B (ref := "AlertIndexModel") (ci := 8) (C := RX7) (T := TX7) (N := 15) c0 rfl i_X7_come_X7 2 (by decide) (by decide +kernel) (fun _ h9 => h9) rfl dX7_come_11 ?_
      refine y_icmp_ge B 71 dX7_come_14 (by decide) (fun c14 => ?_) (fun c14 => ?_)
      · have ei : i = S 0 2 := by have := (nI_leI (by omega) (by omega)).mp c14; omega
        refine y_iload_n B dX7_come_71 rfl ?_
        exact y_iret B dX7_come_72 (Nat.le_of_ble_eq_true rfl) (Nat.le_of_ble_eq_true rfl) (by rw [ei] at hOi; exact ⟨hOi, hk, _, rfl, fun _ => by rw [ei]; rfl⟩)
      · have q14 : i < (ai_cS i S) 0 2 := Nat.lt_of_not_le (fun z => c14 ((nI_leI (by omega) (by omega)).mpr (by omega)))
        have hok := hJ.2.2.2 i q14
        refine y_aload_n B dX7_come_17 rfl ?_
        refine y_iload_n B dX7_come_18 rfl ?_
        refine y_callV B 1 (q := (RX7, TX7, 15)) _ _ (k_X7_isQuestion l G _ hOi hJ.2.1 (fun q hq => (hJ.2.2.2 q hq).1)) c0 rfl gX7_come_X7_isQuestion (by decide +kernel) rfl rfl rfl rfl ⟨(Nat.le_of_ble_eq_true rfl), (Nat.le_of_ble_eq_true rfl)⟩ (Nat.le_of_ble_eq_true rfl) ⟨(Nat.le_of_ble_eq_true rfl), (Nat.le_of_ble_eq_true rfl)⟩ dX7_come_19 rfl (fun r M1 hr => ?_)
        obtain ⟨rfl, e9⟩ := hr
        obtain rfl := e9.symm
        rw [ai_qo_i hJ.2.1 q14]
        refine y_if_eq B 65 dX7_come_22 (by decide) (fun c22 => ?_) (fun c22 => ?_)
        · have q22 := of_decide_eq_false ((ai_b0 _).mp c22)
          refine y_iinc B (nI (i + 1)) dX7_come_65 rfl (nI_1 i) ?_
          refine y_goto B 9 dX7_come_68 (by decide) ?_
          have e1 : ai_cS (i + 1) S = (ai_cS i S) := by show ai_c1 (ai_cS i S) i = _; unfold ai_c1; rw [if_neg (fun z => q22 z.1)]
          have e2 : ai_cV (i + 1) S = ai_cV i S := by conv => lhs; unfold ai_cV; rw [if_neg (fun z => q22 z.1)]
          have z9 := ih (i + 1) _ (by omega) (by omega) (by rw [e1]; exact hOi) (hk)
          rw [e2] at z9
          exact z9
        · have q22 := of_decide_eq_true (ai_b1 c22)
          refine y_aload_n B dX7_come_25 rfl ?_
          refine y_iload_n B dX7_come_26 rfl ?_
          refine y_callV B 1 (q := (RX7, TX7, 15)) _ _ (k_X7_does l G _ hOi hJ.2.2.1 (q := i) (by omega) hok.2.1 (fun p hp => hok.2.2.2.2.2 p hp)) c0 rfl gX7_come_X7_does (by decide +kernel) rfl rfl rfl rfl ⟨(Nat.le_of_ble_eq_true rfl), (Nat.le_of_ble_eq_true rfl)⟩ (Nat.le_of_ble_eq_true rfl) ⟨(Nat.le_of_ble_eq_true rfl), (Nat.le_of_ble_eq_true rfl)⟩ dX7_come_27 rfl (fun r M1 hr => ?_)
          obtain ⟨rfl, e9⟩ := hr
          obtain rfl := e9.symm
          refine y_if_eq B 65 dX7_come_30 (by decide) (fun c30 => ?_) (fun c30 => ?_)
          · have q30 := (ai_b0 _).mp c30
            refine y_iinc B (nI (i + 1)) dX7_come_65 rfl (nI_1 i) ?_
            refine y_goto B 9 dX7_come_68 (by decide) ?_
            have e1 : ai_cS (i + 1) S = (ai_cS i S) := by show ai_c1 (ai_cS i S) i = _; unfold ai_c1; rw [if_neg (fun z => by rw [q30] at z; exact absurd z.2 (by decide))]
            have e2 : ai_cV (i + 1) S = ai_cV i S := by conv => lhs; unfold ai_cV; rw [if_neg (fun z => by rw [q30] at z; exact absurd z.2.1 (by decide))]
            have z9 := ih (i + 1) _ (by omega) (by omega) (by rw [e1]; exact hOi) (hk)
            rw [e2] at z9
            exact z9
          · have q30 := ai_b1 c30
            refine y_aload_n B dX7_come_33 rfl ?_
            refine y_iload_n B dX7_come_34 rfl ?_
            refine y_callV B 1 (q := (RX7, TX7, 15)) _ _ (k_X7_quietNow l G _ hOi hJ.1 (q := i) (by omega) hok.2.2.2.1) c0 rfl gX7_come_X7_quietNow (by decide +kernel) rfl rfl rfl rfl ⟨(Nat.le_of_ble_eq_true rfl), (Nat.le_of_ble_eq_true rfl)⟩ (Nat.le_of_ble_eq_true rfl) ⟨(Nat.le_of_ble_eq_true rfl), (Nat.le_of_ble_eq_true rfl)⟩ dX7_come_35 rfl (fun r M1 hr => ?_)
            obtain ⟨rfl, e9⟩ := hr
            obtain rfl := e9.symm
            refine y_if_eq B 54 dX7_come_38 (by decide) (fun c38 => ?_) (fun c38 => ?_)
            · have q38 := of_decide_eq_false ((ai_b0 _).mp c38)
              refine y_aload_n B dX7_come_54 rfl ?_
              refine y_iload_n B dX7_come_55 rfl ?_
              refine y_callV B 1 (q := (RX7, TX7, 15)) _ _ (k_X7_raises l G _ hOi (q := i) (by omega)) c0 rfl gX7_come_X7_raises (by decide +kernel) rfl rfl rfl rfl ⟨(Nat.le_of_ble_eq_true rfl), (Nat.le_of_ble_eq_true rfl)⟩ (Nat.le_of_ble_eq_true rfl) ⟨(Nat.le_of_ble_eq_true rfl), (Nat.le_of_ble_eq_true rfl)⟩ dX7_come_56 rfl (fun r M1 hr => ?_)
              obtain ⟨rfl, hO2, kO2⟩ := hr
              refine y_iload_n B dX7_come_59 rfl ?_
              refine y_iconst B (nI 1) dX7_come_60 (by decide +kernel) ?_
              refine y_iload_n B dX7_come_61 rfl ?_
              refine y_ishl B (nI 1 <<< (nI i &&& 31)) dX7_come_62 (rfl) ?_
              refine y_ior B (ai_cV i S ||| (nI 1 <<< (nI i &&& 31))) dX7_come_63 (rfl) ?_
              refine y_istore_n B dX7_come_64 (Nat.le_of_ble_eq_true rfl) ?_
              refine y_iinc B (nI (i + 1)) dX7_come_65 rfl (nI_1 i) ?_
              refine y_goto B 9 dX7_come_68 (by decide) ?_
              have e1 : ai_cS (i + 1) S = ai_u (ai_u (ai_cS i S) 6 i ((ai_cS i S) 6 i + 1)) 5 i ((ai_cS i S) 0 1 + (ai_cS i S) 4 i) := by show ai_c1 (ai_cS i S) i = _; unfold ai_c1; rw [if_pos (show _ ∧ _ from ⟨q22, q30⟩), if_pos (by omega)]
              have e2 : ai_cV (i + 1) S = ai_cV i S ||| (nI 1 <<< (nI i &&& 31)) := by conv => lhs; unfold ai_cV; rw [if_pos (show _ ∧ _ from ⟨q22, q30, by omega⟩)]
              have z9 := ih (i + 1) _ (by omega) (by omega) (by rw [e1]; exact hO2) (hk.tr kO2)
              rw [e2] at z9
              exact z9
            · have q38 := of_decide_eq_true (ai_b1 c38)
              refine y_aload_n B dX7_come_41 rfl ?_
              refine y_get B (ref := "AlertIndexModel") (ci := 8) (C := RX7) (T := TX7) (N := 15) c0 rfl i_X7_come_X7 9 (by decide) (by decide +kernel) (fun _ h9 => h9) rfl dX7_come_42 ?_
              refine y_iload_n B dX7_come_45 rfl ?_
              refine y_dup2 B dX7_come_46 rfl rfl ?_
              refine y_ialoadI B (nI ((ai_cS i S) 7 i)) c7 (vp_in_nI (by omega) (by decide)) (by rw [nI_clamp (by omega)]) dX7_come_47 ?_
              refine y_iconst B (nI 1) dX7_come_48 (by decide +kernel) ?_
              refine y_iadd B (nI ((ai_cS i S) 7 i + 1)) dX7_come_49 (nI_1 _) ?_
              refine y_iastoreI B c7 (vp_in_nI (by omega) (by decide)) dX7_come_50 ?_
              rw [nI_clamp (by omega)]
              have hO2 := hOi.r7 i ((ai_cS i S) 7 i + 1)
              have kO2 := hOi.k7 i ((ai_cS i S) 7 i + 1)
              refine y_goto B 65 dX7_come_51 (by decide) ?_
              refine y_iinc B (nI (i + 1)) dX7_come_65 rfl (nI_1 i) ?_
              refine y_goto B 9 dX7_come_68 (by decide) ?_
              have e1 : ai_cS (i + 1) S = ai_u (ai_cS i S) 7 i ((ai_cS i S) 7 i + 1) := by show ai_c1 (ai_cS i S) i = _; unfold ai_c1; rw [if_pos (show _ ∧ _ from ⟨q22, q30⟩), if_neg (by omega)]
              have e2 : ai_cV (i + 1) S = ai_cV i S := by conv => lhs; unfold ai_cV; rw [if_neg (fun z => by have := z.2.2; omega)]
              have z9 := ih (i + 1) _ (by omega) (by omega) (by rw [e1]; exact hO2) (hk.tr kO2)
              rw [e2] at z9
              exact z9
  refine y_aload_n B dX7_come_0 rfl ?_
  refine y_iconst B (nI 0) dX7_come_1 (by decide +kernel) ?_
  refine y_put B (ref := "AlertIndexModel") (ci := 8) (C := RX7) (T := TX7) (N := 15) (ty := .int) a0 rfl i_X7_come_X7 tyX7 tyX7_ok nmX7 0 (by decide) (by decide +kernel) (fun _ h9 => h9) rfl (by decide +kernel) rfl rfl (Nat.le_of_ble_eq_true rfl) dX7_come_2 ?_
  have hO1 := hO.ot (nI 0)
  have hk1 : ai_km M _ := ai_km.U (e1 := .inr (8, [.int (nI 0), .int (nI (S 0 1)), .int (nI (S 0 2)), .ref (ma 1), .ref (ma 2), .ref (ma 3), .ref (ma 4), .ref (ma 5), .ref (ma 6), .ref (ma 7), .ref (ma 8), .ref (ma 9), .ref (ma 10), .ref (ma 11), .ref (ma 12)])) a0 (by decide)
  obtain ⟨b0, b1, b2, b3, b4, b5, b6, b7, b8, b9, b10, b11, b12⟩ := id hO1
  refine y_iconst B (nI 0) dX7_come_5 (by decide +kernel) ?_
  refine y_istore_n B dX7_come_6 (Nat.le_of_ble_eq_true rfl) ?_
  refine y_iconst B (nI 0) dX7_come_7 (by decide +kernel) ?_
  refine y_istore_n B dX7_come_8 (Nat.le_of_ble_eq_true rfl) ?_
  exact lp (S 0 2 + 1) 0 _ (by omega) (by omega) hO1 hk1
