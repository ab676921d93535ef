/-! ===== RANGES, PIECES, REFUSALS, THE INDEX ===== -/
theorem x_bad_44 : ∀ w ∈ (vx_atS RX6 44 "java/lang/IllegalStateException" ai_Xn).filter (fun w => !goodWord w), w ∈ ai_Xw := fun _ h => List.mem_append_left _ (List.mem_append_left _ (List.mem_append_right _ h))
theorem x_bad_161 : ∀ w ∈ (vx_atS RX6 161 "java/lang/IndexOutOfBoundsException" ai_Xn).filter (fun w => !goodWord w), w ∈ ai_Xw := fun _ h => List.mem_append_left _ (List.mem_append_right _ h)
theorem x_bad_108 : ∀ w ∈ (vx_atS RX6 108 "java/lang/IllegalArgumentException" ai_Xn).filter (fun w => !goodWord w), w ∈ ai_Xw := fun _ h => List.mem_append_right _ h
theorem x_good_44 : ∀ w ∈ Cond.classLink RX6 40 "java/lang/IllegalStateException" :: Cond.initialized "java/lang/IllegalStateException" :: vx_atS RX6 44 "java/lang/IllegalStateException" ai_Xn, vx_ot w = true := by decide +kernel
theorem x_good_161 : ∀ w ∈ Cond.classLink RX6 157 "java/lang/IndexOutOfBoundsException" :: Cond.initialized "java/lang/IndexOutOfBoundsException" :: vx_atS RX6 161 "java/lang/IndexOutOfBoundsException" ai_Xn, vx_ot w = true := by decide +kernel
theorem x_good_108 : ∀ w ∈ Cond.classLink RX6 104 "java/lang/IllegalArgumentException" :: Cond.initialized "java/lang/IllegalArgumentException" :: vx_atS RX6 108 "java/lang/IllegalArgumentException" ai_Xn, vx_ot w = true := by decide +kernel
/-- a number lies in 0 .. n - 1 -/
def ai_r (x : Int32) (n : Nat) : Bool := decide (0 ≤ x.toInt ∧ x.toInt < (n : Int))
theorem ai_r_neg {x : Int32} {n : Nat} (h : x < 0) : ai_r x n = false := by
  have := Int32.lt_iff_toInt_lt.mp h
  rw [Int32.toInt_zero] at this
  exact decide_eq_false (by omega)
theorem ai_r_big {x : Int32} {n : Nat} (hn : n < 2 ^ 31) (h : nI n ≤ x) : ai_r x n = false := by
  have := Int32.le_iff_toInt_le.mp h
  rw [nI_toInt hn] at this
  exact decide_eq_false (by omega)
theorem ai_r_ok {x : Int32} {n : Nat} (hn : n < 2 ^ 31) (h : ¬ x < 0) (h2 : ¬ nI n ≤ x) : ai_r x n = true := by
  rw [Int32.lt_iff_toInt_lt, Int32.toInt_zero] at h
  rw [Int32.le_iff_toInt_le, nI_toInt hn] at h2
  exact decide_eq_true (by omega)
theorem ai_r_ok2 {x : Int32} {n : Nat} (hn : n < 2 ^ 31) (h : ¬ x < 0) (h2 : x < nI n) : ai_r x n = true := ai_r_ok hn h (fun z => by
  rw [Int32.le_iff_toInt_le] at z
  rw [Int32.lt_iff_toInt_lt] at h2
  omega)
theorem ai_r_big2 {x : Int32} {n : Nat} (hn : n < 2 ^ 31) (h : ¬ x < nI n) : ai_r x n = false := ai_r_big hn (by
  rw [Int32.le_iff_toInt_le]
  rw [Int32.lt_iff_toInt_lt] at h
  omega)
theorem ai_r_nI {j n : Nat} (hj : j < n) (hn : n < 2 ^ 31) : ai_r (nI j) n = true := by
  refine decide_eq_true ?_
  rw [nI_toInt (by omega)]
  omega
theorem ai_r_of {x : Int32} {n : Nat} (hn : n < 2 ^ 31) (h : ai_r x n = true) : ∃ j : Nat, j < n ∧ x = nI j := vp_in_of (vp_in_iff.mpr (of_decide_eq_true h)) hn
/-- the level of the greatest piece that begins at b and ends at h or ahead of it -/
def ai_lvF : Nat → Nat → Nat → Nat → Nat
  | 0, l, _, _ => l
  | n + 1, l, b, h => if b % 2 ^ (l + 1) = 0 ∧ b + 2 ^ (l + 1) ≤ h + 1 then ai_lvF n (l + 1) b h else l
def ai_lv (b h : Nat) : Nat := ai_lvF 6 0 b h
theorem ai_p2 : ∀ l, l < 7 → 2 ^ (l + 1) ≤ 128 ∧ 2 ≤ 2 ^ (l + 1) := by decide
theorem ai_p26 : ∀ l, l < 7 → ¬ 64 < 2 ^ (l + 1) → l < 6 := by decide
theorem ai_p66 : ∀ l, l < 7 → 64 < 2 ^ (l + 1) → l = 6 := by decide
theorem ai_lv_le : ∀ b, b < 64 → ∀ h, h < 64 → b ≤ h → b + 2 ^ ai_lv b h ≤ h + 1 ∧ ai_lv b h ≤ 6 ∧ b % 2 ^ ai_lv b h = 0 := by decide +kernel
set_option maxHeartbeats 4000000 in
set_option maxRecDepth 100000 in
theorem k_X6_isValue (l : Launch) (G : ai_G) (M : ai_M) {x : Int32} : ai_C l yX6_isValue wsX6_isValue ({ frames := 0, cells := 0, slots := 0, locals := 0 } : Room) 0 0 G M [.int x] (fun r M1 => r = some (.int (ai_b (ai_r x 64))) ∧ M1 = M) := by
  refine y_start (by decide +kernel) rfl (Nat.le_of_ble_eq_true rfl) (Nat.le_of_ble_eq_true rfl) (fun x hx => by simp only [List.mem_cons, List.not_mem_nil, or_false] at hx; rcases hx with rfl <;> rfl) ?_
  intro p e s m below meth c B hnm
  refine y_iload_n B dX6_isValue_0 rfl ?_
  refine y_if_lt B 14 dX6_isValue_1 (by decide) (fun c1 => ?_) (fun c1 => ?_)
  · refine y_iconst B (nI 0) dX6_isValue_14 (by decide +kernel) ?_
    exact y_zret B dX6_isValue_15 (Nat.le_of_ble_eq_true rfl) (Nat.le_of_ble_eq_true rfl) rfl (⟨by rw [ai_r_neg c1]; rfl, rfl⟩)
  · refine y_iload_n B dX6_isValue_4 rfl ?_
    refine y_bipush B (nI 64) dX6_isValue_5 (by decide +kernel) ?_
    refine y_icmp_ge B 14 dX6_isValue_7 (by decide) (fun c7 => ?_) (fun c7 => ?_)
    · refine y_iconst B (nI 0) dX6_isValue_14 (by decide +kernel) ?_
      exact y_zret B dX6_isValue_15 (Nat.le_of_ble_eq_true rfl) (Nat.le_of_ble_eq_true rfl) rfl (⟨by rw [ai_r_big (by decide) c7]; rfl, rfl⟩)
    · refine y_iconst B (nI 1) dX6_isValue_10 (by decide +kernel) ?_
      refine y_goto B 15 dX6_isValue_11 (by decide) ?_
      exact y_zret B dX6_isValue_15 (Nat.le_of_ble_eq_true rfl) (Nat.le_of_ble_eq_true rfl) rfl (⟨by rw [ai_r_ok (by decide) c1 c7]; rfl, rfl⟩)
set_option maxHeartbeats 4000000 in
set_option maxRecDepth 100000 in
theorem k_X6_levelOfPiece (l : Launch) (G : ai_G) (M : ai_M) {b h : Nat} (hb : b < 64) (hh : h < 64) : ai_C l yX6_levelOfPiece wsX6_levelOfPiece ({ frames := 0, cells := 0, slots := 0, locals := 0 } : Room) 0 0 G M [.int (nI b), .int (nI h)] (fun r M1 => r = some (.int (nI (ai_lv b h))) ∧ M1 = M) := by
  refine y_start (by decide +kernel) rfl (Nat.le_of_ble_eq_true rfl) (Nat.le_of_ble_eq_true rfl) (fun x hx => by simp only [List.mem_cons, List.not_mem_nil, or_false] at hx; rcases hx with rfl | rfl <;> rfl) ?_
  intro p e s m below meth c B hnm
  have lp : ∀ (d : Nat) (i : Nat), (6 < i + d) → (i ≤ 6) → (ai_lv b h = ai_lvF (6 - i) i b h) → ai_Y p l e ({ frames := 0, cells := 0, slots := 0, locals := 0 } : Room) s m [.int (nI b), .int (nI h)].toArray below meth c G (MQ below (ai_Q G (fun r M1 => r = some (.int (nI (ai_lv b h))) ∧ M1 = M)) [.int (nI b), .int (nI h)].toArray s 0 0 (ai_A G)) M 0 0 [some (.int (nI b)), some (.int (nI h)), some (.int (nI i)), some (.int (nI (2 ^ (i + 1))))] 4 [] := by
    intro d
    induction d with
    | zero => intros; omega
    | succ d ih =>
      intro i hm hi hl
      have hp := ai_p2 i (by omega)
      have hmod : b % 2 ^ (i + 1) < 2 ^ (i + 1) := Nat.mod_lt _ (by omega)
      refine y_iload_n B dX6_levelOfPiece_4 rfl ?_
      refine y_bipush B (nI 64) dX6_levelOfPiece_5 (by decide +kernel) ?_
      refine y_icmp_gt B 40 dX6_levelOfPiece_7 (by decide) (fun c7 => ?_) (fun c7 => ?_)
      · have q7 : i = 6 := ai_p66 i (by omega) ((nI_ltI (by decide) (by omega)).mp c7)
        refine y_iload_n B dX6_levelOfPiece_40 rfl ?_
        exact y_iret B dX6_levelOfPiece_41 (Nat.le_of_ble_eq_true rfl) (Nat.le_of_ble_eq_true rfl) (⟨by rw [hl, q7]; rfl, rfl⟩)
      · have q7 : i < 6 := ai_p26 i (by omega) (fun z => c7 ((nI_ltI (by decide) (by omega)).mpr z))
        obtain ⟨n, hn⟩ : ∃ n, 6 - i = n + 1 := ⟨5 - i, by omega⟩
        refine y_iload_n B dX6_levelOfPiece_10 rfl ?_
        refine y_iload_n B dX6_levelOfPiece_11 rfl ?_
        refine y_iconst B (nI 1) dX6_levelOfPiece_12 (by decide +kernel) ?_
        refine y_isub B (nI (2 ^ (i + 1) - 1)) dX6_levelOfPiece_13 (pk_sub (by omega)) ?_
        refine y_iand B (nI (b % 2 ^ (i + 1))) dX6_levelOfPiece_14 (pk_andN (by omega) (i + 1) (pk_tn (by omega))) ?_
        refine y_if_ne B 40 dX6_levelOfPiece_15 (by decide) (fun c15 => ?_) (fun c15 => ?_)
        · have q15 : ¬ b % 2 ^ (i + 1) = 0 := fun z => c15 (by rw [z]; rfl)
          refine y_iload_n B dX6_levelOfPiece_40 rfl ?_
          exact y_iret B dX6_levelOfPiece_41 (Nat.le_of_ble_eq_true rfl) (Nat.le_of_ble_eq_true rfl) (⟨by rw [hl, hn]; unfold ai_lvF; rw [if_neg (fun z => q15 z.1)], rfl⟩)
        · have q15 : b % 2 ^ (i + 1) = 0 := (nI_eq (by omega) (by decide)).mp c15
          refine y_iload_n B dX6_levelOfPiece_18 rfl ?_
          refine y_iload_n B dX6_levelOfPiece_19 rfl ?_
          refine y_iadd B (nI (b + 2 ^ (i + 1))) dX6_levelOfPiece_20 (nI_add _ _) ?_
          refine y_iconst B (nI 1) dX6_levelOfPiece_21 (by decide +kernel) ?_
          refine y_isub B (nI (b + 2 ^ (i + 1) - 1)) dX6_levelOfPiece_22 (pk_sub (by omega)) ?_
          refine y_iload_n B dX6_levelOfPiece_23 rfl ?_
          refine y_icmp_le B 30 dX6_levelOfPiece_24 (by decide) (fun c24 => ?_) (fun c24 => ?_)
          · have q24 : b + 2 ^ (i + 1) - 1 ≤ h := (nI_leI (by omega) (by omega)).mp c24
            refine y_iinc B (nI (i + 1)) dX6_levelOfPiece_30 rfl (nI_1 i) ?_
            refine y_iload_n B dX6_levelOfPiece_33 rfl ?_
            refine y_iconst B (nI 2) dX6_levelOfPiece_34 (by decide +kernel) ?_
            refine y_imul B (nI (2 ^ (i + 1 + 1))) dX6_levelOfPiece_35 ((pk_mul _ _).trans (congrArg nI (Nat.pow_succ 2 (i + 1)).symm)) ?_
            refine y_istore_n B dX6_levelOfPiece_36 (Nat.le_of_ble_eq_true rfl) ?_
            refine y_goto B 4 dX6_levelOfPiece_37 (by decide) ?_
            exact ih (i + 1) (by omega) (by omega) (by rw [hl, hn, show 6 - (i + 1) = n by omega]; conv => lhs; unfold ai_lvF; rw [if_pos (show _ ∧ _ from ⟨q15, by omega⟩)])
          · have q24 : ¬ b + 2 ^ (i + 1) - 1 ≤ h := fun z => c24 ((nI_leI (by omega) (by omega)).mpr z)
            refine y_goto B 40 dX6_levelOfPiece_27 (by decide) ?_
            refine y_iload_n B dX6_levelOfPiece_40 rfl ?_
            exact y_iret B dX6_levelOfPiece_41 (Nat.le_of_ble_eq_true rfl) (Nat.le_of_ble_eq_true rfl) (⟨by rw [hl, hn]; unfold ai_lvF; rw [if_neg (fun z => q24 (by omega))], rfl⟩)
  refine y_iconst B (nI 0) dX6_levelOfPiece_0 (by decide +kernel) ?_
  refine y_istore_n B dX6_levelOfPiece_1 (Nat.le_of_ble_eq_true rfl) ?_
  refine y_iconst B (nI 2) dX6_levelOfPiece_2 (by decide +kernel) ?_
  refine y_istore_n B dX6_levelOfPiece_3 (Nat.le_of_ble_eq_true rfl) ?_
  exact lp 7 0 (by omega) (by omega) rfl
set_option maxHeartbeats 4000000 in
set_option maxRecDepth 100000 in
theorem k_X6_refuseNoName (l : Launch) (G : ai_G) (M : ai_M) (hst : l.stackTraces = false) {x : Int32} : ai_D l yX6_refuseNoName wsX6_refuseNoName ({ frames := 6, cells := 1, slots := 6, locals := 90 } : Room) 1 6 G M [.int x] (fun r M1 => r = none ∧ M1 = M ∧ ai_r x 6 = true) (fun E M1 => E = "java/lang/IndexOutOfBoundsException" ∧ M1 = M ∧ ai_r x 6 = false) := by
  refine x_start (by decide +kernel) rfl (Nat.le_of_ble_eq_true rfl) (Nat.le_of_ble_eq_true rfl) (fun x hx => by simp only [List.mem_cons, List.not_mem_nil, or_false] at hx; rcases hx with rfl <;> rfl) ?_
  intro p e s m below meth c B htab
  refine y_iload_n B dX6_refuseNoName_0 rfl ?_
  refine y_if_lt B 10 dX6_refuseNoName_1 (by decide) (fun c1 => ?_) (fun c1 => ?_)
  · exact x_throw B (E := "java/lang/IndexOutOfBoundsException") (text := "a name is 0 to 5") (sv := 21) hst htab (by decide +kernel) (by decide +kernel) (by decide +kernel) (by decide +kernel) (fun w h => List.mem_cons_of_mem _ (List.mem_append_right _ h)) x_bad_161 x_good_161 dX6_refuseNoName_10 dX6_refuseNoName_13 dX6_refuseNoName_14 dX6_refuseNoName_16 dX6_refuseNoName_19 (Nat.le_of_ble_eq_true rfl) (Nat.le_of_ble_eq_true rfl) (Nat.le_of_ble_eq_true rfl) (Nat.le_of_ble_eq_true rfl) (Nat.le_of_ble_eq_true rfl) (Nat.le_of_ble_eq_true rfl) (⟨rfl, rfl, ai_r_neg c1⟩)
  · refine y_iload_n B dX6_refuseNoName_4 rfl ?_
    refine y_bipush B (nI 6) dX6_refuseNoName_5 (by decide +kernel) ?_
    refine y_icmp_lt B 20 dX6_refuseNoName_7 (by decide) (fun c7 => ?_) (fun c7 => ?_)
    · exact x_vret B dX6_refuseNoName_20 (Nat.le_of_ble_eq_true rfl) (Nat.le_of_ble_eq_true rfl) (⟨rfl, rfl, ai_r_ok2 (by decide) c1 c7⟩)
    · exact x_throw B (E := "java/lang/IndexOutOfBoundsException") (text := "a name is 0 to 5") (sv := 21) hst htab (by decide +kernel) (by decide +kernel) (by decide +kernel) (by decide +kernel) (fun w h => List.mem_cons_of_mem _ (List.mem_append_right _ h)) x_bad_161 x_good_161 dX6_refuseNoName_10 dX6_refuseNoName_13 dX6_refuseNoName_14 dX6_refuseNoName_16 dX6_refuseNoName_19 (Nat.le_of_ble_eq_true rfl) (Nat.le_of_ble_eq_true rfl) (Nat.le_of_ble_eq_true rfl) (Nat.le_of_ble_eq_true rfl) (Nat.le_of_ble_eq_true rfl) (Nat.le_of_ble_eq_true rfl) (⟨rfl, rfl, ai_r_big2 (by decide) c7⟩)
/-- low and high are a range -/
def ai_rg (lo hi : Int32) : Bool := ai_r lo 64 && (ai_r hi 64 && decide (lo ≤ hi))
set_option maxHeartbeats 4000000 in
set_option maxRecDepth 100000 in
theorem k_X6_refuseNoRange (l : Launch) (G : ai_G) (M : ai_M) (hst : l.stackTraces = false) {x y : Int32} : ai_D l yX6_refuseNoRange wsX6_refuseNoRange ({ frames := 6, cells := 1, slots := 6, locals := 90 } : Room) 1 6 G M [.int x, .int y] (fun r M1 => r = none ∧ M1 = M ∧ ai_rg x y = true) (fun E M1 => E = "java/lang/IllegalArgumentException" ∧ M1 = M ∧ ai_rg x y = false) := by
  refine x_start (by decide +kernel) rfl (Nat.le_of_ble_eq_true rfl) (Nat.le_of_ble_eq_true rfl) (fun x hx => by simp only [List.mem_cons, List.not_mem_nil, or_false] at hx; rcases hx with rfl | rfl <;> rfl) ?_
  intro p e s m below meth c B htab
  refine y_iload_n B dX6_refuseNoRange_0 rfl ?_
  refine y_callS B 1 _ _ (k_X6_isValue l G _) gX6_refuseNoRange_X6_isValue (by decide +kernel) rfl rfl rfl rfl ⟨(Nat.le_of_ble_eq_true rfl), (Nat.le_of_ble_eq_true rfl)⟩ (Nat.le_of_ble_eq_true rfl) ⟨(Nat.le_of_ble_eq_true rfl), (Nat.le_of_ble_eq_true rfl)⟩ dX6_refuseNoRange_1 rfl (fun r M1 hr => ?_)
  obtain ⟨rfl, rfl⟩ := hr
  refine y_if_eq B 19 dX6_refuseNoRange_4 (by decide) (fun c4 => ?_) (fun c4 => ?_)
  · have q4 := (ai_b0 _).mp c4
    exact x_throw B (E := "java/lang/IllegalArgumentException") (text := "a range is from 0 to 63, its low not above its high") (sv := 22) hst htab (by decide +kernel) (by decide +kernel) (by decide +kernel) (by decide +kernel) (fun w h => List.mem_cons_of_mem _ (List.mem_append_right _ h)) x_bad_108 x_good_108 dX6_refuseNoRange_19 dX6_refuseNoRange_22 dX6_refuseNoRange_23 dX6_refuseNoRange_25 dX6_refuseNoRange_28 (Nat.le_of_ble_eq_true rfl) (Nat.le_of_ble_eq_true rfl) (Nat.le_of_ble_eq_true rfl) (Nat.le_of_ble_eq_true rfl) (Nat.le_of_ble_eq_true rfl) (Nat.le_of_ble_eq_true rfl) (⟨rfl, rfl, by unfold ai_rg; rw [q4]; rfl⟩)
  · have q4 : ai_r x 64 = true := by cases z : ai_r x 64 with | true => rfl | false => exact absurd ((ai_b0 _).mpr z) c4
    refine y_iload_n B dX6_refuseNoRange_7 rfl ?_
    refine y_callS B 1 _ _ (k_X6_isValue l G _) gX6_refuseNoRange_X6_isValue (by decide +kernel) rfl rfl rfl rfl ⟨(Nat.le_of_ble_eq_true rfl), (Nat.le_of_ble_eq_true rfl)⟩ (Nat.le_of_ble_eq_true rfl) ⟨(Nat.le_of_ble_eq_true rfl), (Nat.le_of_ble_eq_true rfl)⟩ dX6_refuseNoRange_8 rfl (fun r M1 hr => ?_)
    obtain ⟨rfl, rfl⟩ := hr
    refine y_if_eq B 19 dX6_refuseNoRange_11 (by decide) (fun c11 => ?_) (fun c11 => ?_)
    · have q11 := (ai_b0 _).mp c11
      exact x_throw B (E := "java/lang/IllegalArgumentException") (text := "a range is from 0 to 63, its low not above its high") (sv := 22) hst htab (by decide +kernel) (by decide +kernel) (by decide +kernel) (by decide +kernel) (fun w h => List.mem_cons_of_mem _ (List.mem_append_right _ h)) x_bad_108 x_good_108 dX6_refuseNoRange_19 dX6_refuseNoRange_22 dX6_refuseNoRange_23 dX6_refuseNoRange_25 dX6_refuseNoRange_28 (Nat.le_of_ble_eq_true rfl) (Nat.le_of_ble_eq_true rfl) (Nat.le_of_ble_eq_true rfl) (Nat.le_of_ble_eq_true rfl) (Nat.le_of_ble_eq_true rfl) (Nat.le_of_ble_eq_true rfl) (⟨rfl, rfl, by unfold ai_rg; rw [q4, q11]; rfl⟩)
    · have q11 : ai_r y 64 = true := by cases z : ai_r y 64 with | true => rfl | false => exact absurd ((ai_b0 _).mpr z) c11
      refine y_iload_n B dX6_refuseNoRange_14 rfl ?_
      refine y_iload_n B dX6_refuseNoRange_15 rfl ?_
      refine y_icmp_le B 29 dX6_refuseNoRange_16 (by decide) (fun c16 => ?_) (fun c16 => ?_)
      · exact x_vret B dX6_refuseNoRange_29 (Nat.le_of_ble_eq_true rfl) (Nat.le_of_ble_eq_true rfl) (⟨rfl, rfl, by unfold ai_rg; rw [q4, q11, decide_eq_true c16]; rfl⟩)
      · exact x_throw B (E := "java/lang/IllegalArgumentException") (text := "a range is from 0 to 63, its low not above its high") (sv := 22) hst htab (by decide +kernel) (by decide +kernel) (by decide +kernel) (by decide +kernel) (fun w h => List.mem_cons_of_mem _ (List.mem_append_right _ h)) x_bad_108 x_good_108 dX6_refuseNoRange_19 dX6_refuseNoRange_22 dX6_refuseNoRange_23 dX6_refuseNoRange_25 dX6_refuseNoRange_28 (Nat.le_of_ble_eq_true rfl) (Nat.le_of_ble_eq_true rfl) (Nat.le_of_ble_eq_true rfl) (Nat.le_of_ble_eq_true rfl) (Nat.le_of_ble_eq_true rfl) (Nat.le_of_ble_eq_true rfl) (⟨rfl, rfl, by unfold ai_rg; rw [q4, q11, decide_eq_false c16]; rfl⟩)
