/-! ===== THE MODEL: minutes pass, one at a time ===== -/
/-- a batch goes out at minute v or ahead of it -/
def ai_fd (S : ai_S) (v q : Nat) : Bool := decide (S 2 q = 0 ∧ S 7 q ≠ 0 ∧ S 5 q ≤ v)
/-- the state at minute v in which question q has been looked at up to minute h q -/
def ai_w (S : ai_S) (n : Nat) (h : Nat → Nat) (v : Nat) : ai_S := fun k i => if k = 0 ∧ i = 1 then v else if i < n ∧ ai_fd S (h i) i = true then (if k = 7 then 0 else if k = 6 then S 6 i + 1 else if k = 5 then S 5 i + S 4 i else S k i) else S k i
theorem ai_fd_iff {S : ai_S} {v q : Nat} : ai_fd S v q = true ↔ (S 2 q = 0 ∧ S 7 q ≠ 0 ∧ S 5 q ≤ v) := by unfold ai_fd; exact decide_eq_true_iff
theorem ai_fd_no {S : ai_S} {v q : Nat} (h : ¬ (S 2 q = 0 ∧ S 7 q ≠ 0 ∧ S 5 q ≤ v)) : ai_fd S v q = false := decide_eq_false h
theorem ai_w_m {S : ai_S} {n v : Nat} {h : Nat → Nat} : ai_w S n h v 0 1 = v := if_pos ⟨rfl, rfl⟩
theorem ai_w_k {S : ai_S} {n v k i : Nat} {h : Nat → Nat} (h0 : k ≠ 0 ∨ i ≠ 1) (hk : k ≠ 5 ∧ k ≠ 6 ∧ k ≠ 7) : ai_w S n h v k i = S k i := by
  unfold ai_w
  rw [if_neg (by omega), if_neg hk.2.2, if_neg hk.2.1, if_neg hk.1]
  exact ite_self _
theorem ai_w_n {S : ai_S} {n v k i : Nat} {h : Nat → Nat} (h0 : k ≠ 0) (hf : ¬ (i < n ∧ ai_fd S (h i) i = true)) : ai_w S n h v k i = S k i := by
  unfold ai_w
  rw [if_neg (by omega), if_neg hf]
theorem ai_w_y {S : ai_S} {n v k i : Nat} {h : Nat → Nat} (h0 : k ≠ 0) (hi : i < n) (hf : ai_fd S (h i) i = true) : ai_w S n h v k i = (if k = 7 then 0 else if k = 6 then S 6 i + 1 else if k = 5 then S 5 i + S 4 i else S k i) := by
  unfold ai_w
  rw [if_neg (by omega), if_pos ⟨hi, hf⟩]
theorem ai_w_cong {S : ai_S} {n v : Nat} {h h' : Nat → Nat} (e : ∀ i, i < n → ai_fd S (h i) i = ai_fd S (h' i) i) : ai_w S n h v = ai_w S n h' v := by
  funext k i
  unfold ai_w
  by_cases hi : i < n
  · rw [e i hi]
  · rw [if_neg (fun z : i < n ∧ ai_fd S (h i) i = true => hi z.1), if_neg (fun z : i < n ∧ ai_fd S (h' i) i = true => hi z.1)]
theorem ai_w_u {S : ai_S} {n v v' : Nat} {h : Nat → Nat} : ai_u (ai_w S n h v) 0 1 v' = ai_w S n h v' := by
  funext k i
  unfold ai_u
  by_cases c : k = 0 ∧ i = 1
  · rw [if_pos c, c.1, c.2, ai_w_m]
  · rw [if_neg c]
    unfold ai_w
    rw [if_neg c, if_neg c]
theorem ai_w_0 {S : ai_S} {n : Nat} (h : ∀ i, i < n → ai_fd S (S 0 1) i = false) : ai_w S n (fun _ => S 0 1) (S 0 1) = S := by
  funext k i
  unfold ai_w
  by_cases c : k = 0 ∧ i = 1
  · rw [if_pos c, c.1, c.2]
  · rw [if_neg c, if_neg (fun z => by rw [h i z.1] at z; exact absurd z.2 (by decide))]
/-- one question's batch goes out -/
theorem ai_w_go {S : ai_S} {n i a v : Nat} {h h' : Nat → Nat} {W : ai_S} (hW : W = ai_w S n h v) (hi : i < n) (hf : ai_fd S (h i) i = false) (hf' : ai_fd S (h' i) i = true) (ho : ∀ j, j < n → j ≠ i → ai_fd S (h j) j = ai_fd S (h' j) j) (ha : a = S 5 i + S 4 i) : ai_u (ai_u (ai_u W 7 i 0) 6 i (W 6 i + 1)) 5 i a = ai_w S n h' v := by
  have hn : ∀ k, k ≠ 0 → W k i = S k i := fun k hk => by rw [hW]; exact ai_w_n hk (fun z => by rw [hf] at z; exact absurd z.2 (by decide))
  funext k j
  by_cases hj : j = i
  · subst hj
    by_cases c0 : k = 0
    · subst c0
      rw [ai_u_k (by omega), ai_u_k (by omega), ai_u_k (by omega), hW]
      unfold ai_w
      by_cases c1 : j = 1
      · rw [if_pos ⟨rfl, c1⟩, if_pos ⟨rfl, c1⟩]
      · have c2 : ¬ ((0 : Nat) = 0 ∧ j = 1) := fun z => c1 z.2
        rw [if_neg c2, if_neg c2, if_neg (fun z : j < n ∧ ai_fd S (h j) j = true => by rw [hf] at z; exact absurd z.2 (by decide)), if_pos (show j < n ∧ ai_fd S (h' j) j = true from ⟨hi, hf'⟩), if_neg (by decide), if_neg (by decide), if_neg (by decide)]
    · rw [ai_w_y c0 hi hf', hn 6 (by decide), ha]
      by_cases c5 : k = 5
      · subst c5; rw [ai_u_s]; rfl
      · rw [ai_u_k c5]
        by_cases c6 : k = 6
        · subst c6; rw [ai_u_s]; rfl
        · rw [ai_u_k c6]
          by_cases c7 : k = 7
          · subst c7; rw [ai_u_s]; rfl
          · rw [ai_u_k c7, hn k c0, if_neg c7, if_neg c6, if_neg c5]
  · rw [ai_u_i hj, ai_u_i hj, ai_u_i hj, hW]
    unfold ai_w
    by_cases hjn : j < n
    · rw [ho j hjn hj]
    · rw [if_neg (fun z : j < n ∧ ai_fd S (h j) j = true => hjn z.1), if_neg (fun z : j < n ∧ ai_fd S (h' j) j = true => hjn z.1)]
theorem ai_w_N {S : ai_S} {i v : Nat} {h : Nat → Nat} (hf : ai_fd S (h i) i = false) : ai_w S (i + 1) h v = ai_w S i h v := by
  funext k j
  unfold ai_w
  by_cases hj : j = i
  · subst hj
    rw [if_neg (fun z : j < j + 1 ∧ ai_fd S (h j) j = true => by rw [hf] at z; exact absurd z.2 (by decide)), if_neg (fun z : j < j ∧ ai_fd S (h j) j = true => absurd z.1 (Nat.lt_irrefl j))]
  · simp only [show (j < i + 1 ∧ ai_fd S (h j) j = true) = (j < i ∧ ai_fd S (h j) j = true) from propext ⟨fun z => ⟨by omega, z.2⟩, fun z => ⟨by omega, z.2⟩⟩]
theorem ai_w_S {S : ai_S} {i v : Nat} {h : Nat → Nat} (hf : ai_fd S (h i) i = true) : ai_u (ai_u (ai_u (ai_w S i h v) 7 i 0) 6 i (ai_w S i h v 6 i + 1)) 5 i (S 5 i + S 4 i) = ai_w S (i + 1) h v := by
  have hn : ∀ k, k ≠ 0 → ai_w S i h v k i = S k i := fun k hk => ai_w_n hk (fun z => absurd z.1 (Nat.lt_irrefl i))
  funext k j
  by_cases hj : j = i
  · subst hj
    by_cases c0 : k = 0
    · subst c0
      rw [ai_u_k (by omega), ai_u_k (by omega), ai_u_k (by omega)]
      unfold ai_w
      by_cases c1 : j = 1
      · rw [if_pos ⟨rfl, c1⟩, if_pos ⟨rfl, c1⟩]
      · rw [if_neg (by omega), if_neg (by omega), if_neg (by omega), if_pos ⟨by omega, hf⟩, if_neg (by decide), if_neg (by decide), if_neg (by decide)]
    · rw [ai_w_y c0 (Nat.lt_succ_self j) hf, hn 6 (by decide)]
      by_cases c5 : k = 5
      · subst c5; rw [ai_u_s]; rfl
      · rw [ai_u_k c5]
        by_cases c6 : k = 6
        · subst c6; rw [ai_u_s]; rfl
        · rw [ai_u_k c6]
          by_cases c7 : k = 7
          · subst c7; rw [ai_u_s]; rfl
          · rw [ai_u_k c7, hn k c0, if_neg c7, if_neg c6, if_neg c5]
  · rw [ai_u_i hj, ai_u_i hj, ai_u_i hj]
    unfold ai_w
    simp only [show (j < i + 1 ∧ ai_fd S (h j) j = true) = (j < i ∧ ai_fd S (h j) j = true) from propext ⟨fun z => ⟨by omega, z.2⟩, fun z => ⟨by omega, z.2⟩⟩]
theorem ai_w_c {S : ai_S} {v i : Nat} : (ai_w S i (fun _ => v) v 2 i = 0 ∧ ai_w S i (fun _ => v) v 7 i ≠ 0 ∧ ai_w S i (fun _ => v) v 5 i ≤ ai_w S i (fun _ => v) v 0 1) ↔ ai_fd S v i = true := by
  have hn : ∀ k, k ≠ 0 → ai_w S i (fun _ => v) v k i = S k i := fun k hk => ai_w_n hk (fun z => absurd z.1 (Nat.lt_irrefl i))
  rw [hn 2 (by decide), hn 7 (by decide), hn 5 (by decide), ai_w_m]
  exact ai_fd_iff.symm
theorem ai_w_a (S : ai_S) (v : Nat) : ∀ i, ai_aS i (ai_u S 0 1 v) = ai_w S i (fun _ => v) v
  | 0 => by
    funext k j
    show ai_u S 0 1 v k j = _
    unfold ai_w ai_u
    by_cases c : k = 0 ∧ j = 1
    · rw [if_pos c, if_pos c]
    · rw [if_neg c, if_neg c, if_neg (fun z => absurd z.1 (Nat.not_lt_zero j))]
  | i + 1 => by
    show ai_a1 (ai_aS i (ai_u S 0 1 v)) i = _
    rw [ai_w_a S v i]
    have hn : ∀ k, k ≠ 0 → ai_w S i (fun _ => v) v k i = S k i := fun k hk => ai_w_n hk (fun z => absurd z.1 (Nat.lt_irrefl i))
    unfold ai_a1
    by_cases hf : ai_fd S v i = true
    · rw [if_pos (ai_w_c.mpr hf), hn 5 (by decide), hn 4 (by decide)]
      exact ai_w_S (h := fun _ => v) hf
    · rw [if_neg (fun z => hf (ai_w_c.mp z)), ai_w_N (h := fun _ => v) (by simpa using hf)]
theorem ai_w_v (S : ai_S) (v : Nat) : ∀ i, ai_aV i (ai_u S 0 1 v) = ai_cn i (fun q => ai_fd S v q)
  | 0 => rfl
  | i + 1 => by
    conv => lhs; unfold ai_aV
    rw [ai_w_a S v i, ai_w_v S v i]
    by_cases hf : ai_fd S v i = true
    · rw [if_pos (ai_w_c.mpr hf), ai_cn_t (p := fun q => ai_fd S v q) hf]
    · rw [if_neg (fun z => hf (ai_w_c.mp z)), ai_cn_f (p := fun q => ai_fd S v q) (by simpa using hf)]
theorem ai_cn_1 {p p' : Nat → Bool} : ∀ {n i : Nat}, i < n → p i = false → p' i = true → (∀ j, j < n → j ≠ i → p j = p' j) → ai_cn n p' = ai_cn n p + 1
  | 0, _, h, _, _, _ => absurd h (Nat.not_lt_zero _)
  | n + 1, i, h, h1, h2, ho => by
    unfold ai_cn
    by_cases e : i = n
    · subst e
      rw [h1, h2, ai_cn_cong (p := p') (p' := p) (fun j hj => (ho j (by omega) (by omega)).symm)]
      rfl
    · rw [ai_cn_1 (n := n) (i := i) (by omega) h1 h2 (fun j hj hji => ho j (by omega) hji), ho n (by omega) (by omega)]
      omega
/-- up to which minute question j has been looked at, while the questions ahead of i are being looked at -/
def ai_ti (i a : Nat) : Nat → Nat := fun j => if j < i then a + 1 else a
theorem ai_ti_o {i a j : Nat} (h : j ≠ i) : ai_ti i a j = ai_ti (i + 1) a j := by
  unfold ai_ti
  by_cases c : j < i
  · rw [if_pos c, if_pos (by omega)]
  · rw [if_neg c, if_neg (by omega)]
theorem ai_ti_i {i a : Nat} : ai_ti i a i = a := if_neg (Nat.lt_irrefl i)
theorem ai_ti_s {i a : Nat} : ai_ti (i + 1) a i = a + 1 := if_pos (Nat.lt_succ_self i)
theorem ai_fire {S W : ai_S} {n i a : Nat} (hW : W = ai_w S n (ai_ti i a) (a + 1)) (hi : i < n) (h2 : W 2 i = 0) (h5 : W 0 1 = W 5 i) (h7 : W 7 i ≠ 0) : ai_u (ai_u (ai_u W 7 i 0) 6 i (W 6 i + 1)) 5 i (W 0 1 + W 4 i) = ai_w S n (ai_ti (i + 1) a) (a + 1) ∧ ai_cn n (fun q => ai_fd S (ai_ti (i + 1) a q) q) = ai_cn n (fun q => ai_fd S (ai_ti i a q) q) + 1 := by
  have hf : ai_fd S (ai_ti i a i) i = false := by
    cases c : ai_fd S (ai_ti i a i) i with
    | false => rfl
    | true => exact absurd (by rw [hW, ai_w_y (by decide) hi c]; rfl) h7
  have hn : ∀ k, k ≠ 0 → W k i = S k i := fun k hk => by rw [hW]; exact ai_w_n hk (fun z => by rw [hf] at z; exact absurd z.2 (by decide))
  have hm : W 0 1 = a + 1 := by rw [hW, ai_w_m]
  have e5 := hn 5 (by decide)
  have hf' : ai_fd S (ai_ti (i + 1) a i) i = true := ai_fd_iff.mpr ⟨(hn 2 (by decide)).symm.trans h2, fun z => h7 ((hn 7 (by decide)).trans z), by rw [ai_ti_s]; omega⟩
  have ho : ∀ j, j < n → j ≠ i → ai_fd S (ai_ti i a j) j = ai_fd S (ai_ti (i + 1) a j) j := fun j _ hj => by rw [ai_ti_o hj]
  exact ⟨ai_w_go hW hi hf hf' ho (by rw [hn 4 (by decide)]; omega), ai_cn_1 hi hf hf' ho⟩
theorem ai_rest {S W : ai_S} {n i a : Nat} (hW : W = ai_w S n (ai_ti i a) (a + 1)) (hi : i < n) (h : ¬ (W 2 i = 0 ∧ W 0 1 = W 5 i ∧ W 7 i ≠ 0)) : W = ai_w S n (ai_ti (i + 1) a) (a + 1) ∧ ai_cn n (fun q => ai_fd S (ai_ti (i + 1) a q) q) = ai_cn n (fun q => ai_fd S (ai_ti i a q) q) := by
  have hm : W 0 1 = a + 1 := by rw [hW, ai_w_m]
  have ho : ∀ j, j < n → ai_fd S (ai_ti i a j) j = ai_fd S (ai_ti (i + 1) a j) j := fun j hj => by
    by_cases e : j = i
    · subst e
      rw [ai_ti_i, ai_ti_s]
      by_cases c : ai_fd S a j = true
      · obtain ⟨y1, y2, y3⟩ := ai_fd_iff.mp c
        rw [c, ai_fd_iff.mpr ⟨y1, y2, by omega⟩]
      · have c0 : ai_fd S a j = false := by simpa using c
        have hn : ∀ k, k ≠ 0 → W k j = S k j := fun k hk => by rw [hW]; exact ai_w_n hk (fun z => by rw [ai_ti_i, c0] at z; exact absurd z.2 (by decide))
        rw [hn 2 (by decide), hn 5 (by decide), hn 7 (by decide), hm] at h
        rw [c0]
        refine (ai_fd_no (fun z => ?_)).symm
        have z2 : ¬ S 5 j ≤ a := fun y => c (ai_fd_iff.mpr ⟨z.1, z.2.1, y⟩)
        exact h ⟨z.1, by omega, z.2.1⟩
    · rw [ai_ti_o e]
  exact ⟨hW.trans (ai_w_cong ho), ai_cn_cong (fun j hj => (ho j hj).symm)⟩
theorem ai_w_5 {S : ai_S} {n v i : Nat} {h : Nat → Nat} (h5 : S 5 i ≤ 1002000) (h4 : S 4 i ≤ 1000) : ai_w S n h v 5 i ≤ 1003000 := by
  unfold ai_w
  rw [if_neg (by omega)]
  split
  · rw [if_neg (by decide), if_neg (by decide), if_pos rfl]; omega
  · omega
theorem ai_w_7 {S : ai_S} {n v i : Nat} {h : Nat → Nat} (h7 : S 7 i ≤ 100000) : ai_w S n h v 7 i ≤ 100000 := by
  unfold ai_w
  rw [if_neg (by omega)]
  split
  · rw [if_pos rfl]; omega
  · exact h7
theorem i_X7_advance_X7 : ∀ w ∈ wsX70, w ∈ wsX7_advance := fun _ h => List.mem_cons_of_mem _ (List.mem_append_right _ h)
theorem ai_1k {z : Int32} : decide (nI 1 ≤ z ∧ z ≤ nI 1000) = decide (1 ≤ z.toInt ∧ z.toInt ≤ 1000) := by
  refine decide_eq_decide.mpr ?_
  rw [Int32.le_iff_toInt_le, Int32.le_iff_toInt_le, nI_toInt (by decide), nI_toInt (by decide)]
  exact Iff.rfl
theorem ai_cn_0 : ∀ {n : Nat}, ai_cn n (fun _ => false) = 0
  | 0 => rfl
  | n + 1 => by unfold ai_cn; rw [ai_cn_0 (n := n)]; rfl
set_option maxHeartbeats 4000000 in
set_option maxRecDepth 100000 in
theorem k_X7_advance (l : Launch) (G : ai_G) (M : ai_M) {t0 : Int32} {S : ai_S} {mo : Nat} {ma : Nat → Nat} (hO : ai_O G M t0 S mo ma) {o : Nat} (hI : ai_I S o) (ho : o ≤ 100000) {z : Int32} : ai_C l yX7_advance wsX7_advance ({ frames := 2, cells := 0, slots := 0, locals := 43 } : Room) 0 0 G M [.ref mo, .int z] (fun r M1 => ai_did G M mo ma (op_advance S z) r M1) := by
  refine y_start (by decide +kernel) rfl (Nat.le_of_ble_eq_true rfl) (Nat.le_of_ble_eq_true rfl) (fun x hx => by simp only [List.mem_cons, List.not_mem_nil, or_false] at hx; rcases hx with rfl | rfl <;> rfl) ?_
  intro p e s m below meth c B hnm
  have hJ := hI.J ho
  obtain ⟨a0, a1, a2, a3, a4, a5, a6, a7, a8, a9, a10, a11, a12⟩ := id hO
  have hn := hJ.2.1
  have hd := fun q hq => (hJ.2.2.2 q hq).1
  refine y_aload_n B dX7_advance_0 rfl ?_
  refine y_iload_n B dX7_advance_1 rfl ?_
  refine y_iconst B (nI 1) dX7_advance_2 (by decide +kernel) ?_
  refine y_sipush B (nI 1000) dX7_advance_3 (by decide +kernel) ?_
  refine y_callS B 3 _ _ (k_X7_isIn l G _) gX7_advance_X7_isIn (by decide +kernel) rfl rfl rfl rfl ⟨(Nat.le_of_ble_eq_true rfl), (Nat.le_of_ble_eq_true rfl)⟩ (Nat.le_of_ble_eq_true rfl) ⟨(Nat.le_of_ble_eq_true rfl), (Nat.le_of_ble_eq_true rfl)⟩ dX7_advance_6 rfl (fun r M1 hr => ?_)
  obtain ⟨rfl, e9⟩ := hr
  obtain rfl := e9.symm
  rw [ai_1k]
  refine y_if_ne B 16 dX7_advance_9 (by decide) (fun c9 => ?_) (fun c9 => ?_)
  · have q9 := of_decide_eq_true (ai_b1 c9)
    obtain ⟨v, hv9, rfl⟩ := nI_of (x := z) (fun y => by rw [Int32.lt_iff_toInt_lt, Int32.toInt_zero] at y; omega)
    have hv12 := q9
    rw [nI_toInt hv9] at q9
    have ev9 : (nI v).toNatClampNeg = v := nI_clamp hv9
    have hn01 := hJ.1
    refine y_aload_n B dX7_advance_16 rfl ?_
    refine y_get B (ref := "AlertIndexModel") (ci := 8) (C := RX7) (T := TX7) (N := 15) a0 rfl i_X7_advance_X7 1 (by decide) (by decide +kernel) (fun _ h9 => h9) rfl dX7_advance_17 ?_
    refine y_iload_n B dX7_advance_20 rfl ?_
    refine y_iadd B (nI (S 0 1 + v)) dX7_advance_21 (nI_add _ _) ?_
    refine y_ldc B (nI 1000000) (B.2.2.2.2.2.1 _ (by decide +kernel)) dX7_advance_22 ?_
    refine y_icmp_le B 31 dX7_advance_24 (by decide) (fun c24 => ?_) (fun c24 => ?_)
    · have q24 : S 0 1 + v ≤ 1000000 := (nI_leI (by omega) (by decide)).mp c24
      refine y_iconst B (nI 0) dX7_advance_31 (by decide +kernel) ?_
      refine y_callV B 1 (q := (RX7, TX7, 15)) _ _ (k_X7_holds l G _ hO) a0 rfl gX7_advance_X7_holds (by decide +kernel) rfl rfl rfl rfl ⟨(Nat.le_of_ble_eq_true rfl), (Nat.le_of_ble_eq_true rfl)⟩ (Nat.le_of_ble_eq_true rfl) ⟨(Nat.le_of_ble_eq_true rfl), (Nat.le_of_ble_eq_true rfl)⟩ dX7_advance_32 rfl (fun r M1 hr => ?_)
      obtain ⟨rfl, hO1, hk1⟩ := hr
      obtain ⟨b0, b1, b2, b3, b4, b5, b6, b7, b8, b9, b10, b11, b12⟩ := id hO1
      refine y_if_ne B 40 dX7_advance_35 (by decide) (fun c35 => ?_) (fun c35 => absurd c35 (by decide +kernel))
      refine y_iconst B (nI 0) dX7_advance_40 (by decide +kernel) ?_
      refine y_istore_n B dX7_advance_41 (Nat.le_of_ble_eq_true rfl) ?_
      refine y_iconst B (nI 0) dX7_advance_42 (by decide +kernel) ?_
      refine y_istore_n B dX7_advance_43 (Nat.le_of_ble_eq_true rfl) ?_
      have lp : ∀ (d : Nat) (e1 : Nat) (Me : ai_M) (x4 : Option Value), (v < e1 + d) → (e1 ≤ v) → (ai_O G Me (nI 0) (ai_w S (S 0 2) (fun _ => (S 0 1 + e1)) (S 0 1 + e1)) mo ma) → (ai_km M Me) → ai_Y p l e ({ frames := 2, cells := 0, slots := 0, locals := 43 } : Room) s m [.ref mo, .int (nI v)].toArray below meth c G (MQ below (ai_Q G (fun r M1 => ai_did G M mo ma (op_advance S (nI v)) r M1)) [.ref mo, .int (nI v)].toArray s 0 0 (ai_A G)) Me 0 0 [some (.ref mo), some (.int (nI v)), some (.int (nI (ai_cn (S 0 2) (fun q => ai_fd S (S 0 1 + e1) q)))), some (.int (nI e1)), x4] 44 [] := by
        intro d
        induction d with
        | zero => intros; omega
        | succ d ih =>
          intro e1 Me x4 hm he hOe hke
          obtain ⟨c0, c1, c2, c3, c4, c5, c6, c7, c8, c9, c10, c11, c12⟩ := id hOe
          refine y_iload_n B dX7_advance_44 rfl ?_
          refine y_iload_n B dX7_advance_45 rfl ?_
          refine y_icmp_ge B 133 dX7_advance_46 (by decide) (fun c46 => ?_) (fun c46 => ?_)
          · have q46 : e1 = v := by have := (nI_leI (by omega) (by omega)).mp c46; omega
            refine y_iload_n B dX7_advance_133 rfl ?_
            exact y_iret B dX7_advance_134 (Nat.le_of_ble_eq_true rfl) (Nat.le_of_ble_eq_true rfl) (by rw [q46] at hOe ⊢; unfold op_advance; rw [ev9, if_neg (fun z => z hv12), if_neg (by omega), ai_w_a, ai_w_v]; exact ⟨hOe, hke, _, rfl, fun _ => rfl⟩)
          · have q46 : e1 < v := Nat.lt_of_not_le (fun z => c46 ((nI_leI (by omega) (by omega)).mpr z))
            refine y_aload_n B dX7_advance_49 rfl ?_
            refine y_dup B dX7_advance_50 rfl ?_
            refine y_get B (ref := "AlertIndexModel") (ci := 8) (C := RX7) (T := TX7) (N := 15) c0 rfl i_X7_advance_X7 1 (by decide) (by decide +kernel) (fun _ h9 => h9) rfl dX7_advance_51 ?_
            refine y_iconst B (nI 1) dX7_advance_54 (by decide +kernel) ?_
            refine y_iadd B (nI ((S 0 1 + e1) + 1)) dX7_advance_55 (by rw [ai_w_m]; exact nI_1 _) ?_
            refine y_put B (ref := "AlertIndexModel") (ci := 8) (C := RX7) (T := TX7) (N := 15) (ty := .int) c0 rfl i_X7_advance_X7 tyX7 tyX7_ok nmX7 1 (by decide) (by decide +kernel) (fun _ h9 => h9) rfl (by decide +kernel) rfl rfl (Nat.le_of_ble_eq_true rfl) dX7_advance_56 ?_
            have hO2 := hOe.o1 ((S 0 1 + e1) + 1)
            have kO2 := ai_km.U (e1 := .inr (8, [.int (nI 0), .int (nI ((S 0 1 + e1) + 1)), .int (nI ((ai_w S (S 0 2) (fun _ => (S 0 1 + e1)) (S 0 1 + e1)) 0 2)), .ref (ma 1), .ref (ma 2), .ref (ma 3), .ref (ma 4), .ref (ma 5), .ref (ma 6), .ref (ma 7), .ref (ma 8), .ref (ma 9), .ref (ma 10), .ref (ma 11), .ref (ma 12)])) c0 (by decide)
            rw [ai_w_u] at hO2
            rw [ai_w_cong (h' := ai_ti 0 (S 0 1 + e1)) (fun j _ => by unfold ai_ti; rw [if_neg (Nat.not_lt_zero j)])] at hO2
            have eC0 : (ai_cn (S 0 2) (fun q => ai_fd S (S 0 1 + e1) q)) = (ai_cn (S 0 2) (fun q => ai_fd S (ai_ti 0 (S 0 1 + e1) q) q)) := ai_cn_cong (fun j _ => by unfold ai_ti; rw [if_neg (Nat.not_lt_zero j)])
            refine y_iconst B (nI 0) dX7_advance_59 (by decide +kernel) ?_
            refine y_istore B dX7_advance_60 (Nat.le_of_ble_eq_true rfl) ?_
            have after : ∀ (Ma : ai_M) {ci ii : Nat}, ai_O G Ma (nI 0) (ai_w S (S 0 2) (ai_ti (S 0 2) (S 0 1 + e1)) ((S 0 1 + e1) + 1)) mo ma → ai_km M Ma → ci = (ai_cn (S 0 2) (fun q => ai_fd S (ai_ti (S 0 2) (S 0 1 + e1) q) q)) → ai_Y p l e ({ frames := 2, cells := 0, slots := 0, locals := 43 } : Room) s m [.ref mo, .int (nI v)].toArray below meth c G (MQ below (ai_Q G (fun r M1 => ai_did G M mo ma (op_advance S (nI v)) r M1)) [.ref mo, .int (nI v)].toArray s 0 0 (ai_A G)) Ma 0 0 [some (.ref mo), some (.int (nI v)), some (.int (nI ci)), some (.int (nI e1)), some (.int (nI ii))] 127 [] := by
              intro Ma ci ii hOa hka eci
              subst eci
              have eW : ∀ j, j < S 0 2 → ai_fd S (ai_ti (S 0 2) (S 0 1 + e1) j) j = ai_fd S ((S 0 1 + e1) + 1) j := fun j hj => by unfold ai_ti; rw [if_pos hj]
              rw [ai_w_cong (h' := fun _ => (S 0 1 + e1) + 1) eW] at hOa
              have eC : (ai_cn (S 0 2) (fun q => ai_fd S (ai_ti (S 0 2) (S 0 1 + e1) q) q)) = (ai_cn (S 0 2) (fun q => ai_fd S ((S 0 1 + e1) + 1) q)) := ai_cn_cong eW
              refine y_iinc B (nI (e1 + 1)) dX7_advance_127 rfl (nI_1 e1) ?_
              refine y_goto B 44 dX7_advance_130 (by decide) ?_
              have z9 := ih (e1 + 1) Ma (some (.int (nI ii))) (by omega) (by omega) hOa hka
              rw [eC]
              exact z9
            have l2 : ∀ (d2 : Nat) (i : Nat) (Mi : ai_M), (S 0 2 < i + d2) → (i ≤ S 0 2) → (ai_O G Mi (nI 0) (ai_w S (S 0 2) (ai_ti i (S 0 1 + e1)) ((S 0 1 + e1) + 1)) mo ma) → (ai_km M Mi) → ai_Y p l e ({ frames := 2, cells := 0, slots := 0, locals := 43 } : Room) s m [.ref mo, .int (nI v)].toArray below meth c G (MQ below (ai_Q G (fun r M1 => ai_did G M mo ma (op_advance S (nI v)) r M1)) [.ref mo, .int (nI v)].toArray s 0 0 (ai_A G)) Mi 0 0 [some (.ref mo), some (.int (nI v)), some (.int (nI (ai_cn (S 0 2) (fun q => ai_fd S (ai_ti i (S 0 1 + e1) q) q)))), some (.int (nI e1)), some (.int (nI i))] 62 [] := by
              intro d2
              induction d2 with
              | zero => intros; omega
              | succ d2 ih2 =>
                intro i Mi hm hi hOi hki
                obtain ⟨c0, c1, c2, c3, c4, c5, c6, c7, c8, c9, c10, c11, c12⟩ := id hOi
                have w2 : (ai_w S (S 0 2) (ai_ti i (S 0 1 + e1)) ((S 0 1 + e1) + 1)) 0 2 = S 0 2 := ai_w_k (Or.inr (by decide)) (by decide)
                have w1 : (ai_w S (S 0 2) (ai_ti i (S 0 1 + e1)) ((S 0 1 + e1) + 1)) 0 1 = (S 0 1 + e1) + 1 := ai_w_m
                refine y_iload B dX7_advance_62 rfl ?_
                refine y_aload_n B dX7_advance_64 rfl ?_
                refine y_get B (ref := "AlertIndexModel") (ci := 8) (C := RX7) (T := TX7) (N := 15) c0 rfl i_X7_advance_X7 2 (by decide) (by decide +kernel) (fun _ h9 => h9) rfl dX7_advance_65 ?_
                refine y_icmp_ge B 127 dX7_advance_68 (by decide) (fun c68 => ?_) (fun c68 => ?_)
                · have ei : i = S 0 2 := by have := (nI_leI (by omega) (by omega)).mp c68; omega
                  exact after Mi (by rw [ei] at hOi; exact hOi) hki (by rw [ei])
                · have q65 : i < S 0 2 := Nat.lt_of_not_le (fun z => c68 ((nI_leI (by omega) (by omega)).mpr (by omega)))
                  have hok := hJ.2.2.2 i q65
                  have b5 := ai_w_5 (S := S) (n := S 0 2) (v := (S 0 1 + e1) + 1) (i := i) (h := ai_ti i (S 0 1 + e1)) hok.2.2.2.1 hok.2.2.1
                  have b7 := ai_w_7 (S := S) (n := S 0 2) (v := (S 0 1 + e1) + 1) (i := i) (h := ai_ti i (S 0 1 + e1)) hok.2.2.2.2.1
                  refine y_aload_n B dX7_advance_71 rfl ?_
                  refine y_iload B dX7_advance_72 rfl ?_
                  refine y_callV B 1 (q := (RX7, TX7, 15)) _ _ (k_X7_isQuestion l G _ hOi (by omega) (fun q hq => by rw [ai_w_k (Or.inl (by decide)) (by omega)]; exact hd q (by omega))) c0 rfl gX7_advance_X7_isQuestion (by decide +kernel) rfl rfl rfl rfl ⟨(Nat.le_of_ble_eq_true rfl), (Nat.le_of_ble_eq_true rfl)⟩ (Nat.le_of_ble_eq_true rfl) ⟨(Nat.le_of_ble_eq_true rfl), (Nat.le_of_ble_eq_true rfl)⟩ dX7_advance_74 rfl (fun r M1 hr => ?_)
                  obtain ⟨rfl, e9⟩ := hr
                  obtain rfl := e9.symm
                  rw [ai_qo_i (S := (ai_w S (S 0 2) (ai_ti i (S 0 1 + e1)) ((S 0 1 + e1) + 1))) (by omega) (by omega)]
                  refine y_if_eq B 121 dX7_advance_77 (by decide) (fun c77 => ?_) (fun c77 => ?_)
                  · have q77 := of_decide_eq_false ((ai_b0 _).mp c77)
                    refine y_iinc B (nI (i + 1)) dX7_advance_121 rfl (nI_1 i) ?_
                    refine y_goto B 62 dX7_advance_124 (by decide) ?_
                    obtain ⟨y1, y2⟩ := ai_rest (W := (ai_w S (S 0 2) (ai_ti i (S 0 1 + e1)) ((S 0 1 + e1) + 1))) rfl q65 (fun z => q77 z.1)
                    have z9 := ih2 (i + 1) _ (by omega) (by omega) (y1 ▸ hOi) hki
                    rw [y2] at z9
                    exact z9
                  · have q77 := of_decide_eq_true (ai_b1 c77)
                    refine y_aload_n B dX7_advance_80 rfl ?_
                    refine y_get B (ref := "AlertIndexModel") (ci := 8) (C := RX7) (T := TX7) (N := 15) c0 rfl i_X7_advance_X7 1 (by decide) (by decide +kernel) (fun _ h9 => h9) rfl dX7_advance_81 ?_
                    refine y_aload_n B dX7_advance_84 rfl ?_
                    refine y_get B (ref := "AlertIndexModel") (ci := 8) (C := RX7) (T := TX7) (N := 15) c0 rfl i_X7_advance_X7 7 (by decide) (by decide +kernel) (fun _ h9 => h9) rfl dX7_advance_85 ?_
                    refine y_iload B dX7_advance_88 rfl ?_
                    refine y_ialoadI B (nI ((ai_w S (S 0 2) (ai_ti i (S 0 1 + e1)) ((S 0 1 + e1) + 1)) 5 i)) c5 (vp_in_nI (by omega) (by decide)) (by rw [nI_clamp (by omega)]) dX7_advance_90 ?_
                    refine y_icmp_ne B 121 dX7_advance_91 (by decide) (fun c91 => ?_) (fun c91 => ?_)
                    · have q91 : ¬ (ai_w S (S 0 2) (ai_ti i (S 0 1 + e1)) ((S 0 1 + e1) + 1)) 0 1 = (ai_w S (S 0 2) (ai_ti i (S 0 1 + e1)) ((S 0 1 + e1) + 1)) 5 i := fun z => c91 (by rw [z])
                      refine y_iinc B (nI (i + 1)) dX7_advance_121 rfl (nI_1 i) ?_
                      refine y_goto B 62 dX7_advance_124 (by decide) ?_
                      obtain ⟨y1, y2⟩ := ai_rest (W := (ai_w S (S 0 2) (ai_ti i (S 0 1 + e1)) ((S 0 1 + e1) + 1))) rfl q65 (fun z => q91 z.2.1)
                      have z9 := ih2 (i + 1) _ (by omega) (by omega) (y1 ▸ hOi) hki
                      rw [y2] at z9
                      exact z9
                    · have q91 : (ai_w S (S 0 2) (ai_ti i (S 0 1 + e1)) ((S 0 1 + e1) + 1)) 0 1 = (ai_w S (S 0 2) (ai_ti i (S 0 1 + e1)) ((S 0 1 + e1) + 1)) 5 i := (nI_eq (by omega) (by omega)).mp c91
                      refine y_aload_n B dX7_advance_94 rfl ?_
                      refine y_get B (ref := "AlertIndexModel") (ci := 8) (C := RX7) (T := TX7) (N := 15) c0 rfl i_X7_advance_X7 9 (by decide) (by decide +kernel) (fun _ h9 => h9) rfl dX7_advance_95 ?_
                      refine y_iload B dX7_advance_98 rfl ?_
                      refine y_ialoadI B (nI ((ai_w S (S 0 2) (ai_ti i (S 0 1 + e1)) ((S 0 1 + e1) + 1)) 7 i)) c7 (vp_in_nI (by omega) (by decide)) (by rw [nI_clamp (by omega)]) dX7_advance_100 ?_
                      refine y_if_le B 121 dX7_advance_101 (by decide) (fun c101 => ?_) (fun c101 => ?_)
                      · have q101 : (ai_w S (S 0 2) (ai_ti i (S 0 1 + e1)) ((S 0 1 + e1) + 1)) 7 i = 0 := Nat.le_zero.mp ((nI_leI (b := 0) (by omega) (by decide)).mp c101)
                        refine y_iinc B (nI (i + 1)) dX7_advance_121 rfl (nI_1 i) ?_
                        refine y_goto B 62 dX7_advance_124 (by decide) ?_
                        obtain ⟨y1, y2⟩ := ai_rest (W := (ai_w S (S 0 2) (ai_ti i (S 0 1 + e1)) ((S 0 1 + e1) + 1))) rfl q65 (fun z => z.2.2 q101)
                        have z9 := ih2 (i + 1) _ (by omega) (by omega) (y1 ▸ hOi) hki
                        rw [y2] at z9
                        exact z9
                      · have q101 : ¬ (ai_w S (S 0 2) (ai_ti i (S 0 1 + e1)) ((S 0 1 + e1) + 1)) 7 i = 0 := fun z => c101 (by rw [z]; decide)
                        refine y_aload_n B dX7_advance_104 rfl ?_
                        refine y_get B (ref := "AlertIndexModel") (ci := 8) (C := RX7) (T := TX7) (N := 15) c0 rfl i_X7_advance_X7 9 (by decide) (by decide +kernel) (fun _ h9 => h9) rfl dX7_advance_105 ?_
                        refine y_iload B dX7_advance_108 rfl ?_
                        refine y_iconst B (nI 0) dX7_advance_110 (by decide +kernel) ?_
                        refine y_iastoreI B c7 (vp_in_nI (by omega) (by decide)) dX7_advance_111 ?_
                        rw [nI_clamp (by omega)]
                        have hO7 := hOi.r7 i 0
                        have kO7 := hOi.k7 i 0
                        obtain ⟨f0, f1, f2, f3, f4, f5, f6, f7, f8, f9, f10, f11, f12⟩ := id hO7
                        refine y_aload_n B dX7_advance_112 rfl ?_
                        refine y_iload B dX7_advance_113 rfl ?_
                        refine y_callV B 1 (q := (RX7, TX7, 15)) _ _ (k_X7_raises l G _ hO7 (q := i) (by omega)) f0 rfl gX7_advance_X7_raises (by decide +kernel) rfl rfl rfl rfl ⟨(Nat.le_of_ble_eq_true rfl), (Nat.le_of_ble_eq_true rfl)⟩ (Nat.le_of_ble_eq_true rfl) ⟨(Nat.le_of_ble_eq_true rfl), (Nat.le_of_ble_eq_true rfl)⟩ dX7_advance_115 rfl (fun r M1 hr => ?_)
                        obtain ⟨rfl, hO8, kO8⟩ := hr
                        obtain ⟨y1, y2⟩ := ai_fire (W := (ai_w S (S 0 2) (ai_ti i (S 0 1 + e1)) ((S 0 1 + e1) + 1))) rfl q65 q77 q91 q101
                        refine y_iinc B (nI ((ai_cn (S 0 2) (fun q => ai_fd S (ai_ti i (S 0 1 + e1) q) q)) + 1)) dX7_advance_118 rfl (nI_1 _) ?_
                        refine y_iinc B (nI (i + 1)) dX7_advance_121 rfl (nI_1 i) ?_
                        refine y_goto B 62 dX7_advance_124 (by decide) ?_
                        have z9 := ih2 (i + 1) _ (by omega) (by omega) (y1 ▸ hO8) ((hki.tr kO7).tr kO8)
                        rw [y2] at z9
                        exact z9
            rw [eC0]
            exact l2 (S 0 2 + 1) 0 _ (by omega) (by omega) hO2 (hke.tr kO2)
      have n0 : ∀ i, i < S 0 2 → ai_fd S (S 0 1) i = false := fun i hi => ai_fd_no (fun y => by rcases (hI.2.2.2 i hi).2.2.2.2.2.1 y.1 with h | h; exact y.2.1 h; have := y.2.2; omega)
      have eC : ai_cn (S 0 2) (fun q => ai_fd S (S 0 1 + 0) q) = 0 := (ai_cn_cong (p' := fun _ => false) n0).trans ai_cn_0
      have z9 := lp (v + 1) 0 _ none (by omega) (by omega) (by rw [Nat.add_zero, ai_w_0 n0]; exact hO1) hk1
      rw [eC] at z9
      exact z9
    · have q24 : 1000000 < S 0 1 + v := Nat.lt_of_not_le (fun z => c24 ((nI_leI (by omega) (by decide)).mpr z))
      refine y_iconst B (nI 2) dX7_advance_27 (by decide +kernel) ?_
      refine y_goto B 32 dX7_advance_28 (by decide) ?_
      refine y_callV B 1 (q := (RX7, TX7, 15)) _ _ (k_X7_holds l G _ hO) a0 rfl gX7_advance_X7_holds (by decide +kernel) rfl rfl rfl rfl ⟨(Nat.le_of_ble_eq_true rfl), (Nat.le_of_ble_eq_true rfl)⟩ (Nat.le_of_ble_eq_true rfl) ⟨(Nat.le_of_ble_eq_true rfl), (Nat.le_of_ble_eq_true rfl)⟩ dX7_advance_32 rfl (fun r M1 hr => ?_)
      obtain ⟨rfl, hO1, hk1⟩ := hr
      obtain ⟨b0, b1, b2, b3, b4, b5, b6, b7, b8, b9, b10, b11, b12⟩ := id hO1
      refine y_if_ne B 40 dX7_advance_35 (by decide) (fun c35 => absurd (by decide +kernel) c35) (fun c35 => ?_)
      refine y_iconst B (nI 0) dX7_advance_38 (by decide +kernel) ?_
      exact y_iret B dX7_advance_39 (Nat.le_of_ble_eq_true rfl) (Nat.le_of_ble_eq_true rfl) (by unfold op_advance; rw [ev9, if_neg (fun y => y hv12), if_pos q24]; exact ⟨hO1, hk1, _, rfl, fun h9 => absurd h9 (Nat.succ_ne_zero _)⟩)
  · have q9 := of_decide_eq_false ((ai_b0 _).mp c9)
    refine y_iconst B (nI 1) dX7_advance_12 (by decide +kernel) ?_
    refine y_goto B 32 dX7_advance_13 (by decide) ?_
    refine y_callV B 1 (q := (RX7, TX7, 15)) _ _ (k_X7_holds l G _ hO) a0 rfl gX7_advance_X7_holds (by decide +kernel) rfl rfl rfl rfl ⟨(Nat.le_of_ble_eq_true rfl), (Nat.le_of_ble_eq_true rfl)⟩ (Nat.le_of_ble_eq_true rfl) ⟨(Nat.le_of_ble_eq_true rfl), (Nat.le_of_ble_eq_true rfl)⟩ dX7_advance_32 rfl (fun r M1 hr => ?_)
    obtain ⟨rfl, hO1, hk1⟩ := hr
    obtain ⟨b0, b1, b2, b3, b4, b5, b6, b7, b8, b9, b10, b11, b12⟩ := id hO1
    refine y_if_ne B 40 dX7_advance_35 (by decide) (fun c35 => absurd (by decide +kernel) c35) (fun c35 => ?_)
    refine y_iconst B (nI 0) dX7_advance_38 (by decide +kernel) ?_
    exact y_iret B dX7_advance_39 (Nat.le_of_ble_eq_true rfl) (Nat.le_of_ble_eq_true rfl) (by unfold op_advance; rw [if_pos q9]; exact ⟨hO1, hk1, _, rfl, fun h9 => absurd h9 (Nat.succ_ne_zero _)⟩)
