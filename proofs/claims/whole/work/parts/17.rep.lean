/-! ===== THE CLASS'S WORLD AND ITS READERS ===== -/
def ai_sm : Nat → (Nat → Nat) → Nat
  | 0, _ => 0
  | n + 1, f => ai_sm n f + f n
theorem ai_sm_cong {f f' : Nat → Nat} : ∀ {n : Nat}, (∀ i, i < n → f i = f' i) → ai_sm n f = ai_sm n f'
  | 0, _ => rfl
  | n + 1, h => by
    unfold ai_sm
    rw [ai_sm_cong (fun i hi => h i (Nat.lt_succ_of_lt hi)), h n (Nat.lt_succ_self n)]
/-- how often a place is entered for a product -/
def ai_pc (S : ai_S) (j pl : Nat) : Nat := ai_sm (S 8 j) (fun t => if S 12 (4 * j + t) = 0 then ((ai_pcs (S 10 (4 * j + t)) (S 11 (4 * j + t))).map (fun x => S 9 (4 * j + t) * 128 + x)).count pl else 0)
def ai_R (G : ai_G) (M : ai_M) (S : ai_S) (x qs dr ix fa : Nat) (qa pa : Nat → Nat) (pst : Nat → List Nat) : Prop :=
  M x = some (100, .inr (7, [.ref qs, .ref dr, .ref ix, .int (nI (S 0 1))])) ∧ ai_l G M qs 102 (S 0 2) qa ∧ ai_Dr G M S dr ∧ (∃ fi, ai_Ix G M pst ix fa fi) ∧ (∀ q, q < S 0 2 → ai_Qd G M S pa q (qa q)) ∧ (∀ pl, pl < 768 → ∀ b ∈ pst pl, ∃ q p, q < S 0 2 ∧ p < S 3 q ∧ b = pa (3 * q + p)) ∧ ∀ q, q < S 0 2 → ∀ p, p < S 3 q → ∀ pl, pl < 768 → (pst pl).count (pa (3 * q + p)) = ai_pc S (3 * q + p) pl
def ai_Rx (G : ai_G) (M : ai_M) (S : ai_S) (x : Nat) : Prop := ∃ (qs dr ix fa : Nat) (qa pa : Nat → Nat) (pst : Nat → List Nat), ai_R G M S x qs dr ix fa qa pa pst
def ai_kp (M M1 : ai_M) : Prop := ∀ (b g : Nat) (e : va_E), M b = some (g, e) → g < 100 → M1 b = some (g, e)
def ai_qo (S : ai_S) (z : Int32) : Bool := ai_r z (S 0 2) && decide (S 2 z.toNatClampNeg = 0)
theorem ai_qo_t {S : ai_S} {q : Nat} (hn : S 0 2 ≤ 20) (hq : q < S 0 2) (h : S 2 q = 0) : ai_qo S (nI q) = true := by
  unfold ai_qo
  rw [ai_r_nI hq (by omega), nI_clamp (by omega), decide_eq_true h]
  rfl
theorem ai_qo_d {S : ai_S} {q : Nat} (hn : S 0 2 ≤ 20) (hq : q < S 0 2) (h : ¬ S 2 q = 0) : ai_qo S (nI q) = false := by
  unfold ai_qo
  rw [nI_clamp (by omega), decide_eq_false h, Bool.and_false]
theorem ai_qo_n {S : ai_S} {z : Int32} (h : ai_r z (S 0 2) = false) : ai_qo S z = false := by
  unfold ai_qo
  rw [h]
  rfl
theorem ai_qo_of {S : ai_S} {z : Int32} (hn : S 0 2 ≤ 20) (h : ai_qo S z = true) : ∃ q, q < S 0 2 ∧ z = nI q ∧ S 2 q = 0 ∧ z.toNatClampNeg = q := by
  unfold ai_qo at h
  rw [Bool.and_eq_true] at h
  obtain ⟨q, hq, rfl⟩ := ai_r_of (by omega) h.1
  have e : (nI q).toNatClampNeg = q := nI_clamp (by omega)
  have h2 := of_decide_eq_true h.2
  rw [e] at h2
  exact ⟨q, hq, rfl, h2, e⟩
/-- a set of numbers as bits -/
def ai_bs : Nat → (Nat → Bool) → Int32
  | 0, _ => nI 0
  | n + 1, p => if p n then ai_bs n p ||| (nI 1 <<< (nI n &&& 31)) else ai_bs n p
def ai_np : Nat → Nat → Nat → Nat
  | 0, _, _ => 0
  | n + 1, b, h => if b ≤ h then ai_np n (b + 2 ^ ai_lv b h) h + 1 else 0
def ai_pb : Nat → Nat → Nat → Nat → Nat
  | 0, _, b, _ => b
  | n + 1, k, b, h => if 0 < k ∧ b ≤ h then ai_pb n (k - 1) (b + 2 ^ ai_lv b h) h else b
def ai_pv (k lo hi : Nat) : Int32 := if hi < ai_pb 64 k lo hi then -1 else nI (100 * ai_pb 64 k lo hi + 2 ^ ai_lv (ai_pb 64 k lo hi) hi)
theorem i_X6_questionOf_X6 : ∀ w ∈ wsX60, w ∈ wsX6_questionOf := fun _ h => List.mem_cons_of_mem _ (List.mem_append_left _ (List.mem_append_left _ (List.mem_append_left _ (List.mem_append_right _ h))))
theorem i_X6_questionOf_X4 : ∀ w ∈ wsX40, w ∈ wsX6_questionOf := fun _ h => List.mem_cons_of_mem _ (List.mem_append_left _ (List.mem_append_left _ (List.mem_append_right _ h)))
theorem i_X6_alerts_X4 : ∀ w ∈ wsX40, w ∈ wsX6_alerts := fun _ h => List.mem_cons_of_mem _ (List.mem_append_left _ (List.mem_append_left _ (List.mem_append_left _ (List.mem_append_right _ h))))
theorem i_X6_batch_X4 : ∀ w ∈ wsX40, w ∈ wsX6_batch := fun _ h => List.mem_cons_of_mem _ (List.mem_append_left _ (List.mem_append_left _ (List.mem_append_left _ (List.mem_append_right _ h))))
theorem i_X6_isQuiet_X6 : ∀ w ∈ wsX60, w ∈ wsX6_isQuiet := fun _ h => List.mem_cons_of_mem _ (List.mem_append_left _ (List.mem_append_left _ (List.mem_append_left _ (List.mem_append_right _ h))))
theorem i_X6_satisfies_X6 : ∀ w ∈ wsX60, w ∈ wsX6_satisfies := fun _ h => List.mem_cons_of_mem _ (List.mem_append_left _ (List.mem_append_left _ (List.mem_append_left _ (List.mem_append_left _ (List.mem_append_left _ (List.mem_append_left _ (List.mem_append_right _ h)))))))
theorem i_X6_minute_X6 : ∀ w ∈ wsX60, w ∈ wsX6_minute := fun _ h => List.mem_cons_of_mem _ (List.mem_append_right _ h)
theorem i_X6_matching_X6 : ∀ w ∈ wsX60, w ∈ wsX6_matching := fun _ h => List.mem_cons_of_mem _ (List.mem_append_left _ (List.mem_append_left _ (List.mem_append_left _ (List.mem_append_left _ (List.mem_append_left _ (List.mem_append_right _ h))))))
theorem i_X6_withSize_X6 : ∀ w ∈ wsX60, w ∈ wsX6_withSize := fun _ h => List.mem_cons_of_mem _ (List.mem_append_left _ (List.mem_append_left _ (List.mem_append_left _ (List.mem_append_right _ h))))
theorem i_X6_withSize_X4 : ∀ w ∈ wsX40, w ∈ wsX6_withSize := fun _ h => List.mem_cons_of_mem _ (List.mem_append_left _ (List.mem_append_left _ (List.mem_append_right _ h)))
set_option maxHeartbeats 4000000 in
set_option maxRecDepth 100000 in
theorem k_X1_countHits (l : Launch) (G : ai_G) (M : ai_M) {a fa : Nat} {pst : Nat → List Nat} {fi : Nat → Option Nat} (hI : ai_Ix G M pst a fa fi) {dr : Nat} {S : ai_S} (hD : ai_Dr G M S dr) (hv : ∀ i, i < 6 → S 1 i ≤ 64) (hp : ∀ pl, pl < 768 → ∀ b ∈ pst pl, ∃ v, ai_ht M b v) : ai_C l yX1_countHits wsX1_countHits ({ frames := 2, cells := 0, slots := 0, locals := 45 } : Room) 0 0 G M [.ref a, .ref dr] (fun r M1 => r = none ∧ ai_hk M M1 ∧ ∀ b h, ai_ht M b (nI h) → ai_ht M1 b (nI (h + ai_sm 6 (fun nm => if S 1 nm = 0 then 0 else ai_ups 7 (fun x => (pst (nm * 128 + x)).count b) (64 + (S 1 nm - 1)))))) := by
  refine y_start (by decide +kernel) rfl (Nat.le_of_ble_eq_true rfl) (Nat.le_of_ble_eq_true rfl) (fun x hx => by simp only [List.mem_cons, List.not_mem_nil, or_false] at hx; rcases hx with rfl | rfl <;> rfl) ?_
  intro p e s m below meth c B hnm
  have lp : ∀ (d : Nat) (i : Nat) (Mi : ai_M) (x3 : Option Value), (6 < i + d) → (i ≤ 6) → (ai_hk M Mi) → (∀ b h, ai_ht M b (nI h) → ai_ht Mi b (nI (h + ai_sm i (fun nm => if S 1 nm = 0 then 0 else ai_ups 7 (fun x => (pst (nm * 128 + x)).count b) (64 + (S 1 nm - 1)))))) → ai_Y p l e ({ frames := 2, cells := 0, slots := 0, locals := 45 } : Room) s m [.ref a, .ref dr].toArray below meth c G (MQ below (ai_Q G (fun r M1 => r = none ∧ ai_hk M M1 ∧ ∀ b h, ai_ht M b (nI h) → ai_ht M1 b (nI (h + ai_sm 6 (fun nm => if S 1 nm = 0 then 0 else ai_ups 7 (fun x => (pst (nm * 128 + x)).count b) (64 + (S 1 nm - 1))))))) [.ref a, .ref dr].toArray s 0 0 (ai_A G)) Mi 0 0 [some (.ref a), some (.ref dr), some (.int (nI i)), x3] 2 [] := by
    intro d
    induction d with
    | zero => intros; omega
    | succ d ih =>
      intro i Mi x3 hm hi hk hs
      have hIi := hk.ix hI
      have hDi := hk.dr hD
      obtain ⟨dv, hDi1, hDi2⟩ := id hDi
      refine y_iload_n B dX1_countHits_2 rfl ?_
      refine y_bipush B (nI 6) dX1_countHits_3 (by decide +kernel) ?_
      refine y_icmp_ge B 40 dX1_countHits_5 (by decide) (fun c5 => ?_) (fun c5 => ?_)
      · have q5 : i = 6 := Nat.le_antisymm hi ((nI_leI (by decide) (by omega)).mp c5)
        exact y_vret B dX1_countHits_40 (Nat.le_of_ble_eq_true rfl) (Nat.le_of_ble_eq_true rfl) (⟨rfl, hk, fun b h hb => by have z := hs b h hb; rw [q5] at z; exact z⟩)
      · have q5 : i < 6 := Nat.lt_of_not_le (fun z => c5 ((nI_leI (by decide) (by omega)).mpr z))
        have hvi := hv i q5
        refine y_aload_n B dX1_countHits_8 rfl ?_
        refine y_iload_n B dX1_countHits_9 rfl ?_
        refine y_callV B 1 (q := (RX0, TX0, 1)) _ _ (k_X0_valueOf l G _ hDi q5) hDi1 rfl gX1_countHits_X0_valueOf (by decide +kernel) rfl rfl rfl rfl ⟨(Nat.le_of_ble_eq_true rfl), (Nat.le_of_ble_eq_true rfl)⟩ (Nat.le_of_ble_eq_true rfl) ⟨(Nat.le_of_ble_eq_true rfl), (Nat.le_of_ble_eq_true rfl)⟩ dX1_countHits_10 rfl (fun r M1 hr => ?_)
        obtain ⟨rfl, e9⟩ := hr
        obtain rfl := e9.symm
        refine y_istore_n B dX1_countHits_13 (Nat.le_of_ble_eq_true rfl) ?_
        refine y_iload_n B dX1_countHits_14 rfl ?_
        refine y_callSN B 1 (host := "AlertIndex") _ _ (k_X6_isValue l G _) ggX1_countHits_X6_isValue B.2.2.2.2.2.2.2.2.1.1.2.2.2.2.2.1 (by decide +kernel) (by decide +kernel) (by decide +kernel) rfl rfl rfl rfl ⟨(Nat.le_of_ble_eq_true rfl), (Nat.le_of_ble_eq_true rfl)⟩ (Nat.le_of_ble_eq_true rfl) ⟨(Nat.le_of_ble_eq_true rfl), (Nat.le_of_ble_eq_true rfl)⟩ dX1_countHits_15 rfl (fun r M1 hr => ?_)
        obtain ⟨rfl, e9⟩ := hr
        obtain rfl := e9.symm
        refine y_if_eq B 34 dX1_countHits_18 (by decide) (fun c18 => ?_) (fun c18 => ?_)
        · have q18 : S 1 i = 0 := by cases z : S 1 i with | zero => rfl | succ v => (rw [z] at c18 hvi; have y := (ai_b0 _).mp c18; rw [ai_nDs, ai_r_nI (by omega) (by decide)] at y; cases y)
          refine y_iinc B (nI (i + 1)) dX1_countHits_34 rfl (nI_1 i) ?_
          refine y_goto B 2 dX1_countHits_37 (by decide) ?_
          exact ih (i + 1) _ _ (by omega) (by omega) hk (fun b h hb => by have z := hs b h hb; rw [show ai_sm (i + 1) (fun nm => if S 1 nm = 0 then 0 else ai_ups 7 (fun x => (pst (nm * 128 + x)).count b) (64 + (S 1 nm - 1))) = ai_sm i (fun nm => if S 1 nm = 0 then 0 else ai_ups 7 (fun x => (pst (nm * 128 + x)).count b) (64 + (S 1 nm - 1))) from by conv => lhs; unfold ai_sm; simp only [q18, if_true, Nat.add_zero]]; exact z)
        · have q18 : S 1 i ≠ 0 := fun z => c18 (by rw [z]; decide)
          have e18 : ai_nD (S 1 i) = nI (S 1 i - 1) := by unfold ai_nD; rw [if_neg q18]
          refine y_aload_n B dX1_countHits_21 rfl ?_
          refine y_iload_n B dX1_countHits_22 rfl ?_
          refine y_sipush B (nI 128) dX1_countHits_23 (by decide +kernel) ?_
          refine y_imul B (nI (i * 128)) dX1_countHits_26 (pk_mul _ _) ?_
          refine y_bipush B (nI 64) dX1_countHits_27 (by decide +kernel) ?_
          refine y_iload_n B dX1_countHits_29 rfl ?_
          refine y_iadd B (nI (64 + (S 1 i - 1))) dX1_countHits_30 (by rw [e18]; exact nI_add _ _) ?_
          refine y_callV B 2 (q := (RX1, TX1, 1)) _ _ (k_X1_hitAbove l G _ hIi (tr := i * 128) (lf := 64 + (S 1 i - 1)) (by omega) (by omega) (fun pl hpl b hb => by obtain ⟨v, g1, x1, y1, z⟩ := hp pl hpl b hb; obtain ⟨e1, a1, c1⟩ := hk b _ _ z; rcases c1 with rfl | ⟨x, y, v1, v2, e2, rfl⟩; exact ⟨v, _, _, _, a1⟩; exact ⟨v2, _, _, _, a1⟩)) hIi.1 rfl gX1_countHits_X1_hitAbove (by decide +kernel) rfl rfl rfl rfl ⟨(Nat.le_of_ble_eq_true rfl), (Nat.le_of_ble_eq_true rfl)⟩ (Nat.le_of_ble_eq_true rfl) ⟨(Nat.le_of_ble_eq_true rfl), (Nat.le_of_ble_eq_true rfl)⟩ dX1_countHits_31 rfl (fun r M1 hr => ?_)
          obtain ⟨rfl, hk2, hs2⟩ := hr
          refine y_iinc B (nI (i + 1)) dX1_countHits_34 rfl (nI_1 i) ?_
          refine y_goto B 2 dX1_countHits_37 (by decide) ?_
          exact ih (i + 1) _ _ (by omega) (by omega) (hk.tr hk2) (fun b h hb => by have z := hs2 b _ (hs b h hb); rw [show h + ai_sm (i + 1) (fun nm => if S 1 nm = 0 then 0 else ai_ups 7 (fun x => (pst (nm * 128 + x)).count b) (64 + (S 1 nm - 1))) = h + ai_sm i (fun nm => if S 1 nm = 0 then 0 else ai_ups 7 (fun x => (pst (nm * 128 + x)).count b) (64 + (S 1 nm - 1))) + ai_ups 7 (fun x => (pst (i * 128 + x)).count b) (64 + (S 1 i - 1)) from by (conv => lhs; unfold ai_sm; simp only [q18, if_false]); exact (Nat.add_assoc _ _ _).symm]; exact z)
  refine y_iconst B (nI 0) dX1_countHits_0 (by decide +kernel) ?_
  refine y_istore_n B dX1_countHits_1 (Nat.le_of_ble_eq_true rfl) ?_
  exact lp 7 0 M none (by omega) (by omega) ai_hk.rf (fun b h hb => hb)
set_option maxHeartbeats 4000000 in
set_option maxRecDepth 100000 in
theorem k_X6_questionOf (l : Launch) (G : ai_G) (M : ai_M) (hst : l.stackTraces = false) {S : ai_S} {o x : Nat} (hR : ai_Rx G M S x) (hI : ai_I S o) {z : Int32} : ai_D l yX6_questionOf wsX6_questionOf ({ frames := 6, cells := 1, slots := 6, locals := 90 } : Room) 1 6 G M [.ref x, .int z] (fun r M1 => ∃ q qs dr ix fa qa pa pst, q < S 0 2 ∧ z = nI q ∧ S 2 q = 0 ∧ r = some (.ref (qa q)) ∧ ai_R G M S x qs dr ix fa qa pa pst ∧ M1 = M) (fun E M1 => E = "java/lang/IndexOutOfBoundsException" ∧ ai_qo S z = false ∧ M1 = M) := by
  refine x_start (by decide +kernel) rfl (Nat.le_of_ble_eq_true rfl) (Nat.le_of_ble_eq_true rfl) (fun x hx => by simp only [List.mem_cons, List.not_mem_nil, or_false] at hx; rcases hx with rfl | rfl <;> rfl) ?_
  intro p e s m below meth c B htab
  obtain ⟨qs, dr, ix, fa, qa, pa, pst, hR9⟩ := id hR
  obtain ⟨hx, hL, hD, hIx, hQ, hP1, hP2⟩ := id hR9
  obtain ⟨mc, arr, cap, h9, hl1, -⟩ := id hL
  obtain ⟨hI1, hI2, hI3, hI4⟩ := id hI
  obtain ⟨dv, hD1, hD2⟩ := id hD
  refine y_iload_n B dX6_questionOf_0 rfl ?_
  refine y_if_lt B 17 dX6_questionOf_1 (by decide) (fun c1 => ?_) (fun c1 => ?_)
  · have q1 := ai_r_neg (n := S 0 2) c1
    exact x_throw B (E := "java/lang/IndexOutOfBoundsException") (text := "there is no such question") (sv := 19) hst htab (by decide +kernel) (by decide +kernel) (by decide +kernel) (by decide +kernel) (fun w h => List.mem_cons_of_mem _ (List.mem_append_right _ h)) x_bad_161 x_good_161 dX6_questionOf_17 dX6_questionOf_20 dX6_questionOf_21 dX6_questionOf_23 dX6_questionOf_26 (Nat.le_of_ble_eq_true rfl) (Nat.le_of_ble_eq_true rfl) (Nat.le_of_ble_eq_true rfl) (Nat.le_of_ble_eq_true rfl) (Nat.le_of_ble_eq_true rfl) (Nat.le_of_ble_eq_true rfl) (⟨rfl, ai_qo_n q1, rfl⟩)
  · refine y_iload_n B dX6_questionOf_4 rfl ?_
    refine y_aload_n B dX6_questionOf_5 rfl ?_
    refine y_get B (ref := "AlertIndex") (ci := 7) (C := RX6) (T := TX6) (N := 4) hx rfl i_X6_questionOf_X6 0 (by decide) (by decide +kernel) (fun _ h9 => h9) rfl dX6_questionOf_6 ?_
    refine y_callF B 0 (x := ⟨"java/util/List", "size", "()I"⟩) (q := (RJx4a65c, TJx4a65c, 3)) _ _ (k_Jx4a65c_size_8abf5 l G _ hL) hl1 rfl gX6_questionOf_Jx4a65c_size_8abf5_f34Jx4a65c B.2.2.2.2.2.2.2.2.1.1.2.2.2.2.2.2.1 (by decide +kernel) rfl rfl rfl rfl ⟨(Nat.le_of_ble_eq_true rfl), (Nat.le_of_ble_eq_true rfl)⟩ (Nat.le_of_ble_eq_true rfl) ⟨(Nat.le_of_ble_eq_true rfl), (Nat.le_of_ble_eq_true rfl)⟩ dX6_questionOf_9 rfl (fun r M1 hr => ?_)
    obtain ⟨rfl, rfl⟩ := hr
    refine y_icmp_lt B 27 dX6_questionOf_14 (by decide) (fun c14 => ?_) (fun c14 => ?_)
    · obtain ⟨q, hq, rfl⟩ := ai_r_of (by omega) (ai_r_ok2 (n := S 0 2) (by omega) c1 c14)
      refine y_aload_n B dX6_questionOf_27 rfl ?_
      refine y_get B (ref := "AlertIndex") (ci := 7) (C := RX6) (T := TX6) (N := 4) hx rfl i_X6_questionOf_X6 0 (by decide) (by decide +kernel) (fun _ h9 => h9) rfl dX6_questionOf_28 ?_
      refine y_iload_n B dX6_questionOf_31 rfl ?_
      refine y_callF B 1 (x := ⟨"java/util/List", "get", "(I)Ljava/lang/Object;"⟩) (q := (RJx4a65c, TJx4a65c, 3)) _ _ (k_Jx4a65c_get_915e3 l G _ hL hq) hl1 rfl gX6_questionOf_Jx4a65c_get_915e3_f122Jx4a65c B.2.2.2.2.2.2.2.2.1.1.2.2.2.2.2.2.2.2.1 (by decide +kernel) rfl rfl rfl rfl ⟨(Nat.le_of_ble_eq_true rfl), (Nat.le_of_ble_eq_true rfl)⟩ (Nat.le_of_ble_eq_true rfl) ⟨(Nat.le_of_ble_eq_true rfl), (Nat.le_of_ble_eq_true rfl)⟩ dX6_questionOf_32 rfl (fun r M1 hr => ?_)
      obtain ⟨rfl, rfl⟩ := hr
      obtain ⟨pl, hQa, -⟩ := id (hQ q hq)
      refine y_cast B hQa (q := (RX4, TX4, 6)) rfl (by decide +kernel) dX6_questionOf_37 ?_
      refine y_astore_n B dX6_questionOf_40 (Nat.le_of_ble_eq_true rfl) ?_
      refine y_aload_n B dX6_questionOf_41 rfl ?_
      refine y_get B (ref := "AlertIndex$Question") (ci := 5) (C := RX4) (T := TX4) (N := 6) hQa rfl i_X6_questionOf_X4 1 (by decide) (by decide +kernel) (fun _ h9 => h9) rfl dX6_questionOf_42 ?_
      refine y_if_eq B 58 dX6_questionOf_45 (by decide) (fun c45 => ?_) (fun c45 => ?_)
      · have q45 : S 2 q = 0 := (nI_eq (by have := (hI4 q hq).1; omega) (by decide)).mp c45
        refine y_aload_n B dX6_questionOf_58 rfl ?_
        exact x_aret B (Or.inl ⟨_, rfl⟩) (Or.inr ⟨_, rfl⟩) dX6_questionOf_59 (Nat.le_of_ble_eq_true rfl) (Nat.le_of_ble_eq_true rfl) (⟨q, qs, dr, ix, fa, qa, pa, pst, hq, rfl, q45, rfl, hR9, rfl⟩)
      · have q45 : ¬ S 2 q = 0 := fun y => c45 (by rw [y]; rfl)
        exact x_throw B (E := "java/lang/IndexOutOfBoundsException") (text := "the question was dropped") (sv := 20) hst htab (by decide +kernel) (by decide +kernel) (by decide +kernel) (by decide +kernel) (fun w h => List.mem_cons_of_mem _ (List.mem_append_right _ h)) x_bad_161 x_good_161 dX6_questionOf_48 dX6_questionOf_51 dX6_questionOf_52 dX6_questionOf_54 dX6_questionOf_57 (Nat.le_of_ble_eq_true rfl) (Nat.le_of_ble_eq_true rfl) (Nat.le_of_ble_eq_true rfl) (Nat.le_of_ble_eq_true rfl) (Nat.le_of_ble_eq_true rfl) (Nat.le_of_ble_eq_true rfl) (⟨rfl, ai_qo_d hI2 hq q45, rfl⟩)
    · have q14 := ai_r_big2 (n := S 0 2) (by omega) c14
      exact x_throw B (E := "java/lang/IndexOutOfBoundsException") (text := "there is no such question") (sv := 19) hst htab (by decide +kernel) (by decide +kernel) (by decide +kernel) (by decide +kernel) (fun w h => List.mem_cons_of_mem _ (List.mem_append_right _ h)) x_bad_161 x_good_161 dX6_questionOf_17 dX6_questionOf_20 dX6_questionOf_21 dX6_questionOf_23 dX6_questionOf_26 (Nat.le_of_ble_eq_true rfl) (Nat.le_of_ble_eq_true rfl) (Nat.le_of_ble_eq_true rfl) (Nat.le_of_ble_eq_true rfl) (Nat.le_of_ble_eq_true rfl) (Nat.le_of_ble_eq_true rfl) (⟨rfl, ai_qo_n q14, rfl⟩)
set_option maxHeartbeats 4000000 in
set_option maxRecDepth 100000 in
theorem k_X6_alerts (l : Launch) (G : ai_G) (M : ai_M) (hst : l.stackTraces = false) {S : ai_S} {o x : Nat} (hR : ai_Rx G M S x) (hI : ai_I S o) {z : Int32} : ai_D l yX6_alerts wsX6_alerts ({ frames := 7, cells := 1, slots := 6, locals := 112 } : Room) 1 6 G M [.ref x, .int z] (fun r M1 => ai_qo S z = true ∧ r = some (.int (nI (S 6 (z.toNatClampNeg)))) ∧ M1 = M) (fun E M1 => E = "java/lang/IndexOutOfBoundsException" ∧ ai_qo S z = false ∧ M1 = M) := by
  refine x_start (by decide +kernel) rfl (Nat.le_of_ble_eq_true rfl) (Nat.le_of_ble_eq_true rfl) (fun x hx => by simp only [List.mem_cons, List.not_mem_nil, or_false] at hx; rcases hx with rfl | rfl <;> rfl) ?_
  intro p e s m below meth c B htab
  obtain ⟨qs, dr, ix, fa, qa, pa, pst, hx0, -⟩ := id hR
  refine y_aload_n B dX6_alerts_0 rfl ?_
  refine y_iload_n B dX6_alerts_1 rfl ?_
  refine x_callV B 1 (q := (RX6, TX6, 4)) _ _ (k_X6_questionOf l G _ hst hR hI) hx0 rfl gX6_alerts_X6_questionOf (by decide +kernel) rfl rfl rfl rfl ⟨(Nat.le_of_ble_eq_true rfl), (Nat.le_of_ble_eq_true rfl)⟩ (Nat.le_of_ble_eq_true rfl) ⟨(Nat.le_of_ble_eq_true rfl), (Nat.le_of_ble_eq_true rfl)⟩ dX6_alerts_2 rfl (fun E M1 hr => ?_) (fun r M1 hr => ?_)
  · exact z_out B (fun x hx => (htab x hx).elim) (Nat.le_of_ble_eq_true rfl) (Nat.le_of_ble_eq_true rfl) (by obtain ⟨e1, e2, e3⟩ := hr; exact ⟨e1, e2, e3⟩)
  obtain ⟨q, qs, dr, ix, fa, qa, pa, pst, hq, rfl, hq2, rfl, hR9, rfl⟩ := hr
  obtain ⟨hx, hL, hD, hIx, hQ, hP1, hP2⟩ := id hR9
  obtain ⟨dv, hD1, hD2⟩ := id hD
  obtain ⟨pl, hQa, hQl, hQp⟩ := id (hQ q hq)
  have hqo := ai_qo_t hI.2.1 hq hq2
  have eq9 : (nI q).toNatClampNeg = q := nI_clamp (by have := hI.2.1; omega)
  refine y_get B (ref := "AlertIndex$Question") (ci := 5) (C := RX4) (T := TX4) (N := 6) hQa rfl i_X6_alerts_X4 4 (by decide) (by decide +kernel) (fun _ h9 => h9) rfl dX6_alerts_5 ?_
  exact x_iret B dX6_alerts_8 (Nat.le_of_ble_eq_true rfl) (Nat.le_of_ble_eq_true rfl) (⟨hqo, by rw [eq9], rfl⟩)
set_option maxHeartbeats 4000000 in
set_option maxRecDepth 100000 in
theorem k_X6_batch (l : Launch) (G : ai_G) (M : ai_M) (hst : l.stackTraces = false) {S : ai_S} {o x : Nat} (hR : ai_Rx G M S x) (hI : ai_I S o) {z : Int32} : ai_D l yX6_batch wsX6_batch ({ frames := 7, cells := 1, slots := 6, locals := 112 } : Room) 1 6 G M [.ref x, .int z] (fun r M1 => ai_qo S z = true ∧ r = some (.int (nI (S 7 (z.toNatClampNeg)))) ∧ M1 = M) (fun E M1 => E = "java/lang/IndexOutOfBoundsException" ∧ ai_qo S z = false ∧ M1 = M) := by
  refine x_start (by decide +kernel) rfl (Nat.le_of_ble_eq_true rfl) (Nat.le_of_ble_eq_true rfl) (fun x hx => by simp only [List.mem_cons, List.not_mem_nil, or_false] at hx; rcases hx with rfl | rfl <;> rfl) ?_
  intro p e s m below meth c B htab
  obtain ⟨qs, dr, ix, fa, qa, pa, pst, hx0, -⟩ := id hR
  refine y_aload_n B dX6_batch_0 rfl ?_
  refine y_iload_n B dX6_batch_1 rfl ?_
  refine x_callV B 1 (q := (RX6, TX6, 4)) _ _ (k_X6_questionOf l G _ hst hR hI) hx0 rfl gX6_batch_X6_questionOf (by decide +kernel) rfl rfl rfl rfl ⟨(Nat.le_of_ble_eq_true rfl), (Nat.le_of_ble_eq_true rfl)⟩ (Nat.le_of_ble_eq_true rfl) ⟨(Nat.le_of_ble_eq_true rfl), (Nat.le_of_ble_eq_true rfl)⟩ dX6_batch_2 rfl (fun E M1 hr => ?_) (fun r M1 hr => ?_)
  · exact z_out B (fun x hx => (htab x hx).elim) (Nat.le_of_ble_eq_true rfl) (Nat.le_of_ble_eq_true rfl) (by obtain ⟨e1, e2, e3⟩ := hr; exact ⟨e1, e2, e3⟩)
  obtain ⟨q, qs, dr, ix, fa, qa, pa, pst, hq, rfl, hq2, rfl, hR9, rfl⟩ := hr
  obtain ⟨hx, hL, hD, hIx, hQ, hP1, hP2⟩ := id hR9
  obtain ⟨dv, hD1, hD2⟩ := id hD
  obtain ⟨pl, hQa, hQl, hQp⟩ := id (hQ q hq)
  have hqo := ai_qo_t hI.2.1 hq hq2
  have eq9 : (nI q).toNatClampNeg = q := nI_clamp (by have := hI.2.1; omega)
  refine y_get B (ref := "AlertIndex$Question") (ci := 5) (C := RX4) (T := TX4) (N := 6) hQa rfl i_X6_batch_X4 5 (by decide) (by decide +kernel) (fun _ h9 => h9) rfl dX6_batch_5 ?_
  exact x_iret B dX6_batch_8 (Nat.le_of_ble_eq_true rfl) (Nat.le_of_ble_eq_true rfl) (⟨hqo, by rw [eq9], rfl⟩)
set_option maxHeartbeats 4000000 in
set_option maxRecDepth 100000 in
theorem k_X6_isQuiet (l : Launch) (G : ai_G) (M : ai_M) (hst : l.stackTraces = false) {S : ai_S} {o x : Nat} (hR : ai_Rx G M S x) (hI : ai_I S o) {z : Int32} : ai_D l yX6_isQuiet wsX6_isQuiet ({ frames := 7, cells := 1, slots := 6, locals := 112 } : Room) 1 6 G M [.ref x, .int z] (fun r M1 => ai_qo S z = true ∧ r = some (.int (ai_b (decide (S 0 1 < S 5 (z.toNatClampNeg))))) ∧ M1 = M) (fun E M1 => E = "java/lang/IndexOutOfBoundsException" ∧ ai_qo S z = false ∧ M1 = M) := by
  refine x_start (by decide +kernel) rfl (Nat.le_of_ble_eq_true rfl) (Nat.le_of_ble_eq_true rfl) (fun x hx => by simp only [List.mem_cons, List.not_mem_nil, or_false] at hx; rcases hx with rfl | rfl <;> rfl) ?_
  intro p e s m below meth c B htab
  obtain ⟨qs, dr, ix, fa, qa, pa, pst, hx0, -⟩ := id hR
  refine y_aload_n B dX6_isQuiet_0 rfl ?_
  refine y_iload_n B dX6_isQuiet_1 rfl ?_
  refine x_callV B 1 (q := (RX6, TX6, 4)) _ _ (k_X6_questionOf l G _ hst hR hI) hx0 rfl gX6_isQuiet_X6_questionOf (by decide +kernel) rfl rfl rfl rfl ⟨(Nat.le_of_ble_eq_true rfl), (Nat.le_of_ble_eq_true rfl)⟩ (Nat.le_of_ble_eq_true rfl) ⟨(Nat.le_of_ble_eq_true rfl), (Nat.le_of_ble_eq_true rfl)⟩ dX6_isQuiet_2 rfl (fun E M1 hr => ?_) (fun r M1 hr => ?_)
  · exact z_out B (fun x hx => (htab x hx).elim) (Nat.le_of_ble_eq_true rfl) (Nat.le_of_ble_eq_true rfl) (by obtain ⟨e1, e2, e3⟩ := hr; exact ⟨e1, e2, e3⟩)
  obtain ⟨q, qs, dr, ix, fa, qa, pa, pst, hq, rfl, hq2, rfl, hR9, rfl⟩ := hr
  obtain ⟨hx, hL, hD, hIx, hQ, hP1, hP2⟩ := id hR9
  obtain ⟨dv, hD1, hD2⟩ := id hD
  obtain ⟨pl, hQa, hQl, hQp⟩ := id (hQ q hq)
  have hqo := ai_qo_t hI.2.1 hq hq2
  have eq9 : (nI q).toNatClampNeg = q := nI_clamp (by have := hI.2.1; omega)
  refine y_aload_n B dX6_isQuiet_5 rfl ?_
  refine y_get B (ref := "AlertIndex") (ci := 7) (C := RX6) (T := TX6) (N := 4) hx rfl i_X6_isQuiet_X6 3 (by decide) (by decide +kernel) (fun _ h9 => h9) rfl dX6_isQuiet_6 ?_
  have hok := hI.2.2.2 q hq
  refine y_callV B 1 (q := (RX4, TX4, 6)) _ _ (k_X4_isQuietAt l G _ hQa (by have := hok.2.2.2.1; have := hI.1; omega) (by have := hI.1; omega)) hQa rfl gX6_isQuiet_X4_isQuietAt (by decide +kernel) rfl rfl rfl rfl ⟨(Nat.le_of_ble_eq_true rfl), (Nat.le_of_ble_eq_true rfl)⟩ (Nat.le_of_ble_eq_true rfl) ⟨(Nat.le_of_ble_eq_true rfl), (Nat.le_of_ble_eq_true rfl)⟩ dX6_isQuiet_9 rfl (fun r M1 hr => ?_)
  obtain ⟨rfl, rfl⟩ := hr
  exact x_zret B dX6_isQuiet_12 (Nat.le_of_ble_eq_true rfl) (Nat.le_of_ble_eq_true rfl) (ai_bn _) (⟨hqo, by rw [eq9], rfl⟩)
set_option maxHeartbeats 4000000 in
set_option maxRecDepth 100000 in
theorem k_X6_sizeOf (l : Launch) (G : ai_G) (M : ai_M) (hst : l.stackTraces = false) {S : ai_S} {o x : Nat} (hR : ai_Rx G M S x) (hI : ai_I S o) {z : Int32} : ai_D l yX6_sizeOf wsX6_sizeOf ({ frames := 7, cells := 1, slots := 6, locals := 112 } : Room) 1 6 G M [.ref x, .int z] (fun r M1 => ai_qo S z = true ∧ r = some (.int (nI (ai_sz S (z.toNatClampNeg)))) ∧ M1 = M) (fun E M1 => E = "java/lang/IndexOutOfBoundsException" ∧ ai_qo S z = false ∧ M1 = M) := by
  refine x_start (by decide +kernel) rfl (Nat.le_of_ble_eq_true rfl) (Nat.le_of_ble_eq_true rfl) (fun x hx => by simp only [List.mem_cons, List.not_mem_nil, or_false] at hx; rcases hx with rfl | rfl <;> rfl) ?_
  intro p e s m below meth c B htab
  obtain ⟨qs, dr, ix, fa, qa, pa, pst, hx0, -⟩ := id hR
  refine y_aload_n B dX6_sizeOf_0 rfl ?_
  refine y_iload_n B dX6_sizeOf_1 rfl ?_
  refine x_callV B 1 (q := (RX6, TX6, 4)) _ _ (k_X6_questionOf l G _ hst hR hI) hx0 rfl gX6_sizeOf_X6_questionOf (by decide +kernel) rfl rfl rfl rfl ⟨(Nat.le_of_ble_eq_true rfl), (Nat.le_of_ble_eq_true rfl)⟩ (Nat.le_of_ble_eq_true rfl) ⟨(Nat.le_of_ble_eq_true rfl), (Nat.le_of_ble_eq_true rfl)⟩ dX6_sizeOf_2 rfl (fun E M1 hr => ?_) (fun r M1 hr => ?_)
  · exact z_out B (fun x hx => (htab x hx).elim) (Nat.le_of_ble_eq_true rfl) (Nat.le_of_ble_eq_true rfl) (by obtain ⟨e1, e2, e3⟩ := hr; exact ⟨e1, e2, e3⟩)
  obtain ⟨q, qs, dr, ix, fa, qa, pa, pst, hq, rfl, hq2, rfl, hR9, rfl⟩ := hr
  obtain ⟨hx, hL, hD, hIx, hQ, hP1, hP2⟩ := id hR9
  obtain ⟨dv, hD1, hD2⟩ := id hD
  obtain ⟨pl, hQa, hQl, hQp⟩ := id (hQ q hq)
  have hqo := ai_qo_t hI.2.1 hq hq2
  have eq9 : (nI q).toNatClampNeg = q := nI_clamp (by have := hI.2.1; omega)
  have hok := hI.2.2.2 q hq
  refine y_callV B 0 (q := (RX4, TX4, 6)) _ _ (k_X4_leastSize l G _ (hQ q hq) hok.2.1 (fun p hp => (hok.2.2.2.2.2.2 p hp).1)) hQa rfl gX6_sizeOf_X4_leastSize (by decide +kernel) rfl rfl rfl rfl ⟨(Nat.le_of_ble_eq_true rfl), (Nat.le_of_ble_eq_true rfl)⟩ (Nat.le_of_ble_eq_true rfl) ⟨(Nat.le_of_ble_eq_true rfl), (Nat.le_of_ble_eq_true rfl)⟩ dX6_sizeOf_5 rfl (fun r M1 hr => ?_)
  obtain ⟨rfl, rfl⟩ := hr
  exact x_iret B dX6_sizeOf_8 (Nat.le_of_ble_eq_true rfl) (Nat.le_of_ble_eq_true rfl) (⟨hqo, by rw [eq9], rfl⟩)
set_option maxHeartbeats 4000000 in
set_option maxRecDepth 100000 in
theorem k_X6_satisfies (l : Launch) (G : ai_G) (M : ai_M) (hst : l.stackTraces = false) {S : ai_S} {o x : Nat} (hR : ai_Rx G M S x) (hI : ai_I S o) {z : Int32} : ai_D l yX6_satisfies wsX6_satisfies ({ frames := 7, cells := 1, slots := 6, locals := 112 } : Room) 1 6 G M [.ref x, .int z] (fun r M1 => ai_qo S z = true ∧ r = some (.int (ai_b (ai_qt S (z.toNatClampNeg)))) ∧ M1 = M) (fun E M1 => E = "java/lang/IndexOutOfBoundsException" ∧ ai_qo S z = false ∧ M1 = M) := by
  refine x_start (by decide +kernel) rfl (Nat.le_of_ble_eq_true rfl) (Nat.le_of_ble_eq_true rfl) (fun x hx => by simp only [List.mem_cons, List.not_mem_nil, or_false] at hx; rcases hx with rfl | rfl <;> rfl) ?_
  intro p e s m below meth c B htab
  obtain ⟨qs, dr, ix, fa, qa, pa, pst, hx0, -⟩ := id hR
  refine y_aload_n B dX6_satisfies_0 rfl ?_
  refine y_iload_n B dX6_satisfies_1 rfl ?_
  refine x_callV B 1 (q := (RX6, TX6, 4)) _ _ (k_X6_questionOf l G _ hst hR hI) hx0 rfl gX6_satisfies_X6_questionOf (by decide +kernel) rfl rfl rfl rfl ⟨(Nat.le_of_ble_eq_true rfl), (Nat.le_of_ble_eq_true rfl)⟩ (Nat.le_of_ble_eq_true rfl) ⟨(Nat.le_of_ble_eq_true rfl), (Nat.le_of_ble_eq_true rfl)⟩ dX6_satisfies_2 rfl (fun E M1 hr => ?_) (fun r M1 hr => ?_)
  · exact z_out B (fun x hx => (htab x hx).elim) (Nat.le_of_ble_eq_true rfl) (Nat.le_of_ble_eq_true rfl) (by obtain ⟨e1, e2, e3⟩ := hr; exact ⟨e1, e2, e3⟩)
  obtain ⟨q, qs, dr, ix, fa, qa, pa, pst, hq, rfl, hq2, rfl, hR9, rfl⟩ := hr
  obtain ⟨hx, hL, hD, hIx, hQ, hP1, hP2⟩ := id hR9
  obtain ⟨dv, hD1, hD2⟩ := id hD
  obtain ⟨pl, hQa, hQl, hQp⟩ := id (hQ q hq)
  have hqo := ai_qo_t hI.2.1 hq hq2
  have eq9 : (nI q).toNatClampNeg = q := nI_clamp (by have := hI.2.1; omega)
  refine y_aload_n B dX6_satisfies_5 rfl ?_
  refine y_get B (ref := "AlertIndex") (ci := 7) (C := RX6) (T := TX6) (N := 4) hx rfl i_X6_satisfies_X6 1 (by decide) (by decide +kernel) (fun _ h9 => h9) rfl dX6_satisfies_6 ?_
  have hok := hI.2.2.2 q hq
  refine y_callV B 1 (q := (RX4, TX4, 6)) _ _ (k_X4_isSatisfied l G _ hD hI.2.2.1 (hQ q hq) hok.1 hok.2.1 hok.2.2.2.2.2.2) hQa rfl gX6_satisfies_X4_isSatisfied (by decide +kernel) rfl rfl rfl rfl ⟨(Nat.le_of_ble_eq_true rfl), (Nat.le_of_ble_eq_true rfl)⟩ (Nat.le_of_ble_eq_true rfl) ⟨(Nat.le_of_ble_eq_true rfl), (Nat.le_of_ble_eq_true rfl)⟩ dX6_satisfies_9 rfl (fun r M1 hr => ?_)
  obtain ⟨rfl, rfl⟩ := hr
  exact x_zret B dX6_satisfies_12 (Nat.le_of_ble_eq_true rfl) (Nat.le_of_ble_eq_true rfl) (ai_bn _) (⟨hqo, by rw [eq9, decide_eq_true hq2, Bool.true_and], rfl⟩)
set_option maxHeartbeats 4000000 in
set_option maxRecDepth 100000 in
theorem k_X6_minute (l : Launch) (G : ai_G) (M : ai_M) {S : ai_S} {o x : Nat} (hR : ai_Rx G M S x) (hI : ai_I S o) : ai_C l yX6_minute wsX6_minute ({ frames := 0, cells := 0, slots := 0, locals := 0 } : Room) 0 0 G M [.ref x] (fun r M1 => r = some (.int (nI (S 0 1))) ∧ M1 = M) := by
  refine y_start (by decide +kernel) rfl (Nat.le_of_ble_eq_true rfl) (Nat.le_of_ble_eq_true rfl) (fun x hx => by simp only [List.mem_cons, List.not_mem_nil, or_false] at hx; rcases hx with rfl <;> rfl) ?_
  intro p e s m below meth c B hnm
  obtain ⟨qs, dr, ix, fa, qa, pa, pst, hR9⟩ := id hR
  obtain ⟨hx, hL, hD, hIx, hQ, hP1, hP2⟩ := id hR9
  obtain ⟨mc, arr, cap, h9, hl1, -⟩ := id hL
  obtain ⟨hI1, hI2, hI3, hI4⟩ := id hI
  obtain ⟨dv, hD1, hD2⟩ := id hD
  refine y_aload_n B dX6_minute_0 rfl ?_
  refine y_get B (ref := "AlertIndex") (ci := 7) (C := RX6) (T := TX6) (N := 4) hx rfl i_X6_minute_X6 3 (by decide) (by decide +kernel) (fun _ h9 => h9) rfl dX6_minute_1 ?_
  exact y_iret B dX6_minute_4 (Nat.le_of_ble_eq_true rfl) (Nat.le_of_ble_eq_true rfl) (⟨rfl, rfl⟩)
theorem ai_bs_t {n : Nat} {p : Nat → Bool} (h : p n = true) : ai_bs (n + 1) p = ai_bs n p ||| (nI 1 <<< (nI n &&& 31)) := by
  conv => lhs; unfold ai_bs
  rw [if_pos h]
theorem ai_bs_f {n : Nat} {p : Nat → Bool} (h : p n = false) : ai_bs (n + 1) p = ai_bs n p := by
  conv => lhs; unfold ai_bs
  rw [if_neg (by rw [h]; decide)]
theorem ai_cn_t {n : Nat} {p : Nat → Bool} (h : p n = true) : ai_cn (n + 1) p = ai_cn n p + 1 := by
  conv => lhs; unfold ai_cn
  rw [if_pos h]
theorem ai_cn_f {n : Nat} {p : Nat → Bool} (h : p n = false) : ai_cn (n + 1) p = ai_cn n p := by
  conv => lhs; unfold ai_cn
  rw [if_neg (by rw [h]; decide)]
  exact Nat.add_zero _
theorem ai_b1 {x : Bool} (h : ¬ ai_b x = 0) : x = true := by cases x with | true => rfl | false => exact absurd rfl h
set_option maxHeartbeats 4000000 in
set_option maxRecDepth 100000 in
theorem k_X6_matching (l : Launch) (G : ai_G) (M : ai_M) {S : ai_S} {o x : Nat} (hR : ai_Rx G M S x) (hI : ai_I S o) : ai_C l yX6_matching wsX6_matching ({ frames := 5, cells := 0, slots := 0, locals := 108 } : Room) 0 0 G M [.ref x] (fun r M1 => r = some (.int (ai_bs (S 0 2) (fun q => decide (S 2 q = 0) && ai_qt S q))) ∧ M1 = M) := by
  refine y_start (by decide +kernel) rfl (Nat.le_of_ble_eq_true rfl) (Nat.le_of_ble_eq_true rfl) (fun x hx => by simp only [List.mem_cons, List.not_mem_nil, or_false] at hx; rcases hx with rfl <;> rfl) ?_
  intro p e s m below meth c B hnm
  obtain ⟨qs, dr, ix, fa, qa, pa, pst, hR9⟩ := id hR
  obtain ⟨hx, hL, hD, hIx, hQ, hP1, hP2⟩ := id hR9
  obtain ⟨mc, arr, cap, h9, hl1, -⟩ := id hL
  obtain ⟨hI1, hI2, hI3, hI4⟩ := id hI
  obtain ⟨dv, hD1, hD2⟩ := id hD
  have lp : ∀ (d : Nat) (i : Nat), (S 0 2 < i + d) → (i ≤ S 0 2) → ai_Y p l e ({ frames := 5, cells := 0, slots := 0, locals := 108 } : Room) s m [.ref x].toArray below meth c G (MQ below (ai_Q G (fun r M1 => r = some (.int (ai_bs (S 0 2) (fun q => decide (S 2 q = 0) && ai_qt S q))) ∧ M1 = M)) [.ref x].toArray s 0 0 (ai_A G)) M 0 0 [some (.ref x), some (.int (ai_bs i (fun q => decide (S 2 q = 0) && ai_qt S q))), some (.int (nI i))] 4 [] := by
    intro d
    induction d with
    | zero => intros; omega
    | succ d ih =>
      intro i hm hi
      refine y_iload_n B dX6_matching_4 rfl ?_
      refine y_aload_n B dX6_matching_5 rfl ?_
      refine y_get B (ref := "AlertIndex") (ci := 7) (C := RX6) (T := TX6) (N := 4) hx rfl i_X6_matching_X6 0 (by decide) (by decide +kernel) (fun _ h9 => h9) rfl dX6_matching_6 ?_
      refine y_callF B 0 (x := ⟨"java/util/List", "size", "()I"⟩) (q := (RJx4a65c, TJx4a65c, 3)) _ _ (k_Jx4a65c_size_8abf5 l G _ hL) hl1 rfl gX6_matching_Jx4a65c_size_8abf5_f34Jx4a65c B.2.2.2.2.2.2.2.2.1.1.2.2.2.2.2.2.1 (by decide +kernel) rfl rfl rfl rfl ⟨(Nat.le_of_ble_eq_true rfl), (Nat.le_of_ble_eq_true rfl)⟩ (Nat.le_of_ble_eq_true rfl) ⟨(Nat.le_of_ble_eq_true rfl), (Nat.le_of_ble_eq_true rfl)⟩ dX6_matching_9 rfl (fun r M1 hr => ?_)
      obtain ⟨rfl, rfl⟩ := hr
      refine y_icmp_ge B 52 dX6_matching_14 (by decide) (fun c14 => ?_) (fun c14 => ?_)
      · have q14 : S 0 2 ≤ i := (nI_leI (by omega) (by omega)).mp c14
        have ei : i = S 0 2 := by omega
        refine y_iload_n B dX6_matching_52 rfl ?_
        exact y_iret B dX6_matching_53 (Nat.le_of_ble_eq_true rfl) (Nat.le_of_ble_eq_true rfl) (⟨by rw [ei], rfl⟩)
      · have q14 : i < S 0 2 := Nat.lt_of_not_le (fun z => c14 ((nI_leI (by omega) (by omega)).mpr z))
        have hok := hI4 i q14
        refine y_aload_n B dX6_matching_17 rfl ?_
        refine y_get B (ref := "AlertIndex") (ci := 7) (C := RX6) (T := TX6) (N := 4) hx rfl i_X6_matching_X6 0 (by decide) (by decide +kernel) (fun _ h9 => h9) rfl dX6_matching_18 ?_
        refine y_iload_n B dX6_matching_21 rfl ?_
        refine y_callF B 1 (x := ⟨"java/util/List", "get", "(I)Ljava/lang/Object;"⟩) (q := (RJx4a65c, TJx4a65c, 3)) _ _ (k_Jx4a65c_get_915e3 l G _ hL q14) hl1 rfl gX6_matching_Jx4a65c_get_915e3_f122Jx4a65c B.2.2.2.2.2.2.2.2.1.1.2.2.2.2.2.2.2.2.1 (by decide +kernel) rfl rfl rfl rfl ⟨(Nat.le_of_ble_eq_true rfl), (Nat.le_of_ble_eq_true rfl)⟩ (Nat.le_of_ble_eq_true rfl) ⟨(Nat.le_of_ble_eq_true rfl), (Nat.le_of_ble_eq_true rfl)⟩ dX6_matching_22 rfl (fun r M1 hr => ?_)
        obtain ⟨rfl, rfl⟩ := hr
        obtain ⟨pl, hQa, -⟩ := id (hQ i q14)
        refine y_cast B hQa (q := (RX4, TX4, 6)) rfl (by decide +kernel) dX6_matching_27 ?_
        refine y_aload_n B dX6_matching_30 rfl ?_
        refine y_get B (ref := "AlertIndex") (ci := 7) (C := RX6) (T := TX6) (N := 4) hx rfl i_X6_matching_X6 1 (by decide) (by decide +kernel) (fun _ h9 => h9) rfl dX6_matching_31 ?_
        refine y_callV B 1 (q := (RX4, TX4, 6)) _ _ (k_X4_isSatisfied l G _ hD hI3 (hQ i q14) hok.1 hok.2.1 hok.2.2.2.2.2.2) hQa rfl gX6_matching_X4_isSatisfied (by decide +kernel) rfl rfl rfl rfl ⟨(Nat.le_of_ble_eq_true rfl), (Nat.le_of_ble_eq_true rfl)⟩ (Nat.le_of_ble_eq_true rfl) ⟨(Nat.le_of_ble_eq_true rfl), (Nat.le_of_ble_eq_true rfl)⟩ dX6_matching_34 rfl (fun r M1 hr => ?_)
        obtain ⟨rfl, rfl⟩ := hr
        refine y_if_eq B 46 dX6_matching_37 (by decide) (fun c37 => ?_) (fun c37 => ?_)
        · have q37 := (ai_b0 _).mp c37
          refine y_iinc B (nI (i + 1)) dX6_matching_46 rfl (nI_1 i) ?_
          refine y_goto B 4 dX6_matching_49 (by decide) ?_
          have z := ih (i + 1) (by omega) (by omega)
          rw [ai_bs_f (p := (fun q => decide (S 2 q = 0) && ai_qt S q)) q37] at z
          exact z
        · have q37 := ai_b1 c37
          refine y_iload_n B dX6_matching_40 rfl ?_
          refine y_iconst B (nI 1) dX6_matching_41 (by decide +kernel) ?_
          refine y_iload_n B dX6_matching_42 rfl ?_
          refine y_ishl B (nI 1 <<< (nI i &&& 31)) dX6_matching_43 (rfl) ?_
          refine y_ior B (ai_bs (i + 1) (fun q => decide (S 2 q = 0) && ai_qt S q)) dX6_matching_44 ((ai_bs_t (p := (fun q => decide (S 2 q = 0) && ai_qt S q)) q37).symm) ?_
          refine y_istore_n B dX6_matching_45 (Nat.le_of_ble_eq_true rfl) ?_
          refine y_iinc B (nI (i + 1)) dX6_matching_46 rfl (nI_1 i) ?_
          refine y_goto B 4 dX6_matching_49 (by decide) ?_
          exact ih (i + 1) (by omega) (by omega)
  refine y_iconst B (nI 0) dX6_matching_0 (by decide +kernel) ?_
  refine y_istore_n B dX6_matching_1 (Nat.le_of_ble_eq_true rfl) ?_
  refine y_iconst B (nI 0) dX6_matching_2 (by decide +kernel) ?_
  refine y_istore_n B dX6_matching_3 (Nat.le_of_ble_eq_true rfl) ?_
  exact lp (S 0 2 + 1) 0 (by omega) (by omega)
set_option maxHeartbeats 4000000 in
set_option maxRecDepth 100000 in
theorem k_X6_withSize (l : Launch) (G : ai_G) (M : ai_M) {S : ai_S} {o x : Nat} (hR : ai_Rx G M S x) (hI : ai_I S o) {z : Int32} : ai_C l yX6_withSize wsX6_withSize ({ frames := 4, cells := 0, slots := 0, locals := 86 } : Room) 0 0 G M [.ref x, .int z] (fun r M1 => r = some (.int (nI (ai_cn (S 0 2) (fun q => decide (S 2 q = 0) && decide (nI (ai_sz S q) = z))))) ∧ M1 = M) := by
  refine y_start (by decide +kernel) rfl (Nat.le_of_ble_eq_true rfl) (Nat.le_of_ble_eq_true rfl) (fun x hx => by simp only [List.mem_cons, List.not_mem_nil, or_false] at hx; rcases hx with rfl | rfl <;> rfl) ?_
  intro p e s m below meth c B hnm
  obtain ⟨qs, dr, ix, fa, qa, pa, pst, hR9⟩ := id hR
  obtain ⟨hx, hL, hD, hIx, hQ, hP1, hP2⟩ := id hR9
  obtain ⟨mc, arr, cap, h9, hl1, -⟩ := id hL
  obtain ⟨hI1, hI2, hI3, hI4⟩ := id hI
  obtain ⟨dv, hD1, hD2⟩ := id hD
  have lp : ∀ (d : Nat) (i : Nat) (x4 : Option Value), (S 0 2 < i + d) → (i ≤ S 0 2) → ai_Y p l e ({ frames := 4, cells := 0, slots := 0, locals := 86 } : Room) s m [.ref x, .int z].toArray below meth c G (MQ below (ai_Q G (fun r M1 => r = some (.int (nI (ai_cn (S 0 2) (fun q => decide (S 2 q = 0) && decide (nI (ai_sz S q) = z))))) ∧ M1 = M)) [.ref x, .int z].toArray s 0 0 (ai_A G)) M 0 0 [some (.ref x), some (.int z), some (.int (nI (ai_cn i (fun q => decide (S 2 q = 0) && decide (nI (ai_sz S q) = z))))), some (.int (nI i)), x4] 4 [] := by
    intro d
    induction d with
    | zero => intros; omega
    | succ d ih =>
      intro i x4 hm hi
      refine y_iload_n B dX6_withSize_4 rfl ?_
      refine y_aload_n B dX6_withSize_5 rfl ?_
      refine y_get B (ref := "AlertIndex") (ci := 7) (C := RX6) (T := TX6) (N := 4) hx rfl i_X6_withSize_X6 0 (by decide) (by decide +kernel) (fun _ h9 => h9) rfl dX6_withSize_6 ?_
      refine y_callF B 0 (x := ⟨"java/util/List", "size", "()I"⟩) (q := (RJx4a65c, TJx4a65c, 3)) _ _ (k_Jx4a65c_size_8abf5 l G _ hL) hl1 rfl gX6_withSize_Jx4a65c_size_8abf5_f34Jx4a65c B.2.2.2.2.2.2.2.2.1.1.2.2.2.2.2.2.1 (by decide +kernel) rfl rfl rfl rfl ⟨(Nat.le_of_ble_eq_true rfl), (Nat.le_of_ble_eq_true rfl)⟩ (Nat.le_of_ble_eq_true rfl) ⟨(Nat.le_of_ble_eq_true rfl), (Nat.le_of_ble_eq_true rfl)⟩ dX6_withSize_9 rfl (fun r M1 hr => ?_)
      obtain ⟨rfl, rfl⟩ := hr
      refine y_icmp_ge B 58 dX6_withSize_14 (by decide) (fun c14 => ?_) (fun c14 => ?_)
      · have q14 : S 0 2 ≤ i := (nI_leI (by omega) (by omega)).mp c14
        have ei : i = S 0 2 := by omega
        refine y_iload_n B dX6_withSize_58 rfl ?_
        exact y_iret B dX6_withSize_59 (Nat.le_of_ble_eq_true rfl) (Nat.le_of_ble_eq_true rfl) (⟨by rw [ei], rfl⟩)
      · have q14 : i < S 0 2 := Nat.lt_of_not_le (fun z => c14 ((nI_leI (by omega) (by omega)).mpr z))
        have hok := hI4 i q14
        refine y_aload_n B dX6_withSize_17 rfl ?_
        refine y_get B (ref := "AlertIndex") (ci := 7) (C := RX6) (T := TX6) (N := 4) hx rfl i_X6_withSize_X6 0 (by decide) (by decide +kernel) (fun _ h9 => h9) rfl dX6_withSize_18 ?_
        refine y_iload_n B dX6_withSize_21 rfl ?_
        refine y_callF B 1 (x := ⟨"java/util/List", "get", "(I)Ljava/lang/Object;"⟩) (q := (RJx4a65c, TJx4a65c, 3)) _ _ (k_Jx4a65c_get_915e3 l G _ hL q14) hl1 rfl gX6_withSize_Jx4a65c_get_915e3_f122Jx4a65c B.2.2.2.2.2.2.2.2.1.1.2.2.2.2.2.2.2.2.1 (by decide +kernel) rfl rfl rfl rfl ⟨(Nat.le_of_ble_eq_true rfl), (Nat.le_of_ble_eq_true rfl)⟩ (Nat.le_of_ble_eq_true rfl) ⟨(Nat.le_of_ble_eq_true rfl), (Nat.le_of_ble_eq_true rfl)⟩ dX6_withSize_22 rfl (fun r M1 hr => ?_)
        obtain ⟨rfl, rfl⟩ := hr
        obtain ⟨pl, hQa, -⟩ := id (hQ i q14)
        refine y_cast B hQa (q := (RX4, TX4, 6)) rfl (by decide +kernel) dX6_withSize_27 ?_
        refine y_astore B dX6_withSize_30 (Nat.le_of_ble_eq_true rfl) ?_
        refine y_aload B dX6_withSize_32 rfl ?_
        refine y_get B (ref := "AlertIndex$Question") (ci := 5) (C := RX4) (T := TX4) (N := 6) hQa rfl i_X6_withSize_X4 1 (by decide) (by decide +kernel) (fun _ h9 => h9) rfl dX6_withSize_34 ?_
        refine y_if_ne B 52 dX6_withSize_37 (by decide) (fun c37 => ?_) (fun c37 => ?_)
        · have q37 : ¬ S 2 i = 0 := fun y => c37 (by rw [y]; rfl)
          refine y_iinc B (nI (i + 1)) dX6_withSize_52 rfl (nI_1 i) ?_
          refine y_goto B 4 dX6_withSize_55 (by decide) ?_
          have z9 := ih (i + 1) (some (.ref (qa i))) (by omega) (by omega)
          rw [ai_cn_f (p := (fun q => decide (S 2 q = 0) && decide (nI (ai_sz S q) = z))) (by rw [decide_eq_false q37]; rfl)] at z9
          exact z9
        · have q37 : S 2 i = 0 := (nI_eq (by have := hok.1; omega) (by decide)).mp c37
          refine y_aload B dX6_withSize_40 rfl ?_
          refine y_callV B 0 (q := (RX4, TX4, 6)) _ _ (k_X4_leastSize l G _ (hQ i q14) hok.2.1 (fun p hp => (hok.2.2.2.2.2.2 p hp).1)) hQa rfl gX6_withSize_X4_leastSize (by decide +kernel) rfl rfl rfl rfl ⟨(Nat.le_of_ble_eq_true rfl), (Nat.le_of_ble_eq_true rfl)⟩ (Nat.le_of_ble_eq_true rfl) ⟨(Nat.le_of_ble_eq_true rfl), (Nat.le_of_ble_eq_true rfl)⟩ dX6_withSize_42 rfl (fun r M1 hr => ?_)
          obtain ⟨rfl, rfl⟩ := hr
          refine y_iload_n B dX6_withSize_45 rfl ?_
          refine y_icmp_ne B 52 dX6_withSize_46 (by decide) (fun c46 => ?_) (fun c46 => ?_)
          · refine y_iinc B (nI (i + 1)) dX6_withSize_52 rfl (nI_1 i) ?_
            refine y_goto B 4 dX6_withSize_55 (by decide) ?_
            have z9 := ih (i + 1) (some (.ref (qa i))) (by omega) (by omega)
            rw [ai_cn_f (p := (fun q => decide (S 2 q = 0) && decide (nI (ai_sz S q) = z))) (by rw [decide_eq_false c46, Bool.and_false])] at z9
            exact z9
          · refine y_iinc B (nI (ai_cn (i + 1) (fun q => decide (S 2 q = 0) && decide (nI (ai_sz S q) = z)))) dX6_withSize_49 rfl (by rw [ai_cn_t (p := (fun q => decide (S 2 q = 0) && decide (nI (ai_sz S q) = z))) (by rw [decide_eq_true q37, decide_eq_true c46]; rfl)]; exact nI_1 _) ?_
            refine y_iinc B (nI (i + 1)) dX6_withSize_52 rfl (nI_1 i) ?_
            refine y_goto B 4 dX6_withSize_55 (by decide) ?_
            exact ih (i + 1) _ (by omega) (by omega)
  refine y_iconst B (nI 0) dX6_withSize_0 (by decide +kernel) ?_
  refine y_istore_n B dX6_withSize_1 (Nat.le_of_ble_eq_true rfl) ?_
  refine y_iconst B (nI 0) dX6_withSize_2 (by decide +kernel) ?_
  refine y_istore_n B dX6_withSize_3 (Nat.le_of_ble_eq_true rfl) ?_
  exact lp (S 0 2 + 1) 0 none (by omega) (by omega)
theorem ai_rg_of {lo hi : Int32} (h : ai_rg lo hi = true) : ∃ u v : Nat, lo = nI u ∧ hi = nI v ∧ u < 64 ∧ v < 64 ∧ u ≤ v := by
  unfold ai_rg at h
  rw [Bool.and_eq_true, Bool.and_eq_true] at h
  obtain ⟨u, hu, rfl⟩ := ai_r_of (by decide) h.1
  obtain ⟨v, hv, rfl⟩ := ai_r_of (by decide) h.2.1
  exact ⟨u, v, rfl, rfl, hu, hv, (nI_leI (by omega) (by omega)).mp (of_decide_eq_true h.2.2)⟩
theorem ai_rg_t {u v : Nat} (hu : u ≤ v) (hv : v < 64) : ai_rg (nI u) (nI v) = true := by
  unfold ai_rg
  rw [ai_r_nI (by omega) (by decide), ai_r_nI hv (by decide), decide_eq_true (nI_le hu (by omega))]
  rfl
theorem ai_np_le : ∀ (n b h : Nat), ai_np n b h ≤ n
  | 0, _, _ => Nat.le_refl _
  | n + 1, b, h => by
    unfold ai_np
    split
    · have := ai_np_le n (b + 2 ^ ai_lv b h) h
      omega
    · omega
theorem ai_np_0 {n b h : Nat} (q : h < b) : ai_np n b h = 0 := by
  cases n with
  | zero => rfl
  | succ n => unfold ai_np; rw [if_neg (by omega)]
set_option maxHeartbeats 4000000 in
set_option maxRecDepth 100000 in
theorem k_X6_pieces (l : Launch) (G : ai_G) (M : ai_M) (hst : l.stackTraces = false) {x : Nat} {lo hi : Int32} : ai_D l yX6_pieces wsX6_pieces ({ frames := 7, cells := 1, slots := 6, locals := 111 } : Room) 1 6 G M [.ref x, .int lo, .int hi] (fun r M1 => ai_rg lo hi = true ∧ r = some (.int (nI (ai_np 64 lo.toNatClampNeg hi.toNatClampNeg))) ∧ M1 = M) (fun E M1 => E = "java/lang/IllegalArgumentException" ∧ ai_rg lo hi = false ∧ M1 = M) := by
  refine x_start (by decide +kernel) rfl (Nat.le_of_ble_eq_true rfl) (Nat.le_of_ble_eq_true rfl) (fun x hx => by simp only [List.mem_cons, List.not_mem_nil, or_false] at hx; rcases hx with rfl | rfl | rfl <;> rfl) ?_
  intro p e s m below meth c B htab
  refine y_iload_n B dX6_pieces_0 rfl ?_
  refine y_iload_n B dX6_pieces_1 rfl ?_
  refine x_callS B 2 _ _ (k_X6_refuseNoRange l G _ hst) gX6_pieces_X6_refuseNoRange (by decide +kernel) rfl rfl rfl rfl ⟨(Nat.le_of_ble_eq_true rfl), (Nat.le_of_ble_eq_true rfl)⟩ (Nat.le_of_ble_eq_true rfl) ⟨(Nat.le_of_ble_eq_true rfl), (Nat.le_of_ble_eq_true rfl)⟩ dX6_pieces_2 rfl (fun E M1 hr => ?_) (fun r M1 hr => ?_)
  · exact z_out B (fun x hx => (htab x hx).elim) (Nat.le_of_ble_eq_true rfl) (Nat.le_of_ble_eq_true rfl) (by obtain ⟨e1, e2, e3⟩ := hr; exact ⟨e1, e3, e2⟩)
  obtain ⟨rfl, e9, hrg⟩ := hr
  obtain rfl := e9.symm
  obtain ⟨u, v, rfl, rfl, hu, hv, huv⟩ := ai_rg_of hrg
  have eu : (nI u).toNatClampNeg = u := nI_clamp (by omega)
  have ev : (nI v).toNatClampNeg = v := nI_clamp (by omega)
  have lp : ∀ (d i b : Nat), 64 < i + d → i ≤ 64 → b ≤ 64 → i ≤ b → ai_np 64 u v = i + ai_np (64 - i) b v → ai_Y p l e ({ frames := 7, cells := 1, slots := 6, locals := 111 } : Room) s m [.ref x, .int (nI u), .int (nI v)].toArray below meth c G (vx_MQ below (ai_Q G (fun r M1 => ai_rg (nI u) (nI v) = true ∧ r = some (.int (nI (ai_np 64 (nI u).toNatClampNeg (nI v).toNatClampNeg))) ∧ M1 = M)) (ai_X G (fun E M1 => E = "java/lang/IllegalArgumentException" ∧ ai_rg (nI u) (nI v) = false ∧ M1 = M)) [.ref x, .int (nI u), .int (nI v)].toArray s 1 6 (ai_A G)) M 1 6 [some (.ref x), some (.int (nI u)), some (.int (nI v)), some (.int (nI b)), some (.int (nI i))] 10 [] := by
    intro d
    induction d with
    | zero => intros; omega
    | succ d ih =>
      intro i b hm hi9 hb9 hib he
      refine y_iload_n B dX6_pieces_10 rfl ?_
      refine y_iload_n B dX6_pieces_11 rfl ?_
      refine y_icmp_gt B 38 dX6_pieces_12 (by decide) (fun c12 => ?_) (fun c12 => ?_)
      · have q12 : v < b := (nI_ltI (by omega) (by omega)).mp c12
        refine y_iload B dX6_pieces_38 rfl ?_
        exact x_iret B dX6_pieces_40 (Nat.le_of_ble_eq_true rfl) (Nat.le_of_ble_eq_true rfl) (⟨hrg, by rw [eu, ev, he, show ai_np (64 - i) b v = 0 from ai_np_0 q12, Nat.add_zero], rfl⟩)
      · have q12 : b ≤ v := Nat.le_of_not_lt (fun z => c12 ((nI_ltI (by omega) (by omega)).mpr z))
        obtain ⟨l1, l2, l3⟩ := ai_lv_le b (by omega) v hv q12
        refine y_iload B dX6_pieces_15 rfl ?_
        refine y_bipush B (nI 64) dX6_pieces_17 (by decide +kernel) ?_
        refine y_icmp_ge B 38 dX6_pieces_19 (by decide) (fun c19 => ?_) (fun c19 => ?_)
        · have q19 : 64 ≤ i := (nI_leI (by omega) (by omega)).mp c19
          refine y_iload B dX6_pieces_38 rfl ?_
          exact x_iret B dX6_pieces_40 (Nat.le_of_ble_eq_true rfl) (Nat.le_of_ble_eq_true rfl) (⟨hrg, by rw [eu, ev, he, show 64 - i = 0 by omega, show ai_np 0 b v = 0 from rfl, Nat.add_zero], rfl⟩)
        · have q19 : i < 64 := Nat.lt_of_not_le (fun z => c19 ((nI_leI (by omega) (by omega)).mpr z))
          obtain ⟨n, hn9⟩ : ∃ n, 64 - i = n + 1 := ⟨63 - i, by omega⟩
          refine y_iload_n B dX6_pieces_22 rfl ?_
          refine y_iconst B (nI 1) dX6_pieces_23 (by decide +kernel) ?_
          refine y_iload_n B dX6_pieces_24 rfl ?_
          refine y_iload_n B dX6_pieces_25 rfl ?_
          refine y_callS B 2 _ _ (k_X6_levelOfPiece l G _ (by omega) (by omega)) gX6_pieces_X6_levelOfPiece (by decide +kernel) rfl rfl rfl rfl ⟨(Nat.le_of_ble_eq_true rfl), (Nat.le_of_ble_eq_true rfl)⟩ (Nat.le_of_ble_eq_true rfl) ⟨by show 1 + 0 ≤ 1; omega, by show 6 + 0 ≤ 6; omega⟩ dX6_pieces_26 rfl (fun r M1 hr => ?_)
          obtain ⟨rfl, e9⟩ := hr
          obtain rfl := e9.symm
          refine y_ishl B (nI (2 ^ ai_lv b v)) dX6_pieces_29 (ai_shl1 (by omega)) ?_
          refine y_iadd B (nI (b + 2 ^ ai_lv b v)) dX6_pieces_30 (nI_add _ _) ?_
          refine y_istore_n B dX6_pieces_31 (Nat.le_of_ble_eq_true rfl) ?_
          refine y_iinc B (nI (i + 1)) dX6_pieces_32 rfl (nI_1 i) ?_
          refine y_goto B 10 dX6_pieces_35 (by decide) ?_
          have hp2 : 1 ≤ 2 ^ ai_lv b v := Nat.one_le_two_pow
          refine ih (i + 1) (b + 2 ^ ai_lv b v) (by omega) (by omega) (by omega) (by omega) ?_
          rw [he, hn9, show 64 - (i + 1) = n by omega]
          conv => lhs; unfold ai_np
          rw [if_pos q12]
          omega
  refine y_iload_n B dX6_pieces_5 rfl ?_
  refine y_istore_n B dX6_pieces_6 (Nat.le_of_ble_eq_true rfl) ?_
  refine y_iconst B (nI 0) dX6_pieces_7 (by decide +kernel) ?_
  refine y_istore B dX6_pieces_8 (Nat.le_of_ble_eq_true rfl) ?_
  exact lp 65 0 u (by omega) (by omega) (by omega) (by omega) (by show ai_np 64 u v = 0 + ai_np 64 u v; omega)
theorem ai_pb_0 {n k b h : Nat} (q : k = 0 ∨ h < b) : ai_pb n k b h = b := by
  cases n with
  | zero => rfl
  | succ n => unfold ai_pb; rw [if_neg (fun z => by omega)]
set_option maxHeartbeats 4000000 in
set_option maxRecDepth 100000 in
theorem k_X6_pieceAt (l : Launch) (G : ai_G) (M : ai_M) (hst : l.stackTraces = false) {x : Nat} {lo hi kk : Int32} : ai_D l yX6_pieceAt wsX6_pieceAt ({ frames := 7, cells := 1, slots := 6, locals := 111 } : Room) 1 6 G M [.ref x, .int lo, .int hi, .int kk] (fun r M1 => ¬ kk < 0 ∧ ai_rg lo hi = true ∧ r = some (.int (ai_pv kk.toNatClampNeg lo.toNatClampNeg hi.toNatClampNeg)) ∧ M1 = M) (fun E M1 => M1 = M ∧ ((E = "java/lang/IndexOutOfBoundsException" ∧ kk < 0) ∨ (E = "java/lang/IllegalArgumentException" ∧ ¬ kk < 0 ∧ ai_rg lo hi = false))) := by
  refine x_start (by decide +kernel) rfl (Nat.le_of_ble_eq_true rfl) (Nat.le_of_ble_eq_true rfl) (fun x hx => by simp only [List.mem_cons, List.not_mem_nil, or_false] at hx; rcases hx with rfl | rfl | rfl | rfl <;> rfl) ?_
  intro p e s m below meth c B htab
  refine y_iload_n B dX6_pieceAt_0 rfl ?_
  refine y_if_ge B 14 dX6_pieceAt_1 (by decide) (fun c1 => ?_) (fun c1 => ?_)
  · have hk0 : ¬ kk < 0 := fun z => absurd c1 (Int32.not_le.mpr z)
    obtain ⟨k, hk9, rfl⟩ := nI_of hk0
    have ek : (nI k).toNatClampNeg = k := nI_clamp hk9
    refine y_iload_n B dX6_pieceAt_14 rfl ?_
    refine y_iload_n B dX6_pieceAt_15 rfl ?_
    refine x_callS B 2 _ _ (k_X6_refuseNoRange l G _ hst) gX6_pieceAt_X6_refuseNoRange (by decide +kernel) rfl rfl rfl rfl ⟨(Nat.le_of_ble_eq_true rfl), (Nat.le_of_ble_eq_true rfl)⟩ (Nat.le_of_ble_eq_true rfl) ⟨(Nat.le_of_ble_eq_true rfl), (Nat.le_of_ble_eq_true rfl)⟩ dX6_pieceAt_16 rfl (fun E M1 hr => ?_) (fun r M1 hr => ?_)
    · exact z_out B (fun x hx => (htab x hx).elim) (Nat.le_of_ble_eq_true rfl) (Nat.le_of_ble_eq_true rfl) (by obtain ⟨e1, e2, e3⟩ := hr; exact ⟨e2, Or.inr ⟨e1, hk0, e3⟩⟩)
    obtain ⟨rfl, e9, hrg⟩ := hr
    obtain rfl := e9.symm
    obtain ⟨u, v, rfl, rfl, hu, hv, huv⟩ := ai_rg_of hrg
    have eu : (nI u).toNatClampNeg = u := nI_clamp (by omega)
    have ev : (nI v).toNatClampNeg = v := nI_clamp (by omega)
    have lp : ∀ (d i b : Nat), 64 < i + d → i ≤ 64 → b ≤ 64 → i ≤ b → i ≤ k → ai_pb 64 k u v = ai_pb (64 - i) (k - i) b v → ai_Y p l e ({ frames := 7, cells := 1, slots := 6, locals := 111 } : Room) s m [.ref x, .int (nI u), .int (nI v), .int (nI k)].toArray below meth c G (vx_MQ below (ai_Q G (fun r M1 => ¬ nI k < 0 ∧ ai_rg (nI u) (nI v) = true ∧ r = some (.int (ai_pv (nI k).toNatClampNeg (nI u).toNatClampNeg (nI v).toNatClampNeg)) ∧ M1 = M)) (ai_X G (fun E M1 => M1 = M ∧ ((E = "java/lang/IndexOutOfBoundsException" ∧ nI k < 0) ∨ (E = "java/lang/IllegalArgumentException" ∧ ¬ nI k < 0 ∧ ai_rg (nI u) (nI v) = false)))) [.ref x, .int (nI u), .int (nI v), .int (nI k)].toArray s 1 6 (ai_A G)) M 1 6 [some (.ref x), some (.int (nI u)), some (.int (nI v)), some (.int (nI k)), some (.int (nI b)), some (.int (nI i))] 25 [] := by
      intro d
      induction d with
      | zero => intros; omega
      | succ d ih =>
        intro i b hm hi9 hb9 hib hik he
        have fin : ai_pb (64 - i) (k - i) b v = b → ai_Y p l e ({ frames := 7, cells := 1, slots := 6, locals := 111 } : Room) s m [.ref x, .int (nI u), .int (nI v), .int (nI k)].toArray below meth c G (vx_MQ below (ai_Q G (fun r M1 => ¬ nI k < 0 ∧ ai_rg (nI u) (nI v) = true ∧ r = some (.int (ai_pv (nI k).toNatClampNeg (nI u).toNatClampNeg (nI v).toNatClampNeg)) ∧ M1 = M)) (ai_X G (fun E M1 => M1 = M ∧ ((E = "java/lang/IndexOutOfBoundsException" ∧ nI k < 0) ∨ (E = "java/lang/IllegalArgumentException" ∧ ¬ nI k < 0 ∧ ai_rg (nI u) (nI v) = false)))) [.ref x, .int (nI u), .int (nI v), .int (nI k)].toArray s 1 6 (ai_A G)) M 1 6 [some (.ref x), some (.int (nI u)), some (.int (nI v)), some (.int (nI k)), some (.int (nI b)), some (.int (nI i))] 63 [] := by
          intro hfin
          refine y_iload B dX6_pieceAt_63 rfl ?_
          refine y_iload_n B dX6_pieceAt_65 rfl ?_
          refine y_icmp_le B 71 dX6_pieceAt_66 (by decide) (fun c66 => ?_) (fun c66 => ?_)
          · have q66 : b ≤ v := (nI_leI (by omega) (by omega)).mp c66
            obtain ⟨l1, l2, l3⟩ := ai_lv_le b (by omega) v hv q66
            refine y_bipush B (nI 100) dX6_pieceAt_71 (by decide +kernel) ?_
            refine y_iload B dX6_pieceAt_73 rfl ?_
            refine y_imul B (nI (100 * b)) dX6_pieceAt_75 (pk_mul _ _) ?_
            refine y_iconst B (nI 1) dX6_pieceAt_76 (by decide +kernel) ?_
            refine y_iload B dX6_pieceAt_77 rfl ?_
            refine y_iload_n B dX6_pieceAt_79 rfl ?_
            refine y_callS B 2 _ _ (k_X6_levelOfPiece l G _ (by omega) (by omega)) gX6_pieceAt_X6_levelOfPiece (by decide +kernel) rfl rfl rfl rfl ⟨(Nat.le_of_ble_eq_true rfl), (Nat.le_of_ble_eq_true rfl)⟩ (Nat.le_of_ble_eq_true rfl) ⟨by show 1 + 0 ≤ 1; omega, by show 6 + 0 ≤ 6; omega⟩ dX6_pieceAt_80 rfl (fun r M1 hr => ?_)
            obtain ⟨rfl, e9⟩ := hr
            obtain rfl := e9.symm
            refine y_ishl B (nI (2 ^ ai_lv b v)) dX6_pieceAt_83 (ai_shl1 (by omega)) ?_
            refine y_iadd B (nI (100 * b + 2 ^ ai_lv b v)) dX6_pieceAt_84 (nI_add _ _) ?_
            exact x_iret B dX6_pieceAt_85 (Nat.le_of_ble_eq_true rfl) (Nat.le_of_ble_eq_true rfl) (⟨hk0, hrg, by rw [ek, eu, ev]; unfold ai_pv; rw [he, hfin, if_neg (by omega)], rfl⟩)
          · have q66 : v < b := Nat.lt_of_not_le (fun z => c66 ((nI_leI (by omega) (by omega)).mpr z))
            refine y_iconst B (-1) dX6_pieceAt_69 (by decide +kernel) ?_
            exact x_iret B dX6_pieceAt_70 (Nat.le_of_ble_eq_true rfl) (Nat.le_of_ble_eq_true rfl) (⟨hk0, hrg, by rw [ek, eu, ev]; unfold ai_pv; rw [he, hfin, if_pos q66], rfl⟩)
        refine y_iload B dX6_pieceAt_25 rfl ?_
        refine y_iload_n B dX6_pieceAt_27 rfl ?_
        refine y_icmp_ge B 63 dX6_pieceAt_28 (by decide) (fun c28 => ?_) (fun c28 => ?_)
        · have q28 : k ≤ i := (nI_leI (by omega) (by omega)).mp c28
          exact fin (ai_pb_0 (Or.inl (by omega)))
        · have q28 : i < k := Nat.lt_of_not_le (fun z => c28 ((nI_leI (by omega) (by omega)).mpr z))
          refine y_iload B dX6_pieceAt_31 rfl ?_
          refine y_bipush B (nI 64) dX6_pieceAt_33 (by decide +kernel) ?_
          refine y_icmp_ge B 63 dX6_pieceAt_35 (by decide) (fun c35 => ?_) (fun c35 => ?_)
          · have q35 : 64 ≤ i := (nI_leI (by omega) (by omega)).mp c35
            exact fin (by rw [show 64 - i = 0 by omega]; rfl)
          · have q35 : i < 64 := Nat.lt_of_not_le (fun z => c35 ((nI_leI (by omega) (by omega)).mpr z))
            obtain ⟨n, hn9⟩ : ∃ n, 64 - i = n + 1 := ⟨63 - i, by omega⟩
            refine y_iload B dX6_pieceAt_38 rfl ?_
            refine y_iload_n B dX6_pieceAt_40 rfl ?_
            refine y_icmp_gt B 63 dX6_pieceAt_41 (by decide) (fun c41 => ?_) (fun c41 => ?_)
            · have q41 : v < b := (nI_ltI (by omega) (by omega)).mp c41
              exact fin (ai_pb_0 (Or.inr q41))
            · have q41 : b ≤ v := Nat.le_of_not_lt (fun z => c41 ((nI_ltI (by omega) (by omega)).mpr z))
              obtain ⟨l1, l2, l3⟩ := ai_lv_le b (by omega) v hv q41
              refine y_iload B dX6_pieceAt_44 rfl ?_
              refine y_iconst B (nI 1) dX6_pieceAt_46 (by decide +kernel) ?_
              refine y_iload B dX6_pieceAt_47 rfl ?_
              refine y_iload_n B dX6_pieceAt_49 rfl ?_
              refine y_callS B 2 _ _ (k_X6_levelOfPiece l G _ (by omega) (by omega)) gX6_pieceAt_X6_levelOfPiece (by decide +kernel) rfl rfl rfl rfl ⟨(Nat.le_of_ble_eq_true rfl), (Nat.le_of_ble_eq_true rfl)⟩ (Nat.le_of_ble_eq_true rfl) ⟨by show 1 + 0 ≤ 1; omega, by show 6 + 0 ≤ 6; omega⟩ dX6_pieceAt_50 rfl (fun r M1 hr => ?_)
              obtain ⟨rfl, e9⟩ := hr
              obtain rfl := e9.symm
              refine y_ishl B (nI (2 ^ ai_lv b v)) dX6_pieceAt_53 (ai_shl1 (by omega)) ?_
              refine y_iadd B (nI (b + 2 ^ ai_lv b v)) dX6_pieceAt_54 (nI_add _ _) ?_
              refine y_istore B dX6_pieceAt_55 (Nat.le_of_ble_eq_true rfl) ?_
              refine y_iinc B (nI (i + 1)) dX6_pieceAt_57 rfl (nI_1 i) ?_
              refine y_goto B 25 dX6_pieceAt_60 (by decide) ?_
              have hp2 : 1 ≤ 2 ^ ai_lv b v := Nat.one_le_two_pow
              refine ih (i + 1) (b + 2 ^ ai_lv b v) (by omega) (by omega) (by omega) (by omega) (by omega) ?_
              rw [he, hn9, show 64 - (i + 1) = n by omega, show k - (i + 1) = k - i - 1 by omega]
              conv => lhs; unfold ai_pb
              rw [if_pos (show _ ∧ _ from ⟨by omega, q41⟩)]
    refine y_iload_n B dX6_pieceAt_19 rfl ?_
    refine y_istore B dX6_pieceAt_20 (Nat.le_of_ble_eq_true rfl) ?_
    refine y_iconst B (nI 0) dX6_pieceAt_22 (by decide +kernel) ?_
    refine y_istore B dX6_pieceAt_23 (Nat.le_of_ble_eq_true rfl) ?_
    exact lp 65 0 u (by omega) (by omega) (by omega) (by omega) (by omega) rfl
  · exact x_throw B (E := "java/lang/IndexOutOfBoundsException") (text := "pieces are counted from 0") (sv := 18) hst htab (by decide +kernel) (by decide +kernel) (by decide +kernel) (by decide +kernel) (fun w h => List.mem_cons_of_mem _ (List.mem_append_left _ (List.mem_append_right _ h))) x_bad_161 x_good_161 dX6_pieceAt_4 dX6_pieceAt_7 dX6_pieceAt_8 dX6_pieceAt_10 dX6_pieceAt_13 (Nat.le_of_ble_eq_true rfl) (Nat.le_of_ble_eq_true rfl) (Nat.le_of_ble_eq_true rfl) (Nat.le_of_ble_eq_true rfl) (Nat.le_of_ble_eq_true rfl) (Nat.le_of_ble_eq_true rfl) (⟨rfl, Or.inl ⟨rfl, Int32.not_le.mp c1⟩⟩)
