/-! ===== MATCHING BY THE INDEX ===== -/
theorem ai_ups_cong {f f' : Nat → Nat} (h : ∀ x, x < 128 → f x = f' x) : ∀ (n a : Nat), a < 128 → ai_ups n f a = ai_ups n f' a
  | 0, _, _ => rfl
  | n + 1, a, ha => by
    unfold ai_ups
    by_cases q : a = 0
    · rw [if_pos q, if_pos q]
    · rw [if_neg q, if_neg q, h a ha, ai_ups_cong h n (a / 2) (by omega)]
theorem ai_ups_add (f g : Nat → Nat) : ∀ (n a : Nat), ai_ups n (fun x => f x + g x) a = ai_ups n f a + ai_ups n g a
  | 0, _ => rfl
  | n + 1, a => by
    unfold ai_ups
    by_cases q : a = 0
    · rw [if_pos q, if_pos q, if_pos q]
    · rw [if_neg q, if_neg q, if_neg q, ai_ups_add f g n (a / 2)]
      dsimp only
      omega
theorem ai_ups_0 : ∀ (n a : Nat), ai_ups n (fun _ => 0) a = 0
  | 0, _ => rfl
  | n + 1, a => by
    unfold ai_ups
    by_cases q : a = 0
    · rw [if_pos q]
    · rw [if_neg q, ai_ups_0 n (a / 2)]
theorem ai_ups_sm (g : Nat → Nat → Nat) (n a : Nat) : ∀ m, ai_ups n (fun x => ai_sm m (fun t => g t x)) a = ai_sm m (fun t => ai_ups n (g t) a)
  | 0 => ai_ups_0 n a
  | m + 1 => by
    show ai_ups n (fun x => ai_sm m (fun t => g t x) + g m x) a = ai_sm m (fun t => ai_ups n (g t) a) + ai_ups n (g m) a
    rw [ai_ups_add, ai_ups_sm g n a m]
theorem ai_sm_add (f g : Nat → Nat) : ∀ n, ai_sm n (fun i => f i + g i) = ai_sm n f + ai_sm n g
  | 0 => rfl
  | n + 1 => by
    show ai_sm n (fun i => f i + g i) + (f n + g n) = (ai_sm n f + f n) + (ai_sm n g + g n)
    rw [ai_sm_add f g n]
    omega
theorem ai_sm_0 : ∀ n, ai_sm n (fun _ => 0) = 0
  | 0 => rfl
  | n + 1 => by
    show ai_sm n (fun _ => 0) + 0 = 0
    rw [ai_sm_0 n]
theorem ai_sm_sm (g : Nat → Nat → Nat) (n : Nat) : ∀ m, ai_sm n (fun i => ai_sm m (fun t => g t i)) = ai_sm m (fun t => ai_sm n (g t))
  | 0 => ai_sm_0 n
  | m + 1 => by
    show ai_sm n (fun i => ai_sm m (fun t => g t i) + g m i) = ai_sm m (fun t => ai_sm n (g t)) + ai_sm n (g m)
    rw [ai_sm_add, ai_sm_sm g n m]
theorem ai_sm_one {a v : Nat} : ∀ {n : Nat}, ai_sm n (fun i => if i = a then v else 0) = if a < n then v else 0
  | 0 => by rw [if_neg (Nat.not_lt_zero a)]; rfl
  | n + 1 => by
    show ai_sm n (fun i => if i = a then v else 0) + (if n = a then v else 0) = _
    rw [ai_sm_one (n := n)]
    by_cases q : n = a
    · rw [if_neg (by omega), if_pos q, if_pos (by omega), Nat.zero_add]
    · rw [if_neg q, Nat.add_zero]
      by_cases q2 : a < n
      · rw [if_pos q2, if_pos (by omega)]
      · rw [if_neg q2, if_neg (by omega)]
theorem ai_sm_cn (p : Nat → Bool) : ∀ n, ai_sm n (fun t => if p t then 1 else 0) = ai_cn n p
  | 0 => rfl
  | n + 1 => by
    show ai_sm n (fun t => if p t then 1 else 0) + (if p n then 1 else 0) = _
    rw [ai_sm_cn p n]
    rfl
theorem ai_cn_and (p r : Nat → Bool) : ∀ n, (ai_cn n (fun t => p t && r t) ≤ ai_cn n p) ∧ (ai_cn n (fun t => p t && r t) = ai_cn n p ↔ ∀ t, t < n → p t = true → r t = true)
  | 0 => ⟨Nat.le_refl _, fun _ t ht => absurd ht (Nat.not_lt_zero t), fun _ => rfl⟩
  | n + 1 => by
    obtain ⟨h1, h2⟩ := ai_cn_and p r n
    have e1 : ai_cn (n + 1) (fun t => p t && r t) = ai_cn n (fun t => p t && r t) + if (p n && r n) then 1 else 0 := rfl
    have e2 : ai_cn (n + 1) p = ai_cn n p + if p n then 1 else 0 := rfl
    rw [e1, e2]
    cases hp : p n <;> cases hr : r n <;> simp only [Bool.and_true, Bool.and_false, Bool.true_and, Bool.false_and, if_true, Bool.false_eq_true, if_false, Nat.add_zero]
    · exact ⟨h1, h2.trans ⟨fun h t ht hpt => (by rcases Nat.lt_succ_iff_lt_or_eq.mp ht with q | q; exact h t q hpt; rw [q, hp] at hpt; cases hpt), fun h t ht => h t (Nat.lt_succ_of_lt ht)⟩⟩
    · exact ⟨h1, h2.trans ⟨fun h t ht hpt => (by rcases Nat.lt_succ_iff_lt_or_eq.mp ht with q | q; exact h t q hpt; rw [q, hp] at hpt; cases hpt), fun h t ht => h t (Nat.lt_succ_of_lt ht)⟩⟩
    · refine ⟨by omega, fun h => by omega, fun h => ?_⟩
      have := h n (Nat.lt_succ_self n) hp
      rw [hr] at this
      cases this
    · refine ⟨by omega, fun h t ht hpt => ?_, fun h => by rw [h2.mpr (fun t ht => h t (Nat.lt_succ_of_lt ht))]⟩
      rcases Nat.lt_succ_iff_lt_or_eq.mp ht with q | q
      · exact h2.mp (by omega) t q hpt
      · rw [q]; exact hr
/-! a value lies in just one piece of a range that has it -/
theorem ai_pieceDec : ∀ l, l < 7 → ∀ b, b < 64 → b % 2 ^ l = 0 → ∀ v, v < 64 → ai_ups 7 (fun x => if (64 + b) / 2 ^ l = x then 1 else 0) (64 + v) = if b ≤ v ∧ v < b + 2 ^ l then 1 else 0 := by decide +kernel
theorem ai_nd_ups {v h : Nat} (hv : v < 64) (hh : h < 64) : ∀ (n b : Nat), h + 1 ≤ b + n → b ≤ 64 → ai_ups 7 (fun x => (ai_nd n b h).count x) (64 + v) = if b ≤ v ∧ v ≤ h then 1 else 0
  | 0, b, hn, _ => by
    rw [if_neg (by omega)]
    exact ai_ups_0 7 (64 + v)
  | n + 1, b, hn, hb => by
    unfold ai_nd
    by_cases q : b ≤ h
    · obtain ⟨l1, l2, l3⟩ := ai_lv_le b (by omega) h hh q
      have p2 : 1 ≤ 2 ^ ai_lv b h := Nat.one_le_two_pow
      rw [if_pos q]
      rw [show (fun x => (((64 + b) / 2 ^ ai_lv b h) :: ai_nd n (b + 2 ^ ai_lv b h) h).count x) = (fun x => (ai_nd n (b + 2 ^ ai_lv b h) h).count x + (fun x => if (64 + b) / 2 ^ ai_lv b h = x then 1 else 0) x) from by funext x; rw [List.count_cons]; congr 1; dsimp only; by_cases z : (64 + b) / 2 ^ ai_lv b h = x; rw [if_pos (beq_iff_eq.mpr z), if_pos z]; rw [if_neg (fun y => z (beq_iff_eq.mp y)), if_neg z]]
      rw [ai_ups_add, ai_nd_ups hv hh n (b + 2 ^ ai_lv b h) (by omega) (by omega), ai_pieceDec _ (by omega) b (by omega) l3 v hv]
      by_cases c1 : b ≤ v ∧ v ≤ h
      · rw [if_pos c1]
        by_cases c2 : v < b + 2 ^ ai_lv b h
        · rw [if_neg (by omega), if_pos ⟨c1.1, c2⟩]
        · rw [if_pos (by omega), if_neg (by omega)]
      · rw [if_neg c1, if_neg (by omega), if_neg (by omega)]
    · rw [if_neg q, if_neg (by omega)]
      exact ai_ups_0 7 (64 + v)
theorem ai_nd_lt {h : Nat} (hh : h < 64) : ∀ (n b : Nat), ∀ x ∈ ai_nd n b h, x < 128
  | 0, _, x, hx => by cases hx
  | n + 1, b, x, hx => by
    unfold ai_nd at hx
    by_cases q : b ≤ h
    · rw [if_pos q] at hx
      obtain ⟨l1, l2, l3⟩ := ai_lv_le b (by omega) h hh q
      rcases List.mem_cons.mp hx with rfl | hx
      · exact ai_node_lt b (by omega) _ (by omega)
      · exact ai_nd_lt hh n _ x hx
    · rw [if_neg q] at hx
      cases hx
theorem ai_count_map {a nm x : Nat} (hx : x < 128) : ∀ (l : List Nat), (∀ y ∈ l, y < 128) → (l.map (fun y => a * 128 + y)).count (nm * 128 + x) = if nm = a then l.count x else 0
  | [], _ => by
    by_cases q : nm = a
    · rw [if_pos q]; rfl
    · rw [if_neg q]; rfl
  | y :: l, h => by
    have hy := h y List.mem_cons_self
    rw [List.map_cons, List.count_cons, List.count_cons, ai_count_map hx l (fun z hz => h z (List.mem_cons_of_mem _ hz))]
    by_cases q : nm = a
    · rw [if_pos q, if_pos q]
      subst q
      by_cases z : y = x
      · rw [if_pos (beq_iff_eq.mpr (by rw [z])), if_pos (beq_iff_eq.mpr z)]
      · rw [if_neg (fun u => z (by have := beq_iff_eq.mp u; omega)), if_neg (fun u => z (beq_iff_eq.mp u))]
    · rw [if_neg q, if_neg q, if_neg (fun u => q (by have := beq_iff_eq.mp u; omega))]
/-- one test's hits -/
theorem ai_hit1 {S : ai_S} {k : Nat} (hk : ai_okT S k) (hv : ∀ i, i < 6 → S 1 i ≤ 64) : ai_sm 6 (fun nm => if S 1 nm = 0 then 0 else ai_ups 7 (fun x => if S 12 k = 0 then ((ai_pcs (S 10 k) (S 11 k)).map (fun y => S 9 k * 128 + y)).count (nm * 128 + x) else 0) (64 + (S 1 nm - 1))) = if (decide (S 12 k = 0) && ai_tk S k) then 1 else 0 := by
  obtain ⟨h1, h2, h3, h4⟩ := hk
  by_cases hb : S 12 k = 0
  · rw [ai_sm_cong (f' := fun nm => if nm = S 9 k then (if S 1 (S 9 k) = 0 then 0 else ai_ups 7 (fun x => (ai_pcs (S 10 k) (S 11 k)).count x) (64 + (S 1 (S 9 k) - 1))) else 0) (fun nm hnm => ?_), ai_sm_one, if_pos h1]
    · have hv9 := hv _ h1
      by_cases q : S 1 (S 9 k) = 0
      · rw [if_pos q]
        have e : ai_tk S k = false := by unfold ai_tk ai_tt; rw [ai_in_f1 q, hb]; rfl
        rw [e, Bool.and_false]
        rfl
      · rw [if_neg q, show ai_pcs (S 10 k) (S 11 k) = ai_nd 64 (S 10 k) (S 11 k) from rfl, ai_nd_ups (by omega) h3 64 _ (by omega) (by omega), decide_eq_true hb, Bool.true_and]
        have e : ai_tk S k = ai_in (S 1 (S 9 k)) (S 10 k) (S 11 k) := by unfold ai_tk ai_tt; rw [hb]; cases ai_in (S 1 (S 9 k)) (S 10 k) (S 11 k) <;> rfl
        rw [e]
        unfold ai_in
        by_cases c : S 10 k ≤ S 1 (S 9 k) - 1 ∧ S 1 (S 9 k) - 1 ≤ S 11 k
        · rw [if_pos c, decide_eq_true (p := S 10 k + 1 ≤ S 1 (S 9 k)) (by omega), decide_eq_true (p := S 1 (S 9 k) ≤ S 11 k + 1) (by omega)]
          rfl
        · rw [if_neg c]
          by_cases c2 : S 10 k + 1 ≤ S 1 (S 9 k)
          · rw [decide_eq_false (p := S 1 (S 9 k) ≤ S 11 k + 1) (by omega), Bool.and_false]
            rfl
          · rw [decide_eq_false c2]
            rfl
    · by_cases q : nm = S 9 k
      · rw [if_pos q, q]
        by_cases q2 : S 1 (S 9 k) = 0
        · rw [if_pos q2, if_pos q2]
        · rw [if_neg q2, if_neg q2]
          exact ai_ups_cong (fun x hx => by rw [if_pos hb, ai_count_map hx (ai_pcs (S 10 k) (S 11 k)) (ai_nd_lt h3 64 _), if_pos rfl]) 7 _ (by have := hv _ h1; omega)
      · rw [if_neg q]
        by_cases q2 : S 1 nm = 0
        · rw [if_pos q2]
        · rw [if_neg q2, ai_ups_cong (f' := fun _ => 0) (fun x hx => by rw [if_pos hb, ai_count_map hx (ai_pcs (S 10 k) (S 11 k)) (ai_nd_lt h3 64 _), if_neg q]) 7 _ (by have := hv nm hnm; omega), ai_ups_0]
  · rw [decide_eq_false hb, Bool.false_and, if_neg (by decide)]
    rw [ai_sm_cong (f' := fun _ => 0) (fun nm _ => ?_), ai_sm_0]
    by_cases q2 : S 1 nm = 0
    · rw [if_pos q2]
    · rw [if_neg q2]
      rw [show (fun x => if S 12 k = 0 then ((ai_pcs (S 10 k) (S 11 k)).map (fun y => S 9 k * 128 + y)).count (nm * 128 + x) else 0) = fun _ => 0 from by funext x; rw [if_neg hb], ai_ups_0]
/-- a product's hits -/
theorem ai_hits {S : ai_S} {j b : Nat} {pst : Nat → List Nat} (hj : ai_okP S j) (hv : ∀ i, i < 6 → S 1 i ≤ 64) (hc : ∀ pl, pl < 768 → (pst pl).count b = ai_pc S j pl) : ai_sm 6 (fun nm => if S 1 nm = 0 then 0 else ai_ups 7 (fun x => (pst (nm * 128 + x)).count b) (64 + (S 1 nm - 1))) = ai_cn (S 8 j) (fun t => decide (S 12 (4 * j + t) = 0) && ai_tk S (4 * j + t)) := by
  rw [← ai_sm_cn, ai_sm_cong (f' := fun nm => ai_sm (S 8 j) (fun t => if S 1 nm = 0 then 0 else ai_ups 7 (fun x => if S 12 (4 * j + t) = 0 then ((ai_pcs (S 10 (4 * j + t)) (S 11 (4 * j + t))).map (fun y => S 9 (4 * j + t) * 128 + y)).count (nm * 128 + x) else 0) (64 + (S 1 nm - 1)))) (fun nm hnm => ?_), ai_sm_sm]
  · exact ai_sm_cong (fun t ht => ai_hit1 (hj.2 t ht) hv)
  · by_cases q : S 1 nm = 0
    · rw [if_pos q, ai_sm_cong (f' := fun _ => 0) (fun t _ => by rw [if_pos q]), ai_sm_0]
    · rw [if_neg q, ai_ups_cong (f' := fun x => ai_sm (S 8 j) (fun t => if S 12 (4 * j + t) = 0 then ((ai_pcs (S 10 (4 * j + t)) (S 11 (4 * j + t))).map (fun y => S 9 (4 * j + t) * 128 + y)).count (nm * 128 + x) else 0)) (fun x hx => by rw [hc _ (by omega)]; rfl) 7 _ (by have := hv nm hnm; omega), ai_ups_sm]
      exact ai_sm_cong (fun t _ => by rw [if_neg q])
theorem ai_byHits {S : ai_S} {j : Nat} : (decide (ai_cn (S 8 j) (fun t => decide (S 12 (4 * j + t) = 0) && ai_tk S (4 * j + t)) = ai_pn S j) && ai_all (S 8 j) (fun t => decide (S 12 (4 * j + t) = 0) || ai_tk S (4 * j + t))) = ai_pt S j := by
  have h := (ai_cn_and (fun t => decide (S 12 (4 * j + t) = 0)) (fun t => ai_tk S (4 * j + t)) (S 8 j)).2
  cases hp : ai_pt S j with
  | true =>
    have h2 := (ai_all_iff _ _).mp hp
    rw [Bool.and_eq_true]
    exact ⟨decide_eq_true (h.mpr (fun t ht _ => h2 t ht)), (ai_all_iff _ _).mpr (fun t ht => by rw [h2 t ht, Bool.or_true])⟩
  | false =>
    cases hz : (decide (ai_cn (S 8 j) (fun t => decide (S 12 (4 * j + t) = 0) && ai_tk S (4 * j + t)) = ai_pn S j) && ai_all (S 8 j) (fun t => decide (S 12 (4 * j + t) = 0) || ai_tk S (4 * j + t))) with
    | false => rfl
    | true =>
      rw [Bool.and_eq_true] at hz
      have h3 := h.mp (of_decide_eq_true hz.1)
      have h4 := (ai_all_iff _ _).mp hz.2
      have : ai_pt S j = true := (ai_all_iff _ _).mpr (fun t ht => by
        have h5 := h4 t ht
        rw [Bool.or_eq_true] at h5
        exact h5.elim (h3 t ht) id)
      rw [hp] at this
      cases this
theorem ai_hk.R {G : ai_G} {M M1 : ai_M} (h : ai_hk M M1) {S : ai_S} {x qs dr ix fa : Nat} {qa pa : Nat → Nat} {pst : Nat → List Nat} (hR : ai_R G M S x qs dr ix fa qa pa pst) : ai_R G M1 S x qs dr ix fa qa pa pst := by
  obtain ⟨h1, h2, h3, ⟨fi, h4⟩, h5, h6, h7⟩ := hR
  exact ⟨h.inr h1 (by decide), h.l h2, h.dr h3, ⟨fi, h.ix h4⟩, fun q hq => h.qd (h5 q hq), h6, h7⟩
/-- what is not the class's own stays -/
def ai_kq (M M1 : ai_M) : Prop := ∀ (b g : Nat) (e : va_E), M b = some (g, e) → g < 100 → (∀ fs, e ≠ .inr (4, fs)) → M1 b = some (g, e)
theorem ai_hk.kq {M M1 : ai_M} (h : ai_hk M M1) : ai_kq M M1 := by
  intro b g e hb _ he
  obtain ⟨e1, a1, c1⟩ := h b g e hb
  rcases c1 with rfl | ⟨x, y, v, v', rfl, -⟩
  · exact a1
  · exact absurd rfl (he _)
theorem i_X6_matchingByIndex_X6 : ∀ w ∈ wsX60, w ∈ wsX6_matchingByIndex := fun _ h => List.mem_cons_of_mem _ (List.mem_append_left _ (List.mem_append_left _ (List.mem_append_left _ (List.mem_append_left _ (List.mem_append_left _ (List.mem_append_left _ (List.mem_append_left _ (List.mem_append_right _ h))))))))
set_option maxHeartbeats 4000000 in
set_option maxRecDepth 100000 in
theorem k_X6_matchingByIndex (l : Launch) (G : ai_G) (M : ai_M) {S : ai_S} {o x : Nat} (hR : ai_Rx G M S x) (hI : ai_I S o) : ai_C l yX6_matchingByIndex wsX6_matchingByIndex ({ frames := 5, cells := 0, slots := 0, locals := 109 } : Room) 0 0 G M [.ref x] (fun r M1 => r = some (.int (ai_bs (S 0 2) (fun q => decide (S 2 q = 0) && ai_qt S q))) ∧ ai_Rx G M1 S x ∧ ai_kq M M1) := by
  refine y_start (by decide +kernel) rfl (Nat.le_of_ble_eq_true rfl) (Nat.le_of_ble_eq_true rfl) (fun x hx => by simp only [List.mem_cons, List.not_mem_nil, or_false] at hx; rcases hx with rfl <;> rfl) ?_
  intro p e s m below meth c B hnm
  obtain ⟨qs, dr, ix, fa, qa, pa, pst, hR9⟩ := id hR
  obtain ⟨hI1, hI2, hI3, hI4⟩ := id hI
  have lp3 : ∀ (d : Nat) (i : Nat) (Mi : ai_M), (S 0 2 < i + d) → (i ≤ S 0 2) → (ai_hk M Mi) → (∀ q, q < S 0 2 → ∀ p, p < S 3 q → ai_ht Mi (pa (3 * q + p)) (nI (ai_cn (S 8 (3 * q + p)) (fun t => decide (S 12 (4 * (3 * q + p) + t) = 0) && ai_tk S (4 * (3 * q + p) + t))))) → ai_Y p l e ({ frames := 5, cells := 0, slots := 0, locals := 109 } : Room) s m [.ref x].toArray below meth c G (MQ below (ai_Q G (fun r M1 => r = some (.int (ai_bs (S 0 2) (fun q => decide (S 2 q = 0) && ai_qt S q))) ∧ ai_Rx G M1 S x ∧ ai_kq M M1)) [.ref x].toArray s 0 0 (ai_A G)) Mi 0 0 [some (.ref x), some (.int (ai_bs i (fun q => decide (S 2 q = 0) && ai_qt S q))), some (.int (nI i))] 52 [] := by
    intro d
    induction d with
    | zero => intros; omega
    | succ d ih =>
      intro i Mi hm hi hk hh
      obtain ⟨hx, hL, hD, ⟨fi, hIx⟩, hQ, hP1, hP2⟩ := id (hk.R hR9)
      obtain ⟨mc, arr, cap, h9, hl1, -⟩ := id hL
      obtain ⟨dv, hD1, hD2⟩ := id hD
      refine y_iload_n B dX6_matchingByIndex_52 rfl ?_
      refine y_aload_n B dX6_matchingByIndex_53 rfl ?_
      refine y_get B (ref := "AlertIndex") (ci := 7) (C := RX6) (T := TX6) (N := 4) hx rfl i_X6_matchingByIndex_X6 0 (by decide) (by decide +kernel) (fun _ h9 => h9) rfl dX6_matchingByIndex_54 ?_
      refine y_callF B 0 (x := ⟨"java/util/List", "size", "()I"⟩) (q := (RJx4a65c, TJx4a65c, 3)) _ _ (k_Jx4a65c_size_8abf5 l G _ hL) hl1 rfl gX6_matchingByIndex_Jx4a65c_size_8abf5_f34Jx4a65c B.2.2.2.2.2.2.2.2.1.1.2.2.2.2.2.2.1 (by decide +kernel) rfl rfl rfl rfl ⟨(Nat.le_of_ble_eq_true rfl), (Nat.le_of_ble_eq_true rfl)⟩ (Nat.le_of_ble_eq_true rfl) ⟨(Nat.le_of_ble_eq_true rfl), (Nat.le_of_ble_eq_true rfl)⟩ dX6_matchingByIndex_57 rfl (fun r M1 hr => ?_)
      obtain ⟨rfl, e9⟩ := hr
      obtain rfl := e9.symm
      refine y_icmp_ge B 100 dX6_matchingByIndex_62 (by decide) (fun c62 => ?_) (fun c62 => ?_)
      · have q62 : S 0 2 ≤ i := (nI_leI (by omega) (by omega)).mp c62
        have ei : i = S 0 2 := by omega
        refine y_iload_n B dX6_matchingByIndex_100 rfl ?_
        exact y_iret B dX6_matchingByIndex_101 (Nat.le_of_ble_eq_true rfl) (Nat.le_of_ble_eq_true rfl) (⟨by rw [ei], ⟨qs, dr, ix, fa, qa, pa, pst, hk.R hR9⟩, hk.kq⟩)
      · have q62 : i < S 0 2 := Nat.lt_of_not_le (fun z => c62 ((nI_leI (by omega) (by omega)).mpr z))
        have hok := hI4 i q62
        refine y_aload_n B dX6_matchingByIndex_65 rfl ?_
        refine y_get B (ref := "AlertIndex") (ci := 7) (C := RX6) (T := TX6) (N := 4) hx rfl i_X6_matchingByIndex_X6 0 (by decide) (by decide +kernel) (fun _ h9 => h9) rfl dX6_matchingByIndex_66 ?_
        refine y_iload_n B dX6_matchingByIndex_69 rfl ?_
        refine y_callF B 1 (x := ⟨"java/util/List", "get", "(I)Ljava/lang/Object;"⟩) (q := (RJx4a65c, TJx4a65c, 3)) _ _ (k_Jx4a65c_get_915e3 l G _ hL q62) hl1 rfl gX6_matchingByIndex_Jx4a65c_get_915e3_f122Jx4a65c B.2.2.2.2.2.2.2.2.1.1.2.2.2.2.2.2.2.2.1 (by decide +kernel) rfl rfl rfl rfl ⟨(Nat.le_of_ble_eq_true rfl), (Nat.le_of_ble_eq_true rfl)⟩ (Nat.le_of_ble_eq_true rfl) ⟨(Nat.le_of_ble_eq_true rfl), (Nat.le_of_ble_eq_true rfl)⟩ dX6_matchingByIndex_70 rfl (fun r M1 hr => ?_)
        obtain ⟨rfl, e9⟩ := hr
        obtain rfl := e9.symm
        obtain ⟨pl, hQa, -⟩ := id (hQ i q62)
        refine y_cast B hQa (q := (RX4, TX4, 6)) rfl (by decide +kernel) dX6_matchingByIndex_75 ?_
        refine y_aload_n B dX6_matchingByIndex_78 rfl ?_
        refine y_get B (ref := "AlertIndex") (ci := 7) (C := RX6) (T := TX6) (N := 4) hx rfl i_X6_matchingByIndex_X6 1 (by decide) (by decide +kernel) (fun _ h9 => h9) rfl dX6_matchingByIndex_79 ?_
        refine y_callV B 1 (q := (RX4, TX4, 6)) _ _ (k_X4_isSatisfiedByHits l G _ hD hI3 (hQ i q62) hok.1 hok.2.1 hok.2.2.2.2.2.2 (hf := (fun p => ai_cn (S 8 (3 * i + p)) (fun t => decide (S 12 (4 * (3 * i + p) + t) = 0) && ai_tk S (4 * (3 * i + p) + t)))) (fun p hp => ⟨hh i q62 p hp, by have := ai_cn_le (S 8 (3 * i + p)) (fun t => decide (S 12 (4 * (3 * i + p) + t) = 0) && ai_tk S (4 * (3 * i + p) + t)); have := (hok.2.2.2.2.2.2 p hp).1; omega⟩)) hQa rfl gX6_matchingByIndex_X4_isSatisfiedByHits (by decide +kernel) rfl rfl rfl rfl ⟨(Nat.le_of_ble_eq_true rfl), (Nat.le_of_ble_eq_true rfl)⟩ (Nat.le_of_ble_eq_true rfl) ⟨(Nat.le_of_ble_eq_true rfl), (Nat.le_of_ble_eq_true rfl)⟩ dX6_matchingByIndex_82 rfl (fun r M1 hr => ?_)
        obtain ⟨rfl, e9⟩ := hr
        obtain rfl := e9.symm
        rw [show ai_any (S 3 i) (fun p => decide ((fun p => ai_cn (S 8 (3 * i + p)) (fun t => decide (S 12 (4 * (3 * i + p) + t) = 0) && ai_tk S (4 * (3 * i + p) + t))) p = ai_pn S (3 * i + p)) && ai_all (S 8 (3 * i + p)) (fun t => decide (S 12 (4 * (3 * i + p) + t) = 0) || ai_tk S (4 * (3 * i + p) + t))) = ai_qt S i from ai_any_cong (fun p _ => ai_byHits)]
        refine y_if_eq B 94 dX6_matchingByIndex_85 (by decide) (fun c85 => ?_) (fun c85 => ?_)
        · have q85 := (ai_b0 _).mp c85
          refine y_iinc B (nI (i + 1)) dX6_matchingByIndex_94 rfl (nI_1 i) ?_
          refine y_goto B 52 dX6_matchingByIndex_97 (by decide) ?_
          have z := ih (i + 1) _ (by omega) (by omega) hk hh
          rw [ai_bs_f (p := (fun q => decide (S 2 q = 0) && ai_qt S q)) q85] at z
          exact z
        · have q85 := ai_b1 c85
          refine y_iload_n B dX6_matchingByIndex_88 rfl ?_
          refine y_iconst B (nI 1) dX6_matchingByIndex_89 (by decide +kernel) ?_
          refine y_iload_n B dX6_matchingByIndex_90 rfl ?_
          refine y_ishl B (nI 1 <<< (nI i &&& 31)) dX6_matchingByIndex_91 (rfl) ?_
          refine y_ior B (ai_bs (i + 1) (fun q => decide (S 2 q = 0) && ai_qt S q)) dX6_matchingByIndex_92 ((ai_bs_t (p := (fun q => decide (S 2 q = 0) && ai_qt S q)) q85).symm) ?_
          refine y_istore_n B dX6_matchingByIndex_93 (Nat.le_of_ble_eq_true rfl) ?_
          refine y_iinc B (nI (i + 1)) dX6_matchingByIndex_94 rfl (nI_1 i) ?_
          refine y_goto B 52 dX6_matchingByIndex_97 (by decide) ?_
          exact ih (i + 1) _ (by omega) (by omega) hk hh
  have lp1 : ∀ (d : Nat) (i : Nat) (Mi : ai_M), (S 0 2 < i + d) → (i ≤ S 0 2) → (ai_hk M Mi) → (∀ q, q < i → ∀ p, p < S 3 q → ai_ht Mi (pa (3 * q + p)) (nI 0)) → ai_Y p l e ({ frames := 5, cells := 0, slots := 0, locals := 109 } : Room) s m [.ref x].toArray below meth c G (MQ below (ai_Q G (fun r M1 => r = some (.int (ai_bs (S 0 2) (fun q => decide (S 2 q = 0) && ai_qt S q))) ∧ ai_Rx G M1 S x ∧ ai_kq M M1)) [.ref x].toArray s 0 0 (ai_A G)) Mi 0 0 [some (.ref x), some (.int (nI i)), none] 2 [] := by
    intro d
    induction d with
    | zero => intros; omega
    | succ d ih =>
      intro i Mi hm hi hk hh
      obtain ⟨hx, hL, hD, ⟨fi, hIx⟩, hQ, hP1, hP2⟩ := id (hk.R hR9)
      obtain ⟨mc, arr, cap, h9, hl1, -⟩ := id hL
      obtain ⟨dv, hD1, hD2⟩ := id hD
      refine y_iload_n B dX6_matchingByIndex_2 rfl ?_
      refine y_aload_n B dX6_matchingByIndex_3 rfl ?_
      refine y_get B (ref := "AlertIndex") (ci := 7) (C := RX6) (T := TX6) (N := 4) hx rfl i_X6_matchingByIndex_X6 0 (by decide) (by decide +kernel) (fun _ h9 => h9) rfl dX6_matchingByIndex_4 ?_
      refine y_callF B 0 (x := ⟨"java/util/List", "size", "()I"⟩) (q := (RJx4a65c, TJx4a65c, 3)) _ _ (k_Jx4a65c_size_8abf5 l G _ hL) hl1 rfl gX6_matchingByIndex_Jx4a65c_size_8abf5_f34Jx4a65c B.2.2.2.2.2.2.2.2.1.1.2.2.2.2.2.2.1 (by decide +kernel) rfl rfl rfl rfl ⟨(Nat.le_of_ble_eq_true rfl), (Nat.le_of_ble_eq_true rfl)⟩ (Nat.le_of_ble_eq_true rfl) ⟨(Nat.le_of_ble_eq_true rfl), (Nat.le_of_ble_eq_true rfl)⟩ dX6_matchingByIndex_7 rfl (fun r M1 hr => ?_)
      obtain ⟨rfl, e9⟩ := hr
      obtain rfl := e9.symm
      refine y_icmp_ge B 37 dX6_matchingByIndex_12 (by decide) (fun c12 => ?_) (fun c12 => ?_)
      · have q12 : S 0 2 ≤ i := (nI_leI (by omega) (by omega)).mp c12
        have ei : i = S 0 2 := by omega
        refine y_aload_n B dX6_matchingByIndex_37 rfl ?_
        refine y_get B (ref := "AlertIndex") (ci := 7) (C := RX6) (T := TX6) (N := 4) hx rfl i_X6_matchingByIndex_X6 2 (by decide) (by decide +kernel) (fun _ h9 => h9) rfl dX6_matchingByIndex_38 ?_
        refine y_aload_n B dX6_matchingByIndex_41 rfl ?_
        refine y_get B (ref := "AlertIndex") (ci := 7) (C := RX6) (T := TX6) (N := 4) hx rfl i_X6_matchingByIndex_X6 1 (by decide) (by decide +kernel) (fun _ h9 => h9) rfl dX6_matchingByIndex_42 ?_
        refine y_callV B 1 (q := (RX1, TX1, 1)) _ _ (k_X1_countHits l G _ hIx hD hI3 (fun pl hpl b hb => by obtain ⟨q, p, h1, h2, rfl⟩ := hP1 pl hpl b hb; obtain ⟨_, _, _, y1⟩ := hQ q h1; exact (y1 p h2).ht)) hIx.1 rfl gX6_matchingByIndex_X1_countHits (by decide +kernel) rfl rfl rfl rfl ⟨(Nat.le_of_ble_eq_true rfl), (Nat.le_of_ble_eq_true rfl)⟩ (Nat.le_of_ble_eq_true rfl) ⟨(Nat.le_of_ble_eq_true rfl), (Nat.le_of_ble_eq_true rfl)⟩ dX6_matchingByIndex_45 rfl (fun r M1 hr => ?_)
        obtain ⟨rfl, hk2, hs⟩ := hr
        refine y_iconst B (nI 0) dX6_matchingByIndex_48 (by decide +kernel) ?_
        refine y_istore_n B dX6_matchingByIndex_49 (Nat.le_of_ble_eq_true rfl) ?_
        refine y_iconst B (nI 0) dX6_matchingByIndex_50 (by decide +kernel) ?_
        refine y_istore_n B dX6_matchingByIndex_51 (Nat.le_of_ble_eq_true rfl) ?_
        refine lp3 (S 0 2 + 1) 0 _ (by omega) (by omega) (hk.tr hk2) (fun q hq p hp => ?_)
        have z := hs _ 0 (hh q (by omega) p hp)
        rw [Nat.zero_add, ai_hits ((hI4 q hq).2.2.2.2.2.2 p hp) hI3 (hP2 q hq p hp)] at z
        exact z
      · have q12 : i < S 0 2 := Nat.lt_of_not_le (fun z => c12 ((nI_leI (by omega) (by omega)).mpr z))
        have hok := hI4 i q12
        refine y_aload_n B dX6_matchingByIndex_15 rfl ?_
        refine y_get B (ref := "AlertIndex") (ci := 7) (C := RX6) (T := TX6) (N := 4) hx rfl i_X6_matchingByIndex_X6 0 (by decide) (by decide +kernel) (fun _ h9 => h9) rfl dX6_matchingByIndex_16 ?_
        refine y_iload_n B dX6_matchingByIndex_19 rfl ?_
        refine y_callF B 1 (x := ⟨"java/util/List", "get", "(I)Ljava/lang/Object;"⟩) (q := (RJx4a65c, TJx4a65c, 3)) _ _ (k_Jx4a65c_get_915e3 l G _ hL q12) hl1 rfl gX6_matchingByIndex_Jx4a65c_get_915e3_f122Jx4a65c B.2.2.2.2.2.2.2.2.1.1.2.2.2.2.2.2.2.2.1 (by decide +kernel) rfl rfl rfl rfl ⟨(Nat.le_of_ble_eq_true rfl), (Nat.le_of_ble_eq_true rfl)⟩ (Nat.le_of_ble_eq_true rfl) ⟨(Nat.le_of_ble_eq_true rfl), (Nat.le_of_ble_eq_true rfl)⟩ dX6_matchingByIndex_20 rfl (fun r M1 hr => ?_)
        obtain ⟨rfl, e9⟩ := hr
        obtain rfl := e9.symm
        obtain ⟨pl, hQa, -, hQp⟩ := id (hQ i q12)
        refine y_cast B hQa (q := (RX4, TX4, 6)) rfl (by decide +kernel) dX6_matchingByIndex_25 ?_
        refine y_callV B 0 (q := (RX4, TX4, 6)) _ _ (k_X4_forgetHits l G _ (hQ i q12)) hQa rfl gX6_matchingByIndex_X4_forgetHits (by decide +kernel) rfl rfl rfl rfl ⟨(Nat.le_of_ble_eq_true rfl), (Nat.le_of_ble_eq_true rfl)⟩ (Nat.le_of_ble_eq_true rfl) ⟨(Nat.le_of_ble_eq_true rfl), (Nat.le_of_ble_eq_true rfl)⟩ dX6_matchingByIndex_28 rfl (fun r M1 hr => ?_)
        obtain ⟨rfl, hk2, hz0, hz1⟩ := hr
        refine y_iinc B (nI (i + 1)) dX6_matchingByIndex_31 rfl (nI_1 i) ?_
        refine y_goto B 2 dX6_matchingByIndex_34 (by decide) ?_
        refine ih (i + 1) _ (by omega) (by omega) (hk.tr hk2) (fun q hq p hp => ?_)
        rcases Nat.lt_succ_iff_lt_or_eq.mp hq with z | z
        · refine hz1 _ _ (fun p2 hp2 => ?_) (hh q z p hp)
          obtain ⟨_, _, _, y1⟩ := hQ q (by omega)
          obtain ⟨_, _, _, z1, -⟩ := y1 p hp
          obtain ⟨_, _, _, z2, -⟩ := hQp p2 hp2
          have o1 := (hI4 q (by omega)).2.1
          have o2 := hok.2.1
          exact ai_ne z1 z2 (by omega)
        · subst z
          exact hz0 p hp
  refine y_iconst B (nI 0) dX6_matchingByIndex_0 (by decide +kernel) ?_
  refine y_istore_n B dX6_matchingByIndex_1 (Nat.le_of_ble_eq_true rfl) ?_
  exact lp1 (S 0 2 + 1) 0 M (by omega) (by omega) ai_hk.rf (fun q hq => absurd hq (Nat.not_lt_zero q))
