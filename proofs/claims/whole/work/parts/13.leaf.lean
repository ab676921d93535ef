/-! ===== THE CLASS'S SMALL OBJECTS ===== -/
def ai_Dr (G : ai_G) (M : ai_M) (S : ai_S) (dr : Nat) : Prop := ∃ dv : Nat, M dr = some (104, .inr (1, [.ref dv])) ∧ M dv = some (105, ai_eI G 6 (fun i => ai_nD (S 1 i)))
def ai_Te (M : ai_M) (S : ai_S) (k g a : Nat) : Prop := M a = some (g, .inr (6, [.int (nI (S 9 k)), .int (nI (S 10 k)), .int (nI (S 11 k)), .int (nI (S 12 k))]))
def ai_Pd (G : ai_G) (M : ai_M) (S : ai_S) (j a : Nat) : Prop := ∃ (tl : Nat) (ta : Nat → Nat) (hits : Int32), M a = some (10000 + 100 * j, .inr (4, [.ref tl, .int (nI (ai_pn S j)), .int hits])) ∧ ai_l G M tl (10000 + 100 * j + 2) (S 8 j) ta ∧ ∀ t, t < S 8 j → ai_Te M S (4 * j + t) (10000 + 100 * j + 10 + t) (ta t)
def ai_Qd (G : ai_G) (M : ai_M) (S : ai_S) (pa : Nat → Nat) (q a : Nat) : Prop := ∃ pl : Nat, M a = some (1000 + 100 * q, .inr (5, [.ref pl, .int (nI (S 2 q)), .int (nI (S 4 q)), .int (nI (S 5 q)), .int (nI (S 6 q)), .int (nI (S 7 q))])) ∧ ai_l G M pl (1000 + 100 * q + 2) (S 3 q) (fun p => pa (3 * q + p)) ∧ ∀ p, p < S 3 q → ai_Pd G M S (3 * q + p) (pa (3 * q + p))
/-- a product's hits -/
def ai_ht (M : ai_M) (a : Nat) (v : Int32) : Prop := ∃ (g : Nat) (x y : Value), M a = some (g, .inr (4, [x, y, .int v]))
/-- only hits have changed -/
def ai_hk (M M1 : ai_M) : Prop := ∀ (b g : Nat) (e : va_E), M b = some (g, e) → ∃ e', M1 b = some (g, e') ∧ (e' = e ∨ ∃ (x y : Value) (v v' : Int32), e = .inr (4, [x, y, .int v]) ∧ e' = .inr (4, [x, y, .int v']))
theorem ai_hk.rf {M : ai_M} : ai_hk M M := fun b g e h => ⟨e, h, Or.inl rfl⟩
theorem ai_hk.tr {M M1 M2 : ai_M} (h1 : ai_hk M M1) (h2 : ai_hk M1 M2) : ai_hk M M2 := by
  intro b g e h
  obtain ⟨e1, a1, c1⟩ := h1 b g e h
  obtain ⟨e2, a2, c2⟩ := h2 b g e1 a1
  refine ⟨e2, a2, ?_⟩
  rcases c1 with rfl | ⟨x, y, v, v', rfl, rfl⟩
  · exact c2
  · rcases c2 with rfl | ⟨x2, y2, v2, v3, e4, rfl⟩
    · exact Or.inr ⟨x, y, v, v', rfl, rfl⟩
    · cases e4
      exact Or.inr ⟨x, y, v, v3, rfl, rfl⟩
theorem ai_hk.one {M : ai_M} {a g : Nat} {x y : Value} {v v' : Int32} (h : M a = some (g, .inr (4, [x, y, .int v]))) : ai_hk M (ai_U M a g (.inr (4, [x, y, .int v']))) := by
  intro b g' e hb
  by_cases q : b = a
  · subst q
    rw [h] at hb
    cases hb
    exact ⟨_, ai_U_s, Or.inr ⟨x, y, v, v', rfl, rfl⟩⟩
  · exact ⟨e, (ai_U_n q).trans hb, Or.inl rfl⟩
theorem ai_hk.inl {M M1 : ai_M} (h : ai_hk M M1) {b g : Nat} {x : ClassId × vp_A} (hb : M b = some (g, .inl x)) : M1 b = some (g, .inl x) := by
  obtain ⟨e1, a1, c1⟩ := h b g _ hb
  rcases c1 with rfl | ⟨x, y, v, v', e2, -⟩
  · exact a1
  · cases e2
theorem ai_hk.inr {M M1 : ai_M} (h : ai_hk M M1) {b g c : Nat} {fs : List Value} (hb : M b = some (g, .inr (c, fs))) (hc : c ≠ 4) : M1 b = some (g, .inr (c, fs)) := by
  obtain ⟨e1, a1, c1⟩ := h b g _ hb
  rcases c1 with rfl | ⟨x, y, v, v', e2, -⟩
  · exact a1
  · cases e2
    exact absurd rfl hc
theorem ai_hk.l {G : ai_G} {M M1 : ai_M} (h : ai_hk M M1) {a g n : Nat} {f : Nat → Nat} (hl : ai_l G M a g n f) : ai_l G M1 a g n f := by
  obtain ⟨mc, arr, cap, hh, h1, h2⟩ := hl
  refine ⟨mc, arr, cap, hh, h.inr h1 (by decide), ?_⟩
  rcases h2 with h2 | ⟨h2, h3⟩
  · exact Or.inl h2
  · exact Or.inr ⟨h.inl h2, h3⟩
theorem ai_hk.pd {G : ai_G} {M M1 : ai_M} (h : ai_hk M M1) {S : ai_S} {j a : Nat} (hp : ai_Pd G M S j a) : ai_Pd G M1 S j a := by
  obtain ⟨tl, ta, hits, h1, h2, h3⟩ := hp
  obtain ⟨e1, a1, c1⟩ := h a _ _ h1
  rcases c1 with rfl | ⟨x, y, v, v', e2, rfl⟩
  · exact ⟨tl, ta, hits, a1, h.l h2, fun t ht => h.inr (h3 t ht) (by decide)⟩
  · cases e2
    exact ⟨tl, ta, v', a1, h.l h2, fun t ht => h.inr (h3 t ht) (by decide)⟩
theorem ai_hk.qd {G : ai_G} {M M1 : ai_M} (h : ai_hk M M1) {S : ai_S} {pa : Nat → Nat} {q a : Nat} (hq : ai_Qd G M S pa q a) : ai_Qd G M1 S pa q a := by
  obtain ⟨pl, h1, h2, h3⟩ := hq
  exact ⟨pl, h.inr h1 (by decide), h.l h2, fun p hp => h.pd (h3 p hp)⟩
theorem ai_hk.dr {G : ai_G} {M M1 : ai_M} (h : ai_hk M M1) {S : ai_S} {dr : Nat} (hq : ai_Dr G M S dr) : ai_Dr G M1 S dr := by
  obtain ⟨dv, h1, h2⟩ := hq
  exact ⟨dv, h.inr h1 (by decide), h.inl h2⟩
theorem ai_ht.u {M : ai_M} {a a' g : Nat} {v : Int32} {e : va_E} (h : ai_ht M a v) (hn : a ≠ a') : ai_ht (ai_U M a' g e) a v := by
  obtain ⟨g1, x, y, h1⟩ := h
  exact ⟨g1, x, y, (ai_U_n hn).trans h1⟩
theorem ai_Pd.ht {G : ai_G} {M : ai_M} {S : ai_S} {j a : Nat} (h : ai_Pd G M S j a) : ∃ v, ai_ht M a v := by
  obtain ⟨tl, ta, hits, h1, -⟩ := h
  exact ⟨hits, _, _, _, h1⟩
set_option maxRecDepth 20000 in
theorem ggX0_init_J7_fill_53178 : GoodIn wsX0_init wsJ7_fill_53178 := goodIn_r _ [9] (by decide +kernel) (by decide +kernel)
set_option maxRecDepth 20000 in
theorem gX0_init_J7_fill_53178 : GoodIn wsX0_init (va_wsS RX0 15 yJ7_fill_53178 wsJ7_fill_53178) := goodIn_app (goodIn_of _ (by decide +kernel)) ggX0_init_J7_fill_53178
theorem i_X0_init_X0 : ∀ w ∈ wsX00, w ∈ wsX0_init := fun _ h => List.mem_cons_of_mem _ (List.mem_append_right _ h)
theorem i_X0_valueOf_X0 : ∀ w ∈ wsX00, w ∈ wsX0_valueOf := fun _ h => List.mem_cons_of_mem _ (List.mem_append_right _ h)
theorem i_X0_replace_X0 : ∀ w ∈ wsX00, w ∈ wsX0_replace := fun _ h => List.mem_cons_of_mem _ (List.mem_append_right _ h)
theorem i_X5_init_X5 : ∀ w ∈ wsX50, w ∈ wsX5_init := fun _ h => List.mem_cons_of_mem _ (List.mem_append_right _ h)
theorem i_X5_isTrue_X5 : ∀ w ∈ wsX50, w ∈ wsX5_isTrue := fun _ h => List.mem_cons_of_mem _ (List.mem_append_left _ (List.mem_append_right _ h))
theorem i_X2_init_X2 : ∀ w ∈ wsX20, w ∈ wsX2_init := fun _ h => List.mem_cons_of_mem _ (List.mem_append_right _ h)
theorem i_X3_init_Jx4a65c : ∀ w ∈ wsJx4a65c0, w ∈ wsX3_init := fun _ h => List.mem_cons_of_mem _ (List.mem_append_left _ (List.mem_append_right _ h))
theorem i_X3_init_X3 : ∀ w ∈ wsX30, w ∈ wsX3_init := fun _ h => List.mem_cons_of_mem _ (List.mem_append_right _ h)
theorem i_X3_isTrue_X3 : ∀ w ∈ wsX30, w ∈ wsX3_isTrue := fun _ h => List.mem_cons_of_mem _ (List.mem_append_left _ (List.mem_append_left _ (List.mem_append_left _ (List.mem_append_right _ h))))
theorem i_X3_isTrueByHits_X3 : ∀ w ∈ wsX30, w ∈ wsX3_isTrueByHits := fun _ h => List.mem_cons_of_mem _ (List.mem_append_left _ (List.mem_append_left _ (List.mem_append_left _ (List.mem_append_right _ h))))
theorem i_X3_isTrueByHits_X5 : ∀ w ∈ wsX50, w ∈ wsX3_isTrueByHits := fun _ h => List.mem_cons_of_mem _ (List.mem_append_left _ (List.mem_append_left _ (List.mem_append_right _ h)))
theorem i_X4_init_Jx4a65c : ∀ w ∈ wsJx4a65c0, w ∈ wsX4_init := fun _ h => List.mem_cons_of_mem _ (List.mem_append_left _ (List.mem_append_right _ h))
theorem i_X4_init_X4 : ∀ w ∈ wsX40, w ∈ wsX4_init := fun _ h => List.mem_cons_of_mem _ (List.mem_append_right _ h)
theorem i_X4_lastProduct_X4 : ∀ w ∈ wsX40, w ∈ wsX4_lastProduct := fun _ h => List.mem_cons_of_mem _ (List.mem_append_left _ (List.mem_append_right _ h))
theorem i_X4_leastSize_X4 : ∀ w ∈ wsX40, w ∈ wsX4_leastSize := fun _ h => List.mem_cons_of_mem _ (List.mem_append_left _ (List.mem_append_left _ (List.mem_append_right _ h)))
theorem i_X4_leastSize_X3 : ∀ w ∈ wsX30, w ∈ wsX4_leastSize := fun _ h => List.mem_cons_of_mem _ (List.mem_append_left _ (List.mem_append_right _ h))
theorem i_X4_isSatisfied_X4 : ∀ w ∈ wsX40, w ∈ wsX4_isSatisfied := fun _ h => List.mem_cons_of_mem _ (List.mem_append_left _ (List.mem_append_left _ (List.mem_append_left _ (List.mem_append_left _ (List.mem_append_right _ h)))))
theorem i_X4_isSatisfiedByHits_X4 : ∀ w ∈ wsX40, w ∈ wsX4_isSatisfiedByHits := fun _ h => List.mem_cons_of_mem _ (List.mem_append_left _ (List.mem_append_left _ (List.mem_append_left _ (List.mem_append_left _ (List.mem_append_right _ h)))))
theorem ai_fill_s {f : Nat → Int32} {i : Nat} {x : Int32} : upd (fun j => if j < i then x else f j) i x = (fun j => if j < i + 1 then x else f j) := by
  funext j
  unfold upd
  by_cases c1 : j = i
  · rw [if_pos c1, if_pos (by omega)]
  · rw [if_neg c1]
    dsimp only
    by_cases c2 : j < i
    · rw [if_pos c2, if_pos (by omega)]
    · rw [if_neg c2, if_neg (by omega)]
theorem ai_tk_val {S : ai_S} {k : Nat} {x : Bool} (hx : ai_in (S 1 (S 9 k)) (S 10 k) (S 11 k) = x) (h4 : S 12 k ≤ 1) : (ai_b x = nI (S 12 k) → ai_tk S k = false) ∧ (¬ ai_b x = nI (S 12 k) → ai_tk S k = true) := by
  unfold ai_tk ai_tt
  rw [hx]
  have q : S 12 k = 0 ∨ S 12 k = 1 := by omega
  rcases q with q | q <;> rw [q] <;> cases x <;> decide
theorem ai_d0 : (fun j => if j < 6 then (-1 : Int32) else 0) = (fun i => ai_nD (if i < 6 then 0 else 1)) := by
  funext j
  by_cases h : j < 6
  · rw [if_pos h, if_pos h]; rfl
  · rw [if_neg h, if_neg h]; rfl
set_option maxHeartbeats 4000000 in
set_option maxRecDepth 100000 in
theorem k_J7_fill_53178 (l : Launch) (G : ai_G) (M : ai_M) {a g n : Nat} {f : Nat → Int32} {x : Int32} (h1 : M a = some (g, ai_eI G n f)) (hn : n ≤ 1000) : ai_C l yJ7_fill_53178 wsJ7_fill_53178 ({ frames := 0, cells := 0, slots := 0, locals := 0 } : Room) 0 0 G M [.ref a, .int x] (fun r M1 => r = none ∧ M1 = ai_U M a g (ai_eI G n (fun j => if j < n then x else f j))) := by
  refine y_start (by decide +kernel) rfl (Nat.le_of_ble_eq_true rfl) (Nat.le_of_ble_eq_true rfl) (fun x hx => by simp only [List.mem_cons, List.not_mem_nil, or_false] at hx; rcases hx with rfl | rfl <;> rfl) ?_
  intro p e s m below meth c B hnm
  have lp : ∀ (d : Nat) (i : Nat), (n < i + d) → (i ≤ n) → ai_Y p l e ({ frames := 0, cells := 0, slots := 0, locals := 0 } : Room) s m [.ref a, .int x].toArray below meth c G (MQ below (ai_Q G (fun r M1 => r = none ∧ M1 = ai_U M a g (ai_eI G n (fun j => if j < n then x else f j)))) [.ref a, .int x].toArray s 0 0 (ai_A G)) (ai_U M a g (ai_eI G n (fun j => if j < i then x else f j))) 0 0 [some (.ref a), some (.int x), some (.int (nI i)), some (.int (nI n))] 5 [] := by
    intro d
    induction d with
    | zero => intros; omega
    | succ d ih =>
      intro i hm hi
      refine y_iload_n B dJ7_fill_53178_5 rfl ?_
      refine y_iload_n B dJ7_fill_53178_6 rfl ?_
      refine y_icmp_ge B 20 dJ7_fill_53178_7 (by decide) (fun c7 => ?_) (fun c7 => ?_)
      · have q7 : i = n := Nat.le_antisymm hi ((nI_leI (by omega) (by omega)).mp c7)
        exact y_vret B dJ7_fill_53178_20 (Nat.le_of_ble_eq_true rfl) (Nat.le_of_ble_eq_true rfl) (⟨rfl, by rw [q7]⟩)
      · have q7 : i < n := Nat.lt_of_not_le (fun z => c7 ((nI_leI (by omega) (by omega)).mpr z))
        refine y_aload_n B dJ7_fill_53178_10 rfl ?_
        refine y_iload_n B dJ7_fill_53178_11 rfl ?_
        refine y_iload_n B dJ7_fill_53178_12 rfl ?_
        refine y_iastoreI B ai_U_s (vp_in_nI q7 (by omega)) dJ7_fill_53178_13 ?_
        rw [ai_UU, nI_clamp (by omega), ai_fill_s]
        refine y_iinc B (nI (i + 1)) dJ7_fill_53178_14 rfl (nI_1 i) ?_
        refine y_goto B 5 dJ7_fill_53178_17 (by decide) ?_
        exact ih (i + 1) (by omega) (by omega)
  have e0 : M = ai_U M a g (ai_eI G n (fun j => if j < 0 then x else f j)) := by funext b; by_cases q : b = a; rw [q, ai_U_s, h1]; congr 1; exact (ai_U_n q).symm
  refine y_iconst B (nI 0) dJ7_fill_53178_0 (by decide +kernel) ?_
  refine y_istore_n B dJ7_fill_53178_1 (Nat.le_of_ble_eq_true rfl) ?_
  refine y_aload_n B dJ7_fill_53178_2 rfl ?_
  refine y_alen B (nI n) 0 h1 rfl rfl dJ7_fill_53178_3 ?_
  refine y_istore_n B dJ7_fill_53178_4 (Nat.le_of_ble_eq_true rfl) ?_
  refine y_mem (M' := ai_U M a g (ai_eI G n (fun j => if j < 0 then x else f j))) (fun b g9 e9 hb => (congrFun e0 b).trans hb) ?_
  exact lp (n + 1) 0 (by omega) (by omega)
set_option maxHeartbeats 4000000 in
set_option maxRecDepth 100000 in
theorem k_X0_init (l : Launch) (G : ai_G) (M : ai_M) {dr gd : Nat} (gv : Nat) (h1 : M dr = some (gd, .inr (1, [.null]))) : ai_C l yX0_init wsX0_init ({ frames := 1, cells := 1, slots := 6, locals := 23 } : Room) 1 6 G M [.ref dr] (fun r M1 => r = none ∧ ∃ q, M q = none ∧ M1 dr = some (gd, .inr (1, [.ref q])) ∧ M1 q = some (gv, ai_eI G 6 (fun i => ai_nD (if i < 6 then 0 else 1))) ∧ ∀ (b g : Nat) (e : va_E), M b = some (g, e) → b ≠ dr → M1 b = some (g, e)) := by
  refine y_start (by decide +kernel) rfl (Nat.le_of_ble_eq_true rfl) (Nat.le_of_ble_eq_true rfl) (fun x hx => by simp only [List.mem_cons, List.not_mem_nil, or_false] at hx; rcases hx with rfl <;> rfl) ?_
  intro p e s m below meth c B hnm
  have hinit : meth.name = "<init>" := hnm
  refine y_aload_n B dX0_init_0 rfl ?_
  refine y_oinit B (by decide +kernel) (by decide +kernel) (by decide +kernel) (Nat.le_of_ble_eq_true rfl) (Nat.le_of_ble_eq_true rfl) dX0_init_1 ?_
  refine y_aload_n B dX0_init_4 rfl ?_
  refine y_bipush B (nI 6) dX0_init_5 (by decide +kernel) ?_
  refine y_newa B (atype := .int) (gv) 0 (ty := .int) (N' := 6) (a0 := (6, .inl (fun _ => 0))) (by decide +kernel) rfl rfl (fun _ => rfl) (by decide) (nI_clamp (by decide)) (by decide) (Nat.le_of_ble_eq_true rfl) (Nat.le_of_ble_eq_true rfl) dX0_init_7 (fun q hq => ?_)
  refine y_putF B hinit (ref := "AlertIndex$Draft") (ci := 1) (C := RX0) (T := TX0) (N := 1) (ty := (.array .int)) (ai_U_f hq h1) rfl i_X0_init_X0 tyX0 tyX0_ok nmX0 0 (by decide) (by decide +kernel) (fun _ h9 => h9) rfl rfl (by decide +kernel) rfl rfl (Nat.le_of_ble_eq_true rfl) dX0_init_9 ?_
  have hnq : q ≠ dr := fun z => by rw [← z, hq] at h1; cases h1
  refine y_aload_n B dX0_init_12 rfl ?_
  refine y_get B (ref := "AlertIndex$Draft") (ci := 1) (C := RX0) (T := TX0) (N := 1) ai_U_s rfl i_X0_init_X0 0 (by decide) (by decide +kernel) (fun _ h9 => h9) rfl dX0_init_13 ?_
  refine y_iconst B (-1) dX0_init_16 (by decide +kernel) ?_
  refine y_callS B 2 _ _ (k_J7_fill_53178 l G _ (f := fun _ => 0) ((ai_U_n hnq).trans ai_U_s) (by decide)) gX0_init_J7_fill_53178 (by decide +kernel) rfl rfl rfl rfl ⟨(Nat.le_of_ble_eq_true rfl), (Nat.le_of_ble_eq_true rfl)⟩ (Nat.le_of_ble_eq_true rfl) ⟨(Nat.le_of_ble_eq_true rfl), (Nat.le_of_ble_eq_true rfl)⟩ dX0_init_17 rfl (fun r M1 hr => ?_)
  obtain ⟨rfl, rfl⟩ := hr
  exact y_vret B dX0_init_20 (Nat.le_of_ble_eq_true rfl) (Nat.le_of_ble_eq_true rfl) (⟨rfl, q, hq, (ai_U_n (fun z => hnq z.symm)).trans ai_U_s, ai_U_s.trans (by rw [ai_d0]), fun b g e hb hn => (ai_U_n (fun z => by rw [z, hq] at hb; cases hb)).trans ((ai_U_n hn).trans (ai_U_f hq hb))⟩)
set_option maxHeartbeats 4000000 in
set_option maxRecDepth 100000 in
theorem k_X0_valueOf (l : Launch) (G : ai_G) (M : ai_M) {dr a : Nat} {S : ai_S} (hD : ai_Dr G M S dr) (ha : a < 6) : ai_C l yX0_valueOf wsX0_valueOf ({ frames := 0, cells := 0, slots := 0, locals := 0 } : Room) 0 0 G M [.ref dr, .int (nI a)] (fun r M1 => r = some (.int (ai_nD (S 1 a))) ∧ M1 = M) := by
  refine y_start (by decide +kernel) rfl (Nat.le_of_ble_eq_true rfl) (Nat.le_of_ble_eq_true rfl) (fun x hx => by simp only [List.mem_cons, List.not_mem_nil, or_false] at hx; rcases hx with rfl | rfl <;> rfl) ?_
  intro p e s m below meth c B hnm
  obtain ⟨dv, hD1, hD2⟩ := hD
  refine y_iload_n B dX0_valueOf_0 rfl ?_
  refine y_if_lt B 22 dX0_valueOf_1 (by decide) (fun c1 => absurd c1 (nI_pos (by omega))) (fun c1 => ?_)
  refine y_iload_n B dX0_valueOf_4 rfl ?_
  refine y_aload_n B dX0_valueOf_5 rfl ?_
  refine y_get B (ref := "AlertIndex$Draft") (ci := 1) (C := RX0) (T := TX0) (N := 1) hD1 rfl i_X0_valueOf_X0 0 (by decide) (by decide +kernel) (fun _ h9 => h9) rfl dX0_valueOf_6 ?_
  refine y_alen B (nI 6) 0 hD2 rfl rfl dX0_valueOf_9 ?_
  refine y_icmp_ge B 22 dX0_valueOf_10 (by decide) (fun c10 => absurd c10 (nI_ge ha (by decide))) (fun c10 => ?_)
  refine y_aload_n B dX0_valueOf_13 rfl ?_
  refine y_get B (ref := "AlertIndex$Draft") (ci := 1) (C := RX0) (T := TX0) (N := 1) hD1 rfl i_X0_valueOf_X0 0 (by decide) (by decide +kernel) (fun _ h9 => h9) rfl dX0_valueOf_14 ?_
  refine y_iload_n B dX0_valueOf_17 rfl ?_
  refine y_ialoadI B (ai_nD (S 1 a)) hD2 (vp_in_nI ha (by decide)) (by rw [nI_clamp (by omega)]) dX0_valueOf_18 ?_
  refine y_goto B 23 dX0_valueOf_19 (by decide) ?_
  exact y_iret B dX0_valueOf_23 (Nat.le_of_ble_eq_true rfl) (Nat.le_of_ble_eq_true rfl) (⟨rfl, rfl⟩)
set_option maxHeartbeats 4000000 in
set_option maxRecDepth 100000 in
theorem k_X0_replace (l : Launch) (G : ai_G) (M : ai_M) {dr dv a w : Nat} {S : ai_S} (hD1 : M dr = some (104, .inr (1, [.ref dv]))) (hD2 : M dv = some (105, ai_eI G 6 (fun i => ai_nD (S 1 i)))) (ha : a < 6) : ai_C l yX0_replace wsX0_replace ({ frames := 1, cells := 0, slots := 0, locals := 21 } : Room) 0 0 G M [.ref dr, .int (nI a), .int (ai_nD w)] (fun r M1 => r = some (.int (ai_nD (S 1 a))) ∧ M1 = ai_U M dv 105 (ai_eI G 6 (fun i => ai_nD (va_up (S 1) a w i)))) := by
  refine y_start (by decide +kernel) rfl (Nat.le_of_ble_eq_true rfl) (Nat.le_of_ble_eq_true rfl) (fun x hx => by simp only [List.mem_cons, List.not_mem_nil, or_false] at hx; rcases hx with rfl | rfl | rfl <;> rfl) ?_
  intro p e s m below meth c B hnm
  refine y_aload_n B dX0_replace_0 rfl ?_
  refine y_iload_n B dX0_replace_1 rfl ?_
  refine y_callV B 1 (q := (RX0, TX0, 1)) _ _ (k_X0_valueOf l G _ ⟨dv, hD1, hD2⟩ ha) hD1 rfl gX0_replace_X0_valueOf (by decide +kernel) rfl rfl rfl rfl ⟨(Nat.le_of_ble_eq_true rfl), (Nat.le_of_ble_eq_true rfl)⟩ (Nat.le_of_ble_eq_true rfl) ⟨(Nat.le_of_ble_eq_true rfl), (Nat.le_of_ble_eq_true rfl)⟩ dX0_replace_2 rfl (fun r M1 hr => ?_)
  obtain ⟨rfl, rfl⟩ := hr
  refine y_istore_n B dX0_replace_5 (Nat.le_of_ble_eq_true rfl) ?_
  refine y_iload_n B dX0_replace_6 rfl ?_
  refine y_if_lt B 26 dX0_replace_7 (by decide) (fun c7 => absurd c7 (nI_pos (by omega))) (fun c7 => ?_)
  refine y_iload_n B dX0_replace_10 rfl ?_
  refine y_aload_n B dX0_replace_11 rfl ?_
  refine y_get B (ref := "AlertIndex$Draft") (ci := 1) (C := RX0) (T := TX0) (N := 1) hD1 rfl i_X0_replace_X0 0 (by decide) (by decide +kernel) (fun _ h9 => h9) rfl dX0_replace_12 ?_
  refine y_alen B (nI 6) 0 hD2 rfl rfl dX0_replace_15 ?_
  refine y_icmp_ge B 26 dX0_replace_16 (by decide) (fun c16 => absurd c16 (nI_ge ha (by decide))) (fun c16 => ?_)
  refine y_aload_n B dX0_replace_19 rfl ?_
  refine y_get B (ref := "AlertIndex$Draft") (ci := 1) (C := RX0) (T := TX0) (N := 1) hD1 rfl i_X0_replace_X0 0 (by decide) (by decide +kernel) (fun _ h9 => h9) rfl dX0_replace_20 ?_
  refine y_iload_n B dX0_replace_23 rfl ?_
  refine y_iload_n B dX0_replace_24 rfl ?_
  refine y_iastoreI B hD2 (vp_in_nI ha (by decide)) dX0_replace_25 ?_
  refine y_iload_n B dX0_replace_26 rfl ?_
  exact y_iret B dX0_replace_27 (Nat.le_of_ble_eq_true rfl) (Nat.le_of_ble_eq_true rfl) (⟨rfl, by rw [nI_clamp (by omega), ai_upd]⟩)
set_option maxHeartbeats 4000000 in
set_option maxRecDepth 100000 in
theorem k_X5_init (l : Launch) (G : ai_G) (M : ai_M) {a g x y z b : Nat} (h1 : M a = some (g, .inr (6, [.int 0, .int 0, .int 0, .int 0]))) (hb : b = 0 ∨ b = 1) : ai_C l yX5_init wsX5_init ({ frames := 1, cells := 0, slots := 0, locals := 12 } : Room) 0 0 G M [.ref a, .int (nI x), .int (nI y), .int (nI z), .int (nI b)] (fun r M1 => r = none ∧ M1 = ai_U M a g (.inr (6, [.int (nI x), .int (nI y), .int (nI z), .int (nI b)]))) := by
  refine y_start (by decide +kernel) rfl (Nat.le_of_ble_eq_true rfl) (Nat.le_of_ble_eq_true rfl) (fun x hx => by simp only [List.mem_cons, List.not_mem_nil, or_false] at hx; rcases hx with rfl | rfl | rfl | rfl | rfl <;> rfl) ?_
  intro p e s m below meth c B hnm
  have hinit : meth.name = "<init>" := hnm
  refine y_aload_n B dX5_init_0 rfl ?_
  refine y_oinit B (by decide +kernel) (by decide +kernel) (by decide +kernel) (Nat.le_of_ble_eq_true rfl) (Nat.le_of_ble_eq_true rfl) dX5_init_1 ?_
  refine y_aload_n B dX5_init_4 rfl ?_
  refine y_iload_n B dX5_init_5 rfl ?_
  refine y_putF B hinit (ref := "AlertIndex$Test") (ci := 6) (C := RX5) (T := TX5) (N := 4) (ty := .int) h1 rfl i_X5_init_X5 tyX5 tyX5_ok nmX5 0 (by decide) (by decide +kernel) (fun _ h9 => h9) rfl rfl (by decide +kernel) rfl rfl (Nat.le_of_ble_eq_true rfl) dX5_init_6 ?_
  refine y_aload_n B dX5_init_9 rfl ?_
  refine y_iload_n B dX5_init_10 rfl ?_
  refine y_putF B hinit (ref := "AlertIndex$Test") (ci := 6) (C := RX5) (T := TX5) (N := 4) (ty := .int) ai_U_s rfl i_X5_init_X5 tyX5 tyX5_ok nmX5 1 (by decide) (by decide +kernel) (fun _ h9 => h9) rfl rfl (by decide +kernel) rfl rfl (Nat.le_of_ble_eq_true rfl) dX5_init_11 ?_
  rw [ai_UU]
  refine y_aload_n B dX5_init_14 rfl ?_
  refine y_iload_n B dX5_init_15 rfl ?_
  refine y_putF B hinit (ref := "AlertIndex$Test") (ci := 6) (C := RX5) (T := TX5) (N := 4) (ty := .int) ai_U_s rfl i_X5_init_X5 tyX5 tyX5_ok nmX5 2 (by decide) (by decide +kernel) (fun _ h9 => h9) rfl rfl (by decide +kernel) rfl rfl (Nat.le_of_ble_eq_true rfl) dX5_init_16 ?_
  rw [ai_UU]
  refine y_aload_n B dX5_init_19 rfl ?_
  refine y_iload B dX5_init_20 rfl ?_
  refine y_putF B hinit (ref := "AlertIndex$Test") (ci := 6) (C := RX5) (T := TX5) (N := 4) (ty := .boolean) ai_U_s rfl i_X5_init_X5 tyX5 tyX5_ok nmX5 3 (by decide) (by decide +kernel) (fun _ h9 => h9) rfl rfl (by decide +kernel) (by rcases hb with rfl | rfl <;> rfl) (by rcases hb with rfl | rfl <;> rfl) (Nat.le_of_ble_eq_true rfl) dX5_init_22 ?_
  rw [ai_UU]
  exact y_vret B dX5_init_25 (Nat.le_of_ble_eq_true rfl) (Nat.le_of_ble_eq_true rfl) (⟨rfl, rfl⟩)
theorem ai_in_f1 {v lo hi : Nat} (h : v = 0) : ai_in v lo hi = false := by unfold ai_in; rw [decide_eq_false (by omega)]; rfl
theorem ai_in_f2 {v lo hi : Nat} (h : v < lo) : ai_in (v + 1) lo hi = false := by unfold ai_in; rw [decide_eq_false (by omega)]; rfl
theorem ai_in_f3 {v lo hi : Nat} (h : hi < v) : ai_in (v + 1) lo hi = false := by unfold ai_in; rw [decide_eq_false (p := v + 1 ≤ hi + 1) (by omega), Bool.and_false]
theorem ai_in_t {v lo hi : Nat} (h : lo ≤ v) (h2 : v ≤ hi) : ai_in (v + 1) lo hi = true := by unfold ai_in; rw [decide_eq_true (p := lo + 1 ≤ v + 1) (by omega), decide_eq_true (p := v + 1 ≤ hi + 1) (by omega)]; rfl
set_option maxHeartbeats 4000000 in
set_option maxRecDepth 100000 in
theorem k_X5_isTrue (l : Launch) (G : ai_G) (M : ai_M) {dr a g k : Nat} {S : ai_S} (hD : ai_Dr G M S dr) (hT : ai_Te M S k g a) (hk : ai_okT S k) (hv : S 1 (S 9 k) ≤ 64) : ai_C l yX5_isTrue wsX5_isTrue ({ frames := 1, cells := 0, slots := 0, locals := 21 } : Room) 0 0 G M [.ref a, .ref dr] (fun r M1 => r = some (.int (ai_b (ai_tk S k))) ∧ M1 = M) := by
  refine y_start (by decide +kernel) rfl (Nat.le_of_ble_eq_true rfl) (Nat.le_of_ble_eq_true rfl) (fun x hx => by simp only [List.mem_cons, List.not_mem_nil, or_false] at hx; rcases hx with rfl | rfl <;> rfl) ?_
  intro p e s m below meth c B hnm
  obtain ⟨hk1, hk2, hk3, hk4⟩ := hk
  unfold ai_Te at hT
  obtain ⟨dv, hD1, hD2⟩ := id hD
  have j35 : ∀ (x : Bool), (ai_in (S 1 (S 9 k)) (S 10 k) (S 11 k) = x) → ai_Y p l e ({ frames := 1, cells := 0, slots := 0, locals := 21 } : Room) s m [.ref a, .ref dr].toArray below meth c G (MQ below (ai_Q G (fun r M1 => r = some (.int (ai_b (ai_tk S k))) ∧ M1 = M)) [.ref a, .ref dr].toArray s 0 0 (ai_A G)) M 0 0 [some (.ref a), some (.ref dr), some (.int (ai_nD (S 1 (S 9 k)))), none] 35 [.int (ai_b x)] := by
    intro x hx
    refine y_istore_n B dX5_isTrue_35 (Nat.le_of_ble_eq_true rfl) ?_
    refine y_iload_n B dX5_isTrue_36 rfl ?_
    refine y_aload_n B dX5_isTrue_37 rfl ?_
    refine y_get B (ref := "AlertIndex$Test") (ci := 6) (C := RX5) (T := TX5) (N := 4) hT rfl i_X5_isTrue_X5 3 (by decide) (by decide +kernel) (fun _ h9 => h9) rfl dX5_isTrue_38 ?_
    refine y_icmp_eq B 48 dX5_isTrue_41 (by decide) (fun c41 => ?_) (fun c41 => ?_)
    · have q41 := (ai_tk_val hx hk4).1 c41
      refine y_iconst B (nI 0) dX5_isTrue_48 (by decide +kernel) ?_
      exact y_zret B dX5_isTrue_49 (Nat.le_of_ble_eq_true rfl) (Nat.le_of_ble_eq_true rfl) rfl (⟨by rw [q41]; rfl, rfl⟩)
    · have q41 := (ai_tk_val hx hk4).2 c41
      refine y_iconst B (nI 1) dX5_isTrue_44 (by decide +kernel) ?_
      refine y_goto B 49 dX5_isTrue_45 (by decide) ?_
      exact y_zret B dX5_isTrue_49 (Nat.le_of_ble_eq_true rfl) (Nat.le_of_ble_eq_true rfl) rfl (⟨by rw [q41]; rfl, rfl⟩)
  refine y_aload_n B dX5_isTrue_0 rfl ?_
  refine y_aload_n B dX5_isTrue_1 rfl ?_
  refine y_get B (ref := "AlertIndex$Test") (ci := 6) (C := RX5) (T := TX5) (N := 4) hT rfl i_X5_isTrue_X5 0 (by decide) (by decide +kernel) (fun _ h9 => h9) rfl dX5_isTrue_2 ?_
  refine y_callV B 1 (q := (RX0, TX0, 1)) _ _ (k_X0_valueOf l G _ hD hk1) hD1 rfl gX5_isTrue_X0_valueOf (by decide +kernel) rfl rfl rfl rfl ⟨(Nat.le_of_ble_eq_true rfl), (Nat.le_of_ble_eq_true rfl)⟩ (Nat.le_of_ble_eq_true rfl) ⟨(Nat.le_of_ble_eq_true rfl), (Nat.le_of_ble_eq_true rfl)⟩ dX5_isTrue_5 rfl (fun r M1 hr => ?_)
  obtain ⟨rfl, rfl⟩ := hr
  refine y_istore_n B dX5_isTrue_8 (Nat.le_of_ble_eq_true rfl) ?_
  refine y_iload_n B dX5_isTrue_9 rfl ?_
  refine y_iconst B (-1) dX5_isTrue_10 (by decide +kernel) ?_
  refine y_icmp_eq B 34 dX5_isTrue_11 (by decide) (fun c11 => ?_) (fun c11 => ?_)
  · have q11 := (ai_nDz hv).mp c11
    refine y_iconst B (nI 0) dX5_isTrue_34 (by decide +kernel) ?_
    exact j35 false (ai_in_f1 q11)
  · obtain ⟨v, hv9⟩ : ∃ v, S 1 (S 9 k) = v + 1 := ⟨S 1 (S 9 k) - 1, by have q11 : S 1 (S 9 k) ≠ 0 := fun z => c11 ((ai_nDz hv).mpr z); omega⟩
    refine y_iload_n B dX5_isTrue_14 rfl ?_
    refine y_aload_n B dX5_isTrue_15 rfl ?_
    refine y_get B (ref := "AlertIndex$Test") (ci := 6) (C := RX5) (T := TX5) (N := 4) hT rfl i_X5_isTrue_X5 1 (by decide) (by decide +kernel) (fun _ h9 => h9) rfl dX5_isTrue_16 ?_
    refine y_icmp_lt B 34 dX5_isTrue_19 (by decide) (fun c19 => ?_) (fun c19 => ?_)
    · rw [hv9, ai_nDs] at c19
      have q19 := (nI_ltI (by omega) (by omega)).mp c19
      refine y_iconst B (nI 0) dX5_isTrue_34 (by decide +kernel) ?_
      exact j35 false (by rw [hv9]; exact ai_in_f2 q19)
    · rw [hv9, ai_nDs] at c19
      have q19 : S 10 k ≤ v := Nat.le_of_not_lt (fun z => c19 ((nI_ltI (by omega) (by omega)).mpr z))
      refine y_iload_n B dX5_isTrue_22 rfl ?_
      refine y_aload_n B dX5_isTrue_23 rfl ?_
      refine y_get B (ref := "AlertIndex$Test") (ci := 6) (C := RX5) (T := TX5) (N := 4) hT rfl i_X5_isTrue_X5 2 (by decide) (by decide +kernel) (fun _ h9 => h9) rfl dX5_isTrue_24 ?_
      refine y_icmp_gt B 34 dX5_isTrue_27 (by decide) (fun c27 => ?_) (fun c27 => ?_)
      · rw [hv9, ai_nDs] at c27
        have q27 := (nI_ltI (by omega) (by omega)).mp c27
        refine y_iconst B (nI 0) dX5_isTrue_34 (by decide +kernel) ?_
        exact j35 false (by rw [hv9]; exact ai_in_f3 q27)
      · rw [hv9, ai_nDs] at c27
        have q27 : v ≤ S 11 k := Nat.le_of_not_lt (fun z => c27 ((nI_ltI (by omega) (by omega)).mpr z))
        refine y_iconst B (nI 1) dX5_isTrue_30 (by decide +kernel) ?_
        refine y_goto B 35 dX5_isTrue_31 (by decide) ?_
        exact j35 true (by rw [hv9]; exact ai_in_t (by omega) (by omega))
set_option maxHeartbeats 4000000 in
set_option maxRecDepth 100000 in
theorem k_X2_init (l : Launch) (G : ai_G) (M : ai_M) {a g pr : Nat} {nx : Option Nat} (h1 : M a = some (g, .inr (3, [.null, .null]))) : ai_C l yX2_init wsX2_init ({ frames := 1, cells := 0, slots := 0, locals := 12 } : Room) 0 0 G M [.ref a, .ref pr, va_rf nx] (fun r M1 => r = none ∧ M1 = ai_U M a g (.inr (3, [.ref pr, va_rf nx]))) := by
  refine y_start (by decide +kernel) rfl (Nat.le_of_ble_eq_true rfl) (by cases nx <;> exact Nat.le_of_ble_eq_true rfl) (fun x hx => by simp only [List.mem_cons, List.not_mem_nil, or_false] at hx; rcases hx with rfl | rfl | rfl; rfl; rfl; cases nx <;> rfl) ?_
  intro p e s m below meth c B hnm
  have hinit : meth.name = "<init>" := hnm
  cases nx with
  | none =>
    refine y_aload_n B dX2_init_0 rfl ?_
    refine y_oinit B (by decide +kernel) (by decide +kernel) (by decide +kernel) (Nat.le_of_ble_eq_true rfl) (Nat.le_of_ble_eq_true rfl) dX2_init_1 ?_
    refine y_aload_n B dX2_init_4 rfl ?_
    refine y_aload_n B dX2_init_5 rfl ?_
    refine y_putF B hinit (ref := "AlertIndex$Posting") (ci := 3) (C := RX2) (T := TX2) (N := 2) (ty := (.object "AlertIndex$Product")) h1 rfl i_X2_init_X2 tyX2 tyX2_ok nmX2 0 (by decide) (by decide +kernel) (fun _ h9 => h9) rfl rfl (by decide +kernel) rfl rfl (Nat.le_of_ble_eq_true rfl) dX2_init_6 ?_
    refine y_aload_n B dX2_init_9 rfl ?_
    refine y_aloadN_n B dX2_init_10 rfl ?_
    refine y_putF B hinit (ref := "AlertIndex$Posting") (ci := 3) (C := RX2) (T := TX2) (N := 2) (ty := (.object "AlertIndex$Posting")) ai_U_s rfl i_X2_init_X2 tyX2 tyX2_ok nmX2 1 (by decide) (by decide +kernel) (fun _ h9 => h9) rfl rfl (by decide +kernel) rfl rfl (Nat.le_of_ble_eq_true rfl) dX2_init_11 ?_
    rw [ai_UU]
    exact y_vret B dX2_init_14 (Nat.le_of_ble_eq_true rfl) (Nat.le_of_ble_eq_true rfl) (⟨rfl, rfl⟩)
  | some nx =>
    refine y_aload_n B dX2_init_0 rfl ?_
    refine y_oinit B (by decide +kernel) (by decide +kernel) (by decide +kernel) (Nat.le_of_ble_eq_true rfl) (Nat.le_of_ble_eq_true rfl) dX2_init_1 ?_
    refine y_aload_n B dX2_init_4 rfl ?_
    refine y_aload_n B dX2_init_5 rfl ?_
    refine y_putF B hinit (ref := "AlertIndex$Posting") (ci := 3) (C := RX2) (T := TX2) (N := 2) (ty := (.object "AlertIndex$Product")) h1 rfl i_X2_init_X2 tyX2 tyX2_ok nmX2 0 (by decide) (by decide +kernel) (fun _ h9 => h9) rfl rfl (by decide +kernel) rfl rfl (Nat.le_of_ble_eq_true rfl) dX2_init_6 ?_
    refine y_aload_n B dX2_init_9 rfl ?_
    refine y_aload_n B dX2_init_10 rfl ?_
    refine y_putF B hinit (ref := "AlertIndex$Posting") (ci := 3) (C := RX2) (T := TX2) (N := 2) (ty := (.object "AlertIndex$Posting")) ai_U_s rfl i_X2_init_X2 tyX2 tyX2_ok nmX2 1 (by decide) (by decide +kernel) (fun _ h9 => h9) rfl rfl (by decide +kernel) rfl rfl (Nat.le_of_ble_eq_true rfl) dX2_init_11 ?_
    rw [ai_UU]
    exact y_vret B dX2_init_14 (Nat.le_of_ble_eq_true rfl) (Nat.le_of_ble_eq_true rfl) (⟨rfl, rfl⟩)
set_option maxHeartbeats 4000000 in
set_option maxRecDepth 100000 in
theorem k_X3_init (l : Launch) (G : ai_G) (M : ai_M) {a g : Nat} (gl : Nat) (hgl : g ≠ gl ∧ g ≠ gl + 1) (h1 : M a = some (g, .inr (4, [.null, .int 0, .int 0]))) : ai_C l yX3_init wsX3_init ({ frames := 4, cells := 1, slots := 3, locals := 72 } : Room) 1 3 G M [.ref a] (fun r M1 => r = none ∧ ∃ q, M q = none ∧ M1 a = some (g, .inr (4, [.ref q, .int (nI 0), .int (nI 0)])) ∧ ai_l G M1 q gl 0 (fun _ => 0) ∧ ∀ (b g : Nat) (e : va_E), M b = some (g, e) → b ≠ a → M1 b = some (g, e)) := by
  refine y_start (by decide +kernel) rfl (Nat.le_of_ble_eq_true rfl) (Nat.le_of_ble_eq_true rfl) (fun x hx => by simp only [List.mem_cons, List.not_mem_nil, or_false] at hx; rcases hx with rfl <;> rfl) ?_
  intro p e s m below meth c B hnm
  have hinit : meth.name = "<init>" := hnm
  refine y_aload_n B dX3_init_0 rfl ?_
  refine y_oinit B (by decide +kernel) (by decide +kernel) (by decide +kernel) (Nat.le_of_ble_eq_true rfl) (Nat.le_of_ble_eq_true rfl) dX3_init_1 ?_
  refine y_aload_n B dX3_init_4 rfl ?_
  refine y_new B (C := RJx4a65c) (T := TJx4a65c) (N := 3) (ci := 0) (gl) [.int 0, .null, .int 0] i_X3_init_Jx4a65c tyJx4a65c tyJx4a65c_ok (by decide +kernel) (by decide +kernel) (by decide +kernel) rfl (fun j hj => by rcases (show j = 0 ∨ j = 1 ∨ j = 2 by omega) with rfl | rfl | rfl <;> rfl) (Nat.le_of_ble_eq_true rfl) (Nat.le_of_ble_eq_true rfl) dX3_init_5 (fun q hq => ?_)
  have hnq : q ≠ a := fun z => by rw [← z, hq] at h1; cases h1
  refine y_dup B dX3_init_8 rfl ?_
  refine y_callI B 0 _ _ (k_Jx4a65c_init_da8c8 l G _ ai_U_s) gX3_init_Jx4a65c_init_da8c8 (by decide +kernel) (by decide +kernel) (by decide +kernel) rfl (by decide +kernel) rfl rfl rfl rfl ⟨(Nat.le_of_ble_eq_true rfl), (Nat.le_of_ble_eq_true rfl)⟩ (Nat.le_of_ble_eq_true rfl) ⟨(Nat.le_of_ble_eq_true rfl), (Nat.le_of_ble_eq_true rfl)⟩ dX3_init_9 rfl (fun r M1 hr => ?_)
  obtain ⟨rfl, rfl⟩ := hr
  rw [ai_UU]
  refine y_putF B hinit (ref := "AlertIndex$Product") (ci := 4) (C := RX3) (T := TX3) (N := 3) (ty := (.object "java/util/List")) ((ai_U_n (fun z => hnq z.symm)).trans h1) rfl i_X3_init_X3 tyX3 tyX3_ok nmX3 0 (by decide) (by decide +kernel) (fun _ h9 => h9) rfl rfl (by decide +kernel) rfl rfl (Nat.le_of_ble_eq_true rfl) dX3_init_12 ?_
  refine y_aload_n B dX3_init_15 rfl ?_
  refine y_iconst B (nI 0) dX3_init_16 (by decide +kernel) ?_
  refine y_put B (ref := "AlertIndex$Product") (ci := 4) (C := RX3) (T := TX3) (N := 3) (ty := .int) ai_U_s rfl i_X3_init_X3 tyX3 tyX3_ok nmX3 1 (by decide) (by decide +kernel) (fun _ h9 => h9) rfl (by decide +kernel) rfl rfl (Nat.le_of_ble_eq_true rfl) dX3_init_17 ?_
  rw [ai_UU]
  refine y_aload_n B dX3_init_20 rfl ?_
  refine y_iconst B (nI 0) dX3_init_21 (by decide +kernel) ?_
  refine y_put B (ref := "AlertIndex$Product") (ci := 4) (C := RX3) (T := TX3) (N := 3) (ty := .int) ai_U_s rfl i_X3_init_X3 tyX3 tyX3_ok nmX3 2 (by decide) (by decide +kernel) (fun _ h9 => h9) rfl (by decide +kernel) rfl rfl (Nat.le_of_ble_eq_true rfl) dX3_init_22 ?_
  rw [ai_UU]
  exact y_vret B dX3_init_25 (Nat.le_of_ble_eq_true rfl) (Nat.le_of_ble_eq_true rfl) (⟨rfl, q, hq, ai_U_s, ai_l_new.keep (fun b g9 e hb h9 => (ai_U_n (fun z => by subst z; rw [ai_U_n (fun z => hnq z.symm), h1] at hb; cases hb; omega)).trans hb), fun b g9 e hb hn => (ai_U_n hn).trans (ai_U_f hq hb)⟩)
set_option maxHeartbeats 4000000 in
set_option maxRecDepth 100000 in
theorem k_X3_isTrue (l : Launch) (G : ai_G) (M : ai_M) {dr a j : Nat} {S : ai_S} (hD : ai_Dr G M S dr) (hv : ∀ i, i < 6 → S 1 i ≤ 64) (hP : ai_Pd G M S j a) (hk : ai_okP S j) : ai_C l yX3_isTrue wsX3_isTrue ({ frames := 3, cells := 0, slots := 0, locals := 64 } : Room) 0 0 G M [.ref a, .ref dr] (fun r M1 => r = some (.int (ai_b (ai_pt S j))) ∧ M1 = M) := by
  refine y_start (by decide +kernel) rfl (Nat.le_of_ble_eq_true rfl) (Nat.le_of_ble_eq_true rfl) (fun x hx => by simp only [List.mem_cons, List.not_mem_nil, or_false] at hx; rcases hx with rfl | rfl <;> rfl) ?_
  intro p e s m below meth c B hnm
  obtain ⟨tl, ta, hits, hA, hL, hT⟩ := hP
  obtain ⟨hk1, hk2⟩ := hk
  obtain ⟨mc, arr, cap, hh, hl1, -⟩ := id hL
  have lp : ∀ (d : Nat) (i : Nat), (S 8 j < i + d) → (i ≤ S 8 j) → (∀ t, t < i → ai_tk S (4 * j + t) = true) → ai_Y p l e ({ frames := 3, cells := 0, slots := 0, locals := 64 } : Room) s m [.ref a, .ref dr].toArray below meth c G (MQ below (ai_Q G (fun r M1 => r = some (.int (ai_b (ai_pt S j))) ∧ M1 = M)) [.ref a, .ref dr].toArray s 0 0 (ai_A G)) M 0 0 [some (.ref a), some (.ref dr), some (.int (nI i))] 2 [] := by
    intro d
    induction d with
    | zero => intros; omega
    | succ d ih =>
      intro i hm hi ha
      refine y_iload_n B dX3_isTrue_2 rfl ?_
      refine y_aload_n B dX3_isTrue_3 rfl ?_
      refine y_get B (ref := "AlertIndex$Product") (ci := 4) (C := RX3) (T := TX3) (N := 3) hA rfl i_X3_isTrue_X3 0 (by decide) (by decide +kernel) (fun _ h9 => h9) rfl dX3_isTrue_4 ?_
      refine y_callF B 0 (x := ⟨"java/util/List", "size", "()I"⟩) (q := (RJx4a65c, TJx4a65c, 3)) _ _ (k_Jx4a65c_size_8abf5 l G _ hL) hl1 rfl gX3_isTrue_Jx4a65c_size_8abf5_f23Jx4a65c B.2.2.2.2.2.2.2.2.1.1.2.2.2.2.2.2.1 (by decide +kernel) rfl rfl rfl rfl ⟨(Nat.le_of_ble_eq_true rfl), (Nat.le_of_ble_eq_true rfl)⟩ (Nat.le_of_ble_eq_true rfl) ⟨(Nat.le_of_ble_eq_true rfl), (Nat.le_of_ble_eq_true rfl)⟩ dX3_isTrue_7 rfl (fun r M1 hr => ?_)
      obtain ⟨rfl, rfl⟩ := hr
      refine y_icmp_ge B 43 dX3_isTrue_12 (by decide) (fun c12 => ?_) (fun c12 => ?_)
      · have q12 : S 8 j ≤ i := (nI_leI (by omega) (by omega)).mp c12
        refine y_iconst B (nI 1) dX3_isTrue_43 (by decide +kernel) ?_
        exact y_zret B dX3_isTrue_44 (Nat.le_of_ble_eq_true rfl) (Nat.le_of_ble_eq_true rfl) rfl (⟨by unfold ai_pt; rw [(ai_all_iff _ _).mpr (fun t ht => ha t (by omega))]; rfl, rfl⟩)
      · have q12 : i < S 8 j := Nat.lt_of_not_le (fun z => c12 ((nI_leI (by omega) (by omega)).mpr z))
        refine y_aload_n B dX3_isTrue_15 rfl ?_
        refine y_get B (ref := "AlertIndex$Product") (ci := 4) (C := RX3) (T := TX3) (N := 3) hA rfl i_X3_isTrue_X3 0 (by decide) (by decide +kernel) (fun _ h9 => h9) rfl dX3_isTrue_16 ?_
        refine y_iload_n B dX3_isTrue_19 rfl ?_
        refine y_callF B 1 (x := ⟨"java/util/List", "get", "(I)Ljava/lang/Object;"⟩) (q := (RJx4a65c, TJx4a65c, 3)) _ _ (k_Jx4a65c_get_915e3 l G _ hL q12) hl1 rfl gX3_isTrue_Jx4a65c_get_915e3_f29Jx4a65c B.2.2.2.2.2.2.2.2.1.1.2.2.2.2.2.2.2.2.1 (by decide +kernel) rfl rfl rfl rfl ⟨(Nat.le_of_ble_eq_true rfl), (Nat.le_of_ble_eq_true rfl)⟩ (Nat.le_of_ble_eq_true rfl) ⟨(Nat.le_of_ble_eq_true rfl), (Nat.le_of_ble_eq_true rfl)⟩ dX3_isTrue_20 rfl (fun r M1 hr => ?_)
        obtain ⟨rfl, rfl⟩ := hr
        refine y_cast B (hT i q12) (q := (RX5, TX5, 4)) rfl (by decide +kernel) dX3_isTrue_25 ?_
        refine y_aload_n B dX3_isTrue_28 rfl ?_
        refine y_callV B 1 (q := (RX5, TX5, 4)) _ _ (k_X5_isTrue l G _ hD (hT i q12) (hk2 i q12) (hv _ (hk2 i q12).1)) (hT i q12) rfl gX3_isTrue_X5_isTrue (by decide +kernel) rfl rfl rfl rfl ⟨(Nat.le_of_ble_eq_true rfl), (Nat.le_of_ble_eq_true rfl)⟩ (Nat.le_of_ble_eq_true rfl) ⟨(Nat.le_of_ble_eq_true rfl), (Nat.le_of_ble_eq_true rfl)⟩ dX3_isTrue_29 rfl (fun r M1 hr => ?_)
        obtain ⟨rfl, rfl⟩ := hr
        refine y_if_ne B 37 dX3_isTrue_32 (by decide) (fun c32 => ?_) (fun c32 => ?_)
        · have q32 : ai_tk S (4 * j + i) = true := by cases z : ai_tk S (4 * j + i) with | true => rfl | false => exact absurd (by rw [z]; rfl) c32
          refine y_iinc B (nI (i + 1)) dX3_isTrue_37 rfl (nI_1 i) ?_
          refine y_goto B 2 dX3_isTrue_40 (by decide) ?_
          exact ih (i + 1) (by omega) (by omega) (fun t ht => by rcases Nat.lt_succ_iff_lt_or_eq.mp ht with z | z; exact ha t z; rw [z]; exact q32)
        · have q32 := (ai_b0 _).mp c32
          refine y_iconst B (nI 0) dX3_isTrue_35 (by decide +kernel) ?_
          exact y_zret B dX3_isTrue_36 (Nat.le_of_ble_eq_true rfl) (Nat.le_of_ble_eq_true rfl) rfl (⟨by unfold ai_pt; rw [ai_all_f q12 q32]; rfl, rfl⟩)
  refine y_iconst B (nI 0) dX3_isTrue_0 (by decide +kernel) ?_
  refine y_istore_n B dX3_isTrue_1 (Nat.le_of_ble_eq_true rfl) ?_
  exact lp (S 8 j + 1) 0 (by omega) (by omega) (fun t ht => absurd ht (Nat.not_lt_zero t))
set_option maxHeartbeats 4000000 in
set_option maxRecDepth 100000 in
theorem k_X3_isTrueByHits (l : Launch) (G : ai_G) (M : ai_M) {dr a j h : Nat} {S : ai_S} (hD : ai_Dr G M S dr) (hv : ∀ i, i < 6 → S 1 i ≤ 64) (hP : ai_Pd G M S j a) (hk : ai_okP S j) (hh : ai_ht M a (nI h)) (hb : h < 2 ^ 31) : ai_C l yX3_isTrueByHits wsX3_isTrueByHits ({ frames := 3, cells := 0, slots := 0, locals := 64 } : Room) 0 0 G M [.ref a, .ref dr] (fun r M1 => r = some (.int (ai_b (decide (h = ai_pn S j) && ai_all (S 8 j) (fun t => decide (S 12 (4 * j + t) = 0) || ai_tk S (4 * j + t))))) ∧ M1 = M) := by
  refine y_start (by decide +kernel) rfl (Nat.le_of_ble_eq_true rfl) (Nat.le_of_ble_eq_true rfl) (fun x hx => by simp only [List.mem_cons, List.not_mem_nil, or_false] at hx; rcases hx with rfl | rfl <;> rfl) ?_
  intro p e s m below meth c B hnm
  obtain ⟨tl, ta, hits, hA, hL, hT⟩ := hP
  obtain ⟨hk1, hk2⟩ := hk
  obtain ⟨mc, arr, cap, h9, hl1, -⟩ := id hL
  have hpn : ai_pn S j ≤ S 8 j := ai_cn_le _ _
  obtain ⟨g5, x5, y5, h5⟩ := hh
  have e5 : hits = nI h := by rw [hA] at h5; cases h5; rfl
  subst e5
  have lp : ∀ (d : Nat) (i : Nat) (x3 : Option Value), (S 8 j < i + d) → (i ≤ S 8 j) → (∀ t, t < i → (decide (S 12 (4 * j + t) = 0) || ai_tk S (4 * j + t)) = true) → (h = ai_pn S j) → ai_Y p l e ({ frames := 3, cells := 0, slots := 0, locals := 64 } : Room) s m [.ref a, .ref dr].toArray below meth c G (MQ below (ai_Q G (fun r M1 => r = some (.int (ai_b (decide (h = ai_pn S j) && ai_all (S 8 j) (fun t => decide (S 12 (4 * j + t) = 0) || ai_tk S (4 * j + t))))) ∧ M1 = M)) [.ref a, .ref dr].toArray s 0 0 (ai_A G)) M 0 0 [some (.ref a), some (.ref dr), some (.int (nI i)), x3] 15 [] := by
    intro d
    induction d with
    | zero => intros; omega
    | succ d ih =>
      intro i x3 hm hi ha heq
      refine y_iload_n B dX3_isTrueByHits_15 rfl ?_
      refine y_aload_n B dX3_isTrueByHits_16 rfl ?_
      refine y_get B (ref := "AlertIndex$Product") (ci := 4) (C := RX3) (T := TX3) (N := 3) hA rfl i_X3_isTrueByHits_X3 0 (by decide) (by decide +kernel) (fun _ h9 => h9) rfl dX3_isTrueByHits_17 ?_
      refine y_callF B 0 (x := ⟨"java/util/List", "size", "()I"⟩) (q := (RJx4a65c, TJx4a65c, 3)) _ _ (k_Jx4a65c_size_8abf5 l G _ hL) hl1 rfl gX3_isTrueByHits_Jx4a65c_size_8abf5_f23Jx4a65c B.2.2.2.2.2.2.2.2.1.1.2.2.2.2.2.2.1 (by decide +kernel) rfl rfl rfl rfl ⟨(Nat.le_of_ble_eq_true rfl), (Nat.le_of_ble_eq_true rfl)⟩ (Nat.le_of_ble_eq_true rfl) ⟨(Nat.le_of_ble_eq_true rfl), (Nat.le_of_ble_eq_true rfl)⟩ dX3_isTrueByHits_20 rfl (fun r M1 hr => ?_)
      obtain ⟨rfl, rfl⟩ := hr
      refine y_icmp_ge B 65 dX3_isTrueByHits_25 (by decide) (fun c25 => ?_) (fun c25 => ?_)
      · have q25 : S 8 j ≤ i := (nI_leI (by omega) (by omega)).mp c25
        refine y_iconst B (nI 1) dX3_isTrueByHits_65 (by decide +kernel) ?_
        exact y_zret B dX3_isTrueByHits_66 (Nat.le_of_ble_eq_true rfl) (Nat.le_of_ble_eq_true rfl) rfl (⟨by rw [decide_eq_true heq, (ai_all_iff _ _).mpr (fun t ht => ha t (by omega))]; rfl, rfl⟩)
      · have q25 : i < S 8 j := Nat.lt_of_not_le (fun z => c25 ((nI_leI (by omega) (by omega)).mpr z))
        refine y_aload_n B dX3_isTrueByHits_28 rfl ?_
        refine y_get B (ref := "AlertIndex$Product") (ci := 4) (C := RX3) (T := TX3) (N := 3) hA rfl i_X3_isTrueByHits_X3 0 (by decide) (by decide +kernel) (fun _ h9 => h9) rfl dX3_isTrueByHits_29 ?_
        refine y_iload_n B dX3_isTrueByHits_32 rfl ?_
        refine y_callF B 1 (x := ⟨"java/util/List", "get", "(I)Ljava/lang/Object;"⟩) (q := (RJx4a65c, TJx4a65c, 3)) _ _ (k_Jx4a65c_get_915e3 l G _ hL q25) hl1 rfl gX3_isTrueByHits_Jx4a65c_get_915e3_f29Jx4a65c B.2.2.2.2.2.2.2.2.1.1.2.2.2.2.2.2.2.2.1 (by decide +kernel) rfl rfl rfl rfl ⟨(Nat.le_of_ble_eq_true rfl), (Nat.le_of_ble_eq_true rfl)⟩ (Nat.le_of_ble_eq_true rfl) ⟨(Nat.le_of_ble_eq_true rfl), (Nat.le_of_ble_eq_true rfl)⟩ dX3_isTrueByHits_33 rfl (fun r M1 hr => ?_)
        obtain ⟨rfl, rfl⟩ := hr
        refine y_cast B (hT i q25) (q := (RX5, TX5, 4)) rfl (by decide +kernel) dX3_isTrueByHits_38 ?_
        refine y_astore_n B dX3_isTrueByHits_41 (Nat.le_of_ble_eq_true rfl) ?_
        refine y_aload_n B dX3_isTrueByHits_42 rfl ?_
        refine y_get B (ref := "AlertIndex$Test") (ci := 6) (C := RX5) (T := TX5) (N := 4) (hT i q25) rfl i_X3_isTrueByHits_X5 3 (by decide) (by decide +kernel) (fun _ h9 => h9) rfl dX3_isTrueByHits_43 ?_
        refine y_if_eq B 59 dX3_isTrueByHits_46 (by decide) (fun c46 => ?_) (fun c46 => ?_)
        · have q46 : S 12 (4 * j + i) = 0 := (nI_eq (by have := (hk2 i q25).2.2.2; omega) (by decide)).mp c46
          refine y_iinc B (nI (i + 1)) dX3_isTrueByHits_59 rfl (nI_1 i) ?_
          refine y_goto B 15 dX3_isTrueByHits_62 (by decide) ?_
          exact ih (i + 1) _ (by omega) (by omega) (fun t ht => by rcases Nat.lt_succ_iff_lt_or_eq.mp ht with z | z; exact ha t z; rw [z, decide_eq_true q46]; rfl) heq
        · have q46 : ¬ S 12 (4 * j + i) = 0 := fun z => c46 (by rw [z]; rfl)
          refine y_aload_n B dX3_isTrueByHits_49 rfl ?_
          refine y_aload_n B dX3_isTrueByHits_50 rfl ?_
          refine y_callV B 1 (q := (RX5, TX5, 4)) _ _ (k_X5_isTrue l G _ hD (hT i q25) (hk2 i q25) (hv _ (hk2 i q25).1)) (hT i q25) rfl gX3_isTrueByHits_X5_isTrue (by decide +kernel) rfl rfl rfl rfl ⟨(Nat.le_of_ble_eq_true rfl), (Nat.le_of_ble_eq_true rfl)⟩ (Nat.le_of_ble_eq_true rfl) ⟨(Nat.le_of_ble_eq_true rfl), (Nat.le_of_ble_eq_true rfl)⟩ dX3_isTrueByHits_51 rfl (fun r M1 hr => ?_)
          obtain ⟨rfl, rfl⟩ := hr
          refine y_if_ne B 59 dX3_isTrueByHits_54 (by decide) (fun c54 => ?_) (fun c54 => ?_)
          · have q54 : ai_tk S (4 * j + i) = true := by cases z : ai_tk S (4 * j + i) with | true => rfl | false => exact absurd (by rw [z]; rfl) c54
            refine y_iinc B (nI (i + 1)) dX3_isTrueByHits_59 rfl (nI_1 i) ?_
            refine y_goto B 15 dX3_isTrueByHits_62 (by decide) ?_
            exact ih (i + 1) _ (by omega) (by omega) (fun t ht => by rcases Nat.lt_succ_iff_lt_or_eq.mp ht with z | z; exact ha t z; rw [z, q54, Bool.or_true]) heq
          · have q54 := (ai_b0 _).mp c54
            refine y_iconst B (nI 0) dX3_isTrueByHits_57 (by decide +kernel) ?_
            exact y_zret B dX3_isTrueByHits_58 (Nat.le_of_ble_eq_true rfl) (Nat.le_of_ble_eq_true rfl) rfl (⟨by rw [ai_all_f q25 (by rw [q54, decide_eq_false q46]; rfl), Bool.and_false]; rfl, rfl⟩)
  refine y_aload_n B dX3_isTrueByHits_0 rfl ?_
  refine y_get B (ref := "AlertIndex$Product") (ci := 4) (C := RX3) (T := TX3) (N := 3) hA rfl i_X3_isTrueByHits_X3 2 (by decide) (by decide +kernel) (fun _ h9 => h9) rfl dX3_isTrueByHits_1 ?_
  refine y_aload_n B dX3_isTrueByHits_4 rfl ?_
  refine y_get B (ref := "AlertIndex$Product") (ci := 4) (C := RX3) (T := TX3) (N := 3) hA rfl i_X3_isTrueByHits_X3 1 (by decide) (by decide +kernel) (fun _ h9 => h9) rfl dX3_isTrueByHits_5 ?_
  refine y_icmp_eq B 13 dX3_isTrueByHits_8 (by decide) (fun c8 => ?_) (fun c8 => ?_)
  · have q8 := (nI_eq (by omega) (by omega)).mp c8
    refine y_iconst B (nI 0) dX3_isTrueByHits_13 (by decide +kernel) ?_
    refine y_istore_n B dX3_isTrueByHits_14 (Nat.le_of_ble_eq_true rfl) ?_
    exact lp (S 8 j + 1) 0 none (by omega) (by omega) (fun t ht => absurd ht (Nat.not_lt_zero t)) q8
  · have q8 : ¬ h = ai_pn S j := fun z => c8 (by rw [z])
    refine y_iconst B (nI 0) dX3_isTrueByHits_11 (by decide +kernel) ?_
    exact y_zret B dX3_isTrueByHits_12 (Nat.le_of_ble_eq_true rfl) (Nat.le_of_ble_eq_true rfl) rfl (⟨by rw [decide_eq_false q8]; rfl, rfl⟩)
set_option maxHeartbeats 4000000 in
set_option maxRecDepth 100000 in
theorem k_X4_init (l : Launch) (G : ai_G) (M : ai_M) {a g : Nat} (gl : Nat) (hgl : g ≠ gl ∧ g ≠ gl + 1) (h1 : M a = some (g, .inr (5, [.null, .int 0, .int 0, .int 0, .int 0, .int 0]))) : ai_C l yX4_init wsX4_init ({ frames := 4, cells := 1, slots := 3, locals := 72 } : Room) 1 3 G M [.ref a] (fun r M1 => r = none ∧ ∃ q, M q = none ∧ M1 a = some (g, .inr (5, [.ref q, .int (nI 0), .int (nI 0), .int (nI 0), .int (nI 0), .int (nI 0)])) ∧ ai_l G M1 q gl 0 (fun _ => 0) ∧ ∀ (b g : Nat) (e : va_E), M b = some (g, e) → b ≠ a → M1 b = some (g, e)) := by
  refine y_start (by decide +kernel) rfl (Nat.le_of_ble_eq_true rfl) (Nat.le_of_ble_eq_true rfl) (fun x hx => by simp only [List.mem_cons, List.not_mem_nil, or_false] at hx; rcases hx with rfl <;> rfl) ?_
  intro p e s m below meth c B hnm
  have hinit : meth.name = "<init>" := hnm
  refine y_aload_n B dX4_init_0 rfl ?_
  refine y_oinit B (by decide +kernel) (by decide +kernel) (by decide +kernel) (Nat.le_of_ble_eq_true rfl) (Nat.le_of_ble_eq_true rfl) dX4_init_1 ?_
  refine y_aload_n B dX4_init_4 rfl ?_
  refine y_new B (C := RJx4a65c) (T := TJx4a65c) (N := 3) (ci := 0) (gl) [.int 0, .null, .int 0] i_X4_init_Jx4a65c tyJx4a65c tyJx4a65c_ok (by decide +kernel) (by decide +kernel) (by decide +kernel) rfl (fun j hj => by rcases (show j = 0 ∨ j = 1 ∨ j = 2 by omega) with rfl | rfl | rfl <;> rfl) (Nat.le_of_ble_eq_true rfl) (Nat.le_of_ble_eq_true rfl) dX4_init_5 (fun q hq => ?_)
  have hnq : q ≠ a := fun z => by rw [← z, hq] at h1; cases h1
  refine y_dup B dX4_init_8 rfl ?_
  refine y_callI B 0 _ _ (k_Jx4a65c_init_da8c8 l G _ ai_U_s) gX4_init_Jx4a65c_init_da8c8 (by decide +kernel) (by decide +kernel) (by decide +kernel) rfl (by decide +kernel) rfl rfl rfl rfl ⟨(Nat.le_of_ble_eq_true rfl), (Nat.le_of_ble_eq_true rfl)⟩ (Nat.le_of_ble_eq_true rfl) ⟨(Nat.le_of_ble_eq_true rfl), (Nat.le_of_ble_eq_true rfl)⟩ dX4_init_9 rfl (fun r M1 hr => ?_)
  obtain ⟨rfl, rfl⟩ := hr
  rw [ai_UU]
  refine y_putF B hinit (ref := "AlertIndex$Question") (ci := 5) (C := RX4) (T := TX4) (N := 6) (ty := (.object "java/util/List")) ((ai_U_n (fun z => hnq z.symm)).trans h1) rfl i_X4_init_X4 tyX4 tyX4_ok nmX4 0 (by decide) (by decide +kernel) (fun _ h9 => h9) rfl rfl (by decide +kernel) rfl rfl (Nat.le_of_ble_eq_true rfl) dX4_init_12 ?_
  refine y_aload_n B dX4_init_15 rfl ?_
  refine y_iconst B (nI 0) dX4_init_16 (by decide +kernel) ?_
  refine y_put B (ref := "AlertIndex$Question") (ci := 5) (C := RX4) (T := TX4) (N := 6) (ty := .boolean) ai_U_s rfl i_X4_init_X4 tyX4 tyX4_ok nmX4 1 (by decide) (by decide +kernel) (fun _ h9 => h9) rfl (by decide +kernel) rfl rfl (Nat.le_of_ble_eq_true rfl) dX4_init_17 ?_
  rw [ai_UU]
  refine y_aload_n B dX4_init_20 rfl ?_
  refine y_iconst B (nI 0) dX4_init_21 (by decide +kernel) ?_
  refine y_put B (ref := "AlertIndex$Question") (ci := 5) (C := RX4) (T := TX4) (N := 6) (ty := .int) ai_U_s rfl i_X4_init_X4 tyX4 tyX4_ok nmX4 2 (by decide) (by decide +kernel) (fun _ h9 => h9) rfl (by decide +kernel) rfl rfl (Nat.le_of_ble_eq_true rfl) dX4_init_22 ?_
  rw [ai_UU]
  refine y_aload_n B dX4_init_25 rfl ?_
  refine y_iconst B (nI 0) dX4_init_26 (by decide +kernel) ?_
  refine y_put B (ref := "AlertIndex$Question") (ci := 5) (C := RX4) (T := TX4) (N := 6) (ty := .int) ai_U_s rfl i_X4_init_X4 tyX4 tyX4_ok nmX4 3 (by decide) (by decide +kernel) (fun _ h9 => h9) rfl (by decide +kernel) rfl rfl (Nat.le_of_ble_eq_true rfl) dX4_init_27 ?_
  rw [ai_UU]
  refine y_aload_n B dX4_init_30 rfl ?_
  refine y_iconst B (nI 0) dX4_init_31 (by decide +kernel) ?_
  refine y_put B (ref := "AlertIndex$Question") (ci := 5) (C := RX4) (T := TX4) (N := 6) (ty := .int) ai_U_s rfl i_X4_init_X4 tyX4 tyX4_ok nmX4 4 (by decide) (by decide +kernel) (fun _ h9 => h9) rfl (by decide +kernel) rfl rfl (Nat.le_of_ble_eq_true rfl) dX4_init_32 ?_
  rw [ai_UU]
  refine y_aload_n B dX4_init_35 rfl ?_
  refine y_iconst B (nI 0) dX4_init_36 (by decide +kernel) ?_
  refine y_put B (ref := "AlertIndex$Question") (ci := 5) (C := RX4) (T := TX4) (N := 6) (ty := .int) ai_U_s rfl i_X4_init_X4 tyX4 tyX4_ok nmX4 5 (by decide) (by decide +kernel) (fun _ h9 => h9) rfl (by decide +kernel) rfl rfl (Nat.le_of_ble_eq_true rfl) dX4_init_37 ?_
  rw [ai_UU]
  exact y_vret B dX4_init_40 (Nat.le_of_ble_eq_true rfl) (Nat.le_of_ble_eq_true rfl) (⟨rfl, q, hq, ai_U_s, ai_l_new.keep (fun b g9 e hb h9 => (ai_U_n (fun z => by subst z; rw [ai_U_n (fun z => hnq z.symm), h1] at hb; cases hb; omega)).trans hb), fun b g9 e hb hn => (ai_U_n hn).trans (ai_U_f hq hb)⟩)
set_option maxHeartbeats 4000000 in
set_option maxRecDepth 100000 in
theorem k_X4_lastProduct (l : Launch) (G : ai_G) (M : ai_M) {a q : Nat} {S : ai_S} {pa : Nat → Nat} (hQ : ai_Qd G M S pa q a) : ai_C l yX4_lastProduct wsX4_lastProduct ({ frames := 3, cells := 0, slots := 0, locals := 64 } : Room) 0 0 G M [.ref a] (fun r M1 => r = some (va_rf (if S 3 q = 0 then none else some (pa (3 * q + (S 3 q - 1))))) ∧ M1 = M) := by
  refine y_start (by decide +kernel) rfl (Nat.le_of_ble_eq_true rfl) (Nat.le_of_ble_eq_true rfl) (fun x hx => by simp only [List.mem_cons, List.not_mem_nil, or_false] at hx; rcases hx with rfl <;> rfl) ?_
  intro p e s m below meth c B hnm
  obtain ⟨pl, hA, hL, hPd⟩ := id hQ
  obtain ⟨mc, arr, cap, h9, hl1, -⟩ := id hL
  have hbd := hL.bd
  refine y_aload_n B dX4_lastProduct_0 rfl ?_
  refine y_get B (ref := "AlertIndex$Question") (ci := 5) (C := RX4) (T := TX4) (N := 6) hA rfl i_X4_lastProduct_X4 0 (by decide) (by decide +kernel) (fun _ h9 => h9) rfl dX4_lastProduct_1 ?_
  refine y_callF B 0 (x := ⟨"java/util/List", "size", "()I"⟩) (q := (RJx4a65c, TJx4a65c, 3)) _ _ (k_Jx4a65c_size_8abf5 l G _ hL) hl1 rfl gX4_lastProduct_Jx4a65c_size_8abf5_f35Jx4a65c B.2.2.2.2.2.2.2.2.1.1.2.2.2.2.2.2.1 (by decide +kernel) rfl rfl rfl rfl ⟨(Nat.le_of_ble_eq_true rfl), (Nat.le_of_ble_eq_true rfl)⟩ (Nat.le_of_ble_eq_true rfl) ⟨(Nat.le_of_ble_eq_true rfl), (Nat.le_of_ble_eq_true rfl)⟩ dX4_lastProduct_4 rfl (fun r M1 hr => ?_)
  obtain ⟨rfl, rfl⟩ := hr
  refine y_istore_n B dX4_lastProduct_9 (Nat.le_of_ble_eq_true rfl) ?_
  refine y_iload_n B dX4_lastProduct_10 rfl ?_
  refine y_if_le B 32 dX4_lastProduct_11 (by decide) (fun c11 => ?_) (fun c11 => ?_)
  · have q11 : S 3 q = 0 := Nat.le_zero.mp ((nI_leI (b := 0) (by omega) (by omega)).mp c11)
    refine y_null B dX4_lastProduct_32 ?_
    exact y_aret B (Or.inl ⟨_, rfl⟩) (Or.inl rfl) dX4_lastProduct_33 (Nat.le_of_ble_eq_true rfl) (Nat.le_of_ble_eq_true rfl) (⟨by rw [if_pos q11]; rfl, rfl⟩)
  · have q11 : S 3 q ≠ 0 := fun z => c11 (by rw [z]; decide)
    refine y_aload_n B dX4_lastProduct_14 rfl ?_
    refine y_get B (ref := "AlertIndex$Question") (ci := 5) (C := RX4) (T := TX4) (N := 6) hA rfl i_X4_lastProduct_X4 0 (by decide) (by decide +kernel) (fun _ h9 => h9) rfl dX4_lastProduct_15 ?_
    refine y_iload_n B dX4_lastProduct_18 rfl ?_
    refine y_iconst B (nI 1) dX4_lastProduct_19 (by decide +kernel) ?_
    refine y_isub B (nI (S 3 q - 1)) dX4_lastProduct_20 (pk_sub (by omega)) ?_
    refine y_callF B 1 (x := ⟨"java/util/List", "get", "(I)Ljava/lang/Object;"⟩) (q := (RJx4a65c, TJx4a65c, 3)) _ _ (k_Jx4a65c_get_915e3 l G _ hL (i := S 3 q - 1) (by omega)) hl1 rfl gX4_lastProduct_Jx4a65c_get_915e3_f41Jx4a65c B.2.2.2.2.2.2.2.2.1.1.2.2.2.2.2.2.2.2.1 (by decide +kernel) rfl rfl rfl rfl ⟨(Nat.le_of_ble_eq_true rfl), (Nat.le_of_ble_eq_true rfl)⟩ (Nat.le_of_ble_eq_true rfl) ⟨(Nat.le_of_ble_eq_true rfl), (Nat.le_of_ble_eq_true rfl)⟩ dX4_lastProduct_21 rfl (fun r M1 hr => ?_)
    obtain ⟨rfl, rfl⟩ := hr
    obtain ⟨tl, ta, hits, hPa, -⟩ := hPd (S 3 q - 1) (by omega)
    refine y_cast B hPa (q := (RX3, TX3, 3)) rfl (by decide +kernel) dX4_lastProduct_26 ?_
    refine y_goto B 33 dX4_lastProduct_29 (by decide) ?_
    exact y_aret B (Or.inl ⟨_, rfl⟩) (Or.inr ⟨_, rfl⟩) dX4_lastProduct_33 (Nat.le_of_ble_eq_true rfl) (Nat.le_of_ble_eq_true rfl) (⟨by rw [if_neg q11]; rfl, rfl⟩)
theorem ai_minI {a b : Nat} (ha : a < 2 ^ 31) (hb : b < 2 ^ 31) : (if nI b < nI a then nI b else nI a) = nI (Nat.min a b) := by
  by_cases h : b < a
  · rw [if_pos (nI_lt h ha), show Nat.min a b = b from Nat.min_eq_right (by omega)]
  · rw [if_neg (nI_nlt (by omega) hb), show Nat.min a b = a from Nat.min_eq_left (by omega)]
set_option maxHeartbeats 4000000 in
set_option maxRecDepth 100000 in
theorem k_X4_leastSize (l : Launch) (G : ai_G) (M : ai_M) {a q : Nat} {S : ai_S} {pa : Nat → Nat} (hQ : ai_Qd G M S pa q a) (h3 : S 3 q ≤ 3) (hok : ∀ p, p < S 3 q → S 8 (3 * q + p) ≤ 4) : ai_C l yX4_leastSize wsX4_leastSize ({ frames := 3, cells := 0, slots := 0, locals := 64 } : Room) 0 0 G M [.ref a] (fun r M1 => r = some (.int (nI (ai_sz S q))) ∧ M1 = M) := by
  refine y_start (by decide +kernel) rfl (Nat.le_of_ble_eq_true rfl) (Nat.le_of_ble_eq_true rfl) (fun x hx => by simp only [List.mem_cons, List.not_mem_nil, or_false] at hx; rcases hx with rfl <;> rfl) ?_
  intro p e s m below meth c B hnm
  obtain ⟨pl, hA, hL, hPd⟩ := id hQ
  obtain ⟨mc, arr, cap, h9, hl1, -⟩ := id hL
  have lp : ∀ (d : Nat) (i : Nat), (S 3 q < i + d) → (i ≤ S 3 q) → ai_Y p l e ({ frames := 3, cells := 0, slots := 0, locals := 64 } : Room) s m [.ref a].toArray below meth c G (MQ below (ai_Q G (fun r M1 => r = some (.int (nI (ai_sz S q))) ∧ M1 = M)) [.ref a].toArray s 0 0 (ai_A G)) M 0 0 [some (.ref a), some (.int (nI (ai_mn i (fun p => ai_pn S (3 * q + p))))), some (.int (nI i))] 4 [] := by
    intro d
    induction d with
    | zero => intros; omega
    | succ d ih =>
      intro i hm hi
      refine y_iload_n B dX4_leastSize_4 rfl ?_
      refine y_aload_n B dX4_leastSize_5 rfl ?_
      refine y_get B (ref := "AlertIndex$Question") (ci := 5) (C := RX4) (T := TX4) (N := 6) hA rfl i_X4_leastSize_X4 0 (by decide) (by decide +kernel) (fun _ h9 => h9) rfl dX4_leastSize_6 ?_
      refine y_callF B 0 (x := ⟨"java/util/List", "size", "()I"⟩) (q := (RJx4a65c, TJx4a65c, 3)) _ _ (k_Jx4a65c_size_8abf5 l G _ hL) hl1 rfl gX4_leastSize_Jx4a65c_size_8abf5_f35Jx4a65c B.2.2.2.2.2.2.2.2.1.1.2.2.2.2.2.2.1 (by decide +kernel) rfl rfl rfl rfl ⟨(Nat.le_of_ble_eq_true rfl), (Nat.le_of_ble_eq_true rfl)⟩ (Nat.le_of_ble_eq_true rfl) ⟨(Nat.le_of_ble_eq_true rfl), (Nat.le_of_ble_eq_true rfl)⟩ dX4_leastSize_9 rfl (fun r M1 hr => ?_)
      obtain ⟨rfl, rfl⟩ := hr
      refine y_icmp_ge B 44 dX4_leastSize_14 (by decide) (fun c14 => ?_) (fun c14 => ?_)
      · have q14 : S 3 q ≤ i := (nI_leI (by omega) (by omega)).mp c14
        have ei : i = S 3 q := by omega
        refine y_aload_n B dX4_leastSize_44 rfl ?_
        refine y_get B (ref := "AlertIndex$Question") (ci := 5) (C := RX4) (T := TX4) (N := 6) hA rfl i_X4_leastSize_X4 0 (by decide) (by decide +kernel) (fun _ h9 => h9) rfl dX4_leastSize_45 ?_
        refine y_callF B 0 (x := ⟨"java/util/List", "isEmpty", "()Z"⟩) (q := (RJx4a65c, TJx4a65c, 3)) _ _ (k_Jx4a65c_isEmpty_aae02 l G _ hL) hl1 rfl gX4_leastSize_Jx4a65c_isEmpty_aae02_f56Jx4a65c B.2.2.2.2.2.2.2.2.1.1.2.2.2.2.2.2.2.1 (by decide +kernel) rfl rfl rfl rfl ⟨(Nat.le_of_ble_eq_true rfl), (Nat.le_of_ble_eq_true rfl)⟩ (Nat.le_of_ble_eq_true rfl) ⟨(Nat.le_of_ble_eq_true rfl), (Nat.le_of_ble_eq_true rfl)⟩ dX4_leastSize_48 rfl (fun r M1 hr => ?_)
        obtain ⟨rfl, rfl⟩ := hr
        refine y_if_eq B 60 dX4_leastSize_53 (by decide) (fun c53 => ?_) (fun c53 => ?_)
        · have q53 : ¬ S 3 q = 0 := fun z => by rw [if_pos z] at c53; exact absurd c53 (by decide)
          refine y_iload_n B dX4_leastSize_60 rfl ?_
          exact y_iret B dX4_leastSize_61 (Nat.le_of_ble_eq_true rfl) (Nat.le_of_ble_eq_true rfl) (⟨by unfold ai_sz; rw [if_neg q53, ei], rfl⟩)
        · have q53 : S 3 q = 0 := by by_cases z : S 3 q = 0; exact z; rw [if_neg z] at c53; exact absurd rfl c53
          refine y_iconst B (nI 0) dX4_leastSize_56 (by decide +kernel) ?_
          refine y_goto B 61 dX4_leastSize_57 (by decide) ?_
          exact y_iret B dX4_leastSize_61 (Nat.le_of_ble_eq_true rfl) (Nat.le_of_ble_eq_true rfl) (⟨by unfold ai_sz; rw [if_pos q53], rfl⟩)
      · have q14 : i < S 3 q := Nat.lt_of_not_le (fun z => c14 ((nI_leI (by omega) (by omega)).mpr z))
        refine y_iload_n B dX4_leastSize_17 rfl ?_
        refine y_aload_n B dX4_leastSize_18 rfl ?_
        refine y_get B (ref := "AlertIndex$Question") (ci := 5) (C := RX4) (T := TX4) (N := 6) hA rfl i_X4_leastSize_X4 0 (by decide) (by decide +kernel) (fun _ h9 => h9) rfl dX4_leastSize_19 ?_
        refine y_iload_n B dX4_leastSize_22 rfl ?_
        refine y_callF B 1 (x := ⟨"java/util/List", "get", "(I)Ljava/lang/Object;"⟩) (q := (RJx4a65c, TJx4a65c, 3)) _ _ (k_Jx4a65c_get_915e3 l G _ hL q14) hl1 rfl gX4_leastSize_Jx4a65c_get_915e3_f41Jx4a65c B.2.2.2.2.2.2.2.2.1.1.2.2.2.2.2.2.2.2.1 (by decide +kernel) rfl rfl rfl rfl ⟨(Nat.le_of_ble_eq_true rfl), (Nat.le_of_ble_eq_true rfl)⟩ (Nat.le_of_ble_eq_true rfl) ⟨(Nat.le_of_ble_eq_true rfl), (Nat.le_of_ble_eq_true rfl)⟩ dX4_leastSize_23 rfl (fun r M1 hr => ?_)
        obtain ⟨rfl, rfl⟩ := hr
        obtain ⟨tl, ta, hits, hPa, -⟩ := hPd i q14
        refine y_cast B hPa (q := (RX3, TX3, 3)) rfl (by decide +kernel) dX4_leastSize_28 ?_
        refine y_get B (ref := "AlertIndex$Product") (ci := 4) (C := RX3) (T := TX3) (N := 3) hPa rfl i_X4_leastSize_X3 1 (by decide) (by decide +kernel) (fun _ h9 => h9) rfl dX4_leastSize_31 ?_
        have b1 := ai_mn_le i (fun p => ai_pn S (3 * q + p))
        have b2 : ai_pn S (3 * q + i) ≤ _ := ai_cn_le _ _
        have b3 := hok i q14
        refine y_mmin B (nI (ai_mn (i + 1) (fun p => ai_pn S (3 * q + p)))) (by decide +kernel) (by decide +kernel) (by decide +kernel) (by decide +kernel) (Nat.le_of_ble_eq_true rfl) (Nat.le_of_ble_eq_true rfl) (Nat.le_of_ble_eq_true rfl) (Nat.le_of_ble_eq_true rfl) (ai_minI (by omega) (by omega)) dX4_leastSize_34 ?_
        refine y_istore_n B dX4_leastSize_37 (Nat.le_of_ble_eq_true rfl) ?_
        refine y_iinc B (nI (i + 1)) dX4_leastSize_38 rfl (nI_1 i) ?_
        refine y_goto B 4 dX4_leastSize_41 (by decide) ?_
        exact ih (i + 1) (by omega) (by omega)
  refine y_iconst B (nI 4) dX4_leastSize_0 (by decide +kernel) ?_
  refine y_istore_n B dX4_leastSize_1 (Nat.le_of_ble_eq_true rfl) ?_
  refine y_iconst B (nI 0) dX4_leastSize_2 (by decide +kernel) ?_
  refine y_istore_n B dX4_leastSize_3 (Nat.le_of_ble_eq_true rfl) ?_
  exact lp (S 3 q + 1) 0 (by omega) (by omega)
set_option maxHeartbeats 4000000 in
set_option maxRecDepth 100000 in
theorem k_X4_isSatisfied (l : Launch) (G : ai_G) (M : ai_M) {a dr q : Nat} {S : ai_S} {pa : Nat → Nat} (hD : ai_Dr G M S dr) (hv : ∀ i, i < 6 → S 1 i ≤ 64) (hQ : ai_Qd G M S pa q a) (h2 : S 2 q ≤ 1) (h3 : S 3 q ≤ 3) (hok : ∀ p, p < S 3 q → ai_okP S (3 * q + p)) : ai_C l yX4_isSatisfied wsX4_isSatisfied ({ frames := 4, cells := 0, slots := 0, locals := 86 } : Room) 0 0 G M [.ref a, .ref dr] (fun r M1 => r = some (.int (ai_b (decide (S 2 q = 0) && ai_qt S q))) ∧ M1 = M) := by
  refine y_start (by decide +kernel) rfl (Nat.le_of_ble_eq_true rfl) (Nat.le_of_ble_eq_true rfl) (fun x hx => by simp only [List.mem_cons, List.not_mem_nil, or_false] at hx; rcases hx with rfl | rfl <;> rfl) ?_
  intro p e s m below meth c B hnm
  obtain ⟨pl, hA, hL, hPd⟩ := id hQ
  obtain ⟨mc, arr, cap, h9, hl1, -⟩ := id hL
  have lp : ∀ (d : Nat) (i : Nat), (S 3 q < i + d) → (i ≤ S 3 q) → (∀ p, p < i → (ai_pt S (3 * q + p)) = false) → ai_Y p l e ({ frames := 4, cells := 0, slots := 0, locals := 86 } : Room) s m [.ref a, .ref dr].toArray below meth c G (MQ below (ai_Q G (fun r M1 => r = some (.int (ai_b (decide (S 2 q = 0) && ai_qt S q))) ∧ M1 = M)) [.ref a, .ref dr].toArray s 0 0 (ai_A G)) M 0 0 [some (.ref a), some (.ref dr), some (.int (nI i))] 2 [] := by
    intro d
    induction d with
    | zero => intros; omega
    | succ d ih =>
      intro i hm hi ha
      refine y_aload_n B dX4_isSatisfied_2 rfl ?_
      refine y_get B (ref := "AlertIndex$Question") (ci := 5) (C := RX4) (T := TX4) (N := 6) hA rfl i_X4_isSatisfied_X4 1 (by decide) (by decide +kernel) (fun _ h9 => h9) rfl dX4_isSatisfied_3 ?_
      refine y_if_ne B 50 dX4_isSatisfied_6 (by decide) (fun c6 => ?_) (fun c6 => ?_)
      · have q6 : ¬ S 2 q = 0 := fun z => c6 (by rw [z]; rfl)
        refine y_iconst B (nI 0) dX4_isSatisfied_50 (by decide +kernel) ?_
        exact y_zret B dX4_isSatisfied_51 (Nat.le_of_ble_eq_true rfl) (Nat.le_of_ble_eq_true rfl) rfl (⟨by rw [decide_eq_false q6]; rfl, rfl⟩)
      · have q6 : S 2 q = 0 := (nI_eq (by omega) (by decide)).mp c6
        refine y_iload_n B dX4_isSatisfied_9 rfl ?_
        refine y_aload_n B dX4_isSatisfied_10 rfl ?_
        refine y_get B (ref := "AlertIndex$Question") (ci := 5) (C := RX4) (T := TX4) (N := 6) hA rfl i_X4_isSatisfied_X4 0 (by decide) (by decide +kernel) (fun _ h9 => h9) rfl dX4_isSatisfied_11 ?_
        refine y_callF B 0 (x := ⟨"java/util/List", "size", "()I"⟩) (q := (RJx4a65c, TJx4a65c, 3)) _ _ (k_Jx4a65c_size_8abf5 l G _ hL) hl1 rfl gX4_isSatisfied_Jx4a65c_size_8abf5_f35Jx4a65c B.2.2.2.2.2.2.2.2.1.1.2.2.2.2.2.2.1 (by decide +kernel) rfl rfl rfl rfl ⟨(Nat.le_of_ble_eq_true rfl), (Nat.le_of_ble_eq_true rfl)⟩ (Nat.le_of_ble_eq_true rfl) ⟨(Nat.le_of_ble_eq_true rfl), (Nat.le_of_ble_eq_true rfl)⟩ dX4_isSatisfied_14 rfl (fun r M1 hr => ?_)
        obtain ⟨rfl, rfl⟩ := hr
        refine y_icmp_ge B 50 dX4_isSatisfied_19 (by decide) (fun c19 => ?_) (fun c19 => ?_)
        · have q19 : S 3 q ≤ i := (nI_leI (by omega) (by omega)).mp c19
          have ei : i = S 3 q := by omega
          refine y_iconst B (nI 0) dX4_isSatisfied_50 (by decide +kernel) ?_
          exact y_zret B dX4_isSatisfied_51 (Nat.le_of_ble_eq_true rfl) (Nat.le_of_ble_eq_true rfl) rfl (⟨by rw [decide_eq_true q6, Bool.true_and]; unfold ai_qt; rw [ai_any_f (fun p hp => ha p (by omega))]; rfl, rfl⟩)
        · have q19 : i < S 3 q := Nat.lt_of_not_le (fun z => c19 ((nI_leI (by omega) (by omega)).mpr z))
          refine y_aload_n B dX4_isSatisfied_22 rfl ?_
          refine y_get B (ref := "AlertIndex$Question") (ci := 5) (C := RX4) (T := TX4) (N := 6) hA rfl i_X4_isSatisfied_X4 0 (by decide) (by decide +kernel) (fun _ h9 => h9) rfl dX4_isSatisfied_23 ?_
          refine y_iload_n B dX4_isSatisfied_26 rfl ?_
          refine y_callF B 1 (x := ⟨"java/util/List", "get", "(I)Ljava/lang/Object;"⟩) (q := (RJx4a65c, TJx4a65c, 3)) _ _ (k_Jx4a65c_get_915e3 l G _ hL q19) hl1 rfl gX4_isSatisfied_Jx4a65c_get_915e3_f41Jx4a65c B.2.2.2.2.2.2.2.2.1.1.2.2.2.2.2.2.2.2.1 (by decide +kernel) rfl rfl rfl rfl ⟨(Nat.le_of_ble_eq_true rfl), (Nat.le_of_ble_eq_true rfl)⟩ (Nat.le_of_ble_eq_true rfl) ⟨(Nat.le_of_ble_eq_true rfl), (Nat.le_of_ble_eq_true rfl)⟩ dX4_isSatisfied_27 rfl (fun r M1 hr => ?_)
          obtain ⟨rfl, rfl⟩ := hr
          obtain ⟨tl, ta, hits, hPa, -⟩ := id (hPd i q19)
          refine y_cast B hPa (q := (RX3, TX3, 3)) rfl (by decide +kernel) dX4_isSatisfied_32 ?_
          refine y_aload_n B dX4_isSatisfied_35 rfl ?_
          refine y_callV B 1 (q := (RX3, TX3, 3)) _ _ (k_X3_isTrue l G _ hD hv (hPd i q19) (hok i q19)) hPa rfl gX4_isSatisfied_X3_isTrue (by decide +kernel) rfl rfl rfl rfl ⟨(Nat.le_of_ble_eq_true rfl), (Nat.le_of_ble_eq_true rfl)⟩ (Nat.le_of_ble_eq_true rfl) ⟨(Nat.le_of_ble_eq_true rfl), (Nat.le_of_ble_eq_true rfl)⟩ dX4_isSatisfied_36 rfl (fun r M1 hr => ?_)
          obtain ⟨rfl, rfl⟩ := hr
          refine y_if_eq B 44 dX4_isSatisfied_39 (by decide) (fun c39 => ?_) (fun c39 => ?_)
          · have q39 := (ai_b0 _).mp c39
            refine y_iinc B (nI (i + 1)) dX4_isSatisfied_44 rfl (nI_1 i) ?_
            refine y_goto B 2 dX4_isSatisfied_47 (by decide) ?_
            exact ih (i + 1) (by omega) (by omega) (fun t ht => by rcases Nat.lt_succ_iff_lt_or_eq.mp ht with z | z; exact ha t z; rw [z]; exact q39)
          · have q39 : (ai_pt S (3 * q + i)) = true := by cases z : (ai_pt S (3 * q + i)) with | true => rfl | false => exact absurd ((ai_b0 _).mpr z) c39
            refine y_iconst B (nI 1) dX4_isSatisfied_42 (by decide +kernel) ?_
            exact y_zret B dX4_isSatisfied_43 (Nat.le_of_ble_eq_true rfl) (Nat.le_of_ble_eq_true rfl) rfl (⟨by rw [decide_eq_true q6, Bool.true_and]; unfold ai_qt; rw [ai_any_t q19 q39]; rfl, rfl⟩)
  refine y_iconst B (nI 0) dX4_isSatisfied_0 (by decide +kernel) ?_
  refine y_istore_n B dX4_isSatisfied_1 (Nat.le_of_ble_eq_true rfl) ?_
  exact lp (S 3 q + 1) 0 (by omega) (by omega) (fun t ht => absurd ht (Nat.not_lt_zero t))
set_option maxHeartbeats 4000000 in
set_option maxRecDepth 100000 in
theorem k_X4_isSatisfiedByHits (l : Launch) (G : ai_G) (M : ai_M) {a dr q : Nat} {S : ai_S} {pa : Nat → Nat} (hD : ai_Dr G M S dr) (hv : ∀ i, i < 6 → S 1 i ≤ 64) (hQ : ai_Qd G M S pa q a) (h2 : S 2 q ≤ 1) (h3 : S 3 q ≤ 3) (hok : ∀ p, p < S 3 q → ai_okP S (3 * q + p)) {hf : Nat → Nat} (hh : ∀ p, p < S 3 q → ai_ht M (pa (3 * q + p)) (nI (hf p)) ∧ hf p < 2 ^ 31) : ai_C l yX4_isSatisfiedByHits wsX4_isSatisfiedByHits ({ frames := 4, cells := 0, slots := 0, locals := 87 } : Room) 0 0 G M [.ref a, .ref dr] (fun r M1 => r = some (.int (ai_b (decide (S 2 q = 0) && ai_any (S 3 q) (fun p => decide (hf p = ai_pn S (3 * q + p)) && ai_all (S 8 (3 * q + p)) (fun t => decide (S 12 (4 * (3 * q + p) + t) = 0) || ai_tk S (4 * (3 * q + p) + t)))))) ∧ M1 = M) := by
  refine y_start (by decide +kernel) rfl (Nat.le_of_ble_eq_true rfl) (Nat.le_of_ble_eq_true rfl) (fun x hx => by simp only [List.mem_cons, List.not_mem_nil, or_false] at hx; rcases hx with rfl | rfl <;> rfl) ?_
  intro p e s m below meth c B hnm
  obtain ⟨pl, hA, hL, hPd⟩ := id hQ
  obtain ⟨mc, arr, cap, h9, hl1, -⟩ := id hL
  have lp : ∀ (d : Nat) (i : Nat), (S 3 q < i + d) → (i ≤ S 3 q) → (∀ p, p < i → (decide (hf p = ai_pn S (3 * q + p)) && ai_all (S 8 (3 * q + p)) (fun t => decide (S 12 (4 * (3 * q + p) + t) = 0) || ai_tk S (4 * (3 * q + p) + t))) = false) → ai_Y p l e ({ frames := 4, cells := 0, slots := 0, locals := 87 } : Room) s m [.ref a, .ref dr].toArray below meth c G (MQ below (ai_Q G (fun r M1 => r = some (.int (ai_b (decide (S 2 q = 0) && ai_any (S 3 q) (fun p => decide (hf p = ai_pn S (3 * q + p)) && ai_all (S 8 (3 * q + p)) (fun t => decide (S 12 (4 * (3 * q + p) + t) = 0) || ai_tk S (4 * (3 * q + p) + t)))))) ∧ M1 = M)) [.ref a, .ref dr].toArray s 0 0 (ai_A G)) M 0 0 [some (.ref a), some (.ref dr), some (.int (nI i))] 2 [] := by
    intro d
    induction d with
    | zero => intros; omega
    | succ d ih =>
      intro i hm hi ha
      refine y_aload_n B dX4_isSatisfiedByHits_2 rfl ?_
      refine y_get B (ref := "AlertIndex$Question") (ci := 5) (C := RX4) (T := TX4) (N := 6) hA rfl i_X4_isSatisfiedByHits_X4 1 (by decide) (by decide +kernel) (fun _ h9 => h9) rfl dX4_isSatisfiedByHits_3 ?_
      refine y_if_ne B 50 dX4_isSatisfiedByHits_6 (by decide) (fun c6 => ?_) (fun c6 => ?_)
      · have q6 : ¬ S 2 q = 0 := fun z => c6 (by rw [z]; rfl)
        refine y_iconst B (nI 0) dX4_isSatisfiedByHits_50 (by decide +kernel) ?_
        exact y_zret B dX4_isSatisfiedByHits_51 (Nat.le_of_ble_eq_true rfl) (Nat.le_of_ble_eq_true rfl) rfl (⟨by rw [decide_eq_false q6]; rfl, rfl⟩)
      · have q6 : S 2 q = 0 := (nI_eq (by omega) (by decide)).mp c6
        refine y_iload_n B dX4_isSatisfiedByHits_9 rfl ?_
        refine y_aload_n B dX4_isSatisfiedByHits_10 rfl ?_
        refine y_get B (ref := "AlertIndex$Question") (ci := 5) (C := RX4) (T := TX4) (N := 6) hA rfl i_X4_isSatisfiedByHits_X4 0 (by decide) (by decide +kernel) (fun _ h9 => h9) rfl dX4_isSatisfiedByHits_11 ?_
        refine y_callF B 0 (x := ⟨"java/util/List", "size", "()I"⟩) (q := (RJx4a65c, TJx4a65c, 3)) _ _ (k_Jx4a65c_size_8abf5 l G _ hL) hl1 rfl gX4_isSatisfiedByHits_Jx4a65c_size_8abf5_f35Jx4a65c B.2.2.2.2.2.2.2.2.1.1.2.2.2.2.2.2.1 (by decide +kernel) rfl rfl rfl rfl ⟨(Nat.le_of_ble_eq_true rfl), (Nat.le_of_ble_eq_true rfl)⟩ (Nat.le_of_ble_eq_true rfl) ⟨(Nat.le_of_ble_eq_true rfl), (Nat.le_of_ble_eq_true rfl)⟩ dX4_isSatisfiedByHits_14 rfl (fun r M1 hr => ?_)
        obtain ⟨rfl, rfl⟩ := hr
        refine y_icmp_ge B 50 dX4_isSatisfiedByHits_19 (by decide) (fun c19 => ?_) (fun c19 => ?_)
        · have q19 : S 3 q ≤ i := (nI_leI (by omega) (by omega)).mp c19
          have ei : i = S 3 q := by omega
          refine y_iconst B (nI 0) dX4_isSatisfiedByHits_50 (by decide +kernel) ?_
          exact y_zret B dX4_isSatisfiedByHits_51 (Nat.le_of_ble_eq_true rfl) (Nat.le_of_ble_eq_true rfl) rfl (⟨by rw [decide_eq_true q6, Bool.true_and]; rw [ai_any_f (fun p hp => ha p (by omega))]; rfl, rfl⟩)
        · have q19 : i < S 3 q := Nat.lt_of_not_le (fun z => c19 ((nI_leI (by omega) (by omega)).mpr z))
          refine y_aload_n B dX4_isSatisfiedByHits_22 rfl ?_
          refine y_get B (ref := "AlertIndex$Question") (ci := 5) (C := RX4) (T := TX4) (N := 6) hA rfl i_X4_isSatisfiedByHits_X4 0 (by decide) (by decide +kernel) (fun _ h9 => h9) rfl dX4_isSatisfiedByHits_23 ?_
          refine y_iload_n B dX4_isSatisfiedByHits_26 rfl ?_
          refine y_callF B 1 (x := ⟨"java/util/List", "get", "(I)Ljava/lang/Object;"⟩) (q := (RJx4a65c, TJx4a65c, 3)) _ _ (k_Jx4a65c_get_915e3 l G _ hL q19) hl1 rfl gX4_isSatisfiedByHits_Jx4a65c_get_915e3_f41Jx4a65c B.2.2.2.2.2.2.2.2.1.1.2.2.2.2.2.2.2.2.1 (by decide +kernel) rfl rfl rfl rfl ⟨(Nat.le_of_ble_eq_true rfl), (Nat.le_of_ble_eq_true rfl)⟩ (Nat.le_of_ble_eq_true rfl) ⟨(Nat.le_of_ble_eq_true rfl), (Nat.le_of_ble_eq_true rfl)⟩ dX4_isSatisfiedByHits_27 rfl (fun r M1 hr => ?_)
          obtain ⟨rfl, rfl⟩ := hr
          obtain ⟨tl, ta, hits, hPa, -⟩ := id (hPd i q19)
          refine y_cast B hPa (q := (RX3, TX3, 3)) rfl (by decide +kernel) dX4_isSatisfiedByHits_32 ?_
          refine y_aload_n B dX4_isSatisfiedByHits_35 rfl ?_
          refine y_callV B 1 (q := (RX3, TX3, 3)) _ _ (k_X3_isTrueByHits l G _ hD hv (hPd i q19) (hok i q19) (hh i q19).1 (hh i q19).2) hPa rfl gX4_isSatisfiedByHits_X3_isTrueByHits (by decide +kernel) rfl rfl rfl rfl ⟨(Nat.le_of_ble_eq_true rfl), (Nat.le_of_ble_eq_true rfl)⟩ (Nat.le_of_ble_eq_true rfl) ⟨(Nat.le_of_ble_eq_true rfl), (Nat.le_of_ble_eq_true rfl)⟩ dX4_isSatisfiedByHits_36 rfl (fun r M1 hr => ?_)
          obtain ⟨rfl, rfl⟩ := hr
          refine y_if_eq B 44 dX4_isSatisfiedByHits_39 (by decide) (fun c39 => ?_) (fun c39 => ?_)
          · have q39 := (ai_b0 _).mp c39
            refine y_iinc B (nI (i + 1)) dX4_isSatisfiedByHits_44 rfl (nI_1 i) ?_
            refine y_goto B 2 dX4_isSatisfiedByHits_47 (by decide) ?_
            exact ih (i + 1) (by omega) (by omega) (fun t ht => by rcases Nat.lt_succ_iff_lt_or_eq.mp ht with z | z; exact ha t z; rw [z]; exact q39)
          · have q39 : ((fun p => decide (hf p = ai_pn S (3 * q + p)) && ai_all (S 8 (3 * q + p)) (fun t => decide (S 12 (4 * (3 * q + p) + t) = 0) || ai_tk S (4 * (3 * q + p) + t))) i) = true := by cases z : ((fun p => decide (hf p = ai_pn S (3 * q + p)) && ai_all (S 8 (3 * q + p)) (fun t => decide (S 12 (4 * (3 * q + p) + t) = 0) || ai_tk S (4 * (3 * q + p) + t))) i) with | true => rfl | false => exact absurd ((ai_b0 _).mpr z) c39
            refine y_iconst B (nI 1) dX4_isSatisfiedByHits_42 (by decide +kernel) ?_
            exact y_zret B dX4_isSatisfiedByHits_43 (Nat.le_of_ble_eq_true rfl) (Nat.le_of_ble_eq_true rfl) rfl (⟨by rw [decide_eq_true q6, Bool.true_and]; rw [ai_any_t q19 q39]; rfl, rfl⟩)
  refine y_iconst B (nI 0) dX4_isSatisfiedByHits_0 (by decide +kernel) ?_
  refine y_istore_n B dX4_isSatisfiedByHits_1 (Nat.le_of_ble_eq_true rfl) ?_
  exact lp (S 3 q + 1) 0 (by omega) (by omega) (fun t ht => absurd ht (Nat.not_lt_zero t))
