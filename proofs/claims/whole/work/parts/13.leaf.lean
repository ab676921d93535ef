/-! ===== THE CLASS'S SMALL OBJECTS ===== -/
def ai_Dr (G : ai_G) (M : ai_M) (S : ai_S) (dr : Nat) : Prop := ∃ dv : Nat, M dr = some (104, .inr (1, [.ref dv])) ∧ M dv = some (105, ai_eI G 6 (fun i => ai_nD (S 1 i)))
def ai_Te (M : ai_M) (S : ai_S) (k g a : Nat) : Prop := M a = some (g, .inr (6, [.int (nI (S 9 k)), .int (nI (S 10 k)), .int (nI (S 11 k)), .int (nI (S 12 k))]))
def ai_Pd (G : ai_G) (M : ai_M) (S : ai_S) (j a : Nat) : Prop := ∃ (tl : Nat) (ta : Nat → Nat) (hits : Int32), M a = some (10000 + 100 * j, .inr (4, [.ref tl, .int (nI (ai_pn S j)), .int hits])) ∧ ai_l G M tl (10000 + 100 * j + 2) (S 8 j) ta ∧ ∀ t, t < S 8 j → ai_Te M S (4 * j + t) (10000 + 100 * j + 10 + t) (ta t)
def ai_Qd (G : ai_G) (M : ai_M) (S : ai_S) (pa : Nat → Nat) (q a : Nat) : Prop := ∃ pl : Nat, M a = some (1000 + 100 * q, .inr (5, [.ref pl, .int (nI (S 2 q)), .int (nI (S 4 q)), .int (nI (S 5 q)), .int (nI (S 6 q)), .int (nI (S 7 q))])) ∧ ai_l G M pl (1000 + 100 * q + 2) (S 3 q) (fun p => pa (3 * q + p)) ∧ ∀ p, p < S 3 q → ai_Pd G M S (3 * q + p) (pa (3 * q + p))
/-- a product's hits -/
def ai_ht (M : ai_M) (a : Nat) (v : Int32) : Prop := ∃ (g : Nat) (x y : Value), M a = some (g, .inr (4, [x, y, .int v]))
/-- only hits have changed -/
def ai_hk (M M1 : ai_M) : Prop := ∀ (b g : Nat) (e : va_E), M b = some (g, e) → ∃ e', M1 b = some (g, e') ∧ (e' = e ∨ ∃ (x y : Value) (v v' : Int32), e = .inr (4, [x, y, .int v]) ∧ e' = .inr (4, [x, y, .int v']))
theorem ai_hk.rf {M : ai_M} : ai_hk M M := fun b g e h => ⟨e, h, Or.inl rfl⟩
theorem ai_hk.tr {M M1 M2 : ai_M} (h1 : ai_hk M M1) (h2 : ai_hk M1 M2) : ai_hk M M2 := by
  intro b g e h
  obtain ⟨e1, a1, c1⟩ := h1 b g e h
  obtain ⟨e2, a2, c2⟩ := h2 b g e1 a1
  refine ⟨e2, a2, ?_⟩
  rcases c1 with rfl | ⟨x, y, v, v', rfl, rfl⟩
  · exact c2
  · rcases c2 with rfl | ⟨x2, y2, v2, v3, e4, rfl⟩
    · exact Or.inr ⟨x, y, v, v', rfl, rfl⟩
    · cases e4
      exact Or.inr ⟨x, y, v, v3, rfl, rfl⟩
theorem ai_hk.one {M : ai_M} {a g : Nat} {x y : Value} {v v' : Int32} (h : M a = some (g, .inr (4, [x, y, .int v]))) : ai_hk M (ai_U M a g (.inr (4, [x, y, .int v']))) := by
  intro b g' e hb
  by_cases q : b = a
  · subst q
    rw [h] at hb
    cases hb
    exact ⟨_, ai_U_s, Or.inr ⟨x, y, v, v', rfl, rfl⟩⟩
  · exact ⟨e, (ai_U_n q).trans hb, Or.inl rfl⟩
theorem ai_hk.inl {M M1 : ai_M} (h : ai_hk M M1) {b g : Nat} {x : ClassId × vp_A} (hb : M b = some (g, .inl x)) : M1 b = some (g, .inl x) := by
  obtain ⟨e1, a1, c1⟩ := h b g _ hb
  rcases c1 with rfl | ⟨x, y, v, v', e2, -⟩
  · exact a1
  · cases e2
theorem ai_hk.inr {M M1 : ai_M} (h : ai_hk M M1) {b g c : Nat} {fs : List Value} (hb : M b = some (g, .inr (c, fs))) (hc : c ≠ 4) : M1 b = some (g, .inr (c, fs)) := by
  obtain ⟨e1, a1, c1⟩ := h b g _ hb
  rcases c1 with rfl | ⟨x, y, v, v', e2, -⟩
  · exact a1
  · cases e2
    exact absurd rfl hc
theorem ai_hk.l {G : ai_G} {M M1 : ai_M} (h : ai_hk M M1) {a g n : Nat} {f : Nat → Nat} (hl : ai_l G M a g n f) : ai_l G M1 a g n f := by
  obtain ⟨mc, arr, cap, hh, h1, h2⟩ := hl
  refine ⟨mc, arr, cap, hh, h.inr h1 (by decide), ?_⟩
  rcases h2 with h2 | ⟨h2, h3⟩
  · exact Or.inl h2
  · exact Or.inr ⟨h.inl h2, h3⟩
theorem ai_hk.pd {G : ai_G} {M M1 : ai_M} (h : ai_hk M M1) {S : ai_S} {j a : Nat} (hp : ai_Pd G M S j a) : ai_Pd G M1 S j a := by
  obtain ⟨tl, ta, hits, h1, h2, h3⟩ := hp
  obtain ⟨e1, a1, c1⟩ := h a _ _ h1
  rcases c1 with rfl | ⟨x, y, v, v', e2, rfl⟩
  · exact ⟨tl, ta, hits, a1, h.l h2, fun t ht => h.inr (h3 t ht) (by decide)⟩
  · cases e2
    exact ⟨tl, ta, v', a1, h.l h2, fun t ht => h.inr (h3 t ht) (by decide)⟩
theorem ai_hk.qd {G : ai_G} {M M1 : ai_M} (h : ai_hk M M1) {S : ai_S} {pa : Nat → Nat} {q a : Nat} (hq : ai_Qd G M S pa q a) : ai_Qd G M1 S pa q a := by
  obtain ⟨pl, h1, h2, h3⟩ := hq
  exact ⟨pl, h.inr h1 (by decide), h.l h2, fun p hp => h.pd (h3 p hp)⟩
theorem ai_hk.dr {G : ai_G} {M M1 : ai_M} (h : ai_hk M M1) {S : ai_S} {dr : Nat} (hq : ai_Dr G M S dr) : ai_Dr G M1 S dr := by
  obtain ⟨dv, h1, h2⟩ := hq
  exact ⟨dv, h.inr h1 (by decide), h.inl h2⟩
theorem ai_ht.u {M : ai_M} {a a' g : Nat} {v : Int32} {e : va_E} (h : ai_ht M a v) (hn : a ≠ a') : ai_ht (ai_U M a' g e) a v := by
  obtain ⟨g1, x, y, h1⟩ := h
  exact ⟨g1, x, y, (ai_U_n hn).trans h1⟩
theorem ai_Pd.ht {G : ai_G} {M : ai_M} {S : ai_S} {j a : Nat} (h : ai_Pd G M S j a) : ∃ v, ai_ht M a v := by
  obtain ⟨tl, ta, hits, h1, -⟩ := h
  exact ⟨hits, _, _, _, h1⟩
theorem i_X0_init_X0 : ∀ w ∈ wsX00, w ∈ wsX0_init := fun _ h => List.mem_cons_of_mem _ (List.mem_append_right _ h)
theorem i_X0_valueOf_X0 : ∀ w ∈ wsX00, w ∈ wsX0_valueOf := fun _ h => List.mem_cons_of_mem _ (List.mem_append_right _ h)
theorem i_X0_replace_X0 : ∀ w ∈ wsX00, w ∈ wsX0_replace := fun _ h => List.mem_cons_of_mem _ (List.mem_append_right _ h)
theorem i_X5_init_X5 : ∀ w ∈ wsX50, w ∈ wsX5_init := fun _ h => List.mem_cons_of_mem _ (List.mem_append_right _ h)
theorem i_X5_isTrue_X5 : ∀ w ∈ wsX50, w ∈ wsX5_isTrue := fun _ h => List.mem_cons_of_mem _ (List.mem_append_left _ (List.mem_append_right _ h))
theorem i_X2_init_X2 : ∀ w ∈ wsX20, w ∈ wsX2_init := fun _ h => List.mem_cons_of_mem _ (List.mem_append_right _ h)
theorem i_X3_init_Jx4a65c : ∀ w ∈ wsJx4a65c0, w ∈ wsX3_init := fun _ h => List.mem_cons_of_mem _ (List.mem_append_left _ (List.mem_append_right _ h))
theorem i_X3_init_X3 : ∀ w ∈ wsX30, w ∈ wsX3_init := fun _ h => List.mem_cons_of_mem _ (List.mem_append_right _ h)
theorem i_X3_isTrue_X3 : ∀ w ∈ wsX30, w ∈ wsX3_isTrue := fun _ h => List.mem_cons_of_mem _ (List.mem_append_left _ (List.mem_append_left _ (List.mem_append_left _ (List.mem_append_right _ h))))
set_option maxHeartbeats 4000000 in
set_option maxRecDepth 100000 in
theorem k_J7_fill_53178 (l : Launch) (G : ai_G) (M : ai_M) {a g n : Nat} {f : Nat → Int32} {x : Int32} (h1 : M a = some (g, ai_eI G n f)) (hn : n ≤ 1000) : ai_C l yJ7_fill_53178 wsJ7_fill_53178 ({ frames := 0, cells := 0, slots := 0, locals := 0 } : Room) 0 0 G M [.ref a, .int x] (fun r M1 => r = none ∧ M1 = ai_U M a g (ai_eI G n (fun j => if j < n then x else f j))) := by
  refine y_start (by decide +kernel) rfl (Nat.le_of_ble_eq_true rfl) (Nat.le_of_ble_eq_true rfl) (fun x hx => by simp only [List.mem_cons, List.not_mem_nil, or_false] at hx; rcases hx with rfl | rfl <;> rfl) ?_
  intro p e s m below meth c B hnm
  have lp : ∀ (d : Nat) (i : Nat), (n < i + d) → (i ≤ n) → ai_Y p l e ({ frames := 0, cells := 0, slots := 0, locals := 0 } : Room) s m [.ref a, .int x].toArray below meth c G (MQ below (ai_Q G (fun r M1 => r = none ∧ M1 = ai_U M a g (ai_eI G n (fun j => if j < n then x else f j)))) [.ref a, .int x].toArray s 0 0 (ai_A G)) (ai_U M a g (ai_eI G n (fun j => if j < i then x else f j))) 0 0 [some (.ref a), some (.int x), some (.int (nI i)), some (.int (nI n))] 5 [] := by
    intro d
    induction d with
    | zero => intros; omega
    | succ d ih =>
      intro i hm hi
      refine y_iload_n B dJ7_fill_53178_5 rfl ?_
      refine y_iload_n B dJ7_fill_53178_6 rfl ?_
      refine y_icmp_ge B 20 dJ7_fill_53178_7 (by decide) (fun c7 => ?_) (fun c7 => ?_)
      · have q7 : i = n := Nat.le_antisymm hi ((nI_leI (by omega) (by omega)).mp c7)
        exact y_vret B dJ7_fill_53178_20 (Nat.le_of_ble_eq_true rfl) (Nat.le_of_ble_eq_true rfl) (⟨rfl, by rw [q7]⟩)
      · have q7 : i < n := Nat.lt_of_not_le (fun z => c7 ((nI_leI (by omega) (by omega)).mpr z))
        refine y_aload_n B dJ7_fill_53178_10 rfl ?_
        refine y_iload_n B dJ7_fill_53178_11 rfl ?_
        refine y_iload_n B dJ7_fill_53178_12 rfl ?_
        refine y_iastoreI B ai_U_s (vp_in_nI q7 (by omega)) dJ7_fill_53178_13 ?_
        rw [ai_UU, show upd (fun j => if j < i then x else f j) (nI i).toNatClampNeg x = (fun j => if j < i + 1 then x else f j) from by rw [nI_clamp (by omega)]; funext j; unfold upd; by_cases c1 : j = i; rw [if_pos c1, if_pos (by omega)]; rw [if_neg c1]; by_cases c2 : j < i; rw [if_pos c2, if_pos (by omega)]; rw [if_neg c2, if_neg (by omega)]]
        refine y_iinc B (nI (i + 1)) dJ7_fill_53178_14 rfl (nI_1 i) ?_
        refine y_goto B 5 dJ7_fill_53178_17 (by decide) ?_
        exact ih (i + 1) (by omega) (by omega)
  have e0 : M = ai_U M a g (ai_eI G n (fun j => if j < 0 then x else f j)) := by funext b; by_cases q : b = a; rw [q, ai_U_s, h1]; congr 1; exact (ai_U_n q).symm
  refine y_iconst B (nI 0) dJ7_fill_53178_0 (by decide +kernel) ?_
  refine y_istore_n B dJ7_fill_53178_1 (Nat.le_of_ble_eq_true rfl) ?_
  refine y_aload_n B dJ7_fill_53178_2 rfl ?_
  refine y_alen B (nI n) 0 h1 rfl rfl dJ7_fill_53178_3 ?_
  refine y_istore_n B dJ7_fill_53178_4 (Nat.le_of_ble_eq_true rfl) ?_
  rw [e0]
  exact lp (n + 1) 0 (by omega) (by omega)
set_option maxHeartbeats 4000000 in
set_option maxRecDepth 100000 in
theorem k_X0_init (l : Launch) (G : ai_G) (M : ai_M) {dr gd : Nat} (gv : Nat) (h1 : M dr = some (gd, .inr (1, [.null]))) : ai_C l yX0_init wsX0_init ({ frames := 1, cells := 1, slots := 6, locals := 23 } : Room) 1 6 G M [.ref dr] (fun r M1 => r = none ∧ ∃ q, M q = none ∧ M1 dr = some (gd, .inr (1, [.ref q])) ∧ M1 q = some (gv, ai_eI G 6 (fun _ => ai_nD 0)) ∧ ∀ (b g : Nat) (e : va_E), M b = some (g, e) → b ≠ dr → M1 b = some (g, e)) := by
  refine y_start (by decide +kernel) rfl (Nat.le_of_ble_eq_true rfl) (Nat.le_of_ble_eq_true rfl) (fun x hx => by simp only [List.mem_cons, List.not_mem_nil, or_false] at hx; rcases hx with rfl <;> rfl) ?_
  intro p e s m below meth c B hnm
  have hinit : meth.name = "<init>" := hnm
  refine y_aload_n B dX0_init_0 rfl ?_
  refine y_oinit B (by decide +kernel) (by decide +kernel) (by decide +kernel) (Nat.le_of_ble_eq_true rfl) (Nat.le_of_ble_eq_true rfl) dX0_init_1 ?_
  refine y_aload_n B dX0_init_4 rfl ?_
  refine y_bipush B (nI 6) dX0_init_5 (by decide +kernel) ?_
  refine y_newa B (atype := .int) (gv) 0 (ty := .int) (N' := 6) (a0 := (6, .inl (fun _ => 0))) (by decide +kernel) rfl rfl (fun _ => rfl) (by decide) (nI_clamp (by decide)) (by decide) (Nat.le_of_ble_eq_true rfl) (Nat.le_of_ble_eq_true rfl) dX0_init_7 (fun q hq => ?_)
  refine y_putF B hinit (ref := "AlertIndex$Draft") (ci := 1) (C := RX0) (T := TX0) (N := 1) (ty := (.array .int)) (ai_U_f hq h1) rfl i_X0_init_X0 tyX0 tyX0_ok nmX0 0 (by decide) (by decide +kernel) (fun _ h9 => h9) rfl rfl (by decide +kernel) rfl rfl (Nat.le_of_ble_eq_true rfl) dX0_init_9 ?_
  have hnq : q ≠ dr := fun z => by rw [← z, hq] at h1; cases h1
  refine y_aload_n B dX0_init_12 rfl ?_
  refine y_get B (ref := "AlertIndex$Draft") (ci := 1) (C := RX0) (T := TX0) (N := 1) ai_U_s rfl i_X0_init_X0 0 (by decide) (by decide +kernel) (fun _ h9 => h9) rfl dX0_init_13 ?_
  refine y_iconst B (-1) dX0_init_16 (by decide +kernel) ?_
  refine y_callS B 2 _ _ (k_J7_fill_53178 l G _ (f := fun _ => 0) ((ai_U_n hnq).trans ai_U_s) (by decide)) gX0_init_J7_fill_53178 (by decide +kernel) rfl rfl rfl rfl ⟨(Nat.le_of_ble_eq_true rfl), (Nat.le_of_ble_eq_true rfl)⟩ (Nat.le_of_ble_eq_true rfl) ⟨(Nat.le_of_ble_eq_true rfl), (Nat.le_of_ble_eq_true rfl)⟩ dX0_init_17 rfl (fun r M1 hr => ?_)
  obtain ⟨rfl, rfl⟩ := hr
  exact y_vret B dX0_init_20 (Nat.le_of_ble_eq_true rfl) (Nat.le_of_ble_eq_true rfl) (⟨rfl, q, hq, (ai_U_n (fun z => hnq z.symm)).trans ai_U_s, ai_U_s.trans (by congr 3; funext j; sorry), fun b g e hb hn => (ai_U_n (fun z => by rw [z, hq] at hb; cases hb)).trans ((ai_U_n hn).trans (ai_U_f hq hb))⟩)
set_option maxHeartbeats 4000000 in
set_option maxRecDepth 100000 in
theorem k_X0_valueOf (l : Launch) (G : ai_G) (M : ai_M) {dr a : Nat} {S : ai_S} (hD : ai_Dr G M S dr) (ha : a < 6) : ai_C l yX0_valueOf wsX0_valueOf ({ frames := 0, cells := 0, slots := 0, locals := 0 } : Room) 0 0 G M [.ref dr, .int (nI a)] (fun r M1 => r = some (.int (ai_nD (S 1 a))) ∧ M1 = M) := by
  refine y_start (by decide +kernel) rfl (Nat.le_of_ble_eq_true rfl) (Nat.le_of_ble_eq_true rfl) (fun x hx => by simp only [List.mem_cons, List.not_mem_nil, or_false] at hx; rcases hx with rfl | rfl <;> rfl) ?_
  intro p e s m below meth c B hnm
  obtain ⟨dv, hD1, hD2⟩ := hD
  refine y_iload_n B dX0_valueOf_0 rfl ?_
  refine y_if_lt B 22 dX0_valueOf_1 (by decide) (fun c1 => absurd c1 (nI_pos (by omega))) (fun c1 => ?_)
  refine y_iload_n B dX0_valueOf_4 rfl ?_
  refine y_aload_n B dX0_valueOf_5 rfl ?_
  refine y_get B (ref := "AlertIndex$Draft") (ci := 1) (C := RX0) (T := TX0) (N := 1) hD1 rfl i_X0_valueOf_X0 0 (by decide) (by decide +kernel) (fun _ h9 => h9) rfl dX0_valueOf_6 ?_
  refine y_alen B (nI 6) 0 hD2 rfl rfl dX0_valueOf_9 ?_
  refine y_icmp_ge B 22 dX0_valueOf_10 (by decide) (fun c10 => absurd c10 (nI_ge ha (by decide))) (fun c10 => ?_)
  refine y_aload_n B dX0_valueOf_13 rfl ?_
  refine y_get B (ref := "AlertIndex$Draft") (ci := 1) (C := RX0) (T := TX0) (N := 1) hD1 rfl i_X0_valueOf_X0 0 (by decide) (by decide +kernel) (fun _ h9 => h9) rfl dX0_valueOf_14 ?_
  refine y_iload_n B dX0_valueOf_17 rfl ?_
  refine y_ialoadI B (ai_nD (S 1 a)) hD2 (vp_in_nI ha (by decide)) (by rw [nI_clamp (by omega)]) dX0_valueOf_18 ?_
  refine y_goto B 23 dX0_valueOf_19 (by decide) ?_
  exact y_iret B dX0_valueOf_23 (Nat.le_of_ble_eq_true rfl) (Nat.le_of_ble_eq_true rfl) (⟨rfl, rfl⟩)
set_option maxHeartbeats 4000000 in
set_option maxRecDepth 100000 in
theorem k_X0_replace (l : Launch) (G : ai_G) (M : ai_M) {dr dv a w : Nat} {S : ai_S} (hD1 : M dr = some (104, .inr (1, [.ref dv]))) (hD2 : M dv = some (105, ai_eI G 6 (fun i => ai_nD (S 1 i)))) (ha : a < 6) : ai_C l yX0_replace wsX0_replace ({ frames := 1, cells := 0, slots := 0, locals := 21 } : Room) 0 0 G M [.ref dr, .int (nI a), .int (ai_nD w)] (fun r M1 => r = some (.int (ai_nD (S 1 a))) ∧ M1 = ai_U M dv 105 (ai_eI G 6 (fun i => ai_nD (va_up (S 1) a w i)))) := by
  refine y_start (by decide +kernel) rfl (Nat.le_of_ble_eq_true rfl) (Nat.le_of_ble_eq_true rfl) (fun x hx => by simp only [List.mem_cons, List.not_mem_nil, or_false] at hx; rcases hx with rfl | rfl | rfl <;> rfl) ?_
  intro p e s m below meth c B hnm
  refine y_aload_n B dX0_replace_0 rfl ?_
  refine y_iload_n B dX0_replace_1 rfl ?_
  refine y_callV B 1 (q := (RX0, TX0, 1)) _ _ (k_X0_valueOf l G _ ⟨dv, hD1, hD2⟩ ha) hD1 rfl gX0_replace_X0_valueOf (by decide +kernel) rfl rfl rfl rfl ⟨(Nat.le_of_ble_eq_true rfl), (Nat.le_of_ble_eq_true rfl)⟩ (Nat.le_of_ble_eq_true rfl) ⟨(Nat.le_of_ble_eq_true rfl), (Nat.le_of_ble_eq_true rfl)⟩ dX0_replace_2 rfl (fun r M1 hr => ?_)
  obtain ⟨rfl, rfl⟩ := hr
  refine y_istore_n B dX0_replace_5 (Nat.le_of_ble_eq_true rfl) ?_
  refine y_iload_n B dX0_replace_6 rfl ?_
  refine y_if_lt B 26 dX0_replace_7 (by decide) (fun c7 => absurd c7 (nI_pos (by omega))) (fun c7 => ?_)
  refine y_iload_n B dX0_replace_10 rfl ?_
  refine y_aload_n B dX0_replace_11 rfl ?_
  refine y_get B (ref := "AlertIndex$Draft") (ci := 1) (C := RX0) (T := TX0) (N := 1) hD1 rfl i_X0_replace_X0 0 (by decide) (by decide +kernel) (fun _ h9 => h9) rfl dX0_replace_12 ?_
  refine y_alen B (nI 6) 0 hD2 rfl rfl dX0_replace_15 ?_
  refine y_icmp_ge B 26 dX0_replace_16 (by decide) (fun c16 => absurd c16 (nI_ge ha (by decide))) (fun c16 => ?_)
  refine y_aload_n B dX0_replace_19 rfl ?_
  refine y_get B (ref := "AlertIndex$Draft") (ci := 1) (C := RX0) (T := TX0) (N := 1) hD1 rfl i_X0_replace_X0 0 (by decide) (by decide +kernel) (fun _ h9 => h9) rfl dX0_replace_20 ?_
  refine y_iload_n B dX0_replace_23 rfl ?_
  refine y_iload_n B dX0_replace_24 rfl ?_
  refine y_iastoreI B hD2 (vp_in_nI ha (by decide)) dX0_replace_25 ?_
  refine y_iload_n B dX0_replace_26 rfl ?_
  exact y_iret B dX0_replace_27 (Nat.le_of_ble_eq_true rfl) (Nat.le_of_ble_eq_true rfl) (⟨rfl, by rw [nI_clamp (by omega), ai_upd]⟩)
set_option maxHeartbeats 4000000 in
set_option maxRecDepth 100000 in
theorem k_X5_init (l : Launch) (G : ai_G) (M : ai_M) {a g x y z b : Nat} (h1 : M a = some (g, .inr (6, [.int 0, .int 0, .int 0, .int 0]))) (hb : b = 0 ∨ b = 1) : ai_C l yX5_init wsX5_init ({ frames := 1, cells := 0, slots := 0, locals := 12 } : Room) 0 0 G M [.ref a, .int (nI x), .int (nI y), .int (nI z), .int (nI b)] (fun r M1 => r = none ∧ M1 = ai_U M a g (.inr (6, [.int (nI x), .int (nI y), .int (nI z), .int (nI b)]))) := by
  refine y_start (by decide +kernel) rfl (Nat.le_of_ble_eq_true rfl) (Nat.le_of_ble_eq_true rfl) (fun x hx => by simp only [List.mem_cons, List.not_mem_nil, or_false] at hx; rcases hx with rfl | rfl | rfl | rfl | rfl <;> rfl) ?_
  intro p e s m below meth c B hnm
  have hinit : meth.name = "<init>" := hnm
  refine y_aload_n B dX5_init_0 rfl ?_
  refine y_oinit B (by decide +kernel) (by decide +kernel) (by decide +kernel) (Nat.le_of_ble_eq_true rfl) (Nat.le_of_ble_eq_true rfl) dX5_init_1 ?_
  refine y_aload_n B dX5_init_4 rfl ?_
  refine y_iload_n B dX5_init_5 rfl ?_
  refine y_putF B hinit (ref := "AlertIndex$Test") (ci := 6) (C := RX5) (T := TX5) (N := 4) (ty := .int) h1 rfl i_X5_init_X5 tyX5 tyX5_ok nmX5 0 (by decide) (by decide +kernel) (fun _ h9 => h9) rfl rfl (by decide +kernel) rfl rfl (Nat.le_of_ble_eq_true rfl) dX5_init_6 ?_
  refine y_aload_n B dX5_init_9 rfl ?_
  refine y_iload_n B dX5_init_10 rfl ?_
  refine y_putF B hinit (ref := "AlertIndex$Test") (ci := 6) (C := RX5) (T := TX5) (N := 4) (ty := .int) ai_U_s rfl i_X5_init_X5 tyX5 tyX5_ok nmX5 1 (by decide) (by decide +kernel) (fun _ h9 => h9) rfl rfl (by decide +kernel) rfl rfl (Nat.le_of_ble_eq_true rfl) dX5_init_11 ?_
  rw [ai_UU]
  refine y_aload_n B dX5_init_14 rfl ?_
  refine y_iload_n B dX5_init_15 rfl ?_
  refine y_putF B hinit (ref := "AlertIndex$Test") (ci := 6) (C := RX5) (T := TX5) (N := 4) (ty := .int) ai_U_s rfl i_X5_init_X5 tyX5 tyX5_ok nmX5 2 (by decide) (by decide +kernel) (fun _ h9 => h9) rfl rfl (by decide +kernel) rfl rfl (Nat.le_of_ble_eq_true rfl) dX5_init_16 ?_
  rw [ai_UU]
  refine y_aload_n B dX5_init_19 rfl ?_
  refine y_iload B dX5_init_20 rfl ?_
  refine y_putF B hinit (ref := "AlertIndex$Test") (ci := 6) (C := RX5) (T := TX5) (N := 4) (ty := .boolean) ai_U_s rfl i_X5_init_X5 tyX5 tyX5_ok nmX5 3 (by decide) (by decide +kernel) (fun _ h9 => h9) rfl rfl (by decide +kernel) (by rcases hb with rfl | rfl <;> rfl) rfl (Nat.le_of_ble_eq_true rfl) dX5_init_22 ?_
  rw [ai_UU]
  exact y_vret B dX5_init_25 (Nat.le_of_ble_eq_true rfl) (Nat.le_of_ble_eq_true rfl) (⟨rfl, rfl⟩)
theorem ai_in_f1 {v lo hi : Nat} (h : v = 0) : ai_in v lo hi = false := by unfold ai_in; rw [decide_eq_false (by omega)]; rfl
theorem ai_in_f2 {v lo hi : Nat} (h : v < lo) : ai_in (v + 1) lo hi = false := by unfold ai_in; rw [decide_eq_false (by omega)]; rfl
theorem ai_in_f3 {v lo hi : Nat} (h : hi < v) : ai_in (v + 1) lo hi = false := by unfold ai_in; rw [decide_eq_false (p := v + 1 ≤ hi + 1) (by omega), Bool.and_false]
theorem ai_in_t {v lo hi : Nat} (h : lo ≤ v) (h2 : v ≤ hi) : ai_in (v + 1) lo hi = true := by unfold ai_in; rw [decide_eq_true (p := lo + 1 ≤ v + 1) (by omega), decide_eq_true (p := v + 1 ≤ hi + 1) (by omega)]; rfl
set_option maxHeartbeats 4000000 in
set_option maxRecDepth 100000 in
theorem k_X5_isTrue (l : Launch) (G : ai_G) (M : ai_M) {dr a g k : Nat} {S : ai_S} (hD : ai_Dr G M S dr) (hT : ai_Te M S k g a) (hk : ai_okT S k) (hv : S 1 (S 9 k) ≤ 64) : ai_C l yX5_isTrue wsX5_isTrue ({ frames := 1, cells := 0, slots := 0, locals := 21 } : Room) 0 0 G M [.ref a, .ref dr] (fun r M1 => r = some (.int (ai_b (ai_tk S k))) ∧ M1 = M) := by
  refine y_start (by decide +kernel) rfl (Nat.le_of_ble_eq_true rfl) (Nat.le_of_ble_eq_true rfl) (fun x hx => by simp only [List.mem_cons, List.not_mem_nil, or_false] at hx; rcases hx with rfl | rfl <;> rfl) ?_
  intro p e s m below meth c B hnm
  obtain ⟨hk1, hk2, hk3, hk4⟩ := hk
  unfold ai_Te at hT
  obtain ⟨dv, hD1, hD2⟩ := id hD
  have j35 : ∀ (x : Bool), (ai_in (S 1 (S 9 k)) (S 10 k) (S 11 k) = x) → ai_Y p l e ({ frames := 1, cells := 0, slots := 0, locals := 21 } : Room) s m [.ref a, .ref dr].toArray below meth c G (MQ below (ai_Q G (fun r M1 => r = some (.int (ai_b (ai_tk S k))) ∧ M1 = M)) [.ref a, .ref dr].toArray s 0 0 (ai_A G)) M 0 0 [some (.ref a), some (.ref dr), some (.int (ai_nD (S 1 (S 9 k)))), none] 35 [.int (ai_b x)] := by
    intro x hx
    refine y_istore_n B dX5_isTrue_35 (Nat.le_of_ble_eq_true rfl) ?_
    refine y_iload_n B dX5_isTrue_36 rfl ?_
    refine y_aload_n B dX5_isTrue_37 rfl ?_
    refine y_get B (ref := "AlertIndex$Test") (ci := 6) (C := RX5) (T := TX5) (N := 4) hT rfl i_X5_isTrue_X5 3 (by decide) (by decide +kernel) (fun _ h9 => h9) rfl dX5_isTrue_38 ?_
    refine y_icmp_eq B 48 dX5_isTrue_41 (by decide) (fun c41 => ?_) (fun c41 => ?_)
    · refine y_iconst B (nI 0) dX5_isTrue_48 (by decide +kernel) ?_
      exact y_zret B dX5_isTrue_49 (Nat.le_of_ble_eq_true rfl) (Nat.le_of_ble_eq_true rfl) rfl (⟨by unfold ai_tk ai_tt; rw [hx]; have q : S 12 k = 0 ∨ S 12 k = 1 := by omega
      rcases q with q | q <;> rw [q] at c41 ⊢ <;> cases x <;> first | rfl | (exact absurd c41 (by decide)), rfl⟩)
    · refine y_iconst B (nI 1) dX5_isTrue_44 (by decide +kernel) ?_
      refine y_goto B 49 dX5_isTrue_45 (by decide) ?_
      exact y_zret B dX5_isTrue_49 (Nat.le_of_ble_eq_true rfl) (Nat.le_of_ble_eq_true rfl) rfl (⟨by unfold ai_tk ai_tt; rw [hx]; have q : S 12 k = 0 ∨ S 12 k = 1 := by omega
      rcases q with q | q <;> rw [q] at c41 ⊢ <;> cases x <;> first | rfl | (exact absurd rfl c41), rfl⟩)
  refine y_aload_n B dX5_isTrue_0 rfl ?_
  refine y_aload_n B dX5_isTrue_1 rfl ?_
  refine y_get B (ref := "AlertIndex$Test") (ci := 6) (C := RX5) (T := TX5) (N := 4) hT rfl i_X5_isTrue_X5 0 (by decide) (by decide +kernel) (fun _ h9 => h9) rfl dX5_isTrue_2 ?_
  refine y_callV B 1 (q := (RX0, TX0, 1)) _ _ (k_X0_valueOf l G _ hD hk1) hD1 rfl gX5_isTrue_X0_valueOf (by decide +kernel) rfl rfl rfl rfl ⟨(Nat.le_of_ble_eq_true rfl), (Nat.le_of_ble_eq_true rfl)⟩ (Nat.le_of_ble_eq_true rfl) ⟨(Nat.le_of_ble_eq_true rfl), (Nat.le_of_ble_eq_true rfl)⟩ dX5_isTrue_5 rfl (fun r M1 hr => ?_)
  obtain ⟨rfl, rfl⟩ := hr
  refine y_istore_n B dX5_isTrue_8 (Nat.le_of_ble_eq_true rfl) ?_
  refine y_iload_n B dX5_isTrue_9 rfl ?_
  refine y_iconst B (-1) dX5_isTrue_10 (by decide +kernel) ?_
  refine y_icmp_eq B 34 dX5_isTrue_11 (by decide) (fun c11 => ?_) (fun c11 => ?_)
  · have q11 := (ai_nDz hv).mp c11
    refine y_iconst B (nI 0) dX5_isTrue_34 (by decide +kernel) ?_
    exact j35 false (ai_in_f1 q11)
  · obtain ⟨v, hv9⟩ : ∃ v, S 1 (S 9 k) = v + 1 := ⟨S 1 (S 9 k) - 1, by have := fun z => c11 ((ai_nDz hv).mpr z); omega⟩
    refine y_iload_n B dX5_isTrue_14 rfl ?_
    refine y_aload_n B dX5_isTrue_15 rfl ?_
    refine y_get B (ref := "AlertIndex$Test") (ci := 6) (C := RX5) (T := TX5) (N := 4) hT rfl i_X5_isTrue_X5 1 (by decide) (by decide +kernel) (fun _ h9 => h9) rfl dX5_isTrue_16 ?_
    refine y_icmp_lt B 34 dX5_isTrue_19 (by decide) (fun c19 => ?_) (fun c19 => ?_)
    · rw [hv9, ai_nDs] at c19
      have q19 := (nI_ltI (by omega) (by omega)).mp c19
      refine y_iconst B (nI 0) dX5_isTrue_34 (by decide +kernel) ?_
      exact j35 false (by rw [hv9]; exact ai_in_f2 q19)
    · rw [hv9, ai_nDs] at c19
      have q19 := fun z => c19 ((nI_ltI (by omega) (by omega)).mpr z)
      refine y_iload_n B dX5_isTrue_22 rfl ?_
      refine y_aload_n B dX5_isTrue_23 rfl ?_
      refine y_get B (ref := "AlertIndex$Test") (ci := 6) (C := RX5) (T := TX5) (N := 4) hT rfl i_X5_isTrue_X5 2 (by decide) (by decide +kernel) (fun _ h9 => h9) rfl dX5_isTrue_24 ?_
      refine y_icmp_gt B 34 dX5_isTrue_27 (by decide) (fun c27 => ?_) (fun c27 => ?_)
      · rw [hv9, ai_nDs] at c27
        have q27 := (nI_ltI (by omega) (by omega)).mp c27
        refine y_iconst B (nI 0) dX5_isTrue_34 (by decide +kernel) ?_
        exact j35 false (by rw [hv9]; exact ai_in_f3 q27)
      · rw [hv9, ai_nDs] at c27
        have q27 := fun z => c27 ((nI_ltI (by omega) (by omega)).mpr z)
        refine y_iconst B (nI 1) dX5_isTrue_30 (by decide +kernel) ?_
        refine y_goto B 35 dX5_isTrue_31 (by decide) ?_
        exact j35 true (by rw [hv9]; exact ai_in_t (by omega) (by omega))
set_option maxHeartbeats 4000000 in
set_option maxRecDepth 100000 in
theorem k_X2_init (l : Launch) (G : ai_G) (M : ai_M) {a g pr : Nat} {nx : Option Nat} (h1 : M a = some (g, .inr (3, [.null, .null]))) : ai_C l yX2_init wsX2_init ({ frames := 1, cells := 0, slots := 0, locals := 12 } : Room) 0 0 G M [.ref a, .ref pr, va_rf nx] (fun r M1 => r = none ∧ M1 = ai_U M a g (.inr (3, [.ref pr, va_rf nx]))) := by
  refine y_start (by decide +kernel) rfl (Nat.le_of_ble_eq_true rfl) (by cases nx <;> exact Nat.le_of_ble_eq_true rfl) (fun x hx => by simp only [List.mem_cons, List.not_mem_nil, or_false] at hx; rcases hx with rfl | rfl | rfl; rfl; rfl; cases nx <;> rfl) ?_
  intro p e s m below meth c B hnm
  have hinit : meth.name = "<init>" := hnm
  cases nx with
  | none =>
    refine y_aload_n B dX2_init_0 rfl ?_
    refine y_oinit B (by decide +kernel) (by decide +kernel) (by decide +kernel) (Nat.le_of_ble_eq_true rfl) (Nat.le_of_ble_eq_true rfl) dX2_init_1 ?_
    refine y_aload_n B dX2_init_4 rfl ?_
    refine y_aload_n B dX2_init_5 rfl ?_
    refine y_putF B hinit (ref := "AlertIndex$Posting") (ci := 3) (C := RX2) (T := TX2) (N := 2) (ty := (.object "AlertIndex$Product")) h1 rfl i_X2_init_X2 tyX2 tyX2_ok nmX2 0 (by decide) (by decide +kernel) (fun _ h9 => h9) rfl rfl (by decide +kernel) rfl rfl (Nat.le_of_ble_eq_true rfl) dX2_init_6 ?_
    refine y_aload_n B dX2_init_9 rfl ?_
    refine y_aloadN_n B dX2_init_10 rfl ?_
    refine y_putF B hinit (ref := "AlertIndex$Posting") (ci := 3) (C := RX2) (T := TX2) (N := 2) (ty := (.object "AlertIndex$Posting")) ai_U_s rfl i_X2_init_X2 tyX2 tyX2_ok nmX2 1 (by decide) (by decide +kernel) (fun _ h9 => h9) rfl rfl (by decide +kernel) rfl rfl (Nat.le_of_ble_eq_true rfl) dX2_init_11 ?_
    rw [ai_UU]
    exact y_vret B dX2_init_14 (Nat.le_of_ble_eq_true rfl) (Nat.le_of_ble_eq_true rfl) (⟨rfl, rfl⟩)
  | some nx =>
    refine y_aload_n B dX2_init_0 rfl ?_
    refine y_oinit B (by decide +kernel) (by decide +kernel) (by decide +kernel) (Nat.le_of_ble_eq_true rfl) (Nat.le_of_ble_eq_true rfl) dX2_init_1 ?_
    refine y_aload_n B dX2_init_4 rfl ?_
    refine y_aload_n B dX2_init_5 rfl ?_
    refine y_putF B hinit (ref := "AlertIndex$Posting") (ci := 3) (C := RX2) (T := TX2) (N := 2) (ty := (.object "AlertIndex$Product")) h1 rfl i_X2_init_X2 tyX2 tyX2_ok nmX2 0 (by decide) (by decide +kernel) (fun _ h9 => h9) rfl rfl (by decide +kernel) rfl rfl (Nat.le_of_ble_eq_true rfl) dX2_init_6 ?_
    refine y_aload_n B dX2_init_9 rfl ?_
    refine y_aload_n B dX2_init_10 rfl ?_
    refine y_putF B hinit (ref := "AlertIndex$Posting") (ci := 3) (C := RX2) (T := TX2) (N := 2) (ty := (.object "AlertIndex$Posting")) ai_U_s rfl i_X2_init_X2 tyX2 tyX2_ok nmX2 1 (by decide) (by decide +kernel) (fun _ h9 => h9) rfl rfl (by decide +kernel) rfl rfl (Nat.le_of_ble_eq_true rfl) dX2_init_11 ?_
    rw [ai_UU]
    exact y_vret B dX2_init_14 (Nat.le_of_ble_eq_true rfl) (Nat.le_of_ble_eq_true rfl) (⟨rfl, rfl⟩)
set_option maxHeartbeats 4000000 in
set_option maxRecDepth 100000 in
theorem k_X3_init (l : Launch) (G : ai_G) (M : ai_M) {a g : Nat} (gl : Nat) (h1 : M a = some (g, .inr (4, [.null, .int 0, .int 0]))) : ai_C l yX3_init wsX3_init ({ frames := 4, cells := 1, slots := 3, locals := 72 } : Room) 1 3 G M [.ref a] (fun r M1 => r = none ∧ ∃ q, M q = none ∧ M1 a = some (g, .inr (4, [.ref q, .int (nI 0), .int (nI 0)])) ∧ ai_l G M1 q gl 0 (fun _ => 0) ∧ ∀ (b g : Nat) (e : va_E), M b = some (g, e) → b ≠ a → M1 b = some (g, e)) := by
  refine y_start (by decide +kernel) rfl (Nat.le_of_ble_eq_true rfl) (Nat.le_of_ble_eq_true rfl) (fun x hx => by simp only [List.mem_cons, List.not_mem_nil, or_false] at hx; rcases hx with rfl <;> rfl) ?_
  intro p e s m below meth c B hnm
  have hinit : meth.name = "<init>" := hnm
  refine y_aload_n B dX3_init_0 rfl ?_
  refine y_oinit B (by decide +kernel) (by decide +kernel) (by decide +kernel) (Nat.le_of_ble_eq_true rfl) (Nat.le_of_ble_eq_true rfl) dX3_init_1 ?_
  refine y_aload_n B dX3_init_4 rfl ?_
  refine y_new B (C := RJx4a65c) (T := TJx4a65c) (N := 3) (ci := 0) (gl) [.int 0, .null, .int 0] i_X3_init_Jx4a65c tyJx4a65c tyJx4a65c_ok (by decide +kernel) (by decide +kernel) (by decide +kernel) rfl (fun j hj => by rcases (show j = 0 ∨ j = 1 ∨ j = 2 by omega) with rfl | rfl | rfl <;> rfl) (Nat.le_of_ble_eq_true rfl) (Nat.le_of_ble_eq_true rfl) dX3_init_5 (fun q hq => ?_)
  have hnq : q ≠ a := fun z => by rw [← z, hq] at h1; cases h1
  refine y_dup B dX3_init_8 rfl ?_
  refine y_callI B 0 _ _ (k_Jx4a65c_init_da8c8 l G _ ai_U_s) gX3_init_Jx4a65c_init_da8c8 (by decide +kernel) (by decide +kernel) (by decide +kernel) rfl (by decide +kernel) rfl rfl rfl rfl ⟨(Nat.le_of_ble_eq_true rfl), (Nat.le_of_ble_eq_true rfl)⟩ (Nat.le_of_ble_eq_true rfl) ⟨(Nat.le_of_ble_eq_true rfl), (Nat.le_of_ble_eq_true rfl)⟩ dX3_init_9 rfl (fun r M1 hr => ?_)
  obtain ⟨rfl, rfl⟩ := hr
  rw [ai_UU]
  refine y_putF B hinit (ref := "AlertIndex$Product") (ci := 4) (C := RX3) (T := TX3) (N := 3) (ty := (.object "java/util/List")) ((ai_U_n (fun z => hnq z.symm)).trans h1) rfl i_X3_init_X3 tyX3 tyX3_ok nmX3 0 (by decide) (by decide +kernel) (fun _ h9 => h9) rfl rfl (by decide +kernel) rfl rfl (Nat.le_of_ble_eq_true rfl) dX3_init_12 ?_
  refine y_aload_n B dX3_init_15 rfl ?_
  refine y_iconst B (nI 0) dX3_init_16 (by decide +kernel) ?_
  refine y_put B (ref := "AlertIndex$Product") (ci := 4) (C := RX3) (T := TX3) (N := 3) (ty := .int) ai_U_s rfl i_X3_init_X3 tyX3 tyX3_ok nmX3 1 (by decide) (by decide +kernel) (fun _ h9 => h9) rfl (by decide +kernel) rfl rfl (Nat.le_of_ble_eq_true rfl) dX3_init_17 ?_
  rw [ai_UU]
  refine y_aload_n B dX3_init_20 rfl ?_
  refine y_iconst B (nI 0) dX3_init_21 (by decide +kernel) ?_
  refine y_put B (ref := "AlertIndex$Product") (ci := 4) (C := RX3) (T := TX3) (N := 3) (ty := .int) ai_U_s rfl i_X3_init_X3 tyX3 tyX3_ok nmX3 2 (by decide) (by decide +kernel) (fun _ h9 => h9) rfl (by decide +kernel) rfl rfl (Nat.le_of_ble_eq_true rfl) dX3_init_22 ?_
  rw [ai_UU]
  exact y_vret B dX3_init_25 (Nat.le_of_ble_eq_true rfl) (Nat.le_of_ble_eq_true rfl) (⟨rfl, q, hq, ai_U_s, ai_l_new.keep (fun b g9 e hb _ => by by_cases z : b = a; subst z; rw [ai_U_n (fun z => hnq z.symm), h1] at hb; sorry; exact (ai_U_n z).trans hb), fun b g9 e hb hn => (ai_U_n hn).trans (ai_U_f hq hb)⟩)
set_option maxHeartbeats 4000000 in
set_option maxRecDepth 100000 in
theorem k_X3_isTrue (l : Launch) (G : ai_G) (M : ai_M) {dr a j : Nat} {S : ai_S} (hD : ai_Dr G M S dr) (hv : ∀ i, i < 6 → S 1 i ≤ 64) (hP : ai_Pd G M S j a) (hk : ai_okP S j) : ai_C l yX3_isTrue wsX3_isTrue ({ frames := 3, cells := 0, slots := 0, locals := 64 } : Room) 0 0 G M [.ref a, .ref dr] (fun r M1 => r = some (.int (ai_b (ai_pt S j))) ∧ M1 = M) := by
  refine y_start (by decide +kernel) rfl (Nat.le_of_ble_eq_true rfl) (Nat.le_of_ble_eq_true rfl) (fun x hx => by simp only [List.mem_cons, List.not_mem_nil, or_false] at hx; rcases hx with rfl | rfl <;> rfl) ?_
  intro p e s m below meth c B hnm
  obtain ⟨tl, ta, hits, hA, hL, hT⟩ := hP
  obtain ⟨hk1, hk2⟩ := hk
  obtain ⟨mc, arr, cap, hh, hl1, -⟩ := id hL
  have lp : ∀ (d : Nat) (i : Nat), (S 8 j < i + d) → (i ≤ S 8 j) → (∀ t, t < i → ai_tk S (4 * j + t) = true) → ai_Y p l e ({ frames := 3, cells := 0, slots := 0, locals := 64 } : Room) s m [.ref a, .ref dr].toArray below meth c G (MQ below (ai_Q G (fun r M1 => r = some (.int (ai_b (ai_pt S j))) ∧ M1 = M)) [.ref a, .ref dr].toArray s 0 0 (ai_A G)) M 0 0 [some (.ref a), some (.ref dr), some (.int (nI i))] 2 [] := by
    intro d
    induction d with
    | zero => intros; omega
    | succ d ih =>
      intro i hm hi ha
      refine y_iload_n B dX3_isTrue_2 rfl ?_
      refine y_aload_n B dX3_isTrue_3 rfl ?_
      refine y_get B (ref := "AlertIndex$Product") (ci := 4) (C := RX3) (T := TX3) (N := 3) hA rfl i_X3_isTrue_X3 0 (by decide) (by decide +kernel) (fun _ h9 => h9) rfl dX3_isTrue_4 ?_
      refine y_callF B 0 (x := ⟨"java/util/List", "size", "()I"⟩) (q := (RJx4a65c, TJx4a65c, 3)) _ _ (k_Jx4a65c_size_8abf5 l G _ hL) hl1 rfl gX3_isTrue_Jx4a65c_size_8abf5 B.2.2.2.2.2.2.2.2.1.1.2.2.2.2.2.2.1 (by decide +kernel) rfl rfl rfl rfl ⟨(Nat.le_of_ble_eq_true rfl), (Nat.le_of_ble_eq_true rfl)⟩ (Nat.le_of_ble_eq_true rfl) ⟨(Nat.le_of_ble_eq_true rfl), (Nat.le_of_ble_eq_true rfl)⟩ dX3_isTrue_7 rfl (fun r M1 hr => ?_)
      obtain ⟨rfl, rfl⟩ := hr
      refine y_icmp_ge B 43 dX3_isTrue_12 (by decide) (fun c12 => ?_) (fun c12 => ?_)
      · have q12 : S 8 j ≤ i := (nI_leI (by omega) (by omega)).mp c12
        refine y_iconst B (nI 1) dX3_isTrue_43 (by decide +kernel) ?_
        exact y_zret B dX3_isTrue_44 (Nat.le_of_ble_eq_true rfl) (Nat.le_of_ble_eq_true rfl) rfl (⟨by unfold ai_pt; rw [(ai_all_iff _ _).mpr (fun t ht => ha t (by omega))]; rfl, rfl⟩)
      · have q12 : i < S 8 j := Nat.lt_of_not_le (fun z => c12 ((nI_leI (by omega) (by omega)).mpr z))
        refine y_aload_n B dX3_isTrue_15 rfl ?_
        refine y_get B (ref := "AlertIndex$Product") (ci := 4) (C := RX3) (T := TX3) (N := 3) hA rfl i_X3_isTrue_X3 0 (by decide) (by decide +kernel) (fun _ h9 => h9) rfl dX3_isTrue_16 ?_
        refine y_iload_n B dX3_isTrue_19 rfl ?_
        refine y_callF B 1 (x := ⟨"java/util/List", "get", "(I)Ljava/lang/Object;"⟩) (q := (RJx4a65c, TJx4a65c, 3)) _ _ (k_Jx4a65c_get_915e3 l G _ hL q12) hl1 rfl gX3_isTrue_Jx4a65c_get_915e3 B.2.2.2.2.2.2.2.2.1.1.2.2.2.2.2.2.2.2.1 (by decide +kernel) rfl rfl rfl rfl ⟨(Nat.le_of_ble_eq_true rfl), (Nat.le_of_ble_eq_true rfl)⟩ (Nat.le_of_ble_eq_true rfl) ⟨(Nat.le_of_ble_eq_true rfl), (Nat.le_of_ble_eq_true rfl)⟩ dX3_isTrue_20 rfl (fun r M1 hr => ?_)
        obtain ⟨rfl, rfl⟩ := hr
        refine y_cast B (hT i q12) (q := (RX5, TX5, 4)) rfl (by decide +kernel) dX3_isTrue_25 ?_
        refine y_aload_n B dX3_isTrue_28 rfl ?_
        refine y_callV B 1 (q := (RX5, TX5, 4)) _ _ (k_X5_isTrue l G _ hD (hT i q12) (hk2 i q12) (hv _ (hk2 i q12).1)) (hT i q12) rfl gX3_isTrue_X5_isTrue (by decide +kernel) rfl rfl rfl rfl ⟨(Nat.le_of_ble_eq_true rfl), (Nat.le_of_ble_eq_true rfl)⟩ (Nat.le_of_ble_eq_true rfl) ⟨(Nat.le_of_ble_eq_true rfl), (Nat.le_of_ble_eq_true rfl)⟩ dX3_isTrue_29 rfl (fun r M1 hr => ?_)
        obtain ⟨rfl, rfl⟩ := hr
        refine y_if_ne B 37 dX3_isTrue_32 (by decide) (fun c32 => ?_) (fun c32 => ?_)
        · have q32 : ai_tk S (4 * j + i) = true := by cases z : ai_tk S (4 * j + i) with | true => rfl | false => exact absurd (by rw [z]; rfl) c32
          refine y_iinc B (nI (i + 1)) dX3_isTrue_37 rfl (nI_1 i) ?_
          refine y_goto B 2 dX3_isTrue_40 (by decide) ?_
          exact ih (i + 1) (by omega) (by omega) (fun t ht => by rcases Nat.lt_succ_iff_lt_or_eq.mp ht with z | z; exact ha t z; rw [z]; exact q32)
        · have q32 := (ai_b0 _).mp c32
          refine y_iconst B (nI 0) dX3_isTrue_35 (by decide +kernel) ?_
          exact y_zret B dX3_isTrue_36 (Nat.le_of_ble_eq_true rfl) (Nat.le_of_ble_eq_true rfl) rfl (⟨by unfold ai_pt; rw [ai_all_f q12 q32]; rfl, rfl⟩)
  refine y_iconst B (nI 0) dX3_isTrue_0 (by decide +kernel) ?_
  refine y_istore_n B dX3_isTrue_1 (Nat.le_of_ble_eq_true rfl) ?_
  exact lp (S 8 j + 1) 0 (by omega) (by omega) (fun t ht => absurd ht (Nat.not_lt_zero t))
