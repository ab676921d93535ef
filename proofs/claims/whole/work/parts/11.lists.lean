/-! ===== LISTS: a list at a (tag g) holds n elements f 0 .. f (n - 1); its row has the tag g + 1 ===== -/
def ai_l (G : ai_G) (M : ai_M) (a g n : Nat) (f : Nat → Nat) : Prop := ∃ (mc : Int32) (arr cap : Nat) (h : Nat → Option Nat), M a = some (g, .inr (0, [.int mc, .ref arr, .int (nI n)])) ∧ ((n = 0 ∧ arr = G.2.2.1 0 ∧ cap = 0) ∨ (M arr = some (g + 1, ai_eO G cap h) ∧ n ≤ cap ∧ 10 ≤ cap ∧ cap ≤ 40 ∧ ∀ i, i < n → h i = some (f i)))
theorem ai_l.keep {G : ai_G} {M M' : ai_M} {a g n : Nat} {f : Nat → Nat} (h : ai_l G M a g n f) (hk : ∀ (b g' : Nat) (e : va_E), M b = some (g', e) → g' = g ∨ g' = g + 1 → M' b = some (g', e)) : ai_l G M' a g n f := by
  obtain ⟨mc, arr, cap, hh, h1, h2⟩ := h
  refine ⟨mc, arr, cap, hh, hk _ _ _ h1 (Or.inl rfl), ?_⟩
  rcases h2 with h2 | ⟨h2, h3⟩
  · exact Or.inl h2
  · exact Or.inr ⟨hk _ _ _ h2 (Or.inr rfl), h3⟩
theorem ai_l.cong {G : ai_G} {M : ai_M} {a g n : Nat} {f f' : Nat → Nat} (h : ai_l G M a g n f) (hk : ∀ i, i < n → f i = f' i) : ai_l G M a g n f' := by
  obtain ⟨mc, arr, cap, hh, h1, h2⟩ := h
  refine ⟨mc, arr, cap, hh, h1, ?_⟩
  rcases h2 with h2 | ⟨h2, h3, h4, h5, h6⟩
  · exact Or.inl h2
  · exact Or.inr ⟨h2, h3, h4, h5, fun i hi => by rw [h6 i hi, hk i hi]⟩
theorem ai_l.bd {G : ai_G} {M : ai_M} {a g n : Nat} {f : Nat → Nat} (h : ai_l G M a g n f) : n ≤ 40 := by
  obtain ⟨mc, arr, cap, hh, h1, h2⟩ := h
  rcases h2 with ⟨h2, -⟩ | ⟨-, h3, -, h5, -⟩
  · omega
  · omega
/-- all that has another tag than a list's stays -/
def ai_kl (M M' : ai_M) (g : Nat) : Prop := ∀ (b g' : Nat) (e : va_E), M b = some (g', e) → g' ≠ g → g' ≠ g + 1 → M' b = some (g', e)
theorem ai_U_k {M : ai_M} {a b g g0 g' : Nat} {e e0 e' : va_E} (ha : M a = some (g0, e0)) (hb : M b = some (g', e')) (hg : g' ≠ g0) : ai_U M a g e b = some (g', e') := (ai_U_n (ai_ne hb ha hg)).trans hb
theorem ai_U_f {M : ai_M} {a b g g' : Nat} {e e' : va_E} (ha : M a = none) (hb : M b = some (g', e')) : ai_U M a g e b = some (g', e') := (ai_U_n (fun z => by rw [z, ha] at hb; cases hb)).trans hb
theorem ai_UU {M : ai_M} {a g g' : Nat} {e e' : va_E} : ai_U (ai_U M a g e) a g' e' = ai_U M a g' e' := by
  funext q
  unfold ai_U
  by_cases h : q = a
  · rw [if_pos h, if_pos h]
  · rw [if_neg h, if_neg h, if_neg h]
theorem i_Jx4a65c_size_8abf5_Jx4a65c : ∀ w ∈ wsJx4a65c0, w ∈ wsJx4a65c_size_8abf5 := fun _ h => List.mem_cons_of_mem _ (List.mem_append_right _ h)
theorem i_Jx4a65c_isEmpty_aae02_Jx4a65c : ∀ w ∈ wsJx4a65c0, w ∈ wsJx4a65c_isEmpty_aae02 := fun _ h => List.mem_cons_of_mem _ (List.mem_append_right _ h)
theorem i_Jx4a65c_elementData_915e3_Jx4a65c : ∀ w ∈ wsJx4a65c0, w ∈ wsJx4a65c_elementData_915e3 := fun _ h => List.mem_cons_of_mem _ (List.mem_append_right _ h)
theorem i_Jx4a65c_get_915e3_Jx4a65c : ∀ w ∈ wsJx4a65c0, w ∈ wsJx4a65c_get_915e3 := fun _ h => List.mem_cons_of_mem _ (List.mem_append_right _ h)
theorem i_Jxc12de_init_da8c8_Jx4a65c : ∀ w ∈ wsJx4a65c0, w ∈ wsJxc12de_init_da8c8 := fun _ h => List.mem_cons_of_mem _ (List.mem_append_right _ h)
theorem i_Jx4a65c_init_da8c8_Jx4a65c : ∀ w ∈ wsJx4a65c0, w ∈ wsJx4a65c_init_da8c8 := fun _ h => List.mem_cons_of_mem _ (List.mem_append_right _ h)
theorem i_Jx4a65c_grow_92f84_Jx4a65c : ∀ w ∈ wsJx4a65c0, w ∈ wsJx4a65c_grow_92f84 := fun _ h => List.mem_cons_of_mem _ (List.mem_append_right _ h)
theorem i_Jx4a65c_grow_d5877_Jx4a65c : ∀ w ∈ wsJx4a65c0, w ∈ wsJx4a65c_grow_d5877 := fun _ h => List.mem_cons_of_mem _ (List.mem_append_right _ h)
theorem i_Jx4a65c_add_72be8_Jx4a65c : ∀ w ∈ wsJx4a65c0, w ∈ wsJx4a65c_add_72be8 := fun _ h => List.mem_cons_of_mem _ (List.mem_append_right _ h)
theorem i_Jx4a65c_add_9ea2d_Jx4a65c : ∀ w ∈ wsJx4a65c0, w ∈ wsJx4a65c_add_9ea2d := fun _ h => List.mem_cons_of_mem _ (List.mem_append_right _ h)
set_option maxHeartbeats 4000000 in
set_option maxRecDepth 100000 in
theorem k_Jx4a65c_size_8abf5 (l : Launch) (G : ai_G) (M : ai_M) {a g n : Nat} {f : Nat → Nat} (hl : ai_l G M a g n f) : ai_C l yJx4a65c_size_8abf5 wsJx4a65c_size_8abf5 ({ frames := 0, cells := 0, slots := 0, locals := 0 } : Room) 0 0 G M [.ref a] (fun r M1 => r = some (.int (nI n)) ∧ M1 = M) := by
  refine y_start (by decide +kernel) rfl (Nat.le_of_ble_eq_true rfl) (Nat.le_of_ble_eq_true rfl) (fun x hx => by simp only [List.mem_cons, List.not_mem_nil, or_false] at hx; rcases hx with rfl <;> rfl) ?_
  intro p e s m below meth c B hnm
  obtain ⟨mc, arr, cap, hh, h1, h2⟩ := hl
  refine y_aload_n B dJx4a65c_size_8abf5_0 rfl ?_
  refine y_get B (ref := "java/util/ArrayList") (ci := 0) (C := RJx4a65c) (T := TJx4a65c) (N := 3) h1 rfl i_Jx4a65c_size_8abf5_Jx4a65c 2 (by decide) (by decide +kernel) (fun _ h9 => h9) rfl dJx4a65c_size_8abf5_1 ?_
  exact y_iret B dJx4a65c_size_8abf5_4 (Nat.le_of_ble_eq_true rfl) (Nat.le_of_ble_eq_true rfl) (⟨rfl, rfl⟩)
set_option maxHeartbeats 4000000 in
set_option maxRecDepth 100000 in
theorem k_Jx4a65c_isEmpty_aae02 (l : Launch) (G : ai_G) (M : ai_M) {a g n : Nat} {f : Nat → Nat} (hl : ai_l G M a g n f) : ai_C l yJx4a65c_isEmpty_aae02 wsJx4a65c_isEmpty_aae02 ({ frames := 0, cells := 0, slots := 0, locals := 0 } : Room) 0 0 G M [.ref a] (fun r M1 => r = some (.int (if n = 0 then 1 else 0)) ∧ M1 = M) := by
  refine y_start (by decide +kernel) rfl (Nat.le_of_ble_eq_true rfl) (Nat.le_of_ble_eq_true rfl) (fun x hx => by simp only [List.mem_cons, List.not_mem_nil, or_false] at hx; rcases hx with rfl <;> rfl) ?_
  intro p e s m below meth c B hnm
  have hb := hl.bd
  obtain ⟨mc, arr, cap, hh, h1, h2⟩ := hl
  refine y_aload_n B dJx4a65c_isEmpty_aae02_0 rfl ?_
  refine y_get B (ref := "java/util/ArrayList") (ci := 0) (C := RJx4a65c) (T := TJx4a65c) (N := 3) h1 rfl i_Jx4a65c_isEmpty_aae02_Jx4a65c 2 (by decide) (by decide +kernel) (fun _ h9 => h9) rfl dJx4a65c_isEmpty_aae02_1 ?_
  refine y_if_ne B 11 dJx4a65c_isEmpty_aae02_4 (by decide) (fun c4 => ?_) (fun c4 => ?_)
  · refine y_iconst B (nI 0) dJx4a65c_isEmpty_aae02_11 (by decide +kernel) ?_
    exact y_zret B dJx4a65c_isEmpty_aae02_12 (Nat.le_of_ble_eq_true rfl) (Nat.le_of_ble_eq_true rfl) rfl (⟨by rw [if_neg (fun z => c4 (by rw [z]; rfl))]; rfl, rfl⟩)
  · refine y_iconst B (nI 1) dJx4a65c_isEmpty_aae02_7 (by decide +kernel) ?_
    refine y_goto B 12 dJx4a65c_isEmpty_aae02_8 (by decide) ?_
    exact y_zret B dJx4a65c_isEmpty_aae02_12 (Nat.le_of_ble_eq_true rfl) (Nat.le_of_ble_eq_true rfl) rfl (⟨by rw [if_pos ((nI_eq (by omega) (by decide)).mp c4)]; rfl, rfl⟩)
set_option maxHeartbeats 4000000 in
set_option maxRecDepth 100000 in
theorem k_J3_checkIndex_8e157 (l : Launch) (G : ai_G) (M : ai_M) {i n : Nat} (hi : i < n) (hn : n < 2 ^ 31) : ai_C l yJ3_checkIndex_8e157 wsJ3_checkIndex_8e157 ({ frames := 0, cells := 0, slots := 0, locals := 0 } : Room) 0 0 G M [.int (nI i), .int (nI n), .null] (fun r M1 => r = some (.int (nI i)) ∧ M1 = M) := by
  refine y_start (by decide +kernel) rfl (Nat.le_of_ble_eq_true rfl) (Nat.le_of_ble_eq_true rfl) (fun x hx => by simp only [List.mem_cons, List.not_mem_nil, or_false] at hx; rcases hx with rfl | rfl | rfl <;> rfl) ?_
  intro p e s m below meth c B hnm
  refine y_iload_n B dJ3_checkIndex_8e157_0 rfl ?_
  refine y_if_lt B 9 dJ3_checkIndex_8e157_1 (by decide) (fun c1 => absurd c1 (nI_pos (by omega))) (fun c1 => ?_)
  refine y_iload_n B dJ3_checkIndex_8e157_4 rfl ?_
  refine y_iload_n B dJ3_checkIndex_8e157_5 rfl ?_
  refine y_icmp_lt B 16 dJ3_checkIndex_8e157_6 (by decide) (fun c6 => ?_) (fun c6 => absurd (nI_lt hi hn) c6)
  refine y_iload_n B dJ3_checkIndex_8e157_16 rfl ?_
  exact y_iret B dJ3_checkIndex_8e157_17 (Nat.le_of_ble_eq_true rfl) (Nat.le_of_ble_eq_true rfl) (⟨rfl, rfl⟩)
set_option maxHeartbeats 4000000 in
set_option maxRecDepth 100000 in
theorem k_J15_checkIndex_7cf53 (l : Launch) (G : ai_G) (M : ai_M) {i n : Nat} (hi : i < n) (hn : n < 2 ^ 31) : ai_C l yJ15_checkIndex_7cf53 wsJ15_checkIndex_7cf53 ({ frames := 1, cells := 0, slots := 0, locals := 22 } : Room) 0 0 G M [.int (nI i), .int (nI n)] (fun r M1 => r = some (.int (nI i)) ∧ M1 = M) := by
  refine y_start (by decide +kernel) rfl (Nat.le_of_ble_eq_true rfl) (Nat.le_of_ble_eq_true rfl) (fun x hx => by simp only [List.mem_cons, List.not_mem_nil, or_false] at hx; rcases hx with rfl | rfl <;> rfl) ?_
  intro p e s m below meth c B hnm
  refine y_iload_n B dJ15_checkIndex_7cf53_0 rfl ?_
  refine y_iload_n B dJ15_checkIndex_7cf53_1 rfl ?_
  refine y_null B dJ15_checkIndex_7cf53_2 ?_
  refine y_callS B 3 _ _ (k_J3_checkIndex_8e157 l G M hi hn) gJ15_checkIndex_7cf53_J3_checkIndex_8e157 (by decide +kernel) rfl rfl rfl rfl ⟨(Nat.le_of_ble_eq_true rfl), (Nat.le_of_ble_eq_true rfl)⟩ (Nat.le_of_ble_eq_true rfl) ⟨(Nat.le_of_ble_eq_true rfl), (Nat.le_of_ble_eq_true rfl)⟩ dJ15_checkIndex_7cf53_3 rfl (fun r M1 hr => ?_)
  obtain ⟨rfl, rfl⟩ := hr
  exact y_iret B dJ15_checkIndex_7cf53_6 (Nat.le_of_ble_eq_true rfl) (Nat.le_of_ble_eq_true rfl) (⟨rfl, rfl⟩)
set_option maxHeartbeats 4000000 in
set_option maxRecDepth 100000 in
theorem k_Jx4a65c_elementData_915e3 (l : Launch) (G : ai_G) (M : ai_M) {a g n i : Nat} {f : Nat → Nat} (hl : ai_l G M a g n f) (hi : i < n) : ai_C l yJx4a65c_elementData_915e3 wsJx4a65c_elementData_915e3 ({ frames := 0, cells := 0, slots := 0, locals := 0 } : Room) 0 0 G M [.ref a, .int (nI i)] (fun r M1 => r = some (.ref (f i)) ∧ M1 = M) := by
  refine y_start (by decide +kernel) rfl (Nat.le_of_ble_eq_true rfl) (Nat.le_of_ble_eq_true rfl) (fun x hx => by simp only [List.mem_cons, List.not_mem_nil, or_false] at hx; rcases hx with rfl | rfl <;> rfl) ?_
  intro p e s m below meth c B hnm
  obtain ⟨mc, arr, cap, hh, h1, ⟨h2, -⟩ | ⟨h2, h3, h4, h5, h6⟩⟩ := hl
  · omega
  refine y_aload_n B dJx4a65c_elementData_915e3_0 rfl ?_
  refine y_get B (ref := "java/util/ArrayList") (ci := 0) (C := RJx4a65c) (T := TJx4a65c) (N := 3) h1 rfl i_Jx4a65c_elementData_915e3_Jx4a65c 1 (by decide) (by decide +kernel) (fun _ h9 => h9) rfl dJx4a65c_elementData_915e3_1 ?_
  refine y_iload_n B dJx4a65c_elementData_915e3_4 rfl ?_
  refine y_aaloadO B (some (f i)) h2 (vp_in_nI (by omega) (by omega)) (by rw [nI_clamp (by omega)]; exact h6 i hi) dJx4a65c_elementData_915e3_5 ?_
  exact y_aret B (Or.inl ⟨_, rfl⟩) (Or.inr ⟨_, rfl⟩) dJx4a65c_elementData_915e3_6 (Nat.le_of_ble_eq_true rfl) (Nat.le_of_ble_eq_true rfl) (⟨rfl, rfl⟩)
set_option maxHeartbeats 4000000 in
set_option maxRecDepth 100000 in
theorem k_Jx4a65c_get_915e3 (l : Launch) (G : ai_G) (M : ai_M) {a g n i : Nat} {f : Nat → Nat} (hl : ai_l G M a g n f) (hi : i < n) : ai_C l yJx4a65c_get_915e3 wsJx4a65c_get_915e3 ({ frames := 2, cells := 0, slots := 0, locals := 43 } : Room) 0 0 G M [.ref a, .int (nI i)] (fun r M1 => r = some (.ref (f i)) ∧ M1 = M) := by
  refine y_start (by decide +kernel) rfl (Nat.le_of_ble_eq_true rfl) (Nat.le_of_ble_eq_true rfl) (fun x hx => by simp only [List.mem_cons, List.not_mem_nil, or_false] at hx; rcases hx with rfl | rfl <;> rfl) ?_
  intro p e s m below meth c B hnm
  have hb := hl.bd
  obtain ⟨mc, arr, cap, hh, h1, h2⟩ := id hl
  refine y_iload_n B dJx4a65c_get_915e3_0 rfl ?_
  refine y_aload_n B dJx4a65c_get_915e3_1 rfl ?_
  refine y_get B (ref := "java/util/ArrayList") (ci := 0) (C := RJx4a65c) (T := TJx4a65c) (N := 3) h1 rfl i_Jx4a65c_get_915e3_Jx4a65c 2 (by decide) (by decide +kernel) (fun _ h9 => h9) rfl dJx4a65c_get_915e3_2 ?_
  refine y_callS B 2 _ _ (k_J15_checkIndex_7cf53 l G M hi (by omega)) gJx4a65c_get_915e3_J15_checkIndex_7cf53 (by decide +kernel) rfl rfl rfl rfl ⟨(Nat.le_of_ble_eq_true rfl), (Nat.le_of_ble_eq_true rfl)⟩ (Nat.le_of_ble_eq_true rfl) ⟨(Nat.le_of_ble_eq_true rfl), (Nat.le_of_ble_eq_true rfl)⟩ dJx4a65c_get_915e3_5 rfl (fun r M1 hr => ?_)
  obtain ⟨rfl, rfl⟩ := hr
  refine y_pop B dJx4a65c_get_915e3_8 rfl ?_
  refine y_aload_n B dJx4a65c_get_915e3_9 rfl ?_
  refine y_iload_n B dJx4a65c_get_915e3_10 rfl ?_
  refine y_callV B 1 (q := (RJx4a65c, TJx4a65c, 3)) _ _ (k_Jx4a65c_elementData_915e3 l G M1 hl hi) h1 rfl gJx4a65c_get_915e3_Jx4a65c_elementData_915e3 (by decide +kernel) rfl rfl rfl rfl ⟨(Nat.le_of_ble_eq_true rfl), (Nat.le_of_ble_eq_true rfl)⟩ (Nat.le_of_ble_eq_true rfl) ⟨(Nat.le_of_ble_eq_true rfl), (Nat.le_of_ble_eq_true rfl)⟩ dJx4a65c_get_915e3_11 rfl (fun r M1 hr => ?_)
  obtain ⟨rfl, rfl⟩ := hr
  exact y_aret B (Or.inl ⟨_, rfl⟩) (Or.inr ⟨_, rfl⟩) dJx4a65c_get_915e3_14 (Nat.le_of_ble_eq_true rfl) (Nat.le_of_ble_eq_true rfl) (⟨rfl, rfl⟩)
set_option maxHeartbeats 4000000 in
set_option maxRecDepth 100000 in
theorem k_Jxa1e45_init_da8c8 (l : Launch) (G : ai_G) (M : ai_M) {a : Nat} : ai_C l yJxa1e45_init_da8c8 wsJxa1e45_init_da8c8 ({ frames := 1, cells := 0, slots := 0, locals := 12 } : Room) 0 0 G M [.ref a] (fun r M1 => r = none ∧ M1 = M) := by
  refine y_start (by decide +kernel) rfl (Nat.le_of_ble_eq_true rfl) (Nat.le_of_ble_eq_true rfl) (fun x hx => by simp only [List.mem_cons, List.not_mem_nil, or_false] at hx; rcases hx with rfl <;> rfl) ?_
  intro p e s m below meth c B hnm
  have hinit : meth.name = "<init>" := hnm
  refine y_aload_n B dJxa1e45_init_da8c8_0 rfl ?_
  refine y_oinit B (by decide +kernel) (by decide +kernel) (by decide +kernel) (Nat.le_of_ble_eq_true rfl) (Nat.le_of_ble_eq_true rfl) dJxa1e45_init_da8c8_1 ?_
  exact y_vret B dJxa1e45_init_da8c8_4 (Nat.le_of_ble_eq_true rfl) (Nat.le_of_ble_eq_true rfl) (⟨rfl, rfl⟩)
set_option maxHeartbeats 4000000 in
set_option maxRecDepth 100000 in
theorem k_Jxc12de_init_da8c8 (l : Launch) (G : ai_G) (M : ai_M) {a g : Nat} {m0 m2 : Int32} {v1 : Value} (h1 : M a = some (g, .inr (0, [.int m0, v1, .int m2]))) : ai_C l yJxc12de_init_da8c8 wsJxc12de_init_da8c8 ({ frames := 2, cells := 0, slots := 0, locals := 32 } : Room) 0 0 G M [.ref a] (fun r M1 => r = none ∧ M1 = ai_U M a g (.inr (0, [.int (nI 0), v1, .int m2]))) := by
  refine y_start (by decide +kernel) rfl (Nat.le_of_ble_eq_true rfl) (Nat.le_of_ble_eq_true rfl) (fun x hx => by simp only [List.mem_cons, List.not_mem_nil, or_false] at hx; rcases hx with rfl <;> rfl) ?_
  intro p e s m below meth c B hnm
  have hinit : meth.name = "<init>" := hnm
  refine y_aload_n B dJxc12de_init_da8c8_0 rfl ?_
  refine y_callI B 0 _ _ (k_Jxa1e45_init_da8c8 l G M) gJxc12de_init_da8c8_Jxa1e45_init_da8c8 (by decide +kernel) (by decide +kernel) (by decide +kernel) rfl (by decide +kernel) rfl rfl rfl rfl ⟨(Nat.le_of_ble_eq_true rfl), (Nat.le_of_ble_eq_true rfl)⟩ (Nat.le_of_ble_eq_true rfl) ⟨(Nat.le_of_ble_eq_true rfl), (Nat.le_of_ble_eq_true rfl)⟩ dJxc12de_init_da8c8_1 rfl (fun r M1 hr => ?_)
  obtain ⟨rfl, rfl⟩ := hr
  refine y_aload_n B dJxc12de_init_da8c8_4 rfl ?_
  refine y_iconst B (nI 0) dJxc12de_init_da8c8_5 (by decide +kernel) ?_
  refine y_put B (ref := "java/util/AbstractList") (ci := 0) (C := RJx4a65c) (T := TJx4a65c) (N := 3) (ty := .int) h1 rfl i_Jxc12de_init_da8c8_Jx4a65c tyJx4a65c tyJx4a65c_ok nmJx4a65c 0 (by decide) (by decide +kernel) (fun _ h9 => h9) rfl (by decide +kernel) rfl rfl (Nat.le_of_ble_eq_true rfl) dJxc12de_init_da8c8_6 ?_
  exact y_vret B dJxc12de_init_da8c8_9 (Nat.le_of_ble_eq_true rfl) (Nat.le_of_ble_eq_true rfl) (⟨rfl, rfl⟩)
set_option maxHeartbeats 4000000 in
set_option maxRecDepth 100000 in
theorem k_Jx4a65c_init_da8c8 (l : Launch) (G : ai_G) (M : ai_M) {a g : Nat} (h1 : M a = some (g, .inr (0, [.int 0, .null, .int 0]))) : ai_C l yJx4a65c_init_da8c8 wsJx4a65c_init_da8c8 ({ frames := 3, cells := 0, slots := 0, locals := 52 } : Room) 0 0 G M [.ref a] (fun r M1 => r = none ∧ M1 = ai_U M a g (.inr (0, [.int (nI 0), .ref (G.2.2.1 0), .int (nI 0)]))) := by
  refine y_start (by decide +kernel) rfl (Nat.le_of_ble_eq_true rfl) (Nat.le_of_ble_eq_true rfl) (fun x hx => by simp only [List.mem_cons, List.not_mem_nil, or_false] at hx; rcases hx with rfl <;> rfl) ?_
  intro p e s m below meth c B hnm
  have hinit : meth.name = "<init>" := hnm
  refine y_aload_n B dJx4a65c_init_da8c8_0 rfl ?_
  refine y_callI B 0 _ _ (k_Jxc12de_init_da8c8 l G M h1) gJx4a65c_init_da8c8_Jxc12de_init_da8c8 (by decide +kernel) (by decide +kernel) (by decide +kernel) rfl (by decide +kernel) rfl rfl rfl rfl ⟨(Nat.le_of_ble_eq_true rfl), (Nat.le_of_ble_eq_true rfl)⟩ (Nat.le_of_ble_eq_true rfl) ⟨(Nat.le_of_ble_eq_true rfl), (Nat.le_of_ble_eq_true rfl)⟩ dJx4a65c_init_da8c8_1 rfl (fun r M1 hr => ?_)
  obtain ⟨rfl, rfl⟩ := hr
  refine y_aload_n B dJx4a65c_init_da8c8_4 rfl ?_
  refine y_gets B (ref := "java/util/ArrayList") B.2.2.2.2.2.2.2.2.1.2.1 (by decide +kernel) (fun _ h9 => h9) dJx4a65c_init_da8c8_5 ?_
  refine y_put B (ref := "java/util/ArrayList") (ci := 0) (C := RJx4a65c) (T := TJx4a65c) (N := 3) (ty := (.array (.object "java/lang/Object"))) ai_U_s rfl i_Jx4a65c_init_da8c8_Jx4a65c tyJx4a65c tyJx4a65c_ok nmJx4a65c 1 (by decide) (by decide +kernel) (fun _ h9 => h9) rfl (by decide +kernel) rfl rfl (Nat.le_of_ble_eq_true rfl) dJx4a65c_init_da8c8_8 ?_
  exact y_vret B dJx4a65c_init_da8c8_11 (Nat.le_of_ble_eq_true rfl) (Nat.le_of_ble_eq_true rfl) (⟨rfl, ai_UU⟩)
theorem ai_l_new {G : ai_G} {M : ai_M} {a g : Nat} {f : Nat → Nat} : ai_l G (ai_U M a g (.inr (0, [.int (nI 0), .ref (G.2.2.1 0), .int (nI 0)]))) a g 0 f := ⟨_, _, 0, fun _ => none, ai_U_s, Or.inl ⟨rfl, rfl, rfl⟩⟩
set_option maxHeartbeats 4000000 in
set_option maxRecDepth 100000 in
theorem k_J8_newLength_cabcc (l : Launch) (G : ai_G) (M : ai_M) {n : Nat} (h1 : 10 ≤ n) (h2 : n ≤ 40) : ai_C l yJ8_newLength_cabcc wsJ8_newLength_cabcc ({ frames := 1, cells := 0, slots := 0, locals := 15 } : Room) 0 0 G M [.int (nI n), .int (nI 1), .int (nI (n / 2))] (fun r M1 => r = some (.int (nI (n + n / 2))) ∧ M1 = M) := by
  refine y_start (by decide +kernel) rfl (Nat.le_of_ble_eq_true rfl) (Nat.le_of_ble_eq_true rfl) (fun x hx => by simp only [List.mem_cons, List.not_mem_nil, or_false] at hx; rcases hx with rfl | rfl | rfl <;> rfl) ?_
  intro p e s m below meth c B hnm
  refine y_iload_n B dJ8_newLength_cabcc_0 rfl ?_
  refine y_iload_n B dJ8_newLength_cabcc_1 rfl ?_
  refine y_iload_n B dJ8_newLength_cabcc_2 rfl ?_
  refine y_mmax B (nI (n / 2)) (by decide +kernel) (by decide +kernel) (by decide +kernel) (by decide +kernel) (Nat.le_of_ble_eq_true rfl) (Nat.le_of_ble_eq_true rfl) (Nat.le_of_ble_eq_true rfl) (Nat.le_of_ble_eq_true rfl) (if_pos (nI_lt (by omega) (by omega))) dJ8_newLength_cabcc_3 ?_
  refine y_iadd B (nI (n + n / 2)) dJ8_newLength_cabcc_6 (nI_add _ _) ?_
  refine y_istore_n B dJ8_newLength_cabcc_7 (Nat.le_of_ble_eq_true rfl) ?_
  refine y_iconst B (nI 0) dJ8_newLength_cabcc_8 (by decide +kernel) ?_
  refine y_iload_n B dJ8_newLength_cabcc_9 rfl ?_
  refine y_icmp_ge B 21 dJ8_newLength_cabcc_10 (by decide) (fun c10 => absurd c10 (nI_nle (by omega) (by omega))) (fun c10 => ?_)
  refine y_iload_n B dJ8_newLength_cabcc_13 rfl ?_
  refine y_ldc B (nI 2147483639) (B.2.2.2.2.2.1 _ (by decide +kernel)) dJ8_newLength_cabcc_14 ?_
  refine y_icmp_gt B 21 dJ8_newLength_cabcc_16 (by decide) (fun c16 => absurd c16 (nI_nlt (by omega) (by decide))) (fun c16 => ?_)
  refine y_iload_n B dJ8_newLength_cabcc_19 rfl ?_
  exact y_iret B dJ8_newLength_cabcc_20 (Nat.le_of_ble_eq_true rfl) (Nat.le_of_ble_eq_true rfl) (⟨rfl, rfl⟩)
set_option maxHeartbeats 4000000 in
set_option maxRecDepth 100000 in
theorem k_J7_copyOf_6403c (l : Launch) (G : ai_G) (M : ai_M) {arr ga cap z : Nat} (gt : Nat) {h : Nat → Option Nat} {ci : Nat} {qc : vw_C} (hci : vwCl[ci]? = some qc) (hca : Cond.castable qc.1 "java/lang/Object" ∈ ai_Xw) (h2 : M arr = some (ga, ai_eO G cap h)) (hm : cap ≤ z) (hm2 : z ≤ 40) (hel : ∀ i, i < cap → ∀ y, h i = some y → ∃ (g : Nat) (fs : List Value), M y = some (g, .inr (ci, fs))) : ai_C l yJ7_copyOf_6403c wsJ7_copyOf_6403c ({ frames := 1, cells := 1, slots := 40, locals := 40 } : Room) 1 40 G M [.ref arr, .int (nI z), .ref (G.2.2.1 1)] (fun r M1 => ∃ (q : Nat) (h9 : Nat → Option Nat), r = some (.ref q) ∧ M q = none ∧ M1 = ai_U M q gt (ai_eO G z h9) ∧ ∀ i, i < cap → h9 i = h i) := by
  refine y_start (by decide +kernel) rfl (Nat.le_of_ble_eq_true rfl) (Nat.le_of_ble_eq_true rfl) (fun x hx => by simp only [List.mem_cons, List.not_mem_nil, or_false] at hx; rcases hx with rfl | rfl | rfl <;> rfl) ?_
  intro p e s m below meth c B hnm
  refine y_aload_n B dJ7_copyOf_6403c_0 rfl ?_
  refine y_ldcM B (by decide +kernel) dJ7_copyOf_6403c_1 ?_
  refine y_acmp_ne B (rx := some _) (ry := some _) 13 dJ7_copyOf_6403c_3 (by decide) (fun z => absurd rfl z) (fun _ => ?_)
  refine y_iload_n B dJ7_copyOf_6403c_6 rfl ?_
  refine y_newq B gt 3 (by decide +kernel) B.2.2.2.2.2.2.2.2.1.1.1 rfl (nI_pos (by omega)) (nI_clamp (by omega)) (by omega) (Nat.le_of_ble_eq_true rfl) (by show 0 + z ≤ 40; omega) dJ7_copyOf_6403c_7 (fun q hq => ?_)
  refine y_wide (k := 1) (n := 40) (Nat.le_of_ble_eq_true rfl) (by omega) ?_
  refine y_goto B 24 dJ7_copyOf_6403c_10 (by decide) ?_
  refine y_astore_n B dJ7_copyOf_6403c_24 (Nat.le_of_ble_eq_true rfl) ?_
  refine y_aload_n B dJ7_copyOf_6403c_25 rfl ?_
  refine y_iconst B (nI 0) dJ7_copyOf_6403c_26 (by decide +kernel) ?_
  refine y_aload_n B dJ7_copyOf_6403c_27 rfl ?_
  refine y_iconst B (nI 0) dJ7_copyOf_6403c_28 (by decide +kernel) ?_
  refine y_aload_n B dJ7_copyOf_6403c_29 rfl ?_
  refine y_alen B (nI cap) 3 (ai_U_f hq h2) rfl rfl dJ7_copyOf_6403c_30 ?_
  refine y_iload_n B dJ7_copyOf_6403c_31 rfl ?_
  refine y_mmin B (nI cap) (by decide +kernel) (by decide +kernel) (by decide +kernel) (by decide +kernel) (Nat.le_of_ble_eq_true rfl) (Nat.le_of_ble_eq_true rfl) (Nat.le_of_ble_eq_true rfl) (Nat.le_of_ble_eq_true rfl) (if_neg (nI_nlt (by omega) (by omega))) dJ7_copyOf_6403c_32 ?_
  refine y_copyq B (q := qc) cap (ai_U_f hq h2) ai_U_s hci hca (fun i hi y hy => by obtain ⟨g, fs, z⟩ := hel i hi y hy; exact ⟨g, fs, ai_U_f hq z⟩) (by omega) (Nat.le_refl _) hm (by decide +kernel) (by decide +kernel) (by decide +kernel) (by decide +kernel) (Nat.le_of_ble_eq_true rfl) (Nat.le_of_ble_eq_true rfl) dJ7_copyOf_6403c_35 ?_
  refine y_aload_n B dJ7_copyOf_6403c_38 rfl ?_
  exact y_aret B (Or.inr ⟨_, rfl⟩) (Or.inr ⟨_, rfl⟩) dJ7_copyOf_6403c_39 (Nat.le_of_ble_eq_true rfl) (Nat.le_of_ble_eq_true rfl) (⟨q, _, rfl, hq, ai_UU, fun i hi => by simp only [va_cpy]; rw [if_pos (by omega)]; congr 1; omega⟩)
set_option maxHeartbeats 4000000 in
set_option maxRecDepth 100000 in
theorem k_J7_copyOf_1904c (l : Launch) (G : ai_G) (M : ai_M) {arr ga cap z : Nat} (gt : Nat) {h : Nat → Option Nat} {ci : Nat} {qc : vw_C} (hci : vwCl[ci]? = some qc) (hca : Cond.castable qc.1 "java/lang/Object" ∈ ai_Xw) (h2 : M arr = some (ga, ai_eO G cap h)) (hm : cap ≤ z) (hm2 : z ≤ 40) (hel : ∀ i, i < cap → ∀ y, h i = some y → ∃ (g : Nat) (fs : List Value), M y = some (g, .inr (ci, fs))) : ai_C l yJ7_copyOf_1904c wsJ7_copyOf_1904c ({ frames := 2, cells := 1, slots := 40, locals := 63 } : Room) 1 40 G M [.ref arr, .int (nI z)] (fun r M1 => ∃ (q : Nat) (h9 : Nat → Option Nat), r = some (.ref q) ∧ M q = none ∧ M1 = ai_U M q gt (ai_eO G z h9) ∧ ∀ i, i < cap → h9 i = h i) := by
  refine y_start (by decide +kernel) rfl (Nat.le_of_ble_eq_true rfl) (Nat.le_of_ble_eq_true rfl) (fun x hx => by simp only [List.mem_cons, List.not_mem_nil, or_false] at hx; rcases hx with rfl | rfl <;> rfl) ?_
  intro p e s m below meth c B hnm
  refine y_aload_n B dJ7_copyOf_1904c_0 rfl ?_
  refine y_iload_n B dJ7_copyOf_1904c_1 rfl ?_
  refine y_aload_n B dJ7_copyOf_1904c_2 rfl ?_
  refine y_getC B h2 (by decide +kernel) (by decide +kernel) (by decide +kernel) (by decide +kernel) (Nat.le_of_ble_eq_true rfl) (Nat.le_of_ble_eq_true rfl) dJ7_copyOf_1904c_3 ?_
  refine y_callS B 3 _ _ (k_J7_copyOf_6403c l G M gt hci hca h2 hm hm2 hel) gJ7_copyOf_1904c_J7_copyOf_6403c (by decide +kernel) rfl rfl rfl rfl ⟨(Nat.le_of_ble_eq_true rfl), (Nat.le_of_ble_eq_true rfl)⟩ (Nat.le_of_ble_eq_true rfl) ⟨(Nat.le_of_ble_eq_true rfl), (Nat.le_of_ble_eq_true rfl)⟩ dJ7_copyOf_1904c_6 rfl (fun r M1 hr => ?_)
  obtain ⟨q, h9, rfl, hq, rfl, hh9⟩ := hr
  exact y_aret B (Or.inr ⟨_, rfl⟩) (Or.inr ⟨_, rfl⟩) dJ7_copyOf_1904c_9 (Nat.le_of_ble_eq_true rfl) (Nat.le_of_ble_eq_true rfl) (⟨q, h9, rfl, hq, rfl, hh9⟩)
set_option maxHeartbeats 4000000 in
set_option maxRecDepth 100000 in
theorem k_Jx4a65c_grow_92f84 (l : Launch) (G : ai_G) (M : ai_M) {a g n arr : Nat} {mc : Int32} {h : Nat → Option Nat} {ci : Nat} {qc : vw_C} (hci : vwCl[ci]? = some qc) (hca : Cond.castable qc.1 "java/lang/Object" ∈ ai_Xw) (hA : M a = some (g, .inr (0, [.int mc, .ref arr, .int (nI n)]))) (hn : n ≤ 20) (hF : (n = 0 ∧ arr = G.2.2.1 0) ∨ (M arr = some (g + 1, ai_eO G n h) ∧ 10 ≤ n)) (hel : ∀ i, i < n → ∀ y, h i = some y → ∃ (g : Nat) (fs : List Value), M y = some (g, .inr (ci, fs))) : ai_C l yJx4a65c_grow_92f84 wsJx4a65c_grow_92f84 ({ frames := 3, cells := 1, slots := 40, locals := 84 } : Room) 1 40 G M [.ref a, .int (nI (n + 1))] (fun r M1 => ∃ (q cap : Nat) (h9 : Nat → Option Nat), r = some (.ref q) ∧ M q = none ∧ M1 = ai_U (ai_U M q (g + 1) (ai_eO G cap h9)) a g (.inr (0, [.int mc, .ref q, .int (nI n)])) ∧ n + 1 ≤ cap ∧ 10 ≤ cap ∧ cap ≤ 40 ∧ ∀ i, i < n → h9 i = h i) := by
  refine y_start (by decide +kernel) rfl (Nat.le_of_ble_eq_true rfl) (Nat.le_of_ble_eq_true rfl) (fun x hx => by simp only [List.mem_cons, List.not_mem_nil, or_false] at hx; rcases hx with rfl | rfl <;> rfl) ?_
  intro p e s m below meth c B hnm
  rcases hF with ⟨rfl, rfl⟩ | ⟨hQ, hn2⟩
  · refine y_aload_n B dJx4a65c_grow_92f84_0 rfl ?_
    refine y_get B (ref := "java/util/ArrayList") (ci := 0) (C := RJx4a65c) (T := TJx4a65c) (N := 3) hA rfl i_Jx4a65c_grow_92f84_Jx4a65c 1 (by decide) (by decide +kernel) (fun _ h9 => h9) rfl dJx4a65c_grow_92f84_1 ?_
    refine y_tlen B (nI 0) B.2.2.2.2.2.2.2.2.1.2.2.1 rfl dJx4a65c_grow_92f84_4 ?_
    refine y_istore_n B dJx4a65c_grow_92f84_5 (Nat.le_of_ble_eq_true rfl) ?_
    refine y_iload_n B dJx4a65c_grow_92f84_6 rfl ?_
    refine y_if_gt B 20 dJx4a65c_grow_92f84_7 (by decide) (fun c7 => absurd c7 (by decide)) (fun c7 => ?_)
    refine y_aload_n B dJx4a65c_grow_92f84_10 rfl ?_
    refine y_get B (ref := "java/util/ArrayList") (ci := 0) (C := RJx4a65c) (T := TJx4a65c) (N := 3) hA rfl i_Jx4a65c_grow_92f84_Jx4a65c 1 (by decide) (by decide +kernel) (fun _ h9 => h9) rfl dJx4a65c_grow_92f84_11 ?_
    refine y_gets B (ref := "java/util/ArrayList") B.2.2.2.2.2.2.2.2.1.2.1 (by decide +kernel) (fun _ h9 => h9) dJx4a65c_grow_92f84_14 ?_
    refine y_acmp_eq B (rx := some _) (ry := some _) 45 dJx4a65c_grow_92f84_17 (by decide) (fun _ => ?_) (fun z => absurd rfl z)
    refine y_aload_n B dJx4a65c_grow_92f84_45 rfl ?_
    refine y_bipush B (nI 10) dJx4a65c_grow_92f84_46 (by decide +kernel) ?_
    refine y_iload_n B dJx4a65c_grow_92f84_48 rfl ?_
    refine y_mmax B (nI 10) (by decide +kernel) (by decide +kernel) (by decide +kernel) (by decide +kernel) (Nat.le_of_ble_eq_true rfl) (Nat.le_of_ble_eq_true rfl) (Nat.le_of_ble_eq_true rfl) (Nat.le_of_ble_eq_true rfl) (if_neg (by decide)) dJx4a65c_grow_92f84_49 ?_
    refine y_newq B (g + 1) 3 (by decide +kernel) B.2.2.2.2.2.2.2.2.1.1.1 rfl (by decide) (nI_clamp (by decide)) (by decide) (Nat.le_of_ble_eq_true rfl) (Nat.le_of_ble_eq_true rfl) dJx4a65c_grow_92f84_52 (fun q hq => ?_)
    refine y_dup_x1 B dJx4a65c_grow_92f84_55 rfl rfl ?_
    refine y_put B (ref := "java/util/ArrayList") (ci := 0) (C := RJx4a65c) (T := TJx4a65c) (N := 3) (ty := (.array (.object "java/lang/Object"))) (ai_U_f hq hA) rfl i_Jx4a65c_grow_92f84_Jx4a65c tyJx4a65c tyJx4a65c_ok nmJx4a65c 1 (by decide) (by decide +kernel) (fun _ h9 => h9) rfl (by decide +kernel) rfl rfl (Nat.le_of_ble_eq_true rfl) dJx4a65c_grow_92f84_56 ?_
    exact y_aret B (Or.inr ⟨_, rfl⟩) (Or.inr ⟨_, rfl⟩) dJx4a65c_grow_92f84_59 (Nat.le_of_ble_eq_true rfl) (Nat.le_of_ble_eq_true rfl) (⟨q, 10, _, rfl, hq, rfl, by decide, by decide, by decide, fun i hi => absurd hi (by omega)⟩)
  · refine y_aload_n B dJx4a65c_grow_92f84_0 rfl ?_
    refine y_get B (ref := "java/util/ArrayList") (ci := 0) (C := RJx4a65c) (T := TJx4a65c) (N := 3) hA rfl i_Jx4a65c_grow_92f84_Jx4a65c 1 (by decide) (by decide +kernel) (fun _ h9 => h9) rfl dJx4a65c_grow_92f84_1 ?_
    refine y_alen B (nI n) 3 hQ rfl rfl dJx4a65c_grow_92f84_4 ?_
    refine y_istore_n B dJx4a65c_grow_92f84_5 (Nat.le_of_ble_eq_true rfl) ?_
    refine y_iload_n B dJx4a65c_grow_92f84_6 rfl ?_
    refine y_if_gt B 20 dJx4a65c_grow_92f84_7 (by decide) (fun c7 => ?_) (fun c7 => absurd (nI_lt (a := 0) (by omega) (by omega)) c7)
    refine y_iload_n B dJx4a65c_grow_92f84_20 rfl ?_
    refine y_iload_n B dJx4a65c_grow_92f84_21 rfl ?_
    refine y_iload_n B dJx4a65c_grow_92f84_22 rfl ?_
    refine y_isub B (nI 1) dJx4a65c_grow_92f84_23 (by rw [pk_sub (by omega)]; congr 1; omega) ?_
    refine y_iload_n B dJx4a65c_grow_92f84_24 rfl ?_
    refine y_iconst B (nI 1) dJx4a65c_grow_92f84_25 (by decide +kernel) ?_
    refine y_ishr B (nI (n / 2)) dJx4a65c_grow_92f84_26 ((pk_shrN (by omega) (nI 1 &&& 31) 1 (by decide)).trans (by rw [Nat.pow_one])) ?_
    refine y_callS B 3 _ _ (k_J8_newLength_cabcc l G M hn2 (by omega)) gJx4a65c_grow_92f84_J8_newLength_cabcc (by decide +kernel) rfl rfl rfl rfl ⟨(Nat.le_of_ble_eq_true rfl), (Nat.le_of_ble_eq_true rfl)⟩ (Nat.le_of_ble_eq_true rfl) ⟨(Nat.le_of_ble_eq_true rfl), (Nat.le_of_ble_eq_true rfl)⟩ dJx4a65c_grow_92f84_27 rfl (fun r M1 hr => ?_)
    obtain ⟨rfl, rfl⟩ := hr
    refine y_istore_n B dJx4a65c_grow_92f84_30 (Nat.le_of_ble_eq_true rfl) ?_
    refine y_aload_n B dJx4a65c_grow_92f84_31 rfl ?_
    refine y_aload_n B dJx4a65c_grow_92f84_32 rfl ?_
    refine y_get B (ref := "java/util/ArrayList") (ci := 0) (C := RJx4a65c) (T := TJx4a65c) (N := 3) hA rfl i_Jx4a65c_grow_92f84_Jx4a65c 1 (by decide) (by decide +kernel) (fun _ h9 => h9) rfl dJx4a65c_grow_92f84_33 ?_
    refine y_iload_n B dJx4a65c_grow_92f84_36 rfl ?_
    refine y_callS B 2 _ _ (k_J7_copyOf_1904c l G _ (g + 1) hci hca hQ (by omega) (by omega) hel) gJx4a65c_grow_92f84_J7_copyOf_1904c (by decide +kernel) rfl rfl rfl rfl ⟨(Nat.le_of_ble_eq_true rfl), (Nat.le_of_ble_eq_true rfl)⟩ (Nat.le_of_ble_eq_true rfl) ⟨(Nat.le_of_ble_eq_true rfl), (Nat.le_of_ble_eq_true rfl)⟩ dJx4a65c_grow_92f84_37 rfl (fun r M2 hr => ?_)
    obtain ⟨q, h9, rfl, hq, rfl, hh9⟩ := hr
    refine y_dup_x1 B dJx4a65c_grow_92f84_40 rfl rfl ?_
    refine y_put B (ref := "java/util/ArrayList") (ci := 0) (C := RJx4a65c) (T := TJx4a65c) (N := 3) (ty := (.array (.object "java/lang/Object"))) (ai_U_f hq hA) rfl i_Jx4a65c_grow_92f84_Jx4a65c tyJx4a65c tyJx4a65c_ok nmJx4a65c 1 (by decide) (by decide +kernel) (fun _ h9 => h9) rfl (by decide +kernel) rfl rfl (Nat.le_of_ble_eq_true rfl) dJx4a65c_grow_92f84_41 ?_
    exact y_aret B (Or.inr ⟨_, rfl⟩) (Or.inr ⟨_, rfl⟩) dJx4a65c_grow_92f84_44 (Nat.le_of_ble_eq_true rfl) (Nat.le_of_ble_eq_true rfl) (⟨q, _, h9, rfl, hq, rfl, by omega, by omega, by omega, hh9⟩)
set_option maxHeartbeats 4000000 in
set_option maxRecDepth 100000 in
theorem k_Jx4a65c_grow_d5877 (l : Launch) (G : ai_G) (M : ai_M) {a g n arr : Nat} {mc : Int32} {h : Nat → Option Nat} {ci : Nat} {qc : vw_C} (hci : vwCl[ci]? = some qc) (hca : Cond.castable qc.1 "java/lang/Object" ∈ ai_Xw) (hA : M a = some (g, .inr (0, [.int mc, .ref arr, .int (nI n)]))) (hn : n ≤ 20) (hF : (n = 0 ∧ arr = G.2.2.1 0) ∨ (M arr = some (g + 1, ai_eO G n h) ∧ 10 ≤ n)) (hel : ∀ i, i < n → ∀ y, h i = some y → ∃ (g : Nat) (fs : List Value), M y = some (g, .inr (ci, fs))) : ai_C l yJx4a65c_grow_d5877 wsJx4a65c_grow_d5877 ({ frames := 4, cells := 1, slots := 40, locals := 107 } : Room) 1 40 G M [.ref a] (fun r M1 => ∃ (q cap : Nat) (h9 : Nat → Option Nat), r = some (.ref q) ∧ M q = none ∧ M1 = ai_U (ai_U M q (g + 1) (ai_eO G cap h9)) a g (.inr (0, [.int mc, .ref q, .int (nI n)])) ∧ n + 1 ≤ cap ∧ 10 ≤ cap ∧ cap ≤ 40 ∧ ∀ i, i < n → h9 i = h i) := by
  refine y_start (by decide +kernel) rfl (Nat.le_of_ble_eq_true rfl) (Nat.le_of_ble_eq_true rfl) (fun x hx => by simp only [List.mem_cons, List.not_mem_nil, or_false] at hx; rcases hx with rfl <;> rfl) ?_
  intro p e s m below meth c B hnm
  refine y_aload_n B dJx4a65c_grow_d5877_0 rfl ?_
  refine y_aload_n B dJx4a65c_grow_d5877_1 rfl ?_
  refine y_get B (ref := "java/util/ArrayList") (ci := 0) (C := RJx4a65c) (T := TJx4a65c) (N := 3) hA rfl i_Jx4a65c_grow_d5877_Jx4a65c 2 (by decide) (by decide +kernel) (fun _ h9 => h9) rfl dJx4a65c_grow_d5877_2 ?_
  refine y_iconst B (nI 1) dJx4a65c_grow_d5877_5 (by decide +kernel) ?_
  refine y_iadd B (nI (n + 1)) dJx4a65c_grow_d5877_6 (nI_1 n) ?_
  refine y_callV B 1 (q := (RJx4a65c, TJx4a65c, 3)) _ _ (k_Jx4a65c_grow_92f84 l G M hci hca hA hn hF hel) hA rfl gJx4a65c_grow_d5877_Jx4a65c_grow_92f84 (by decide +kernel) rfl rfl rfl rfl ⟨(Nat.le_of_ble_eq_true rfl), (Nat.le_of_ble_eq_true rfl)⟩ (Nat.le_of_ble_eq_true rfl) ⟨(Nat.le_of_ble_eq_true rfl), (Nat.le_of_ble_eq_true rfl)⟩ dJx4a65c_grow_d5877_7 rfl (fun r M1 hr => ?_)
  obtain ⟨q, cap, h9, rfl, hq, rfl, hr2⟩ := hr
  exact y_aret B (Or.inr ⟨_, rfl⟩) (Or.inr ⟨_, rfl⟩) dJx4a65c_grow_d5877_10 (Nat.le_of_ble_eq_true rfl) (Nat.le_of_ble_eq_true rfl) (⟨q, cap, h9, rfl, hq, rfl, hr2⟩)
theorem ai_add_end {G : ai_G} {M M2 : ai_M} {a q g n cap e : Nat} {mc : Int32} {h9 : Nat → Option Nat} {f : Nat → Nat} (hA : M2 a = some (g, .inr (0, [.int mc, .ref q, .int (nI n)]))) (hQ : M2 q = some (g + 1, ai_eO G cap h9)) (h1 : n + 1 ≤ cap) (h2 : 10 ≤ cap) (h3 : cap ≤ 40) (hf : ∀ i, i < n → h9 i = some (f i)) (hk : ai_kl M M2 g) :
    ai_l G (ai_U (ai_U M2 q (g + 1) (ai_eO G cap (va_up h9 (nI n).toNatClampNeg (some e)))) a g (.inr (0, [.int mc, .ref q, .int (nI (n + 1))]))) a g (n + 1) (va_up f n e) ∧ ai_kl M (ai_U (ai_U M2 q (g + 1) (ai_eO G cap (va_up h9 (nI n).toNatClampNeg (some e)))) a g (.inr (0, [.int mc, .ref q, .int (nI (n + 1))]))) g := by
  have hqa : q ≠ a := ai_ne hQ hA (by omega)
  refine ⟨⟨mc, q, cap, _, ai_U_s, Or.inr ⟨(ai_U_n hqa).trans ai_U_s, h1, h2, h3, fun i hi => ?_⟩⟩, fun b g' e' hb n1 n2 => ?_⟩
  · rw [nI_clamp (by omega)]
    unfold va_up
    by_cases hin : i = n
    · rw [if_pos hin, if_pos hin]
    · rw [if_neg hin, if_neg hin]; exact hf i (by omega)
  · have hb2 := hk b g' e' hb n1 n2
    exact (ai_U_n (ai_ne hb2 hA n1)).trans ((ai_U_n (ai_ne hb2 hQ n2)).trans hb2)
set_option maxHeartbeats 4000000 in
set_option maxRecDepth 100000 in
theorem k_Jx4a65c_add_72be8 (l : Launch) (G : ai_G) (M : ai_M) {a g n e arr cap : Nat} {mc : Int32} {h : Nat → Option Nat} {f : Nat → Nat} {ci : Nat} {qc : vw_C} (hci : vwCl[ci]? = some qc) (hca : Cond.castable qc.1 "java/lang/Object" ∈ ai_Xw) (hA : M a = some (g, .inr (0, [.int mc, .ref arr, .int (nI n)]))) (hn : n ≤ 20) (h2 : (n = 0 ∧ arr = G.2.2.1 0 ∧ cap = 0) ∨ (M arr = some (g + 1, ai_eO G cap h) ∧ n ≤ cap ∧ 10 ≤ cap ∧ cap ≤ 40 ∧ ∀ i, i < n → h i = some (f i))) (hf : ∀ i, i < n → h i = some (f i)) (hel : ∀ i, i < n → ∀ y, h i = some y → ∃ (g : Nat) (fs : List Value), M y = some (g, .inr (ci, fs))) {ge : Nat} {vs : List Value} (hV : M e = some (ge, .inr (ci, vs))) (hge : ge ≠ g ∧ ge ≠ g + 1) : ai_C l yJx4a65c_add_72be8 wsJx4a65c_add_72be8 ({ frames := 5, cells := 1, slots := 40, locals := 127 } : Room) 1 40 G M [.ref a, .ref e, .ref arr, .int (nI n)] (fun r M1 => r = none ∧ ai_l G M1 a g (n + 1) (va_up f n e) ∧ ai_kl M M1 g) := by
  refine y_start (by decide +kernel) rfl (Nat.le_of_ble_eq_true rfl) (Nat.le_of_ble_eq_true rfl) (fun x hx => by simp only [List.mem_cons, List.not_mem_nil, or_false] at hx; rcases hx with rfl | rfl | rfl | rfl <;> rfl) ?_
  intro p e0 s m below meth c B hnm
  have full : ((n = 0 ∧ arr = G.2.2.1 0) ∨ (M arr = some (g + 1, ai_eO G n h) ∧ 10 ≤ n)) → ai_Y p l e0 ({ frames := 5, cells := 1, slots := 40, locals := 127 } : Room) s m [.ref a, .ref e, .ref arr, .int (nI n)].toArray below meth c G (MQ below (ai_Q G (fun r M1 => r = none ∧ ai_l G M1 a g (n + 1) (va_up f n e) ∧ ai_kl M M1 g)) [.ref a, .ref e, .ref arr, .int (nI n)].toArray s 1 40 (ai_A G)) M 0 0 (ai_L0 [.ref a, .ref e, .ref arr, .int (nI n)] 4) 6 [] := by
    intro hF
    refine y_aload_n B dJx4a65c_add_72be8_6 rfl ?_
    refine y_callV B 0 (q := (RJx4a65c, TJx4a65c, 3)) _ _ (k_Jx4a65c_grow_d5877 l G M hci hca hA hn hF hel) hA rfl gJx4a65c_add_72be8_Jx4a65c_grow_d5877 (by decide +kernel) rfl rfl rfl rfl ⟨(Nat.le_of_ble_eq_true rfl), (Nat.le_of_ble_eq_true rfl)⟩ (Nat.le_of_ble_eq_true rfl) ⟨(Nat.le_of_ble_eq_true rfl), (Nat.le_of_ble_eq_true rfl)⟩ dJx4a65c_add_72be8_7 rfl (fun r M1 hr => ?_)
    obtain ⟨q, cap, h9, rfl, hq, rfl, hc1, hc2, hc3, hh9⟩ := hr
    have hQ : ai_U (ai_U M q (g + 1) (ai_eO G cap h9)) a g (.inr (0, [.int mc, .ref q, .int (nI n)])) q = some (g + 1, ai_eO G cap h9) := (ai_U_n (fun z => by rw [← z, hq] at hA; cases hA)).trans ai_U_s
    have hA2 : ai_U (ai_U M q (g + 1) (ai_eO G cap h9)) a g (.inr (0, [.int mc, .ref q, .int (nI n)])) a = some (g, .inr (0, [.int mc, .ref q, .int (nI n)])) := ai_U_s
    have hk2 : ai_kl M (ai_U (ai_U M q (g + 1) (ai_eO G cap h9)) a g (.inr (0, [.int mc, .ref q, .int (nI n)]))) g := fun b g' e' hb n1 n2 => (ai_U_n (ai_ne hb hA n1)).trans (ai_U_f hq hb)
    have hV2 := hk2 _ _ _ hV hge.1 hge.2
    refine y_astore_n B dJx4a65c_add_72be8_10 (Nat.le_of_ble_eq_true rfl) ?_
    refine y_aload_n B dJx4a65c_add_72be8_11 rfl ?_
    refine y_iload_n B dJx4a65c_add_72be8_12 rfl ?_
    refine y_aload_n B dJx4a65c_add_72be8_13 rfl ?_
    refine y_aastoreO B hQ hV2 hci (B.2.2.2.2.2.2.2.2.1.1.2.2.2.2.2.2.2.2.2.2.1 _ hca) (vp_in_nI (by omega) (by omega)) dJx4a65c_add_72be8_14 ?_
    refine y_aload_n B dJx4a65c_add_72be8_15 rfl ?_
    refine y_iload_n B dJx4a65c_add_72be8_16 rfl ?_
    refine y_iconst B (nI 1) dJx4a65c_add_72be8_17 (by decide +kernel) ?_
    refine y_iadd B (nI (n + 1)) dJx4a65c_add_72be8_18 (nI_1 n) ?_
    refine y_put B (ref := "java/util/ArrayList") (ci := 0) (C := RJx4a65c) (T := TJx4a65c) (N := 3) (ty := .int) (ai_U_k hQ hA2 (by omega)) rfl i_Jx4a65c_add_72be8_Jx4a65c tyJx4a65c tyJx4a65c_ok nmJx4a65c 2 (by decide) (by decide +kernel) (fun _ h9 => h9) rfl (by decide +kernel) rfl rfl (Nat.le_of_ble_eq_true rfl) dJx4a65c_add_72be8_19 ?_
    exact y_vret B dJx4a65c_add_72be8_22 (Nat.le_of_ble_eq_true rfl) (Nat.le_of_ble_eq_true rfl) (⟨rfl, ai_add_end hA2 hQ hc1 hc2 hc3 (fun i hi => (hh9 i hi).trans (hf i hi)) hk2⟩)
  rcases h2 with ⟨rfl, rfl, rfl⟩ | ⟨hQ, h3, h4, h5, h6⟩
  · refine y_iload_n B dJx4a65c_add_72be8_0 rfl ?_
    refine y_aload_n B dJx4a65c_add_72be8_1 rfl ?_
    refine y_tlen B (nI 0) B.2.2.2.2.2.2.2.2.1.2.2.1 rfl dJx4a65c_add_72be8_2 ?_
    refine y_icmp_ne B 11 dJx4a65c_add_72be8_3 (by decide) (fun c3 => absurd rfl c3) (fun c3 => ?_)
    exact full (Or.inl ⟨rfl, rfl⟩)
  · by_cases hcn : n = cap
    · subst hcn
      refine y_iload_n B dJx4a65c_add_72be8_0 rfl ?_
      refine y_aload_n B dJx4a65c_add_72be8_1 rfl ?_
      refine y_alen B (nI n) 3 hQ rfl rfl dJx4a65c_add_72be8_2 ?_
      refine y_icmp_ne B 11 dJx4a65c_add_72be8_3 (by decide) (fun c3 => absurd rfl c3) (fun c3 => ?_)
      exact full (Or.inr ⟨hQ, h4⟩)
    · refine y_iload_n B dJx4a65c_add_72be8_0 rfl ?_
      refine y_aload_n B dJx4a65c_add_72be8_1 rfl ?_
      refine y_alen B (nI cap) 3 hQ rfl rfl dJx4a65c_add_72be8_2 ?_
      refine y_icmp_ne B 11 dJx4a65c_add_72be8_3 (by decide) (fun c3 => ?_) (fun c3 => absurd c3 (fun z => hcn ((nI_eq (by omega) (by omega)).mp z)))
      have hV2 := hV
      refine y_aload_n B dJx4a65c_add_72be8_11 rfl ?_
      refine y_iload_n B dJx4a65c_add_72be8_12 rfl ?_
      refine y_aload_n B dJx4a65c_add_72be8_13 rfl ?_
      refine y_aastoreO B hQ hV2 hci (B.2.2.2.2.2.2.2.2.1.1.2.2.2.2.2.2.2.2.2.2.1 _ hca) (vp_in_nI (by omega) (by omega)) dJx4a65c_add_72be8_14 ?_
      refine y_aload_n B dJx4a65c_add_72be8_15 rfl ?_
      refine y_iload_n B dJx4a65c_add_72be8_16 rfl ?_
      refine y_iconst B (nI 1) dJx4a65c_add_72be8_17 (by decide +kernel) ?_
      refine y_iadd B (nI (n + 1)) dJx4a65c_add_72be8_18 (nI_1 n) ?_
      refine y_put B (ref := "java/util/ArrayList") (ci := 0) (C := RJx4a65c) (T := TJx4a65c) (N := 3) (ty := .int) (ai_U_k hQ hA (by omega)) rfl i_Jx4a65c_add_72be8_Jx4a65c tyJx4a65c tyJx4a65c_ok nmJx4a65c 2 (by decide) (by decide +kernel) (fun _ h9 => h9) rfl (by decide +kernel) rfl rfl (Nat.le_of_ble_eq_true rfl) dJx4a65c_add_72be8_19 ?_
      exact y_vret B dJx4a65c_add_72be8_22 (Nat.le_of_ble_eq_true rfl) (Nat.le_of_ble_eq_true rfl) (⟨rfl, ai_add_end hA hQ (by omega) h4 h5 hf (fun _ _ _ h _ _ => h)⟩)
set_option maxHeartbeats 4000000 in
set_option maxRecDepth 100000 in
theorem k_Jx4a65c_add_9ea2d (l : Launch) (G : ai_G) (M : ai_M) {a g n e : Nat} {f : Nat → Nat} {ci : Nat} {qc : vw_C} (hci : vwCl[ci]? = some qc) (hca : Cond.castable qc.1 "java/lang/Object" ∈ ai_Xw) (hl : ai_l G M a g n f) (hn : n ≤ 20) (hel : ∀ i, i < n → ∃ (g : Nat) (fs : List Value), M (f i) = some (g, .inr (ci, fs))) {ge : Nat} {vs : List Value} (hV : M e = some (ge, .inr (ci, vs))) (hge : ge ≠ g ∧ ge ≠ g + 1) (hg2 : ∀ i, i < n → ∀ (g9 : Nat) (e9 : va_E), M (f i) = some (g9, e9) → g9 ≠ g) : ai_C l yJx4a65c_add_9ea2d wsJx4a65c_add_9ea2d ({ frames := 6, cells := 1, slots := 40, locals := 150 } : Room) 1 40 G M [.ref a, .ref e] (fun r M1 => r = some (.int (nI 1)) ∧ ai_l G M1 a g (n + 1) (va_up f n e) ∧ ai_kl M M1 g) := by
  refine y_start (by decide +kernel) rfl (Nat.le_of_ble_eq_true rfl) (Nat.le_of_ble_eq_true rfl) (fun x hx => by simp only [List.mem_cons, List.not_mem_nil, or_false] at hx; rcases hx with rfl | rfl <;> rfl) ?_
  intro p e0 s m below meth c B hnm
  obtain ⟨mc, arr, cap, hh, h1, h2⟩ := hl
  have hf : ∀ i, i < n → hh i = some (f i) := fun i hi => by rcases h2 with ⟨z, -⟩ | ⟨-, -, -, -, z⟩ <;> first | omega | exact z i hi
  refine y_aload_n B dJx4a65c_add_9ea2d_0 rfl ?_
  refine y_dup B dJx4a65c_add_9ea2d_1 rfl ?_
  have hts9 := B.2.2.2.2.2.1
  refine y_get B (ref := "java/util/ArrayList") (ci := 0) (C := RJx4a65c) (T := TJx4a65c) (N := 3) h1 rfl i_Jx4a65c_add_9ea2d_Jx4a65c 0 (by decide) (by decide +kernel) (u_same (hts9 (.sameField "java/util/ArrayList" "java/util/AbstractList" "modCount" "I") (by decide +kernel))) rfl dJx4a65c_add_9ea2d_2 ?_
  refine y_iconst B (nI 1) dJx4a65c_add_9ea2d_5 (by decide +kernel) ?_
  refine y_iadd B (mc + (nI 1)) dJx4a65c_add_9ea2d_6 (rfl) ?_
  have hts9 := B.2.2.2.2.2.1
  refine y_put B (ref := "java/util/ArrayList") (ci := 0) (C := RJx4a65c) (T := TJx4a65c) (N := 3) (ty := .int) h1 rfl i_Jx4a65c_add_9ea2d_Jx4a65c tyJx4a65c tyJx4a65c_ok nmJx4a65c 0 (by decide) (by decide +kernel) (u_same (hts9 (.sameField "java/util/ArrayList" "java/util/AbstractList" "modCount" "I") (by decide +kernel))) rfl (by decide +kernel) rfl rfl (Nat.le_of_ble_eq_true rfl) dJx4a65c_add_9ea2d_7 ?_
  refine y_aload_n B dJx4a65c_add_9ea2d_10 rfl ?_
  refine y_aload_n B dJx4a65c_add_9ea2d_11 rfl ?_
  refine y_aload_n B dJx4a65c_add_9ea2d_12 rfl ?_
  refine y_get B (ref := "java/util/ArrayList") (ci := 0) (C := RJx4a65c) (T := TJx4a65c) (N := 3) ai_U_s rfl i_Jx4a65c_add_9ea2d_Jx4a65c 1 (by decide) (by decide +kernel) (fun _ h9 => h9) rfl dJx4a65c_add_9ea2d_13 ?_
  refine y_aload_n B dJx4a65c_add_9ea2d_16 rfl ?_
  refine y_get B (ref := "java/util/ArrayList") (ci := 0) (C := RJx4a65c) (T := TJx4a65c) (N := 3) ai_U_s rfl i_Jx4a65c_add_9ea2d_Jx4a65c 2 (by decide) (by decide +kernel) (fun _ h9 => h9) rfl dJx4a65c_add_9ea2d_17 ?_
  refine y_callV B 3 (q := (RJx4a65c, TJx4a65c, 3)) _ _ (k_Jx4a65c_add_72be8 l G _ hci hca ai_U_s hn (h2.imp_right fun z => ⟨ai_U_k h1 z.1 (by omega), z.2⟩) hf (fun i hi y hy => by rw [hf i hi] at hy; cases hy; obtain ⟨g9, fs, z⟩ := hel i hi; exact ⟨g9, fs, ai_U_k h1 z (hg2 i hi _ _ z)⟩) (ai_U_k h1 hV hge.1) hge) ai_U_s rfl gJx4a65c_add_9ea2d_Jx4a65c_add_72be8 (by decide +kernel) rfl rfl rfl rfl ⟨(Nat.le_of_ble_eq_true rfl), (Nat.le_of_ble_eq_true rfl)⟩ (Nat.le_of_ble_eq_true rfl) ⟨(Nat.le_of_ble_eq_true rfl), (Nat.le_of_ble_eq_true rfl)⟩ dJx4a65c_add_9ea2d_20 rfl (fun r M1 hr => ?_)
  obtain ⟨rfl, hr1, hr2⟩ := hr
  refine y_iconst B (nI 1) dJx4a65c_add_9ea2d_23 (by decide +kernel) ?_
  exact y_zret B dJx4a65c_add_9ea2d_24 (Nat.le_of_ble_eq_true rfl) (Nat.le_of_ble_eq_true rfl) rfl (⟨rfl, hr1, fun b g9 e9 hb n1 n2 => hr2 b g9 e9 (ai_U_k h1 hb n1) n1 n2⟩)
