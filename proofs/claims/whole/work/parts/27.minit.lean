/-! ===== THE MODEL BEGINS ===== -/
def ai_S0 : ai_S := fun k i => if k = 1 then (if i < 6 then 0 else 1) else 0
theorem ai_init1 {M : ai_M} {mo q t : Nat} {e0 e1 x : va_E} (hm : M mo = some (9, e0)) (hq : M q = none) : ai_U (ai_U M q t x) mo 9 e1 mo = some (9, e1) ∧ ai_U (ai_U M q t x) mo 9 e1 q = some (t, x) ∧ ∀ (b g : Nat) (e : va_E), M b = some (g, e) → b ≠ mo → ai_U (ai_U M q t x) mo 9 e1 b = some (g, e) := by
  have hn : q ≠ mo := fun z => by rw [z, hm] at hq; cases hq
  exact ⟨ai_U_s, (ai_U_n hn).trans ai_U_s, fun b g e hb hbm => (ai_U_n hbm).trans (ai_U_f hq hb)⟩
theorem i_X7_init_X7 : ∀ w ∈ wsX70, w ∈ wsX7_init := fun _ h => List.mem_cons_of_mem _ (List.mem_append_right _ h)
set_option maxHeartbeats 4000000 in
set_option maxRecDepth 100000 in
theorem k_X7_init (l : Launch) (G : ai_G) (M : ai_M) {mo : Nat} (h1 : M mo = some (9, .inr (8, [.int 0, .int 0, .int 0, .null, .null, .null, .null, .null, .null, .null, .null, .null, .null, .null, .null]))) : ai_C l yX7_init wsX7_init ({ frames := 1, cells := 12, slots := 1146, locals := 12 } : Room) 12 1146 G M [.ref mo] (fun r M1 => r = none ∧ ∃ ma : Nat → Nat, ai_O G M1 (nI 0) ai_S0 mo ma ∧ ∀ (b g : Nat) (e : va_E), M b = some (g, e) → b ≠ mo → M1 b = some (g, e)) := by
  refine y_start (by decide +kernel) rfl (Nat.le_of_ble_eq_true rfl) (Nat.le_of_ble_eq_true rfl) (fun x hx => by simp only [List.mem_cons, List.not_mem_nil, or_false] at hx; rcases hx with rfl <;> rfl) ?_
  intro p e s m below meth c B hnm
  have hinit : meth.name = "<init>" := hnm
  have hinit : meth.name = "<init>" := hnm
  refine y_aload_n B dX7_init_0 rfl ?_
  refine y_oinit B (by decide +kernel) (by decide +kernel) (by decide +kernel) (Nat.le_of_ble_eq_true rfl) (Nat.le_of_ble_eq_true rfl) dX7_init_1 ?_
  refine y_aload_n B dX7_init_4 rfl ?_
  refine y_bipush B (nI 6) dX7_init_5 (by decide +kernel) ?_
  refine y_newa B (atype := .int) (21) 0 (ty := .int) (N' := 6) (a0 := (6, .inl (fun _ => 0))) (by decide +kernel) rfl rfl (fun _ => rfl) (by decide) (nI_clamp (by decide)) (by decide) (Nat.le_of_ble_eq_true rfl) (Nat.le_of_ble_eq_true rfl) dX7_init_7 (fun q1 hq1 => ?_)
  refine y_putF B hinit (ref := "AlertIndexModel") (ci := 8) (C := RX7) (T := TX7) (N := 15) (ty := (.array .int)) (ai_U_f hq1 h1) rfl i_X7_init_X7 tyX7 tyX7_ok nmX7 3 (by decide) (by decide +kernel) (fun _ h9 => h9) rfl rfl (by decide +kernel) rfl rfl (Nat.le_of_ble_eq_true rfl) dX7_init_9 ?_
  have e9 := ai_init1 (t := 21) (x := (ai_eI G 6 (fun _ => 0))) (e1 := (.inr (8, [.int 0, .int 0, .int 0, .ref q1, .null, .null, .null, .null, .null, .null, .null, .null, .null, .null, .null]))) h1 hq1
  obtain ⟨M1, eM1⟩ : ∃ z, z = ai_U (ai_U M q1 21 (ai_eI G 6 (fun _ => 0))) mo 9 (.inr (8, [.int 0, .int 0, .int 0, .ref q1, .null, .null, .null, .null, .null, .null, .null, .null, .null, .null, .null])) := ⟨_, rfl⟩
  rw [← eM1] at e9
  refine y_mem (M' := M1) (fun b g e hb => by rw [eM1] at hb; exact hb) ?_
  obtain ⟨hm1, ha1, kp⟩ := e9
  have kk1 : ∀ (b g : Nat) (e : va_E), M b = some (g, e) → b ≠ mo → M1 b = some (g, e) := fun b g e hb hbm => kp b g e (hb) hbm
  refine y_aload_n B dX7_init_12 rfl ?_
  refine y_bipush B (nI 20) dX7_init_13 (by decide +kernel) ?_
  refine y_newa B (atype := .boolean) (22) 1 (ty := .boolean) (N' := 20) (a0 := (20, .inl (fun _ => 0))) (by decide +kernel) rfl rfl (fun _ => rfl) (by decide) (nI_clamp (by decide)) (by decide) (Nat.le_of_ble_eq_true rfl) (Nat.le_of_ble_eq_true rfl) dX7_init_15 (fun q2 hq2 => ?_)
  refine y_putF B hinit (ref := "AlertIndexModel") (ci := 8) (C := RX7) (T := TX7) (N := 15) (ty := (.array .boolean)) (ai_U_f hq2 hm1) rfl i_X7_init_X7 tyX7 tyX7_ok nmX7 4 (by decide) (by decide +kernel) (fun _ h9 => h9) rfl rfl (by decide +kernel) rfl rfl (Nat.le_of_ble_eq_true rfl) dX7_init_17 ?_
  have e9 := ai_init1 (t := 22) (x := (ai_eZ G 20 (fun _ => 0))) (e1 := (.inr (8, [.int 0, .int 0, .int 0, .ref q1, .ref q2, .null, .null, .null, .null, .null, .null, .null, .null, .null, .null]))) hm1 hq2
  obtain ⟨M2, eM2⟩ : ∃ z, z = ai_U (ai_U M1 q2 22 (ai_eZ G 20 (fun _ => 0))) mo 9 (.inr (8, [.int 0, .int 0, .int 0, .ref q1, .ref q2, .null, .null, .null, .null, .null, .null, .null, .null, .null, .null])) := ⟨_, rfl⟩
  rw [← eM2] at e9
  refine y_mem (M' := M2) (fun b g e hb => by rw [eM2] at hb; exact hb) ?_
  obtain ⟨hm2, ha2, kp⟩ := e9
  replace ha1 := kp _ _ _ ha1 (ai_ne ha1 hm1 (by decide))
  have kk2 : ∀ (b g : Nat) (e : va_E), M b = some (g, e) → b ≠ mo → M2 b = some (g, e) := fun b g e hb hbm => kp b g e (kk1 b g e hb hbm) hbm
  refine y_aload_n B dX7_init_20 rfl ?_
  refine y_bipush B (nI 20) dX7_init_21 (by decide +kernel) ?_
  refine y_newa B (atype := .int) (23) 0 (ty := .int) (N' := 20) (a0 := (20, .inl (fun _ => 0))) (by decide +kernel) rfl rfl (fun _ => rfl) (by decide) (nI_clamp (by decide)) (by decide) (Nat.le_of_ble_eq_true rfl) (Nat.le_of_ble_eq_true rfl) dX7_init_23 (fun q3 hq3 => ?_)
  refine y_putF B hinit (ref := "AlertIndexModel") (ci := 8) (C := RX7) (T := TX7) (N := 15) (ty := (.array .int)) (ai_U_f hq3 hm2) rfl i_X7_init_X7 tyX7 tyX7_ok nmX7 5 (by decide) (by decide +kernel) (fun _ h9 => h9) rfl rfl (by decide +kernel) rfl rfl (Nat.le_of_ble_eq_true rfl) dX7_init_25 ?_
  have e9 := ai_init1 (t := 23) (x := (ai_eI G 20 (fun _ => 0))) (e1 := (.inr (8, [.int 0, .int 0, .int 0, .ref q1, .ref q2, .ref q3, .null, .null, .null, .null, .null, .null, .null, .null, .null]))) hm2 hq3
  obtain ⟨M3, eM3⟩ : ∃ z, z = ai_U (ai_U M2 q3 23 (ai_eI G 20 (fun _ => 0))) mo 9 (.inr (8, [.int 0, .int 0, .int 0, .ref q1, .ref q2, .ref q3, .null, .null, .null, .null, .null, .null, .null, .null, .null])) := ⟨_, rfl⟩
  rw [← eM3] at e9
  refine y_mem (M' := M3) (fun b g e hb => by rw [eM3] at hb; exact hb) ?_
  obtain ⟨hm3, ha3, kp⟩ := e9
  replace ha1 := kp _ _ _ ha1 (ai_ne ha1 hm2 (by decide))
  replace ha2 := kp _ _ _ ha2 (ai_ne ha2 hm2 (by decide))
  have kk3 : ∀ (b g : Nat) (e : va_E), M b = some (g, e) → b ≠ mo → M3 b = some (g, e) := fun b g e hb hbm => kp b g e (kk2 b g e hb hbm) hbm
  refine y_aload_n B dX7_init_28 rfl ?_
  refine y_bipush B (nI 20) dX7_init_29 (by decide +kernel) ?_
  refine y_newa B (atype := .int) (24) 0 (ty := .int) (N' := 20) (a0 := (20, .inl (fun _ => 0))) (by decide +kernel) rfl rfl (fun _ => rfl) (by decide) (nI_clamp (by decide)) (by decide) (Nat.le_of_ble_eq_true rfl) (Nat.le_of_ble_eq_true rfl) dX7_init_31 (fun q4 hq4 => ?_)
  refine y_putF B hinit (ref := "AlertIndexModel") (ci := 8) (C := RX7) (T := TX7) (N := 15) (ty := (.array .int)) (ai_U_f hq4 hm3) rfl i_X7_init_X7 tyX7 tyX7_ok nmX7 6 (by decide) (by decide +kernel) (fun _ h9 => h9) rfl rfl (by decide +kernel) rfl rfl (Nat.le_of_ble_eq_true rfl) dX7_init_33 ?_
  have e9 := ai_init1 (t := 24) (x := (ai_eI G 20 (fun _ => 0))) (e1 := (.inr (8, [.int 0, .int 0, .int 0, .ref q1, .ref q2, .ref q3, .ref q4, .null, .null, .null, .null, .null, .null, .null, .null]))) hm3 hq4
  obtain ⟨M4, eM4⟩ : ∃ z, z = ai_U (ai_U M3 q4 24 (ai_eI G 20 (fun _ => 0))) mo 9 (.inr (8, [.int 0, .int 0, .int 0, .ref q1, .ref q2, .ref q3, .ref q4, .null, .null, .null, .null, .null, .null, .null, .null])) := ⟨_, rfl⟩
  rw [← eM4] at e9
  refine y_mem (M' := M4) (fun b g e hb => by rw [eM4] at hb; exact hb) ?_
  obtain ⟨hm4, ha4, kp⟩ := e9
  replace ha1 := kp _ _ _ ha1 (ai_ne ha1 hm3 (by decide))
  replace ha2 := kp _ _ _ ha2 (ai_ne ha2 hm3 (by decide))
  replace ha3 := kp _ _ _ ha3 (ai_ne ha3 hm3 (by decide))
  have kk4 : ∀ (b g : Nat) (e : va_E), M b = some (g, e) → b ≠ mo → M4 b = some (g, e) := fun b g e hb hbm => kp b g e (kk3 b g e hb hbm) hbm
  refine y_aload_n B dX7_init_36 rfl ?_
  refine y_bipush B (nI 20) dX7_init_37 (by decide +kernel) ?_
  refine y_newa B (atype := .int) (25) 0 (ty := .int) (N' := 20) (a0 := (20, .inl (fun _ => 0))) (by decide +kernel) rfl rfl (fun _ => rfl) (by decide) (nI_clamp (by decide)) (by decide) (Nat.le_of_ble_eq_true rfl) (Nat.le_of_ble_eq_true rfl) dX7_init_39 (fun q5 hq5 => ?_)
  refine y_putF B hinit (ref := "AlertIndexModel") (ci := 8) (C := RX7) (T := TX7) (N := 15) (ty := (.array .int)) (ai_U_f hq5 hm4) rfl i_X7_init_X7 tyX7 tyX7_ok nmX7 7 (by decide) (by decide +kernel) (fun _ h9 => h9) rfl rfl (by decide +kernel) rfl rfl (Nat.le_of_ble_eq_true rfl) dX7_init_41 ?_
  have e9 := ai_init1 (t := 25) (x := (ai_eI G 20 (fun _ => 0))) (e1 := (.inr (8, [.int 0, .int 0, .int 0, .ref q1, .ref q2, .ref q3, .ref q4, .ref q5, .null, .null, .null, .null, .null, .null, .null]))) hm4 hq5
  obtain ⟨M5, eM5⟩ : ∃ z, z = ai_U (ai_U M4 q5 25 (ai_eI G 20 (fun _ => 0))) mo 9 (.inr (8, [.int 0, .int 0, .int 0, .ref q1, .ref q2, .ref q3, .ref q4, .ref q5, .null, .null, .null, .null, .null, .null, .null])) := ⟨_, rfl⟩
  rw [← eM5] at e9
  refine y_mem (M' := M5) (fun b g e hb => by rw [eM5] at hb; exact hb) ?_
  obtain ⟨hm5, ha5, kp⟩ := e9
  replace ha1 := kp _ _ _ ha1 (ai_ne ha1 hm4 (by decide))
  replace ha2 := kp _ _ _ ha2 (ai_ne ha2 hm4 (by decide))
  replace ha3 := kp _ _ _ ha3 (ai_ne ha3 hm4 (by decide))
  replace ha4 := kp _ _ _ ha4 (ai_ne ha4 hm4 (by decide))
  have kk5 : ∀ (b g : Nat) (e : va_E), M b = some (g, e) → b ≠ mo → M5 b = some (g, e) := fun b g e hb hbm => kp b g e (kk4 b g e hb hbm) hbm
  refine y_aload_n B dX7_init_44 rfl ?_
  refine y_bipush B (nI 20) dX7_init_45 (by decide +kernel) ?_
  refine y_newa B (atype := .int) (26) 0 (ty := .int) (N' := 20) (a0 := (20, .inl (fun _ => 0))) (by decide +kernel) rfl rfl (fun _ => rfl) (by decide) (nI_clamp (by decide)) (by decide) (Nat.le_of_ble_eq_true rfl) (Nat.le_of_ble_eq_true rfl) dX7_init_47 (fun q6 hq6 => ?_)
  refine y_putF B hinit (ref := "AlertIndexModel") (ci := 8) (C := RX7) (T := TX7) (N := 15) (ty := (.array .int)) (ai_U_f hq6 hm5) rfl i_X7_init_X7 tyX7 tyX7_ok nmX7 8 (by decide) (by decide +kernel) (fun _ h9 => h9) rfl rfl (by decide +kernel) rfl rfl (Nat.le_of_ble_eq_true rfl) dX7_init_49 ?_
  have e9 := ai_init1 (t := 26) (x := (ai_eI G 20 (fun _ => 0))) (e1 := (.inr (8, [.int 0, .int 0, .int 0, .ref q1, .ref q2, .ref q3, .ref q4, .ref q5, .ref q6, .null, .null, .null, .null, .null, .null]))) hm5 hq6
  obtain ⟨M6, eM6⟩ : ∃ z, z = ai_U (ai_U M5 q6 26 (ai_eI G 20 (fun _ => 0))) mo 9 (.inr (8, [.int 0, .int 0, .int 0, .ref q1, .ref q2, .ref q3, .ref q4, .ref q5, .ref q6, .null, .null, .null, .null, .null, .null])) := ⟨_, rfl⟩
  rw [← eM6] at e9
  refine y_mem (M' := M6) (fun b g e hb => by rw [eM6] at hb; exact hb) ?_
  obtain ⟨hm6, ha6, kp⟩ := e9
  replace ha1 := kp _ _ _ ha1 (ai_ne ha1 hm5 (by decide))
  replace ha2 := kp _ _ _ ha2 (ai_ne ha2 hm5 (by decide))
  replace ha3 := kp _ _ _ ha3 (ai_ne ha3 hm5 (by decide))
  replace ha4 := kp _ _ _ ha4 (ai_ne ha4 hm5 (by decide))
  replace ha5 := kp _ _ _ ha5 (ai_ne ha5 hm5 (by decide))
  have kk6 : ∀ (b g : Nat) (e : va_E), M b = some (g, e) → b ≠ mo → M6 b = some (g, e) := fun b g e hb hbm => kp b g e (kk5 b g e hb hbm) hbm
  refine y_aload_n B dX7_init_52 rfl ?_
  refine y_bipush B (nI 20) dX7_init_53 (by decide +kernel) ?_
  refine y_newa B (atype := .int) (27) 0 (ty := .int) (N' := 20) (a0 := (20, .inl (fun _ => 0))) (by decide +kernel) rfl rfl (fun _ => rfl) (by decide) (nI_clamp (by decide)) (by decide) (Nat.le_of_ble_eq_true rfl) (Nat.le_of_ble_eq_true rfl) dX7_init_55 (fun q7 hq7 => ?_)
  refine y_putF B hinit (ref := "AlertIndexModel") (ci := 8) (C := RX7) (T := TX7) (N := 15) (ty := (.array .int)) (ai_U_f hq7 hm6) rfl i_X7_init_X7 tyX7 tyX7_ok nmX7 9 (by decide) (by decide +kernel) (fun _ h9 => h9) rfl rfl (by decide +kernel) rfl rfl (Nat.le_of_ble_eq_true rfl) dX7_init_57 ?_
  have e9 := ai_init1 (t := 27) (x := (ai_eI G 20 (fun _ => 0))) (e1 := (.inr (8, [.int 0, .int 0, .int 0, .ref q1, .ref q2, .ref q3, .ref q4, .ref q5, .ref q6, .ref q7, .null, .null, .null, .null, .null]))) hm6 hq7
  obtain ⟨M7, eM7⟩ : ∃ z, z = ai_U (ai_U M6 q7 27 (ai_eI G 20 (fun _ => 0))) mo 9 (.inr (8, [.int 0, .int 0, .int 0, .ref q1, .ref q2, .ref q3, .ref q4, .ref q5, .ref q6, .ref q7, .null, .null, .null, .null, .null])) := ⟨_, rfl⟩
  rw [← eM7] at e9
  refine y_mem (M' := M7) (fun b g e hb => by rw [eM7] at hb; exact hb) ?_
  obtain ⟨hm7, ha7, kp⟩ := e9
  replace ha1 := kp _ _ _ ha1 (ai_ne ha1 hm6 (by decide))
  replace ha2 := kp _ _ _ ha2 (ai_ne ha2 hm6 (by decide))
  replace ha3 := kp _ _ _ ha3 (ai_ne ha3 hm6 (by decide))
  replace ha4 := kp _ _ _ ha4 (ai_ne ha4 hm6 (by decide))
  replace ha5 := kp _ _ _ ha5 (ai_ne ha5 hm6 (by decide))
  replace ha6 := kp _ _ _ ha6 (ai_ne ha6 hm6 (by decide))
  have kk7 : ∀ (b g : Nat) (e : va_E), M b = some (g, e) → b ≠ mo → M7 b = some (g, e) := fun b g e hb hbm => kp b g e (kk6 b g e hb hbm) hbm
  refine y_aload_n B dX7_init_60 rfl ?_
  refine y_bipush B (nI 60) dX7_init_61 (by decide +kernel) ?_
  refine y_newa B (atype := .int) (28) 0 (ty := .int) (N' := 60) (a0 := (60, .inl (fun _ => 0))) (by decide +kernel) rfl rfl (fun _ => rfl) (by decide) (nI_clamp (by decide)) (by decide) (Nat.le_of_ble_eq_true rfl) (Nat.le_of_ble_eq_true rfl) dX7_init_63 (fun q8 hq8 => ?_)
  refine y_putF B hinit (ref := "AlertIndexModel") (ci := 8) (C := RX7) (T := TX7) (N := 15) (ty := (.array .int)) (ai_U_f hq8 hm7) rfl i_X7_init_X7 tyX7 tyX7_ok nmX7 10 (by decide) (by decide +kernel) (fun _ h9 => h9) rfl rfl (by decide +kernel) rfl rfl (Nat.le_of_ble_eq_true rfl) dX7_init_65 ?_
  have e9 := ai_init1 (t := 28) (x := (ai_eI G 60 (fun _ => 0))) (e1 := (.inr (8, [.int 0, .int 0, .int 0, .ref q1, .ref q2, .ref q3, .ref q4, .ref q5, .ref q6, .ref q7, .ref q8, .null, .null, .null, .null]))) hm7 hq8
  obtain ⟨M8, eM8⟩ : ∃ z, z = ai_U (ai_U M7 q8 28 (ai_eI G 60 (fun _ => 0))) mo 9 (.inr (8, [.int 0, .int 0, .int 0, .ref q1, .ref q2, .ref q3, .ref q4, .ref q5, .ref q6, .ref q7, .ref q8, .null, .null, .null, .null])) := ⟨_, rfl⟩
  rw [← eM8] at e9
  refine y_mem (M' := M8) (fun b g e hb => by rw [eM8] at hb; exact hb) ?_
  obtain ⟨hm8, ha8, kp⟩ := e9
  replace ha1 := kp _ _ _ ha1 (ai_ne ha1 hm7 (by decide))
  replace ha2 := kp _ _ _ ha2 (ai_ne ha2 hm7 (by decide))
  replace ha3 := kp _ _ _ ha3 (ai_ne ha3 hm7 (by decide))
  replace ha4 := kp _ _ _ ha4 (ai_ne ha4 hm7 (by decide))
  replace ha5 := kp _ _ _ ha5 (ai_ne ha5 hm7 (by decide))
  replace ha6 := kp _ _ _ ha6 (ai_ne ha6 hm7 (by decide))
  replace ha7 := kp _ _ _ ha7 (ai_ne ha7 hm7 (by decide))
  have kk8 : ∀ (b g : Nat) (e : va_E), M b = some (g, e) → b ≠ mo → M8 b = some (g, e) := fun b g e hb hbm => kp b g e (kk7 b g e hb hbm) hbm
  refine y_aload_n B dX7_init_68 rfl ?_
  refine y_sipush B (nI 240) dX7_init_69 (by decide +kernel) ?_
  refine y_newa B (atype := .int) (29) 0 (ty := .int) (N' := 240) (a0 := (240, .inl (fun _ => 0))) (by decide +kernel) rfl rfl (fun _ => rfl) (by decide) (nI_clamp (by decide)) (by decide) (Nat.le_of_ble_eq_true rfl) (Nat.le_of_ble_eq_true rfl) dX7_init_72 (fun q9 hq9 => ?_)
  refine y_putF B hinit (ref := "AlertIndexModel") (ci := 8) (C := RX7) (T := TX7) (N := 15) (ty := (.array .int)) (ai_U_f hq9 hm8) rfl i_X7_init_X7 tyX7 tyX7_ok nmX7 11 (by decide) (by decide +kernel) (fun _ h9 => h9) rfl rfl (by decide +kernel) rfl rfl (Nat.le_of_ble_eq_true rfl) dX7_init_74 ?_
  have e9 := ai_init1 (t := 29) (x := (ai_eI G 240 (fun _ => 0))) (e1 := (.inr (8, [.int 0, .int 0, .int 0, .ref q1, .ref q2, .ref q3, .ref q4, .ref q5, .ref q6, .ref q7, .ref q8, .ref q9, .null, .null, .null]))) hm8 hq9
  obtain ⟨M9, eM9⟩ : ∃ z, z = ai_U (ai_U M8 q9 29 (ai_eI G 240 (fun _ => 0))) mo 9 (.inr (8, [.int 0, .int 0, .int 0, .ref q1, .ref q2, .ref q3, .ref q4, .ref q5, .ref q6, .ref q7, .ref q8, .ref q9, .null, .null, .null])) := ⟨_, rfl⟩
  rw [← eM9] at e9
  refine y_mem (M' := M9) (fun b g e hb => by rw [eM9] at hb; exact hb) ?_
  obtain ⟨hm9, ha9, kp⟩ := e9
  replace ha1 := kp _ _ _ ha1 (ai_ne ha1 hm8 (by decide))
  replace ha2 := kp _ _ _ ha2 (ai_ne ha2 hm8 (by decide))
  replace ha3 := kp _ _ _ ha3 (ai_ne ha3 hm8 (by decide))
  replace ha4 := kp _ _ _ ha4 (ai_ne ha4 hm8 (by decide))
  replace ha5 := kp _ _ _ ha5 (ai_ne ha5 hm8 (by decide))
  replace ha6 := kp _ _ _ ha6 (ai_ne ha6 hm8 (by decide))
  replace ha7 := kp _ _ _ ha7 (ai_ne ha7 hm8 (by decide))
  replace ha8 := kp _ _ _ ha8 (ai_ne ha8 hm8 (by decide))
  have kk9 : ∀ (b g : Nat) (e : va_E), M b = some (g, e) → b ≠ mo → M9 b = some (g, e) := fun b g e hb hbm => kp b g e (kk8 b g e hb hbm) hbm
  refine y_aload_n B dX7_init_77 rfl ?_
  refine y_sipush B (nI 240) dX7_init_78 (by decide +kernel) ?_
  refine y_newa B (atype := .int) (30) 0 (ty := .int) (N' := 240) (a0 := (240, .inl (fun _ => 0))) (by decide +kernel) rfl rfl (fun _ => rfl) (by decide) (nI_clamp (by decide)) (by decide) (Nat.le_of_ble_eq_true rfl) (Nat.le_of_ble_eq_true rfl) dX7_init_81 (fun q10 hq10 => ?_)
  refine y_putF B hinit (ref := "AlertIndexModel") (ci := 8) (C := RX7) (T := TX7) (N := 15) (ty := (.array .int)) (ai_U_f hq10 hm9) rfl i_X7_init_X7 tyX7 tyX7_ok nmX7 12 (by decide) (by decide +kernel) (fun _ h9 => h9) rfl rfl (by decide +kernel) rfl rfl (Nat.le_of_ble_eq_true rfl) dX7_init_83 ?_
  have e9 := ai_init1 (t := 30) (x := (ai_eI G 240 (fun _ => 0))) (e1 := (.inr (8, [.int 0, .int 0, .int 0, .ref q1, .ref q2, .ref q3, .ref q4, .ref q5, .ref q6, .ref q7, .ref q8, .ref q9, .ref q10, .null, .null]))) hm9 hq10
  obtain ⟨M10, eM10⟩ : ∃ z, z = ai_U (ai_U M9 q10 30 (ai_eI G 240 (fun _ => 0))) mo 9 (.inr (8, [.int 0, .int 0, .int 0, .ref q1, .ref q2, .ref q3, .ref q4, .ref q5, .ref q6, .ref q7, .ref q8, .ref q9, .ref q10, .null, .null])) := ⟨_, rfl⟩
  rw [← eM10] at e9
  refine y_mem (M' := M10) (fun b g e hb => by rw [eM10] at hb; exact hb) ?_
  obtain ⟨hm10, ha10, kp⟩ := e9
  replace ha1 := kp _ _ _ ha1 (ai_ne ha1 hm9 (by decide))
  replace ha2 := kp _ _ _ ha2 (ai_ne ha2 hm9 (by decide))
  replace ha3 := kp _ _ _ ha3 (ai_ne ha3 hm9 (by decide))
  replace ha4 := kp _ _ _ ha4 (ai_ne ha4 hm9 (by decide))
  replace ha5 := kp _ _ _ ha5 (ai_ne ha5 hm9 (by decide))
  replace ha6 := kp _ _ _ ha6 (ai_ne ha6 hm9 (by decide))
  replace ha7 := kp _ _ _ ha7 (ai_ne ha7 hm9 (by decide))
  replace ha8 := kp _ _ _ ha8 (ai_ne ha8 hm9 (by decide))
  replace ha9 := kp _ _ _ ha9 (ai_ne ha9 hm9 (by decide))
  have kk10 : ∀ (b g : Nat) (e : va_E), M b = some (g, e) → b ≠ mo → M10 b = some (g, e) := fun b g e hb hbm => kp b g e (kk9 b g e hb hbm) hbm
  refine y_aload_n B dX7_init_86 rfl ?_
  refine y_sipush B (nI 240) dX7_init_87 (by decide +kernel) ?_
  refine y_newa B (atype := .int) (31) 0 (ty := .int) (N' := 240) (a0 := (240, .inl (fun _ => 0))) (by decide +kernel) rfl rfl (fun _ => rfl) (by decide) (nI_clamp (by decide)) (by decide) (Nat.le_of_ble_eq_true rfl) (Nat.le_of_ble_eq_true rfl) dX7_init_90 (fun q11 hq11 => ?_)
  refine y_putF B hinit (ref := "AlertIndexModel") (ci := 8) (C := RX7) (T := TX7) (N := 15) (ty := (.array .int)) (ai_U_f hq11 hm10) rfl i_X7_init_X7 tyX7 tyX7_ok nmX7 13 (by decide) (by decide +kernel) (fun _ h9 => h9) rfl rfl (by decide +kernel) rfl rfl (Nat.le_of_ble_eq_true rfl) dX7_init_92 ?_
  have e9 := ai_init1 (t := 31) (x := (ai_eI G 240 (fun _ => 0))) (e1 := (.inr (8, [.int 0, .int 0, .int 0, .ref q1, .ref q2, .ref q3, .ref q4, .ref q5, .ref q6, .ref q7, .ref q8, .ref q9, .ref q10, .ref q11, .null]))) hm10 hq11
  obtain ⟨M11, eM11⟩ : ∃ z, z = ai_U (ai_U M10 q11 31 (ai_eI G 240 (fun _ => 0))) mo 9 (.inr (8, [.int 0, .int 0, .int 0, .ref q1, .ref q2, .ref q3, .ref q4, .ref q5, .ref q6, .ref q7, .ref q8, .ref q9, .ref q10, .ref q11, .null])) := ⟨_, rfl⟩
  rw [← eM11] at e9
  refine y_mem (M' := M11) (fun b g e hb => by rw [eM11] at hb; exact hb) ?_
  obtain ⟨hm11, ha11, kp⟩ := e9
  replace ha1 := kp _ _ _ ha1 (ai_ne ha1 hm10 (by decide))
  replace ha2 := kp _ _ _ ha2 (ai_ne ha2 hm10 (by decide))
  replace ha3 := kp _ _ _ ha3 (ai_ne ha3 hm10 (by decide))
  replace ha4 := kp _ _ _ ha4 (ai_ne ha4 hm10 (by decide))
  replace ha5 := kp _ _ _ ha5 (ai_ne ha5 hm10 (by decide))
  replace ha6 := kp _ _ _ ha6 (ai_ne ha6 hm10 (by decide))
  replace ha7 := kp _ _ _ ha7 (ai_ne ha7 hm10 (by decide))
  replace ha8 := kp _ _ _ ha8 (ai_ne ha8 hm10 (by decide))
  replace ha9 := kp _ _ _ ha9 (ai_ne ha9 hm10 (by decide))
  replace ha10 := kp _ _ _ ha10 (ai_ne ha10 hm10 (by decide))
  have kk11 : ∀ (b g : Nat) (e : va_E), M b = some (g, e) → b ≠ mo → M11 b = some (g, e) := fun b g e hb hbm => kp b g e (kk10 b g e hb hbm) hbm
  refine y_aload_n B dX7_init_95 rfl ?_
  refine y_sipush B (nI 240) dX7_init_96 (by decide +kernel) ?_
  refine y_newa B (atype := .boolean) (32) 1 (ty := .boolean) (N' := 240) (a0 := (240, .inl (fun _ => 0))) (by decide +kernel) rfl rfl (fun _ => rfl) (by decide) (nI_clamp (by decide)) (by decide) (Nat.le_of_ble_eq_true rfl) (Nat.le_of_ble_eq_true rfl) dX7_init_99 (fun q12 hq12 => ?_)
  refine y_putF B hinit (ref := "AlertIndexModel") (ci := 8) (C := RX7) (T := TX7) (N := 15) (ty := (.array .boolean)) (ai_U_f hq12 hm11) rfl i_X7_init_X7 tyX7 tyX7_ok nmX7 14 (by decide) (by decide +kernel) (fun _ h9 => h9) rfl rfl (by decide +kernel) rfl rfl (Nat.le_of_ble_eq_true rfl) dX7_init_101 ?_
  have e9 := ai_init1 (t := 32) (x := (ai_eZ G 240 (fun _ => 0))) (e1 := (.inr (8, [.int 0, .int 0, .int 0, .ref q1, .ref q2, .ref q3, .ref q4, .ref q5, .ref q6, .ref q7, .ref q8, .ref q9, .ref q10, .ref q11, .ref q12]))) hm11 hq12
  obtain ⟨M12, eM12⟩ : ∃ z, z = ai_U (ai_U M11 q12 32 (ai_eZ G 240 (fun _ => 0))) mo 9 (.inr (8, [.int 0, .int 0, .int 0, .ref q1, .ref q2, .ref q3, .ref q4, .ref q5, .ref q6, .ref q7, .ref q8, .ref q9, .ref q10, .ref q11, .ref q12])) := ⟨_, rfl⟩
  rw [← eM12] at e9
  refine y_mem (M' := M12) (fun b g e hb => by rw [eM12] at hb; exact hb) ?_
  obtain ⟨hm12, ha12, kp⟩ := e9
  replace ha1 := kp _ _ _ ha1 (ai_ne ha1 hm11 (by decide))
  replace ha2 := kp _ _ _ ha2 (ai_ne ha2 hm11 (by decide))
  replace ha3 := kp _ _ _ ha3 (ai_ne ha3 hm11 (by decide))
  replace ha4 := kp _ _ _ ha4 (ai_ne ha4 hm11 (by decide))
  replace ha5 := kp _ _ _ ha5 (ai_ne ha5 hm11 (by decide))
  replace ha6 := kp _ _ _ ha6 (ai_ne ha6 hm11 (by decide))
  replace ha7 := kp _ _ _ ha7 (ai_ne ha7 hm11 (by decide))
  replace ha8 := kp _ _ _ ha8 (ai_ne ha8 hm11 (by decide))
  replace ha9 := kp _ _ _ ha9 (ai_ne ha9 hm11 (by decide))
  replace ha10 := kp _ _ _ ha10 (ai_ne ha10 hm11 (by decide))
  replace ha11 := kp _ _ _ ha11 (ai_ne ha11 hm11 (by decide))
  have kk12 : ∀ (b g : Nat) (e : va_E), M b = some (g, e) → b ≠ mo → M12 b = some (g, e) := fun b g e hb hbm => kp b g e (kk11 b g e hb hbm) hbm
  refine y_iconst B (nI 0) dX7_init_104 (by decide +kernel) ?_
  refine y_istore_n B dX7_init_105 (Nat.le_of_ble_eq_true rfl) ?_
  have lp : ∀ (d : Nat) (i : Nat), (6 < i + d) → (i ≤ 6) → ai_Y p l e ({ frames := 1, cells := 12, slots := 1146, locals := 12 } : Room) s m [.ref mo].toArray below meth c G (MQ below (ai_Q G (fun r M1 => r = none ∧ ∃ ma : Nat → Nat, ai_O G M1 (nI 0) ai_S0 mo ma ∧ ∀ (b g : Nat) (e : va_E), M b = some (g, e) → b ≠ mo → M1 b = some (g, e))) [.ref mo].toArray s 12 1146 (ai_A G)) (ai_U M12 q1 21 (ai_eI G 6 (fun j => if j < i then (-1 : Int32) else 0))) 12 1146 [some (.ref mo), some (.int (nI i))] 106 [] := by
    intro d
    induction d with
    | zero => intros; omega
    | succ d ih =>
      intro i hm hi
      refine y_iload_n B dX7_init_106 rfl ?_
      refine y_bipush B (nI 6) dX7_init_107 (by decide +kernel) ?_
      refine y_icmp_ge B 125 dX7_init_109 (by decide) (fun c109 => ?_) (fun c109 => ?_)
      · have q109 : i = 6 := by have := (nI_leI (by omega) (by omega)).mp c109; omega
        exact y_vret B dX7_init_125 (Nat.le_of_ble_eq_true rfl) (Nat.le_of_ble_eq_true rfl) (⟨rfl, fun k => if k = 1 then q1 else if k = 2 then q2 else if k = 3 then q3 else if k = 4 then q4 else if k = 5 then q5 else if k = 6 then q6 else if k = 7 then q7 else if k = 8 then q8 else if k = 9 then q9 else if k = 10 then q10 else if k = 11 then q11 else q12, ⟨(ai_U_n (ai_ne hm12 ha1 (by decide))).trans hm12, ai_U_s.trans (by rw [q109, ai_d0]; rfl), (ai_U_n (ai_ne ha2 ha1 (by decide))).trans ha2, (ai_U_n (ai_ne ha3 ha1 (by decide))).trans ha3, (ai_U_n (ai_ne ha4 ha1 (by decide))).trans ha4, (ai_U_n (ai_ne ha5 ha1 (by decide))).trans ha5, (ai_U_n (ai_ne ha6 ha1 (by decide))).trans ha6, (ai_U_n (ai_ne ha7 ha1 (by decide))).trans ha7, (ai_U_n (ai_ne ha8 ha1 (by decide))).trans ha8, (ai_U_n (ai_ne ha9 ha1 (by decide))).trans ha9, (ai_U_n (ai_ne ha10 ha1 (by decide))).trans ha10, (ai_U_n (ai_ne ha11 ha1 (by decide))).trans ha11, (ai_U_n (ai_ne ha12 ha1 (by decide))).trans ha12⟩, fun b g e hb hbm => (ai_U_n (fun z => by rw [z, hq1] at hb; cases hb)).trans (kk12 b g e hb hbm)⟩)
      · have q109 : i < 6 := Nat.lt_of_not_le (fun z => c109 ((nI_leI (by omega) (by omega)).mpr z))
        refine y_aload_n B dX7_init_112 rfl ?_
        refine y_get B (ref := "AlertIndexModel") (ci := 8) (C := RX7) (T := TX7) (N := 15) ((ai_U_n (ai_ne hm12 ha1 (by decide))).trans hm12) rfl i_X7_init_X7 3 (by decide) (by decide +kernel) (fun _ h9 => h9) rfl dX7_init_113 ?_
        refine y_iload_n B dX7_init_116 rfl ?_
        refine y_iconst B (-1) dX7_init_117 (by decide +kernel) ?_
        refine y_iastoreI B ai_U_s (vp_in_nI (by omega) (by decide)) dX7_init_118 ?_
        rw [ai_UU, nI_clamp (by omega), ai_fill_s (f := fun _ => 0)]
        refine y_iinc B (nI (i + 1)) dX7_init_119 rfl (nI_1 i) ?_
        refine y_goto B 106 dX7_init_122 (by decide) ?_
        exact ih (i + 1) (by omega) (by omega)
  have e0 : M12 = ai_U M12 q1 21 (ai_eI G 6 (fun j => if j < 0 then (-1 : Int32) else 0)) := by funext b; by_cases q : b = q1; rw [q, ai_U_s, ha1]; congr 1; exact (ai_U_n q).symm
  refine y_mem (M' := ai_U M12 q1 21 (ai_eI G 6 (fun j => if j < 0 then (-1 : Int32) else 0))) (fun b g9 e9 hb => (congrFun e0 b).trans hb) ?_
  exact lp 7 0 (by omega) (by omega)
