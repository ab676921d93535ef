/-! ===== THE LAW'S CALLS OF THE CLASS: each answers a number, and never throws ===== -/
def ai_kw (M M1 : ai_M) : Prop := ∀ (b g : Nat) (e : va_E), M b = some (g, e) → g < 100 → g ≠ 8 → (∀ fs, e ≠ .inr (4, fs)) → M1 b = some (g, e)
theorem ai_kw.rf {M : ai_M} : ai_kw M M := fun _ _ _ h _ _ _ => h
def ai_lw (G : ai_G) (M : ai_M) (x ow : Nat) (q : ai_op) (r : Option Value) (M1 : ai_M) : Prop := r = some (.int (nI q.1)) ∧ ai_Rx G M1 q.2.2 x ∧ ai_kw M M1 ∧ ∃ f1 : Nat → Int64, M1 ow = some (8, ai_eJ G 1 f1) ∧ (q.1 = 0 → f1 0 = q.2.1.toInt64)
theorem ai_lw_ok {G : ai_G} {M M1 : ai_M} {x ow o : Nat} {q : ai_op} {v : Int32} {u : Int64} {S1 : ai_S} {f : Nat → Int64} (hR : ai_Rx G M1 S1 x) (hI : ai_I S1 o) (hk : ai_kq M M1) (hw : M ow = some (8, ai_eJ G 1 f)) (e : q = (0, v, S1)) (hu : u = v.toInt64) : M1 ow = some (8, ai_eJ G 1 f) ∧ ai_lw G M x ow q (some (.int (nI 0))) (ai_U M1 ow 8 (ai_eJ G 1 (vp_updL f (nI 0).toNatClampNeg u))) := by
  have hw1 := hk _ _ _ hw (by decide) (fun fs z => nomatch z)
  subst e
  refine ⟨hw1, rfl, hR.keep hI (fun b g e hb hg => (ai_U_n (ai_ne hb hw1 (by omega))).trans hb), fun b g e hb hg h8 h4 => (ai_U_n (ai_ne hb hw h8)).trans (hk b g e hb hg h4), _, ai_U_s, fun _ => ?_⟩
  rw [show (nI 0).toNatClampNeg = 0 from by decide +kernel]
  exact pk_uLs.trans hu
theorem ai_lw_no {G : ai_G} {M : ai_M} {x ow t : Nat} {q : ai_op} {v : Int32} {S : ai_S} {f : Nat → Int64} (hR : ai_Rx G M S x) (hw : M ow = some (8, ai_eJ G 1 f)) (e : q = (t + 1, v, S)) : ai_lw G M x ow q (some (.int (nI (t + 1)))) M := by
  subst e
  exact ⟨rfl, hR, ai_kw.rf, f, hw, fun h => absurd h (Nat.succ_ne_zero _)⟩
theorem ai_kq.rf0 {M : ai_M} : ai_kq M M := fun _ _ _ h _ _ => h
set_option maxHeartbeats 4000000 in
set_option maxRecDepth 100000 in
theorem k_L_question (l : Launch) (G : ai_G) (M : ai_M) (hst : l.stackTraces = false) {S : ai_S} {o x : Nat} (hR : ai_Rx G M S x) (hI : ai_I S o) {ow : Nat} {f : Nat → Int64} (hw : M ow = some (8, ai_eJ G 1 f)) (hz : ai_Z0 S) : ai_D l yL_question wsL_question ({ frames := 8, cells := 3, slots := 49, locals := 191 } : Room) 3 49 G M [.ref x, .ref ow] (fun r M1 => ai_lw G M x ow (op_question S) r M1) (fun _ _ => False) := by
  refine x_startH (by decide +kernel) rfl (Nat.le_of_ble_eq_true rfl) (Nat.le_of_ble_eq_true rfl) (fun x hx => by simp only [List.mem_cons, List.not_mem_nil, or_false] at hx; rcases hx with rfl | rfl <;> rfl) ?_
  intro p e s m below meth c B htab
  obtain ⟨qs, dr, ix, fa, qa, pa, pst, hx0, -⟩ := id hR
  refine y_aload_n B dL_question_0 rfl ?_
  refine y_iconst B (nI 0) dL_question_1 (by decide +kernel) ?_
  refine y_aload_n B dL_question_2 rfl ?_
  refine x_callV B 0 (q := (RX6, TX6, 4)) _ _ (k_X6_question l G _ hst hR hI hz) hx0 rfl gL_question_X6_question (by decide +kernel) rfl rfl rfl rfl ⟨(Nat.le_of_ble_eq_true rfl), (Nat.le_of_ble_eq_true rfl)⟩ (Nat.le_of_ble_eq_true rfl) ⟨(Nat.le_of_ble_eq_true rfl), (Nat.le_of_ble_eq_true rfl)⟩ dL_question_3 rfl (fun E M1 hr => ?_) (fun r M9 hr => ?_)
  · obtain ⟨rfl, c1, e9⟩ := hr; obtain rfl := e9.symm
    refine z_catch B (name := "java/lang/IllegalStateException") [] ⟨0, 8, 11, 13⟩ [] (htab.trans rfl) (fun z hz => nomatch hz) (by decide +kernel) (by decide) (by decide +kernel) (by decide +kernel) (fun a9 => ?_)
    refine y_astore_n B dL_question_11 (Nat.le_of_ble_eq_true rfl) ?_
    refine y_iconst B (nI 1) dL_question_12 (by decide +kernel) ?_
    exact x_iret B dL_question_13 (Nat.le_of_ble_eq_true rfl) (Nat.le_of_ble_eq_true rfl) (ai_lw_no hR hw (by unfold op_question; rw [if_pos c1]))
  obtain ⟨c1, rfl, hR1, hk1⟩ := hr
  refine y_i2l B dL_question_6 ?_
  obtain ⟨hw1, hl9⟩ := ai_lw_ok (u := (nI (S 0 2)).toInt64) hR1 (o := o + 1) (by have y := (op_question_I (o := o) hI hz).1; rw [show op_question S = (0, nI (S 0 2), ai_u S 0 2 (S 0 2 + 1)) from by unfold op_question; rw [if_neg (by omega)]] at y; exact y) hk1 hw (show op_question S = (0, nI (S 0 2), _) from by unfold op_question; rw [if_neg (by omega)]) rfl
  refine y_lastore B hw1 (vp_in_nI (n := 0) (by decide) (by decide)) dL_question_7 ?_
  refine y_goto B 14 dL_question_8 (by decide) ?_
  refine y_iconst B (nI 0) dL_question_14 (by decide +kernel) ?_
  exact x_iret B dL_question_15 (Nat.le_of_ble_eq_true rfl) (Nat.le_of_ble_eq_true rfl) (hl9)
set_option maxHeartbeats 4000000 in
set_option maxRecDepth 100000 in
theorem k_L_product (l : Launch) (G : ai_G) (M : ai_M) (hst : l.stackTraces = false) {S : ai_S} {o x : Nat} (hR : ai_Rx G M S x) (hI : ai_I S o) {ow : Nat} {f : Nat → Int64} (hw : M ow = some (8, ai_eJ G 1 f)) (hz : ai_Z0 S) {z : Int32} : ai_D l yL_product wsL_product ({ frames := 8, cells := 4, slots := 60, locals := 193 } : Room) 4 60 G M [.ref x, .int z, .ref ow] (fun r M1 => ai_lw G M x ow (op_product S z) r M1) (fun _ _ => False) := by
  refine x_startH (by decide +kernel) rfl (Nat.le_of_ble_eq_true rfl) (Nat.le_of_ble_eq_true rfl) (fun x hx => by simp only [List.mem_cons, List.not_mem_nil, or_false] at hx; rcases hx with rfl | rfl | rfl <;> rfl) ?_
  intro p e s m below meth c B htab
  obtain ⟨qs, dr, ix, fa, qa, pa, pst, hx0, -⟩ := id hR
  refine y_aload_n B dL_product_0 rfl ?_
  refine y_iconst B (nI 0) dL_product_1 (by decide +kernel) ?_
  refine y_aload_n B dL_product_2 rfl ?_
  refine y_iload_n B dL_product_3 rfl ?_
  refine x_callV B 1 (q := (RX6, TX6, 4)) _ _ (k_X6_product l G _ hst hR hI hz) hx0 rfl gL_product_X6_product (by decide +kernel) rfl rfl rfl rfl ⟨(Nat.le_of_ble_eq_true rfl), (Nat.le_of_ble_eq_true rfl)⟩ (Nat.le_of_ble_eq_true rfl) ⟨(Nat.le_of_ble_eq_true rfl), (Nat.le_of_ble_eq_true rfl)⟩ dL_product_4 rfl (fun E M1 hr => ?_) (fun r M9 hr => ?_)
  · obtain ⟨e9, hr⟩ := hr
    obtain rfl := e9.symm
    rcases hr with ⟨rfl, c1⟩ | ⟨rfl, c1, c2⟩
    · refine z_catch B (name := "java/lang/IndexOutOfBoundsException") [] ⟨0, 9, 12, 19⟩ [⟨0, 9, 15, 13⟩] (htab.trans rfl) (fun z hz => nomatch hz) (by decide +kernel) (by decide) (by decide +kernel) (by decide +kernel) (fun a9 => ?_)
      refine y_astore_n B dL_product_12 (Nat.le_of_ble_eq_true rfl) ?_
      refine y_iconst B (nI 1) dL_product_13 (by decide +kernel) ?_
      exact x_iret B dL_product_14 (Nat.le_of_ble_eq_true rfl) (Nat.le_of_ble_eq_true rfl) (ai_lw_no hR hw (by unfold op_product; rw [if_pos c1]))
    · refine z_catch B (name := "java/lang/IllegalStateException") [⟨0, 9, 12, 19⟩] ⟨0, 9, 15, 13⟩ [] (htab.trans rfl) (fun z hz => by simp only [List.mem_cons, List.not_mem_nil, or_false] at hz; rcases hz with rfl; exact Or.inr ⟨by decide, "java/lang/IndexOutOfBoundsException", by decide +kernel, B.2.2.2.2.2.2.2.2.1.1.2.2.2.2.2.2.2.2.2.2.2.1 ("java/lang/IllegalStateException", "java/lang/IndexOutOfBoundsException") (by decide +kernel)⟩) (by decide +kernel) (by decide) (by decide +kernel) (by decide +kernel) (fun a9 => ?_)
      refine y_astore_n B dL_product_15 (Nat.le_of_ble_eq_true rfl) ?_
      refine y_iconst B (nI 2) dL_product_16 (by decide +kernel) ?_
      exact x_iret B dL_product_17 (Nat.le_of_ble_eq_true rfl) (Nat.le_of_ble_eq_true rfl) (ai_lw_no hR hw (by unfold op_product; rw [if_neg (by rw [c1]; decide), if_pos c2]))
  obtain ⟨c1, c2, rfl, hR1, hk1⟩ := hr
  refine y_i2l B dL_product_7 ?_
  obtain ⟨hw1, hl9⟩ := ai_lw_ok (u := (nI (S 3 z.toNatClampNeg + 1)).toInt64) hR1 (o := o + 1) (by have y := (op_product_I (o := o) (z := z) hI hz).1; rw [show op_product S z = (0, nI (S 3 z.toNatClampNeg + 1), ai_u S 3 z.toNatClampNeg (S 3 z.toNatClampNeg + 1)) from by unfold op_product; rw [if_neg (by rw [c1]; decide), if_neg (by omega)]] at y; exact y) hk1 hw (show op_product S z = (0, nI (S 3 z.toNatClampNeg + 1), _) from by unfold op_product; rw [if_neg (by rw [c1]; decide), if_neg (by omega)]) rfl
  refine y_lastore B hw1 (vp_in_nI (n := 0) (by decide) (by decide)) dL_product_8 ?_
  refine y_goto B 18 dL_product_9 (by decide) ?_
  refine y_iconst B (nI 0) dL_product_18 (by decide +kernel) ?_
  exact x_iret B dL_product_19 (Nat.le_of_ble_eq_true rfl) (Nat.le_of_ble_eq_true rfl) (hl9)
set_option maxHeartbeats 4000000 in
set_option maxRecDepth 100000 in
theorem k_L_test (l : Launch) (G : ai_G) (M : ai_M) (hst : l.stackTraces = false) {S : ai_S} {o x : Nat} (hR : ai_Rx G M S x) (hI : ai_I S o) {ow : Nat} {f : Nat → Int64} (hw : M ow = some (8, ai_eJ G 1 f)) (hz : ai_Z0 S) {z nm lo hi : Int32} {bv : Nat} (hbv : bv = 0 ∨ bv = 1) : ai_D l yL_test wsL_test ({ frames := 8, cells := 70, slots := 200, locals := 198 } : Room) 70 200 G M [.ref x, .int z, .int nm, .int lo, .int hi, .int (nI bv), .ref ow] (fun r M1 => ai_lw G M x ow (op_test S z nm lo hi bv) r M1) (fun _ _ => False) := by
  refine x_startH (by decide +kernel) rfl (Nat.le_of_ble_eq_true rfl) (Nat.le_of_ble_eq_true rfl) (fun x hx => by simp only [List.mem_cons, List.not_mem_nil, or_false] at hx; rcases hx with rfl | rfl | rfl | rfl | rfl | rfl | rfl <;> rfl) ?_
  intro p e s m below meth c B htab
  obtain ⟨qs, dr, ix, fa, qa, pa, pst, hx0, -⟩ := id hR
  refine y_aload B dL_test_0 rfl ?_
  refine y_iconst B (nI 0) dL_test_2 (by decide +kernel) ?_
  refine y_aload_n B dL_test_3 rfl ?_
  refine y_iload_n B dL_test_4 rfl ?_
  refine y_iload_n B dL_test_5 rfl ?_
  refine y_iload_n B dL_test_6 rfl ?_
  refine y_iload B dL_test_7 rfl ?_
  refine y_iload B dL_test_9 rfl ?_
  refine x_callV B 5 (q := (RX6, TX6, 4)) _ _ (k_X6_test l G _ hst hR hI hbv) hx0 rfl gL_test_X6_test (by decide +kernel) rfl rfl rfl rfl ⟨(Nat.le_of_ble_eq_true rfl), (Nat.le_of_ble_eq_true rfl)⟩ (Nat.le_of_ble_eq_true rfl) ⟨(Nat.le_of_ble_eq_true rfl), (Nat.le_of_ble_eq_true rfl)⟩ dL_test_11 rfl (fun E M1 hr => ?_) (fun r M9 hr => ?_)
  · obtain ⟨e9, hr⟩ := hr
    obtain rfl := e9.symm
    rcases hr with ⟨rfl, c1⟩ | ⟨rfl, c1, c2, c3⟩ | ⟨rfl, c1, c2, c3, c4⟩
    · refine z_catch B (name := "java/lang/IndexOutOfBoundsException") [] ⟨0, 16, 19, 19⟩ [⟨0, 16, 23, 25⟩, ⟨0, 16, 27, 13⟩] (htab.trans rfl) (fun z hz => nomatch hz) (by decide +kernel) (by decide) (by decide +kernel) (by decide +kernel) (fun a9 => ?_)
      refine y_astore B dL_test_19 (Nat.le_of_ble_eq_true rfl) ?_
      refine y_iconst B (nI 1) dL_test_21 (by decide +kernel) ?_
      exact x_iret B dL_test_22 (Nat.le_of_ble_eq_true rfl) (Nat.le_of_ble_eq_true rfl) (ai_lw_no hR hw (by unfold op_test; rw [if_pos c1]))
    · refine z_catch B (name := "java/lang/IllegalArgumentException") [⟨0, 16, 19, 19⟩] ⟨0, 16, 23, 25⟩ [⟨0, 16, 27, 13⟩] (htab.trans rfl) (fun z hz => by simp only [List.mem_cons, List.not_mem_nil, or_false] at hz; rcases hz with rfl; exact Or.inr ⟨by decide, "java/lang/IndexOutOfBoundsException", by decide +kernel, B.2.2.2.2.2.2.2.2.1.1.2.2.2.2.2.2.2.2.2.2.2.1 ("java/lang/IllegalArgumentException", "java/lang/IndexOutOfBoundsException") (by decide +kernel)⟩) (by decide +kernel) (by decide) (by decide +kernel) (by decide +kernel) (fun a9 => ?_)
      refine y_astore B dL_test_23 (Nat.le_of_ble_eq_true rfl) ?_
      refine y_iconst B (nI 2) dL_test_25 (by decide +kernel) ?_
      exact x_iret B dL_test_26 (Nat.le_of_ble_eq_true rfl) (Nat.le_of_ble_eq_true rfl) (ai_lw_no hR hw (by unfold op_test; rw [if_neg (by rw [c1, c2]; decide), if_pos c3]))
    · refine z_catch B (name := "java/lang/IllegalStateException") [⟨0, 16, 19, 19⟩, ⟨0, 16, 23, 25⟩] ⟨0, 16, 27, 13⟩ [] (htab.trans rfl) (fun z hz => by simp only [List.mem_cons, List.not_mem_nil, or_false] at hz; rcases hz with rfl | rfl; exact Or.inr ⟨by decide, "java/lang/IndexOutOfBoundsException", by decide +kernel, B.2.2.2.2.2.2.2.2.1.1.2.2.2.2.2.2.2.2.2.2.2.1 ("java/lang/IllegalStateException", "java/lang/IndexOutOfBoundsException") (by decide +kernel)⟩; exact Or.inr ⟨by decide, "java/lang/IllegalArgumentException", by decide +kernel, B.2.2.2.2.2.2.2.2.1.1.2.2.2.2.2.2.2.2.2.2.2.1 ("java/lang/IllegalStateException", "java/lang/IllegalArgumentException") (by decide +kernel)⟩) (by decide +kernel) (by decide) (by decide +kernel) (by decide +kernel) (fun a9 => ?_)
      refine y_astore B dL_test_27 (Nat.le_of_ble_eq_true rfl) ?_
      refine y_iconst B (nI 3) dL_test_29 (by decide +kernel) ?_
      exact x_iret B dL_test_30 (Nat.le_of_ble_eq_true rfl) (Nat.le_of_ble_eq_true rfl) (ai_lw_no hR hw (by unfold op_test ai_lj; rw [if_neg (by rw [c1, c2]; decide), if_neg (by rw [c3]; decide), if_pos c4]))
  obtain ⟨c1, c2, c3, c4, c5, rfl, hR1, hk1⟩ := hr
  refine y_i2l B dL_test_14 ?_
  obtain ⟨hw1, hl9⟩ := ai_lw_ok (u := (nI (S 8 (3 * z.toNatClampNeg + (S 3 z.toNatClampNeg - 1)) + 1)).toInt64) hR1 (o := o + 1) (by have y := (op_test_I (o := o) (z := z) (nm := nm) (lo := lo) (hi := hi) hI hz hbv).1; rw [show op_test S z nm lo hi bv = (0, nI (S 8 (3 * z.toNatClampNeg + (S 3 z.toNatClampNeg - 1)) + 1), ai_tS S (3 * z.toNatClampNeg + (S 3 z.toNatClampNeg - 1)) nm.toNatClampNeg lo.toNatClampNeg hi.toNatClampNeg bv) from by unfold op_test ai_lj; rw [if_neg (by rw [c1, c2]; decide), if_neg (by rw [c3]; decide), if_neg (by omega)]] at y; exact y) hk1 hw (show op_test S z nm lo hi bv = (0, nI (S 8 (3 * z.toNatClampNeg + (S 3 z.toNatClampNeg - 1)) + 1), _) from by unfold op_test ai_lj; rw [if_neg (by rw [c1, c2]; decide), if_neg (by rw [c3]; decide), if_neg (by omega)]) rfl
  refine y_lastore B hw1 (vp_in_nI (n := 0) (by decide) (by decide)) dL_test_15 ?_
  refine y_goto B 31 dL_test_16 (by decide) ?_
  refine y_iconst B (nI 0) dL_test_31 (by decide +kernel) ?_
  exact x_iret B dL_test_32 (Nat.le_of_ble_eq_true rfl) (Nat.le_of_ble_eq_true rfl) (hl9)
set_option maxHeartbeats 4000000 in
set_option maxRecDepth 100000 in
theorem k_L_drop (l : Launch) (G : ai_G) (M : ai_M) (hst : l.stackTraces = false) {S : ai_S} {o x : Nat} (hR : ai_Rx G M S x) (hI : ai_I S o) {ow : Nat} {f : Nat → Int64} (hw : M ow = some (8, ai_eJ G 1 f)) (hz : ai_Z0 S) (ho : o ≤ 100000) {z : Int32} : ai_D l yL_drop wsL_drop ({ frames := 8, cells := 1, slots := 6, locals := 134 } : Room) 1 6 G M [.ref x, .int z, .ref ow] (fun r M1 => ai_lw G M x ow (op_drop S z) r M1) (fun _ _ => False) := by
  refine x_startH (by decide +kernel) rfl (Nat.le_of_ble_eq_true rfl) (Nat.le_of_ble_eq_true rfl) (fun x hx => by simp only [List.mem_cons, List.not_mem_nil, or_false] at hx; rcases hx with rfl | rfl | rfl <;> rfl) ?_
  intro p e s m below meth c B htab
  obtain ⟨qs, dr, ix, fa, qa, pa, pst, hx0, -⟩ := id hR
  refine y_aload_n B dL_drop_0 rfl ?_
  refine y_iconst B (nI 0) dL_drop_1 (by decide +kernel) ?_
  refine y_aload_n B dL_drop_2 rfl ?_
  refine y_iload_n B dL_drop_3 rfl ?_
  refine x_callV B 1 (q := (RX6, TX6, 4)) _ _ (k_X6_drop l G _ hst hR hI ho) hx0 rfl gL_drop_X6_drop (by decide +kernel) rfl rfl rfl rfl ⟨(Nat.le_of_ble_eq_true rfl), (Nat.le_of_ble_eq_true rfl)⟩ (Nat.le_of_ble_eq_true rfl) ⟨(Nat.le_of_ble_eq_true rfl), (Nat.le_of_ble_eq_true rfl)⟩ dL_drop_4 rfl (fun E M1 hr => ?_) (fun r M9 hr => ?_)
  · obtain ⟨rfl, c1, e9⟩ := hr; obtain rfl := e9.symm
    refine z_catch B (name := "java/lang/IndexOutOfBoundsException") [] ⟨0, 9, 12, 19⟩ [] (htab.trans rfl) (fun z hz => nomatch hz) (by decide +kernel) (by decide) (by decide +kernel) (by decide +kernel) (fun a9 => ?_)
    refine y_astore_n B dL_drop_12 (Nat.le_of_ble_eq_true rfl) ?_
    refine y_iconst B (nI 1) dL_drop_13 (by decide +kernel) ?_
    exact x_iret B dL_drop_14 (Nat.le_of_ble_eq_true rfl) (Nat.le_of_ble_eq_true rfl) (ai_lw_no hR hw (by unfold op_drop; rw [if_pos c1]))
  obtain ⟨c1, rfl, hR1, hk1⟩ := hr
  refine y_i2l B dL_drop_7 ?_
  obtain ⟨hw1, hl9⟩ := ai_lw_ok (u := (nI (S 7 z.toNatClampNeg)).toInt64) hR1 (o := o + 1) (by have y := (op_drop_I (o := o) (z := z) hI hz).1; rw [show op_drop S z = (0, nI (S 7 z.toNatClampNeg), ai_u S 2 z.toNatClampNeg 1) from by unfold op_drop; rw [if_neg (by rw [c1]; decide)]] at y; exact y) hk1 hw (show op_drop S z = (0, nI (S 7 z.toNatClampNeg), _) from by unfold op_drop; rw [if_neg (by rw [c1]; decide)]) rfl
  refine y_lastore B hw1 (vp_in_nI (n := 0) (by decide) (by decide)) dL_drop_8 ?_
  refine y_goto B 15 dL_drop_9 (by decide) ?_
  refine y_iconst B (nI 0) dL_drop_15 (by decide +kernel) ?_
  exact x_iret B dL_drop_16 (Nat.le_of_ble_eq_true rfl) (Nat.le_of_ble_eq_true rfl) (hl9)
set_option maxHeartbeats 4000000 in
set_option maxRecDepth 100000 in
theorem k_L_setQuiet (l : Launch) (G : ai_G) (M : ai_M) (hst : l.stackTraces = false) {S : ai_S} {o x : Nat} (hR : ai_Rx G M S x) (hI : ai_I S o) {ow : Nat} {f : Nat → Int64} (hw : M ow = some (8, ai_eJ G 1 f)) (hz : ai_Z0 S) (ho : o ≤ 100000) {z mm : Int32} : ai_D l yL_setQuiet wsL_setQuiet ({ frames := 8, cells := 2, slots := 12, locals := 136 } : Room) 2 12 G M [.ref x, .int z, .int mm, .ref ow] (fun r M1 => ai_lw G M x ow (op_setQuiet S z mm) r M1) (fun _ _ => False) := by
  refine x_startH (by decide +kernel) rfl (Nat.le_of_ble_eq_true rfl) (Nat.le_of_ble_eq_true rfl) (fun x hx => by simp only [List.mem_cons, List.not_mem_nil, or_false] at hx; rcases hx with rfl | rfl | rfl | rfl <;> rfl) ?_
  intro p e s m below meth c B htab
  obtain ⟨qs, dr, ix, fa, qa, pa, pst, hx0, -⟩ := id hR
  refine y_aload_n B dL_setQuiet_0 rfl ?_
  refine y_iconst B (nI 0) dL_setQuiet_1 (by decide +kernel) ?_
  refine y_aload_n B dL_setQuiet_2 rfl ?_
  refine y_iload_n B dL_setQuiet_3 rfl ?_
  refine y_iload_n B dL_setQuiet_4 rfl ?_
  refine x_callV B 2 (q := (RX6, TX6, 4)) _ _ (k_X6_setQuiet l G _ hst hR hI ho) hx0 rfl gL_setQuiet_X6_setQuiet (by decide +kernel) rfl rfl rfl rfl ⟨(Nat.le_of_ble_eq_true rfl), (Nat.le_of_ble_eq_true rfl)⟩ (Nat.le_of_ble_eq_true rfl) ⟨(Nat.le_of_ble_eq_true rfl), (Nat.le_of_ble_eq_true rfl)⟩ dL_setQuiet_5 rfl (fun E M1 hr => ?_) (fun r M9 hr => ?_)
  · obtain ⟨e9, hr⟩ := hr
    obtain rfl := e9.symm
    rcases hr with ⟨rfl, c1⟩ | ⟨rfl, c1, c2⟩
    · refine z_catch B (name := "java/lang/IndexOutOfBoundsException") [] ⟨0, 10, 13, 19⟩ [⟨0, 10, 17, 25⟩] (htab.trans rfl) (fun z hz => nomatch hz) (by decide +kernel) (by decide) (by decide +kernel) (by decide +kernel) (fun a9 => ?_)
      refine y_astore B dL_setQuiet_13 (Nat.le_of_ble_eq_true rfl) ?_
      refine y_iconst B (nI 1) dL_setQuiet_15 (by decide +kernel) ?_
      exact x_iret B dL_setQuiet_16 (Nat.le_of_ble_eq_true rfl) (Nat.le_of_ble_eq_true rfl) (ai_lw_no hR hw (by unfold op_setQuiet; rw [if_pos c1]))
    · refine z_catch B (name := "java/lang/IllegalArgumentException") [⟨0, 10, 13, 19⟩] ⟨0, 10, 17, 25⟩ [] (htab.trans rfl) (fun z hz => by simp only [List.mem_cons, List.not_mem_nil, or_false] at hz; rcases hz with rfl; exact Or.inr ⟨by decide, "java/lang/IndexOutOfBoundsException", by decide +kernel, B.2.2.2.2.2.2.2.2.1.1.2.2.2.2.2.2.2.2.2.2.2.1 ("java/lang/IllegalArgumentException", "java/lang/IndexOutOfBoundsException") (by decide +kernel)⟩) (by decide +kernel) (by decide) (by decide +kernel) (by decide +kernel) (fun a9 => ?_)
      refine y_astore B dL_setQuiet_17 (Nat.le_of_ble_eq_true rfl) ?_
      refine y_iconst B (nI 2) dL_setQuiet_19 (by decide +kernel) ?_
      exact x_iret B dL_setQuiet_20 (Nat.le_of_ble_eq_true rfl) (Nat.le_of_ble_eq_true rfl) (ai_lw_no hR hw (by unfold op_setQuiet; rw [if_neg (by rw [c1]; decide), if_pos c2]))
  obtain ⟨c1, c2, rfl, hR1, hk1⟩ := hr
  refine y_i2l B dL_setQuiet_8 ?_
  obtain ⟨hw1, hl9⟩ := ai_lw_ok (u := (nI (S 4 z.toNatClampNeg)).toInt64) hR1 (o := o + 1) (by have y := (op_setQuiet_I (o := o) (z := z) (mm := mm) hI hz).1; rw [show op_setQuiet S z mm = (0, nI (S 4 z.toNatClampNeg), ai_u S 4 z.toNatClampNeg mm.toNatClampNeg) from by unfold op_setQuiet; rw [if_neg (by rw [c1]; decide), if_neg (by rw [c2]; decide)]] at y; exact y) hk1 hw (show op_setQuiet S z mm = (0, nI (S 4 z.toNatClampNeg), _) from by unfold op_setQuiet; rw [if_neg (by rw [c1]; decide), if_neg (by rw [c2]; decide)]) rfl
  refine y_lastore B hw1 (vp_in_nI (n := 0) (by decide) (by decide)) dL_setQuiet_9 ?_
  refine y_goto B 21 dL_setQuiet_10 (by decide) ?_
  refine y_iconst B (nI 0) dL_setQuiet_21 (by decide +kernel) ?_
  exact x_iret B dL_setQuiet_22 (Nat.le_of_ble_eq_true rfl) (Nat.le_of_ble_eq_true rfl) (hl9)
set_option maxHeartbeats 4000000 in
set_option maxRecDepth 100000 in
theorem k_L_set (l : Launch) (G : ai_G) (M : ai_M) (hst : l.stackTraces = false) {S : ai_S} {o x : Nat} (hR : ai_Rx G M S x) (hI : ai_I S o) {ow : Nat} {f : Nat → Int64} (hw : M ow = some (8, ai_eJ G 1 f)) (hz : ai_Z0 S) (ho : o ≤ 100000) {z v : Int32} : ai_D l yL_set wsL_set ({ frames := 8, cells := 2, slots := 12, locals := 132 } : Room) 2 12 G M [.ref x, .int z, .int v, .ref ow] (fun r M1 => ai_lw G M x ow (op_set S z v) r M1) (fun _ _ => False) := by
  refine x_startH (by decide +kernel) rfl (Nat.le_of_ble_eq_true rfl) (Nat.le_of_ble_eq_true rfl) (fun x hx => by simp only [List.mem_cons, List.not_mem_nil, or_false] at hx; rcases hx with rfl | rfl | rfl | rfl <;> rfl) ?_
  intro p e s m below meth c B htab
  obtain ⟨qs, dr, ix, fa, qa, pa, pst, hx0, -⟩ := id hR
  refine y_aload_n B dL_set_0 rfl ?_
  refine y_iconst B (nI 0) dL_set_1 (by decide +kernel) ?_
  refine y_aload_n B dL_set_2 rfl ?_
  refine y_iload_n B dL_set_3 rfl ?_
  refine y_iload_n B dL_set_4 rfl ?_
  refine x_callV B 2 (q := (RX6, TX6, 4)) _ _ (k_X6_set l G _ hst hR hI ho) hx0 rfl gL_set_X6_set (by decide +kernel) rfl rfl rfl rfl ⟨(Nat.le_of_ble_eq_true rfl), (Nat.le_of_ble_eq_true rfl)⟩ (Nat.le_of_ble_eq_true rfl) ⟨(Nat.le_of_ble_eq_true rfl), (Nat.le_of_ble_eq_true rfl)⟩ dL_set_5 rfl (fun E M1 hr => ?_) (fun r M9 hr => ?_)
  · obtain ⟨e9, hr⟩ := hr
    obtain rfl := e9.symm
    rcases hr with ⟨rfl, c1⟩ | ⟨rfl, c1, c2⟩
    · refine z_catch B (name := "java/lang/IndexOutOfBoundsException") [] ⟨0, 10, 13, 19⟩ [⟨0, 10, 17, 25⟩] (htab.trans rfl) (fun z hz => nomatch hz) (by decide +kernel) (by decide) (by decide +kernel) (by decide +kernel) (fun a9 => ?_)
      refine y_astore B dL_set_13 (Nat.le_of_ble_eq_true rfl) ?_
      refine y_iconst B (nI 1) dL_set_15 (by decide +kernel) ?_
      exact x_iret B dL_set_16 (Nat.le_of_ble_eq_true rfl) (Nat.le_of_ble_eq_true rfl) (ai_lw_no hR hw (by unfold op_set; rw [if_pos c1]))
    · refine z_catch B (name := "java/lang/IllegalArgumentException") [⟨0, 10, 13, 19⟩] ⟨0, 10, 17, 25⟩ [] (htab.trans rfl) (fun z hz => by simp only [List.mem_cons, List.not_mem_nil, or_false] at hz; rcases hz with rfl; exact Or.inr ⟨by decide, "java/lang/IndexOutOfBoundsException", by decide +kernel, B.2.2.2.2.2.2.2.2.1.1.2.2.2.2.2.2.2.2.2.2.2.1 ("java/lang/IllegalArgumentException", "java/lang/IndexOutOfBoundsException") (by decide +kernel)⟩) (by decide +kernel) (by decide) (by decide +kernel) (by decide +kernel) (fun a9 => ?_)
      refine y_astore B dL_set_17 (Nat.le_of_ble_eq_true rfl) ?_
      refine y_iconst B (nI 2) dL_set_19 (by decide +kernel) ?_
      exact x_iret B dL_set_20 (Nat.le_of_ble_eq_true rfl) (Nat.le_of_ble_eq_true rfl) (ai_lw_no hR hw (by unfold op_set; rw [if_neg (by rw [c1]; decide), if_neg c2]))
  obtain ⟨c1, c2, rfl, hR1, hk1⟩ := hr
  refine y_i2l B dL_set_8 ?_
  obtain ⟨hw1, hl9⟩ := ai_lw_ok (u := (ai_nD (S 1 z.toNatClampNeg)).toInt64) hR1 (o := o + 1) (by have y := (op_set_I (o := o) (z := z) (v := v) hI hz).1; rw [show op_set S z v = (0, ai_nD (S 1 z.toNatClampNeg), ai_u S 1 z.toNatClampNeg (ai_dn v)) from by unfold op_set; rw [if_neg (by rw [c1]; decide), if_pos c2]] at y; exact y) hk1 hw (show op_set S z v = (0, ai_nD (S 1 z.toNatClampNeg), _) from by unfold op_set; rw [if_neg (by rw [c1]; decide), if_pos c2]) rfl
  refine y_lastore B hw1 (vp_in_nI (n := 0) (by decide) (by decide)) dL_set_9 ?_
  refine y_goto B 21 dL_set_10 (by decide) ?_
  refine y_iconst B (nI 0) dL_set_21 (by decide +kernel) ?_
  exact x_iret B dL_set_22 (Nat.le_of_ble_eq_true rfl) (Nat.le_of_ble_eq_true rfl) (hl9)
theorem op_adv_y {S : ai_S} {v : Nat} (h1 : 1 ≤ v) (h2 : v ≤ 1000) : op_advance S (nI v) = if 1000000 < S 0 1 + v then (2, 0, S) else (0, nI (ai_aV (S 0 2) (ai_u S 0 1 (S 0 1 + v))), ai_aS (S 0 2) (ai_u S 0 1 (S 0 1 + v))) := by
  unfold op_advance
  rw [nI_toInt (by omega), nI_clamp (by omega), if_neg (fun y => y ⟨by omega, by omega⟩)]
theorem op_adv_n {S : ai_S} {z : Int32} (h : ¬ ∃ v, z = nI v ∧ 1 ≤ v ∧ v ≤ 1000) : op_advance S z = (1, 0, S) := by
  unfold op_advance
  refine if_pos (fun y => h ?_)
  obtain ⟨v, hv, rfl⟩ := nI_of (x := z) (fun y2 => by rw [Int32.lt_iff_toInt_lt, Int32.toInt_zero] at y2; omega)
  rw [nI_toInt hv] at y
  exact ⟨v, rfl, by omega, by omega⟩
set_option maxHeartbeats 4000000 in
set_option maxRecDepth 100000 in
theorem k_L_advance (l : Launch) (G : ai_G) (M : ai_M) (hst : l.stackTraces = false) {S : ai_S} {o x : Nat} (hR : ai_Rx G M S x) (hI : ai_I S o) {ow : Nat} {f : Nat → Int64} (hw : M ow = some (8, ai_eJ G 1 f)) (hz : ai_Z0 S) (ho : o ≤ 100000) {z : Int32} : ai_D l yL_advance wsL_advance ({ frames := 7, cells := 2, slots := 12, locals := 113 } : Room) 2 12 G M [.ref x, .int z, .ref ow] (fun r M1 => ai_lw G M x ow (op_advance S z) r M1) (fun _ _ => False) := by
  refine x_startH (by decide +kernel) rfl (Nat.le_of_ble_eq_true rfl) (Nat.le_of_ble_eq_true rfl) (fun x hx => by simp only [List.mem_cons, List.not_mem_nil, or_false] at hx; rcases hx with rfl | rfl | rfl <;> rfl) ?_
  intro p e s m below meth c B htab
  obtain ⟨qs, dr, ix, fa, qa, pa, pst, hx0, -⟩ := id hR
  refine y_aload_n B dL_advance_0 rfl ?_
  refine y_iconst B (nI 0) dL_advance_1 (by decide +kernel) ?_
  refine y_aload_n B dL_advance_2 rfl ?_
  refine y_iload_n B dL_advance_3 rfl ?_
  refine x_callV B 1 (q := (RX6, TX6, 4)) _ _ (k_X6_advance l G _ hst hR hI ho) hx0 rfl gL_advance_X6_advance (by decide +kernel) rfl rfl rfl rfl ⟨(Nat.le_of_ble_eq_true rfl), (Nat.le_of_ble_eq_true rfl)⟩ (Nat.le_of_ble_eq_true rfl) ⟨(Nat.le_of_ble_eq_true rfl), (Nat.le_of_ble_eq_true rfl)⟩ dL_advance_4 rfl (fun E M1 hr => ?_) (fun r M9 hr => ?_)
  · obtain ⟨e9, hr⟩ := hr
    obtain rfl := e9.symm
    rcases hr with ⟨rfl, c1⟩ | ⟨rfl, v, ez, c1, c2, c3⟩
    · refine z_catch B (name := "java/lang/IllegalArgumentException") [] ⟨0, 9, 12, 25⟩ [⟨0, 9, 15, 13⟩] (htab.trans rfl) (fun z hz => nomatch hz) (by decide +kernel) (by decide) (by decide +kernel) (by decide +kernel) (fun a9 => ?_)
      refine y_astore_n B dL_advance_12 (Nat.le_of_ble_eq_true rfl) ?_
      refine y_iconst B (nI 1) dL_advance_13 (by decide +kernel) ?_
      exact x_iret B dL_advance_14 (Nat.le_of_ble_eq_true rfl) (Nat.le_of_ble_eq_true rfl) (ai_lw_no hR hw (by exact op_adv_n c1))
    · refine z_catch B (name := "java/lang/IllegalStateException") [⟨0, 9, 12, 25⟩] ⟨0, 9, 15, 13⟩ [] (htab.trans rfl) (fun z hz => by simp only [List.mem_cons, List.not_mem_nil, or_false] at hz; rcases hz with rfl; exact Or.inr ⟨by decide, "java/lang/IllegalArgumentException", by decide +kernel, B.2.2.2.2.2.2.2.2.1.1.2.2.2.2.2.2.2.2.2.2.2.1 ("java/lang/IllegalStateException", "java/lang/IllegalArgumentException") (by decide +kernel)⟩) (by decide +kernel) (by decide) (by decide +kernel) (by decide +kernel) (fun a9 => ?_)
      refine y_astore_n B dL_advance_15 (Nat.le_of_ble_eq_true rfl) ?_
      refine y_iconst B (nI 2) dL_advance_16 (by decide +kernel) ?_
      exact x_iret B dL_advance_17 (Nat.le_of_ble_eq_true rfl) (Nat.le_of_ble_eq_true rfl) (ai_lw_no hR hw (by rw [ez, op_adv_y c1 c2, if_pos c3]))
  obtain ⟨v, ez, c1, c2, c3, rfl, hR1, hk1⟩ := hr
  refine y_i2l B dL_advance_7 ?_
  obtain ⟨hw1, hl9⟩ := ai_lw_ok (u := (nI (ai_aV (S 0 2) (ai_u S 0 1 (S 0 1 + v)))).toInt64) hR1 (o := o + 1) (by have y := (op_advance_I (o := o) (z := z) hI hz).1; rw [show op_advance S z = (0, nI (ai_aV (S 0 2) (ai_u S 0 1 (S 0 1 + v))), ai_aS (S 0 2) (ai_u S 0 1 (S 0 1 + v))) from by rw [ez, op_adv_y c1 c2, if_neg (by omega)]] at y; exact y) hk1 hw (show op_advance S z = (0, nI (ai_aV (S 0 2) (ai_u S 0 1 (S 0 1 + v))), _) from by rw [ez, op_adv_y c1 c2, if_neg (by omega)]) rfl
  refine y_lastore B hw1 (vp_in_nI (n := 0) (by decide) (by decide)) dL_advance_8 ?_
  refine y_goto B 18 dL_advance_9 (by decide) ?_
  refine y_iconst B (nI 0) dL_advance_18 (by decide +kernel) ?_
  exact x_iret B dL_advance_19 (Nat.le_of_ble_eq_true rfl) (Nat.le_of_ble_eq_true rfl) (hl9)
set_option maxHeartbeats 4000000 in
set_option maxRecDepth 100000 in
theorem k_L_satisfies (l : Launch) (G : ai_G) (M : ai_M) (hst : l.stackTraces = false) {S : ai_S} {o x : Nat} (hR : ai_Rx G M S x) (hI : ai_I S o) {ow : Nat} {f : Nat → Int64} (hw : M ow = some (8, ai_eJ G 1 f)) {z : Int32} : ai_D l yL_satisfies wsL_satisfies ({ frames := 8, cells := 1, slots := 6, locals := 133 } : Room) 1 6 G M [.ref x, .int z, .ref ow] (fun r M1 => ai_lw G M x ow (op_satisfies S z) r M1) (fun _ _ => False) := by
  refine x_startH (by decide +kernel) rfl (Nat.le_of_ble_eq_true rfl) (Nat.le_of_ble_eq_true rfl) (fun x hx => by simp only [List.mem_cons, List.not_mem_nil, or_false] at hx; rcases hx with rfl | rfl | rfl <;> rfl) ?_
  intro p e s m below meth c B htab
  obtain ⟨qs, dr, ix, fa, qa, pa, pst, hx0, -⟩ := id hR
  refine y_aload_n B dL_satisfies_0 rfl ?_
  refine y_iconst B (nI 0) dL_satisfies_1 (by decide +kernel) ?_
  refine y_aload_n B dL_satisfies_2 rfl ?_
  refine y_iload_n B dL_satisfies_3 rfl ?_
  refine x_callV B 1 (q := (RX6, TX6, 4)) _ _ (k_X6_satisfies l G _ hst hR hI) hx0 rfl gL_satisfies_X6_satisfies (by decide +kernel) rfl rfl rfl rfl ⟨(Nat.le_of_ble_eq_true rfl), (Nat.le_of_ble_eq_true rfl)⟩ (Nat.le_of_ble_eq_true rfl) ⟨(Nat.le_of_ble_eq_true rfl), (Nat.le_of_ble_eq_true rfl)⟩ dL_satisfies_4 rfl (fun E M1 hr => ?_) (fun r M9 hr => ?_)
  · obtain ⟨rfl, c1, e9⟩ := hr; obtain rfl := e9.symm
    refine z_catch B (name := "java/lang/IndexOutOfBoundsException") [] ⟨0, 16, 19, 19⟩ [] (htab.trans rfl) (fun z hz => nomatch hz) (by decide +kernel) (by decide) (by decide +kernel) (by decide +kernel) (fun a9 => ?_)
    refine y_astore_n B dL_satisfies_19 (Nat.le_of_ble_eq_true rfl) ?_
    refine y_iconst B (nI 1) dL_satisfies_20 (by decide +kernel) ?_
    exact x_iret B dL_satisfies_21 (Nat.le_of_ble_eq_true rfl) (Nat.le_of_ble_eq_true rfl) (ai_lw_no hR hw (by unfold op_satisfies; rw [if_pos c1]))
  obtain ⟨c1, rfl, e9⟩ := hr
  obtain rfl := e9.symm
  refine y_if_eq B 14 dL_satisfies_7 (by decide) (fun c7 => ?_) (fun c7 => ?_)
  · have q9 := (ai_b0 _).mp c7
    refine y_lconst B (0) dL_satisfies_14 (by decide +kernel) ?_
    obtain ⟨hw1, hl9⟩ := ai_lw_ok (u := 0) hR hI ai_kq.rf0 hw (show op_satisfies S z = (0, ai_b (ai_qt S z.toNatClampNeg), _) from by unfold op_satisfies; rw [if_neg (by rw [c1]; decide)]) (by rw [q9]; decide +kernel)
    refine y_lastore B hw1 (vp_in_nI (n := 0) (by decide) (by decide)) dL_satisfies_15 ?_
    refine y_goto B 22 dL_satisfies_16 (by decide) ?_
    refine y_iconst B (nI 0) dL_satisfies_22 (by decide +kernel) ?_
    exact x_iret B dL_satisfies_23 (Nat.le_of_ble_eq_true rfl) (Nat.le_of_ble_eq_true rfl) (hl9)
  · have q9 := ai_b1 c7
    refine y_lconst B (1) dL_satisfies_10 (by decide +kernel) ?_
    refine y_goto B 15 dL_satisfies_11 (by decide) ?_
    obtain ⟨hw1, hl9⟩ := ai_lw_ok (u := 1) hR hI ai_kq.rf0 hw (show op_satisfies S z = (0, ai_b (ai_qt S z.toNatClampNeg), _) from by unfold op_satisfies; rw [if_neg (by rw [c1]; decide)]) (by rw [q9]; decide +kernel)
    refine y_lastore B hw1 (vp_in_nI (n := 0) (by decide) (by decide)) dL_satisfies_15 ?_
    refine y_goto B 22 dL_satisfies_16 (by decide) ?_
    refine y_iconst B (nI 0) dL_satisfies_22 (by decide +kernel) ?_
    exact x_iret B dL_satisfies_23 (Nat.le_of_ble_eq_true rfl) (Nat.le_of_ble_eq_true rfl) (hl9)
set_option maxHeartbeats 4000000 in
set_option maxRecDepth 100000 in
theorem k_L_sizeOf (l : Launch) (G : ai_G) (M : ai_M) (hst : l.stackTraces = false) {S : ai_S} {o x : Nat} (hR : ai_Rx G M S x) (hI : ai_I S o) {ow : Nat} {f : Nat → Int64} (hw : M ow = some (8, ai_eJ G 1 f)) {z : Int32} : ai_D l yL_sizeOf wsL_sizeOf ({ frames := 8, cells := 1, slots := 6, locals := 133 } : Room) 1 6 G M [.ref x, .int z, .ref ow] (fun r M1 => ai_lw G M x ow (op_sizeOf S z) r M1) (fun _ _ => False) := by
  refine x_startH (by decide +kernel) rfl (Nat.le_of_ble_eq_true rfl) (Nat.le_of_ble_eq_true rfl) (fun x hx => by simp only [List.mem_cons, List.not_mem_nil, or_false] at hx; rcases hx with rfl | rfl | rfl <;> rfl) ?_
  intro p e s m below meth c B htab
  obtain ⟨qs, dr, ix, fa, qa, pa, pst, hx0, -⟩ := id hR
  refine y_aload_n B dL_sizeOf_0 rfl ?_
  refine y_iconst B (nI 0) dL_sizeOf_1 (by decide +kernel) ?_
  refine y_aload_n B dL_sizeOf_2 rfl ?_
  refine y_iload_n B dL_sizeOf_3 rfl ?_
  refine x_callV B 1 (q := (RX6, TX6, 4)) _ _ (k_X6_sizeOf l G _ hst hR hI) hx0 rfl gL_sizeOf_X6_sizeOf (by decide +kernel) rfl rfl rfl rfl ⟨(Nat.le_of_ble_eq_true rfl), (Nat.le_of_ble_eq_true rfl)⟩ (Nat.le_of_ble_eq_true rfl) ⟨(Nat.le_of_ble_eq_true rfl), (Nat.le_of_ble_eq_true rfl)⟩ dL_sizeOf_4 rfl (fun E M1 hr => ?_) (fun r M9 hr => ?_)
  · obtain ⟨rfl, c1, e9⟩ := hr; obtain rfl := e9.symm
    refine z_catch B (name := "java/lang/IndexOutOfBoundsException") [] ⟨0, 9, 12, 19⟩ [] (htab.trans rfl) (fun z hz => nomatch hz) (by decide +kernel) (by decide) (by decide +kernel) (by decide +kernel) (fun a9 => ?_)
    refine y_astore_n B dL_sizeOf_12 (Nat.le_of_ble_eq_true rfl) ?_
    refine y_iconst B (nI 1) dL_sizeOf_13 (by decide +kernel) ?_
    exact x_iret B dL_sizeOf_14 (Nat.le_of_ble_eq_true rfl) (Nat.le_of_ble_eq_true rfl) (ai_lw_no hR hw (by unfold op_sizeOf; rw [if_pos c1]))
  obtain ⟨c1, rfl, e9⟩ := hr
  obtain rfl := e9.symm
  refine y_i2l B dL_sizeOf_7 ?_
  obtain ⟨hw1, hl9⟩ := ai_lw_ok (u := (nI (ai_sz S z.toNatClampNeg)).toInt64) hR hI ai_kq.rf0 hw (show op_sizeOf S z = (0, nI (ai_sz S z.toNatClampNeg), _) from by unfold op_sizeOf; rw [if_neg (by rw [c1]; decide)]) rfl
  refine y_lastore B hw1 (vp_in_nI (n := 0) (by decide) (by decide)) dL_sizeOf_8 ?_
  refine y_goto B 15 dL_sizeOf_9 (by decide) ?_
  refine y_iconst B (nI 0) dL_sizeOf_15 (by decide +kernel) ?_
  exact x_iret B dL_sizeOf_16 (Nat.le_of_ble_eq_true rfl) (Nat.le_of_ble_eq_true rfl) (hl9)
set_option maxHeartbeats 4000000 in
set_option maxRecDepth 100000 in
theorem k_L_isQuiet (l : Launch) (G : ai_G) (M : ai_M) (hst : l.stackTraces = false) {S : ai_S} {o x : Nat} (hR : ai_Rx G M S x) (hI : ai_I S o) {ow : Nat} {f : Nat → Int64} (hw : M ow = some (8, ai_eJ G 1 f)) {z : Int32} : ai_D l yL_isQuiet wsL_isQuiet ({ frames := 8, cells := 1, slots := 6, locals := 133 } : Room) 1 6 G M [.ref x, .int z, .ref ow] (fun r M1 => ai_lw G M x ow (op_isQuiet S z) r M1) (fun _ _ => False) := by
  refine x_startH (by decide +kernel) rfl (Nat.le_of_ble_eq_true rfl) (Nat.le_of_ble_eq_true rfl) (fun x hx => by simp only [List.mem_cons, List.not_mem_nil, or_false] at hx; rcases hx with rfl | rfl | rfl <;> rfl) ?_
  intro p e s m below meth c B htab
  obtain ⟨qs, dr, ix, fa, qa, pa, pst, hx0, -⟩ := id hR
  refine y_aload_n B dL_isQuiet_0 rfl ?_
  refine y_iconst B (nI 0) dL_isQuiet_1 (by decide +kernel) ?_
  refine y_aload_n B dL_isQuiet_2 rfl ?_
  refine y_iload_n B dL_isQuiet_3 rfl ?_
  refine x_callV B 1 (q := (RX6, TX6, 4)) _ _ (k_X6_isQuiet l G _ hst hR hI) hx0 rfl gL_isQuiet_X6_isQuiet (by decide +kernel) rfl rfl rfl rfl ⟨(Nat.le_of_ble_eq_true rfl), (Nat.le_of_ble_eq_true rfl)⟩ (Nat.le_of_ble_eq_true rfl) ⟨(Nat.le_of_ble_eq_true rfl), (Nat.le_of_ble_eq_true rfl)⟩ dL_isQuiet_4 rfl (fun E M1 hr => ?_) (fun r M9 hr => ?_)
  · obtain ⟨rfl, c1, e9⟩ := hr; obtain rfl := e9.symm
    refine z_catch B (name := "java/lang/IndexOutOfBoundsException") [] ⟨0, 16, 19, 19⟩ [] (htab.trans rfl) (fun z hz => nomatch hz) (by decide +kernel) (by decide) (by decide +kernel) (by decide +kernel) (fun a9 => ?_)
    refine y_astore_n B dL_isQuiet_19 (Nat.le_of_ble_eq_true rfl) ?_
    refine y_iconst B (nI 1) dL_isQuiet_20 (by decide +kernel) ?_
    exact x_iret B dL_isQuiet_21 (Nat.le_of_ble_eq_true rfl) (Nat.le_of_ble_eq_true rfl) (ai_lw_no hR hw (by unfold op_isQuiet; rw [if_pos c1]))
  obtain ⟨c1, rfl, e9⟩ := hr
  obtain rfl := e9.symm
  refine y_if_eq B 14 dL_isQuiet_7 (by decide) (fun c7 => ?_) (fun c7 => ?_)
  · have q9 := (ai_b0 _).mp c7
    refine y_lconst B (0) dL_isQuiet_14 (by decide +kernel) ?_
    obtain ⟨hw1, hl9⟩ := ai_lw_ok (u := 0) hR hI ai_kq.rf0 hw (show op_isQuiet S z = (0, ai_b (decide (S 0 1 < S 5 z.toNatClampNeg)), _) from by unfold op_isQuiet; rw [if_neg (by rw [c1]; decide)]) (by rw [q9]; decide +kernel)
    refine y_lastore B hw1 (vp_in_nI (n := 0) (by decide) (by decide)) dL_isQuiet_15 ?_
    refine y_goto B 22 dL_isQuiet_16 (by decide) ?_
    refine y_iconst B (nI 0) dL_isQuiet_22 (by decide +kernel) ?_
    exact x_iret B dL_isQuiet_23 (Nat.le_of_ble_eq_true rfl) (Nat.le_of_ble_eq_true rfl) (hl9)
  · have q9 := ai_b1 c7
    refine y_lconst B (1) dL_isQuiet_10 (by decide +kernel) ?_
    refine y_goto B 15 dL_isQuiet_11 (by decide) ?_
    obtain ⟨hw1, hl9⟩ := ai_lw_ok (u := 1) hR hI ai_kq.rf0 hw (show op_isQuiet S z = (0, ai_b (decide (S 0 1 < S 5 z.toNatClampNeg)), _) from by unfold op_isQuiet; rw [if_neg (by rw [c1]; decide)]) (by rw [q9]; decide +kernel)
    refine y_lastore B hw1 (vp_in_nI (n := 0) (by decide) (by decide)) dL_isQuiet_15 ?_
    refine y_goto B 22 dL_isQuiet_16 (by decide) ?_
    refine y_iconst B (nI 0) dL_isQuiet_22 (by decide +kernel) ?_
    exact x_iret B dL_isQuiet_23 (Nat.le_of_ble_eq_true rfl) (Nat.le_of_ble_eq_true rfl) (hl9)
set_option maxHeartbeats 4000000 in
set_option maxRecDepth 100000 in
theorem k_L_alerts (l : Launch) (G : ai_G) (M : ai_M) (hst : l.stackTraces = false) {S : ai_S} {o x : Nat} (hR : ai_Rx G M S x) (hI : ai_I S o) {ow : Nat} {f : Nat → Int64} (hw : M ow = some (8, ai_eJ G 1 f)) {z : Int32} : ai_D l yL_alerts wsL_alerts ({ frames := 8, cells := 1, slots := 6, locals := 133 } : Room) 1 6 G M [.ref x, .int z, .ref ow] (fun r M1 => ai_lw G M x ow (op_alerts S z) r M1) (fun _ _ => False) := by
  refine x_startH (by decide +kernel) rfl (Nat.le_of_ble_eq_true rfl) (Nat.le_of_ble_eq_true rfl) (fun x hx => by simp only [List.mem_cons, List.not_mem_nil, or_false] at hx; rcases hx with rfl | rfl | rfl <;> rfl) ?_
  intro p e s m below meth c B htab
  obtain ⟨qs, dr, ix, fa, qa, pa, pst, hx0, -⟩ := id hR
  refine y_aload_n B dL_alerts_0 rfl ?_
  refine y_iconst B (nI 0) dL_alerts_1 (by decide +kernel) ?_
  refine y_aload_n B dL_alerts_2 rfl ?_
  refine y_iload_n B dL_alerts_3 rfl ?_
  refine x_callV B 1 (q := (RX6, TX6, 4)) _ _ (k_X6_alerts l G _ hst hR hI) hx0 rfl gL_alerts_X6_alerts (by decide +kernel) rfl rfl rfl rfl ⟨(Nat.le_of_ble_eq_true rfl), (Nat.le_of_ble_eq_true rfl)⟩ (Nat.le_of_ble_eq_true rfl) ⟨(Nat.le_of_ble_eq_true rfl), (Nat.le_of_ble_eq_true rfl)⟩ dL_alerts_4 rfl (fun E M1 hr => ?_) (fun r M9 hr => ?_)
  · obtain ⟨rfl, c1, e9⟩ := hr; obtain rfl := e9.symm
    refine z_catch B (name := "java/lang/IndexOutOfBoundsException") [] ⟨0, 9, 12, 19⟩ [] (htab.trans rfl) (fun z hz => nomatch hz) (by decide +kernel) (by decide) (by decide +kernel) (by decide +kernel) (fun a9 => ?_)
    refine y_astore_n B dL_alerts_12 (Nat.le_of_ble_eq_true rfl) ?_
    refine y_iconst B (nI 1) dL_alerts_13 (by decide +kernel) ?_
    exact x_iret B dL_alerts_14 (Nat.le_of_ble_eq_true rfl) (Nat.le_of_ble_eq_true rfl) (ai_lw_no hR hw (by unfold op_alerts; rw [if_pos c1]))
  obtain ⟨c1, rfl, e9⟩ := hr
  obtain rfl := e9.symm
  refine y_i2l B dL_alerts_7 ?_
  obtain ⟨hw1, hl9⟩ := ai_lw_ok (u := (nI (S 6 z.toNatClampNeg)).toInt64) hR hI ai_kq.rf0 hw (show op_alerts S z = (0, nI (S 6 z.toNatClampNeg), _) from by unfold op_alerts; rw [if_neg (by rw [c1]; decide)]) rfl
  refine y_lastore B hw1 (vp_in_nI (n := 0) (by decide) (by decide)) dL_alerts_8 ?_
  refine y_goto B 15 dL_alerts_9 (by decide) ?_
  refine y_iconst B (nI 0) dL_alerts_15 (by decide +kernel) ?_
  exact x_iret B dL_alerts_16 (Nat.le_of_ble_eq_true rfl) (Nat.le_of_ble_eq_true rfl) (hl9)
set_option maxHeartbeats 4000000 in
set_option maxRecDepth 100000 in
theorem k_L_batch (l : Launch) (G : ai_G) (M : ai_M) (hst : l.stackTraces = false) {S : ai_S} {o x : Nat} (hR : ai_Rx G M S x) (hI : ai_I S o) {ow : Nat} {f : Nat → Int64} (hw : M ow = some (8, ai_eJ G 1 f)) {z : Int32} : ai_D l yL_batch wsL_batch ({ frames := 8, cells := 1, slots := 6, locals := 133 } : Room) 1 6 G M [.ref x, .int z, .ref ow] (fun r M1 => ai_lw G M x ow (op_batch S z) r M1) (fun _ _ => False) := by
  refine x_startH (by decide +kernel) rfl (Nat.le_of_ble_eq_true rfl) (Nat.le_of_ble_eq_true rfl) (fun x hx => by simp only [List.mem_cons, List.not_mem_nil, or_false] at hx; rcases hx with rfl | rfl | rfl <;> rfl) ?_
  intro p e s m below meth c B htab
  obtain ⟨qs, dr, ix, fa, qa, pa, pst, hx0, -⟩ := id hR
  refine y_aload_n B dL_batch_0 rfl ?_
  refine y_iconst B (nI 0) dL_batch_1 (by decide +kernel) ?_
  refine y_aload_n B dL_batch_2 rfl ?_
  refine y_iload_n B dL_batch_3 rfl ?_
  refine x_callV B 1 (q := (RX6, TX6, 4)) _ _ (k_X6_batch l G _ hst hR hI) hx0 rfl gL_batch_X6_batch (by decide +kernel) rfl rfl rfl rfl ⟨(Nat.le_of_ble_eq_true rfl), (Nat.le_of_ble_eq_true rfl)⟩ (Nat.le_of_ble_eq_true rfl) ⟨(Nat.le_of_ble_eq_true rfl), (Nat.le_of_ble_eq_true rfl)⟩ dL_batch_4 rfl (fun E M1 hr => ?_) (fun r M9 hr => ?_)
  · obtain ⟨rfl, c1, e9⟩ := hr; obtain rfl := e9.symm
    refine z_catch B (name := "java/lang/IndexOutOfBoundsException") [] ⟨0, 9, 12, 19⟩ [] (htab.trans rfl) (fun z hz => nomatch hz) (by decide +kernel) (by decide) (by decide +kernel) (by decide +kernel) (fun a9 => ?_)
    refine y_astore_n B dL_batch_12 (Nat.le_of_ble_eq_true rfl) ?_
    refine y_iconst B (nI 1) dL_batch_13 (by decide +kernel) ?_
    exact x_iret B dL_batch_14 (Nat.le_of_ble_eq_true rfl) (Nat.le_of_ble_eq_true rfl) (ai_lw_no hR hw (by unfold op_batch; rw [if_pos c1]))
  obtain ⟨c1, rfl, e9⟩ := hr
  obtain rfl := e9.symm
  refine y_i2l B dL_batch_7 ?_
  obtain ⟨hw1, hl9⟩ := ai_lw_ok (u := (nI (S 7 z.toNatClampNeg)).toInt64) hR hI ai_kq.rf0 hw (show op_batch S z = (0, nI (S 7 z.toNatClampNeg), _) from by unfold op_batch; rw [if_neg (by rw [c1]; decide)]) rfl
  refine y_lastore B hw1 (vp_in_nI (n := 0) (by decide) (by decide)) dL_batch_8 ?_
  refine y_goto B 15 dL_batch_9 (by decide) ?_
  refine y_iconst B (nI 0) dL_batch_15 (by decide +kernel) ?_
  exact x_iret B dL_batch_16 (Nat.le_of_ble_eq_true rfl) (Nat.le_of_ble_eq_true rfl) (hl9)
set_option maxHeartbeats 4000000 in
set_option maxRecDepth 100000 in
theorem k_L_pieces (l : Launch) (G : ai_G) (M : ai_M) (hst : l.stackTraces = false) {S : ai_S} {o x : Nat} (hR : ai_Rx G M S x) (hI : ai_I S o) {ow : Nat} {f : Nat → Int64} (hw : M ow = some (8, ai_eJ G 1 f)) {lo hi : Int32} : ai_D l yL_pieces wsL_pieces ({ frames := 8, cells := 1, slots := 6, locals := 135 } : Room) 1 6 G M [.ref x, .int lo, .int hi, .ref ow] (fun r M1 => ai_lw G M x ow (op_pieces S lo hi) r M1) (fun _ _ => False) := by
  refine x_startH (by decide +kernel) rfl (Nat.le_of_ble_eq_true rfl) (Nat.le_of_ble_eq_true rfl) (fun x hx => by simp only [List.mem_cons, List.not_mem_nil, or_false] at hx; rcases hx with rfl | rfl | rfl | rfl <;> rfl) ?_
  intro p e s m below meth c B htab
  obtain ⟨qs, dr, ix, fa, qa, pa, pst, hx0, -⟩ := id hR
  refine y_aload_n B dL_pieces_0 rfl ?_
  refine y_iconst B (nI 0) dL_pieces_1 (by decide +kernel) ?_
  refine y_aload_n B dL_pieces_2 rfl ?_
  refine y_iload_n B dL_pieces_3 rfl ?_
  refine y_iload_n B dL_pieces_4 rfl ?_
  refine x_callV B 2 (q := (RX6, TX6, 4)) _ _ (k_X6_pieces l G _ hst) hx0 rfl gL_pieces_X6_pieces (by decide +kernel) rfl rfl rfl rfl ⟨(Nat.le_of_ble_eq_true rfl), (Nat.le_of_ble_eq_true rfl)⟩ (Nat.le_of_ble_eq_true rfl) ⟨(Nat.le_of_ble_eq_true rfl), (Nat.le_of_ble_eq_true rfl)⟩ dL_pieces_5 rfl (fun E M1 hr => ?_) (fun r M9 hr => ?_)
  · obtain ⟨rfl, c1, e9⟩ := hr; obtain rfl := e9.symm
    refine z_catch B (name := "java/lang/IllegalArgumentException") [] ⟨0, 10, 13, 25⟩ [] (htab.trans rfl) (fun z hz => nomatch hz) (by decide +kernel) (by decide) (by decide +kernel) (by decide +kernel) (fun a9 => ?_)
    refine y_astore B dL_pieces_13 (Nat.le_of_ble_eq_true rfl) ?_
    refine y_iconst B (nI 1) dL_pieces_15 (by decide +kernel) ?_
    exact x_iret B dL_pieces_16 (Nat.le_of_ble_eq_true rfl) (Nat.le_of_ble_eq_true rfl) (ai_lw_no hR hw (by unfold op_pieces; rw [if_pos c1]))
  obtain ⟨c1, rfl, e9⟩ := hr
  obtain rfl := e9.symm
  refine y_i2l B dL_pieces_8 ?_
  obtain ⟨hw1, hl9⟩ := ai_lw_ok (u := (nI (ai_np 64 lo.toNatClampNeg hi.toNatClampNeg)).toInt64) hR hI ai_kq.rf0 hw (show op_pieces S lo hi = (0, nI (ai_np 64 lo.toNatClampNeg hi.toNatClampNeg), _) from by unfold op_pieces; rw [if_neg (by rw [c1]; decide)]) rfl
  refine y_lastore B hw1 (vp_in_nI (n := 0) (by decide) (by decide)) dL_pieces_9 ?_
  refine y_goto B 17 dL_pieces_10 (by decide) ?_
  refine y_iconst B (nI 0) dL_pieces_17 (by decide +kernel) ?_
  exact x_iret B dL_pieces_18 (Nat.le_of_ble_eq_true rfl) (Nat.le_of_ble_eq_true rfl) (hl9)
set_option maxHeartbeats 4000000 in
set_option maxRecDepth 100000 in
theorem k_L_pieceAt (l : Launch) (G : ai_G) (M : ai_M) (hst : l.stackTraces = false) {S : ai_S} {o x : Nat} (hR : ai_Rx G M S x) (hI : ai_I S o) {ow : Nat} {f : Nat → Int64} (hw : M ow = some (8, ai_eJ G 1 f)) {lo hi kk : Int32} : ai_D l yL_pieceAt wsL_pieceAt ({ frames := 8, cells := 1, slots := 6, locals := 136 } : Room) 1 6 G M [.ref x, .int lo, .int hi, .int kk, .ref ow] (fun r M1 => ai_lw G M x ow (op_pieceAt S lo hi kk) r M1) (fun _ _ => False) := by
  refine x_startH (by decide +kernel) rfl (Nat.le_of_ble_eq_true rfl) (Nat.le_of_ble_eq_true rfl) (fun x hx => by simp only [List.mem_cons, List.not_mem_nil, or_false] at hx; rcases hx with rfl | rfl | rfl | rfl | rfl <;> rfl) ?_
  intro p e s m below meth c B htab
  obtain ⟨qs, dr, ix, fa, qa, pa, pst, hx0, -⟩ := id hR
  refine y_aload B dL_pieceAt_0 rfl ?_
  refine y_iconst B (nI 0) dL_pieceAt_2 (by decide +kernel) ?_
  refine y_aload_n B dL_pieceAt_3 rfl ?_
  refine y_iload_n B dL_pieceAt_4 rfl ?_
  refine y_iload_n B dL_pieceAt_5 rfl ?_
  refine y_iload_n B dL_pieceAt_6 rfl ?_
  refine x_callV B 3 (q := (RX6, TX6, 4)) _ _ (k_X6_pieceAt l G _ hst) hx0 rfl gL_pieceAt_X6_pieceAt (by decide +kernel) rfl rfl rfl rfl ⟨(Nat.le_of_ble_eq_true rfl), (Nat.le_of_ble_eq_true rfl)⟩ (Nat.le_of_ble_eq_true rfl) ⟨(Nat.le_of_ble_eq_true rfl), (Nat.le_of_ble_eq_true rfl)⟩ dL_pieceAt_7 rfl (fun E M1 hr => ?_) (fun r M9 hr => ?_)
  · obtain ⟨e9, hr⟩ := hr
    obtain rfl := e9.symm
    rcases hr with ⟨rfl, c1⟩ | ⟨rfl, c1, c2⟩
    · refine z_catch B (name := "java/lang/IndexOutOfBoundsException") [] ⟨0, 12, 15, 19⟩ [⟨0, 12, 19, 25⟩] (htab.trans rfl) (fun z hz => nomatch hz) (by decide +kernel) (by decide) (by decide +kernel) (by decide +kernel) (fun a9 => ?_)
      refine y_astore B dL_pieceAt_15 (Nat.le_of_ble_eq_true rfl) ?_
      refine y_iconst B (nI 1) dL_pieceAt_17 (by decide +kernel) ?_
      exact x_iret B dL_pieceAt_18 (Nat.le_of_ble_eq_true rfl) (Nat.le_of_ble_eq_true rfl) (ai_lw_no hR hw (by unfold op_pieceAt; rw [if_pos c1]))
    · refine z_catch B (name := "java/lang/IllegalArgumentException") [⟨0, 12, 15, 19⟩] ⟨0, 12, 19, 25⟩ [] (htab.trans rfl) (fun z hz => by simp only [List.mem_cons, List.not_mem_nil, or_false] at hz; rcases hz with rfl; exact Or.inr ⟨by decide, "java/lang/IndexOutOfBoundsException", by decide +kernel, B.2.2.2.2.2.2.2.2.1.1.2.2.2.2.2.2.2.2.2.2.2.1 ("java/lang/IllegalArgumentException", "java/lang/IndexOutOfBoundsException") (by decide +kernel)⟩) (by decide +kernel) (by decide) (by decide +kernel) (by decide +kernel) (fun a9 => ?_)
      refine y_astore B dL_pieceAt_19 (Nat.le_of_ble_eq_true rfl) ?_
      refine y_iconst B (nI 2) dL_pieceAt_21 (by decide +kernel) ?_
      exact x_iret B dL_pieceAt_22 (Nat.le_of_ble_eq_true rfl) (Nat.le_of_ble_eq_true rfl) (ai_lw_no hR hw (by unfold op_pieceAt; rw [if_neg c1, if_pos c2]))
  obtain ⟨c1, c2, rfl, e9⟩ := hr
  obtain rfl := e9.symm
  refine y_i2l B dL_pieceAt_10 ?_
  obtain ⟨hw1, hl9⟩ := ai_lw_ok (u := (ai_pv kk.toNatClampNeg lo.toNatClampNeg hi.toNatClampNeg).toInt64) hR hI ai_kq.rf0 hw (show op_pieceAt S lo hi kk = (0, ai_pv kk.toNatClampNeg lo.toNatClampNeg hi.toNatClampNeg, _) from by unfold op_pieceAt; rw [if_neg c1, if_neg (by rw [c2]; decide)]) rfl
  refine y_lastore B hw1 (vp_in_nI (n := 0) (by decide) (by decide)) dL_pieceAt_11 ?_
  refine y_goto B 23 dL_pieceAt_12 (by decide) ?_
  refine y_iconst B (nI 0) dL_pieceAt_23 (by decide +kernel) ?_
  exact x_iret B dL_pieceAt_24 (Nat.le_of_ble_eq_true rfl) (Nat.le_of_ble_eq_true rfl) (hl9)
