/-! ===== THE LAW'S LOOP ===== -/
theorem ai_lgs {x : Int64} : lg_cmp x x = 0 := by simp [lg_cmp]
theorem ai_O.kw {G : ai_G} {M M1 : ai_M} {t : Int32} {S : ai_S} {mo : Nat} {ma : Nat → Nat} (h : ai_O G M t S mo ma) (k : ai_kw M M1) : ai_O G M1 t S mo ma := by
  obtain ⟨h0, h1, h2, h3, h4, h5, h6, h7, h8, h9, h10, h11, h12⟩ := h
  exact ⟨k _ _ _ h0 (by decide) (by decide) (fun fs z => by cases z), k _ _ _ h1 (by decide) (by decide) (fun fs z => nomatch z), k _ _ _ h2 (by decide) (by decide) (fun fs z => nomatch z), k _ _ _ h3 (by decide) (by decide) (fun fs z => nomatch z), k _ _ _ h4 (by decide) (by decide) (fun fs z => nomatch z), k _ _ _ h5 (by decide) (by decide) (fun fs z => nomatch z), k _ _ _ h6 (by decide) (by decide) (fun fs z => nomatch z), k _ _ _ h7 (by decide) (by decide) (fun fs z => nomatch z), k _ _ _ h8 (by decide) (by decide) (fun fs z => nomatch z), k _ _ _ h9 (by decide) (by decide) (fun fs z => nomatch z), k _ _ _ h10 (by decide) (by decide) (fun fs z => nomatch z), k _ _ _ h11 (by decide) (by decide) (fun fs z => nomatch z), k _ _ _ h12 (by decide) (by decide) (fun fs z => nomatch z)⟩
theorem ai_kq.kw {M M1 : ai_M} (h : ai_kq M M1) : ai_kw M M1 := fun b g e hb hg _ h4 => h b g e hb hg h4
theorem op_question_3 {S : ai_S} : (op_question S).1 ≤ 3 := by unfold op_question; (repeat' split) <;> exact Nat.le_of_ble_eq_true rfl
theorem op_product_3 {S : ai_S} {z : Int32} : (op_product S z).1 ≤ 3 := by unfold op_product; (repeat' split) <;> exact Nat.le_of_ble_eq_true rfl
theorem op_test_3 {S : ai_S} {z nm lo hi : Int32} {bv : Nat} : (op_test S z nm lo hi bv).1 ≤ 3 := by unfold op_test; (repeat' split) <;> exact Nat.le_of_ble_eq_true rfl
theorem op_drop_3 {S : ai_S} {z : Int32} : (op_drop S z).1 ≤ 3 := by unfold op_drop; (repeat' split) <;> exact Nat.le_of_ble_eq_true rfl
theorem op_setQuiet_3 {S : ai_S} {z mm : Int32} : (op_setQuiet S z mm).1 ≤ 3 := by unfold op_setQuiet; (repeat' split) <;> exact Nat.le_of_ble_eq_true rfl
theorem op_set_3 {S : ai_S} {z v : Int32} : (op_set S z v).1 ≤ 3 := by unfold op_set; (repeat' split) <;> exact Nat.le_of_ble_eq_true rfl
theorem op_advance_3 {S : ai_S} {z : Int32} : (op_advance S z).1 ≤ 3 := by unfold op_advance; (repeat' split) <;> exact Nat.le_of_ble_eq_true rfl
theorem op_satisfies_3 {S : ai_S} {z : Int32} : (op_satisfies S z).1 ≤ 3 := by unfold op_satisfies; (repeat' split) <;> exact Nat.le_of_ble_eq_true rfl
theorem op_sizeOf_3 {S : ai_S} {z : Int32} : (op_sizeOf S z).1 ≤ 3 := by unfold op_sizeOf; (repeat' split) <;> exact Nat.le_of_ble_eq_true rfl
theorem op_isQuiet_3 {S : ai_S} {z : Int32} : (op_isQuiet S z).1 ≤ 3 := by unfold op_isQuiet; (repeat' split) <;> exact Nat.le_of_ble_eq_true rfl
theorem op_alerts_3 {S : ai_S} {z : Int32} : (op_alerts S z).1 ≤ 3 := by unfold op_alerts; (repeat' split) <;> exact Nat.le_of_ble_eq_true rfl
theorem op_batch_3 {S : ai_S} {z : Int32} : (op_batch S z).1 ≤ 3 := by unfold op_batch; (repeat' split) <;> exact Nat.le_of_ble_eq_true rfl
theorem op_pieces_3 {S : ai_S} {lo hi : Int32} : (op_pieces S lo hi).1 ≤ 3 := by unfold op_pieces; (repeat' split) <;> exact Nat.le_of_ble_eq_true rfl
theorem op_pieceAt_3 {S : ai_S} {lo hi k : Int32} : (op_pieceAt S lo hi k).1 ≤ 3 := by unfold op_pieceAt; (repeat' split) <;> exact Nat.le_of_ble_eq_true rfl
theorem op_satisfies_b {S : ai_S} {z : Int32} : (op_satisfies S z).2.1 = 0 ∨ (op_satisfies S z).2.1 = nI 1 := by unfold op_satisfies; split; exact Or.inl rfl; exact ai_bsp
theorem op_isQuiet_b {S : ai_S} {z : Int32} : (op_isQuiet S z).2.1 = 0 ∨ (op_isQuiet S z).2.1 = nI 1 := by unfold op_isQuiet; split; exact Or.inl rfl; exact ai_bsp
section LAW
variable {p : Program} {l : Launch} {e : Env} {R : Room} {s : State} {m : MethodId} {args : Array Value} {below : List Frame} {meth : Method} {c : Code} {G : ai_G} {Q : State → Prop} {M : ai_M} {cells slots : Nat} {L : List (Option Value)} {pc : Nat} {st : List Value} {cc : ByteArray} {nL : Nat} {ws : List Cond} {own : String} {ret : Option FieldType}
theorem y_sld (B : ai_B p l e R s m args below meth c G cc nL ws own ret) {b N : Nat} {xs : Nat → Int32} (hX : va_X b N xs s s.heap) (hbl : b < s.heap.size) (hbA : ¬ ai_A G b) {n : Nat} (hn : n < N) (hN : N ≤ 3072) (hd : decode cc pc = .ok (.iaload, 1)) (k : ai_Y p l e R s m args below meth c G Q M cells slots L (pc + 1) (.int (xs n) :: st)) : ai_Y p l e R s m args below meth c G Q M cells slots L pc (.int (nI n) :: .ref b :: st) :=
  fun H locs ls hl hP hS hL => va_sld B.1 B.2.1 hX hbl hbA hS (vp_in_nI hn (by omega)) hd (by rw [nI_clamp (by omega)]; exact k H locs ls hl hP hS hL)
theorem y_slen (B : ai_B p l e R s m args below meth c G cc nL ws own ret) {b N : Nat} {xs : Nat → Int32} (hX : va_X b N xs s s.heap) (hbl : b < s.heap.size) (hbA : ¬ ai_A G b) (hd : decode cc pc = .ok (.arraylength, 1)) (k : ai_Y p l e R s m args below meth c G Q M cells slots L (pc + 1) (.int (nI N) :: st)) : ai_Y p l e R s m args below meth c G Q M cells slots L pc (.ref b :: st) :=
  fun H locs ls hl hP hS hL => va_slen B.1 B.2.1 hX hbl hbA hS hd (k H locs ls hl hP hS hL)
end LAW
set_option maxHeartbeats 4000000 in
set_option maxRecDepth 100000 in
theorem law_question {p : Program} {l : Launch} {e : Env} {s : State} {m : MethodId} {args : Array Value} {below : List Frame} {meth : Method} {c : Code} {G : ai_G} {Q : State → Prop} (B : ai_B p l e room_1 s m args below meth c G cL_law 7 wsL_law RL (some .boolean)) (hst : l.stackTraces = false) {b N : Nat} {xs : Nat → Int32} (hX : va_X b N xs s s.heap) (hbl : b < s.heap.size) (hbA : ¬ ai_A G b) (hL3 : N ≤ 3072) {x mo ow : Nat} {ma : Nat → Nat} {M : ai_M} {S : ai_S} {o off k n : Nat} {t0 : Int32} {f : Nat → Int64} {v5 v6 : Option Value} (hR : ai_Rx G M S x) (hO : ai_O G M t0 S mo ma) (hw : M ow = some (8, ai_eJ G 1 f)) (hI : ai_I S o) (hz : ai_Z0 S) (ho : o ≤ 9999) (hoff : off + 6 ≤ N) (hk : k ≤ 100000) (hn9 : n ≤ 300000) (next : ∀ (M' : ai_M) (S' : ai_S) (t' : Int32) (f' : Nat → Int64) (v5 v6 : Option Value), ai_Rx G M' S' x → ai_O G M' t' S' mo ma → M' ow = some (8, ai_eJ G 1 f') → ai_I S' (o + 1) → ai_Z0 S' → ai_Y p l e room_1 s m args below meth c G Q M' (k + 70) (n + 200) [some (.ref b), some (.ref x), some (.ref mo), some (.ref ow), some (.int (nI off)), v5, v6] 1119 []) : ai_Y p l e room_1 s m args below meth c G Q M k n [some (.ref b), some (.ref x), some (.ref mo), some (.ref ow), some (.int (nI off)), v5, v6] 132 [] := by
  have hidx := hL3
  obtain ⟨qs, dr, ix, fa, qa, pa, pst, hx0, -⟩ := id hR
  refine y_aload_n B dL_law_132 rfl ?_
  refine y_aload_n B dL_law_133 rfl ?_
  refine x_callSX B 2 _ _ (k_L_question l G _ hst hR hI hw hz) gL_law_L_question (by decide +kernel) rfl rfl rfl rfl ⟨(Nat.le_of_ble_eq_true rfl), (Nat.le_of_ble_eq_true rfl)⟩ (Nat.le_of_ble_eq_true rfl) ⟨Nat.le_trans (m := 500000) (by omega) (Nat.le_of_ble_eq_true rfl), Nat.le_trans (m := 500000) (by omega) (Nat.le_of_ble_eq_true rfl)⟩ dL_law_134 rfl (fun E M1 hr => ?_) (fun r M9 hr => ?_)
  · exact hr.elim
  obtain ⟨rfl, hR1, hk1, f1, hw1, hv1⟩ := hr
  have hq3 : (op_question S ).1 ≤ 3 := op_question_3
  have hO1 := hO.kw hk1
  have hJ := hI.J (by omega)
  refine y_istore B dL_law_137 (Nat.le_of_ble_eq_true rfl) ?_
  refine y_aload_n B dL_law_139 rfl ?_
  refine y_callV B 0 (q := (RX7, TX7, 15)) _ _ (k_X7_question l G _ hO1 hJ) hO1.1 rfl gL_law_X7_question (by decide +kernel) rfl rfl rfl rfl ⟨(Nat.le_of_ble_eq_true rfl), (Nat.le_of_ble_eq_true rfl)⟩ (Nat.le_of_ble_eq_true rfl) ⟨Nat.le_trans (m := 500000) (by omega) (Nat.le_of_ble_eq_true rfl), Nat.le_trans (m := 500000) (by omega) (Nat.le_of_ble_eq_true rfl)⟩ dL_law_140 rfl (fun r M9 hr => ?_)
  obtain ⟨hO2, hkm, v, rfl, hv2⟩ := hr
  have hw2 := hkm _ _ _ hw1 (Or.inl rfl)
  refine y_istore B dL_law_143 (Nat.le_of_ble_eq_true rfl) ?_
  refine y_aload_n B dL_law_145 rfl ?_
  refine y_callV B 0 (q := (RX7, TX7, 15)) _ _ (k_X7_thrown l G _ hO2) hO2.1 rfl gL_law_X7_thrown (by decide +kernel) rfl rfl rfl rfl ⟨(Nat.le_of_ble_eq_true rfl), (Nat.le_of_ble_eq_true rfl)⟩ (Nat.le_of_ble_eq_true rfl) ⟨Nat.le_trans (m := 500000) (by omega) (Nat.le_of_ble_eq_true rfl), Nat.le_trans (m := 500000) (by omega) (Nat.le_of_ble_eq_true rfl)⟩ dL_law_146 rfl (fun r M1 hr => ?_)
  obtain ⟨rfl, e9⟩ := hr
  obtain rfl := e9.symm
  refine y_iload B dL_law_149 rfl ?_
  refine y_icmp_eq B 156 dL_law_151 (by decide) (fun c151 => ?_) (fun c151 => absurd rfl c151)
  refine y_iload B dL_law_156 rfl ?_
  refine y_if_ne B 173 dL_law_158 (by decide) (fun c158 => ?_) (fun c158 => ?_)
  · refine y_goto B 1119 dL_law_173 (by decide) ?_
    have hI9 : ai_I (op_question S ).2.2 (o + 1) ∧ ai_Z0 (op_question S ).2.2 := op_question_I hI hz
    exact y_wide (by omega) (by omega) (next _ _ _ _ _ _ (hR1.keep hI9.1 (fun b g e hb hg => hkm b g e hb (Or.inr hg))) hO2 hw2 hI9.1 hI9.2)
  · have q0 : (op_question S ).1 = 0 := (nI_eq (by omega) (by decide)).mp c158
    refine y_aload_n B dL_law_161 rfl ?_
    refine y_iconst B (nI 0) dL_law_162 (by decide +kernel) ?_
    refine y_laload B hw2 (vp_in_nI (n := 0) (by decide) (by decide)) dL_law_163 ?_
    refine y_iload B dL_law_164 rfl ?_
    refine y_i2l B dL_law_166 ?_
    refine y_lcmp B dL_law_167 ?_
    refine y_if_eq B 173 dL_law_168 (by decide) (fun c168 => ?_) (fun c168 => absurd (by rw [show (nI 0).toNatClampNeg = 0 from by decide +kernel, hv1 q0, hv2 q0]; exact ai_lgs) c168)
    refine y_goto B 1119 dL_law_173 (by decide) ?_
    have hI9 : ai_I (op_question S ).2.2 (o + 1) ∧ ai_Z0 (op_question S ).2.2 := op_question_I hI hz
    exact y_wide (by omega) (by omega) (next _ _ _ _ _ _ (hR1.keep hI9.1 (fun b g e hb hg => hkm b g e hb (Or.inr hg))) hO2 hw2 hI9.1 hI9.2)
set_option maxHeartbeats 4000000 in
set_option maxRecDepth 100000 in
theorem law_product {p : Program} {l : Launch} {e : Env} {s : State} {m : MethodId} {args : Array Value} {below : List Frame} {meth : Method} {c : Code} {G : ai_G} {Q : State → Prop} (B : ai_B p l e room_1 s m args below meth c G cL_law 7 wsL_law RL (some .boolean)) (hst : l.stackTraces = false) {b N : Nat} {xs : Nat → Int32} (hX : va_X b N xs s s.heap) (hbl : b < s.heap.size) (hbA : ¬ ai_A G b) (hL3 : N ≤ 3072) {x mo ow : Nat} {ma : Nat → Nat} {M : ai_M} {S : ai_S} {o off k n : Nat} {t0 : Int32} {f : Nat → Int64} {v5 v6 : Option Value} (hR : ai_Rx G M S x) (hO : ai_O G M t0 S mo ma) (hw : M ow = some (8, ai_eJ G 1 f)) (hI : ai_I S o) (hz : ai_Z0 S) (ho : o ≤ 9999) (hoff : off + 6 ≤ N) (hk : k ≤ 100000) (hn9 : n ≤ 300000) (next : ∀ (M' : ai_M) (S' : ai_S) (t' : Int32) (f' : Nat → Int64) (v5 v6 : Option Value), ai_Rx G M' S' x → ai_O G M' t' S' mo ma → M' ow = some (8, ai_eJ G 1 f') → ai_I S' (o + 1) → ai_Z0 S' → ai_Y p l e room_1 s m args below meth c G Q M' (k + 70) (n + 200) [some (.ref b), some (.ref x), some (.ref mo), some (.ref ow), some (.int (nI off)), v5, v6] 1119 []) : ai_Y p l e room_1 s m args below meth c G Q M k n [some (.ref b), some (.ref x), some (.ref mo), some (.ref ow), some (.int (nI off)), v5, v6] 176 [] := by
  have hidx := hL3
  obtain ⟨qs, dr, ix, fa, qa, pa, pst, hx0, -⟩ := id hR
  refine y_aload_n B dL_law_176 rfl ?_
  refine y_aload_n B dL_law_177 rfl ?_
  refine y_iload B dL_law_178 rfl ?_
  refine y_iconst B (nI 1) dL_law_180 (by decide +kernel) ?_
  refine y_iadd B (nI (off + 1)) dL_law_181 (nI_add _ _) ?_
  refine y_sld B hX hbl hbA (n := off + 1) (by omega) hL3 dL_law_182 ?_
  refine y_aload_n B dL_law_183 rfl ?_
  refine x_callSX B 3 _ _ (k_L_product l G _ hst hR hI hw hz) gL_law_L_product (by decide +kernel) rfl rfl rfl rfl ⟨(Nat.le_of_ble_eq_true rfl), (Nat.le_of_ble_eq_true rfl)⟩ (Nat.le_of_ble_eq_true rfl) ⟨Nat.le_trans (m := 500000) (by omega) (Nat.le_of_ble_eq_true rfl), Nat.le_trans (m := 500000) (by omega) (Nat.le_of_ble_eq_true rfl)⟩ dL_law_184 rfl (fun E M1 hr => ?_) (fun r M9 hr => ?_)
  · exact hr.elim
  obtain ⟨rfl, hR1, hk1, f1, hw1, hv1⟩ := hr
  have hq3 : (op_product S (xs (off + 1))).1 ≤ 3 := op_product_3
  have hO1 := hO.kw hk1
  have hJ := hI.J (by omega)
  refine y_istore B dL_law_187 (Nat.le_of_ble_eq_true rfl) ?_
  refine y_aload_n B dL_law_189 rfl ?_
  refine y_aload_n B dL_law_190 rfl ?_
  refine y_iload B dL_law_191 rfl ?_
  refine y_iconst B (nI 1) dL_law_193 (by decide +kernel) ?_
  refine y_iadd B (nI (off + 1)) dL_law_194 (nI_add _ _) ?_
  refine y_sld B hX hbl hbA (n := off + 1) (by omega) hL3 dL_law_195 ?_
  refine y_callV B 1 (q := (RX7, TX7, 15)) _ _ (k_X7_product l G _ hO1 hJ) hO1.1 rfl gL_law_X7_product (by decide +kernel) rfl rfl rfl rfl ⟨(Nat.le_of_ble_eq_true rfl), (Nat.le_of_ble_eq_true rfl)⟩ (Nat.le_of_ble_eq_true rfl) ⟨Nat.le_trans (m := 500000) (by omega) (Nat.le_of_ble_eq_true rfl), Nat.le_trans (m := 500000) (by omega) (Nat.le_of_ble_eq_true rfl)⟩ dL_law_196 rfl (fun r M9 hr => ?_)
  obtain ⟨hO2, hkm, v, rfl, hv2⟩ := hr
  have hw2 := hkm _ _ _ hw1 (Or.inl rfl)
  refine y_istore B dL_law_199 (Nat.le_of_ble_eq_true rfl) ?_
  refine y_aload_n B dL_law_201 rfl ?_
  refine y_callV B 0 (q := (RX7, TX7, 15)) _ _ (k_X7_thrown l G _ hO2) hO2.1 rfl gL_law_X7_thrown (by decide +kernel) rfl rfl rfl rfl ⟨(Nat.le_of_ble_eq_true rfl), (Nat.le_of_ble_eq_true rfl)⟩ (Nat.le_of_ble_eq_true rfl) ⟨Nat.le_trans (m := 500000) (by omega) (Nat.le_of_ble_eq_true rfl), Nat.le_trans (m := 500000) (by omega) (Nat.le_of_ble_eq_true rfl)⟩ dL_law_202 rfl (fun r M1 hr => ?_)
  obtain ⟨rfl, e9⟩ := hr
  obtain rfl := e9.symm
  refine y_iload B dL_law_205 rfl ?_
  refine y_icmp_eq B 212 dL_law_207 (by decide) (fun c207 => ?_) (fun c207 => absurd rfl c207)
  refine y_iload B dL_law_212 rfl ?_
  refine y_if_ne B 229 dL_law_214 (by decide) (fun c214 => ?_) (fun c214 => ?_)
  · refine y_goto B 1119 dL_law_229 (by decide) ?_
    have hI9 : ai_I (op_product S (xs (off + 1))).2.2 (o + 1) ∧ ai_Z0 (op_product S (xs (off + 1))).2.2 := op_product_I hI hz
    exact y_wide (by omega) (by omega) (next _ _ _ _ _ _ (hR1.keep hI9.1 (fun b g e hb hg => hkm b g e hb (Or.inr hg))) hO2 hw2 hI9.1 hI9.2)
  · have q0 : (op_product S (xs (off + 1))).1 = 0 := (nI_eq (by omega) (by decide)).mp c214
    refine y_aload_n B dL_law_217 rfl ?_
    refine y_iconst B (nI 0) dL_law_218 (by decide +kernel) ?_
    refine y_laload B hw2 (vp_in_nI (n := 0) (by decide) (by decide)) dL_law_219 ?_
    refine y_iload B dL_law_220 rfl ?_
    refine y_i2l B dL_law_222 ?_
    refine y_lcmp B dL_law_223 ?_
    refine y_if_eq B 229 dL_law_224 (by decide) (fun c224 => ?_) (fun c224 => absurd (by rw [show (nI 0).toNatClampNeg = 0 from by decide +kernel, hv1 q0, hv2 q0]; exact ai_lgs) c224)
    refine y_goto B 1119 dL_law_229 (by decide) ?_
    have hI9 : ai_I (op_product S (xs (off + 1))).2.2 (o + 1) ∧ ai_Z0 (op_product S (xs (off + 1))).2.2 := op_product_I hI hz
    exact y_wide (by omega) (by omega) (next _ _ _ _ _ _ (hR1.keep hI9.1 (fun b g e hb hg => hkm b g e hb (Or.inr hg))) hO2 hw2 hI9.1 hI9.2)
set_option maxHeartbeats 4000000 in
set_option maxRecDepth 100000 in
theorem law_test {p : Program} {l : Launch} {e : Env} {s : State} {m : MethodId} {args : Array Value} {below : List Frame} {meth : Method} {c : Code} {G : ai_G} {Q : State → Prop} (B : ai_B p l e room_1 s m args below meth c G cL_law 7 wsL_law RL (some .boolean)) (hst : l.stackTraces = false) {b N : Nat} {xs : Nat → Int32} (hX : va_X b N xs s s.heap) (hbl : b < s.heap.size) (hbA : ¬ ai_A G b) (hL3 : N ≤ 3072) {x mo ow : Nat} {ma : Nat → Nat} {M : ai_M} {S : ai_S} {o off k n : Nat} {t0 : Int32} {f : Nat → Int64} {v5 v6 : Option Value} (hR : ai_Rx G M S x) (hO : ai_O G M t0 S mo ma) (hw : M ow = some (8, ai_eJ G 1 f)) (hI : ai_I S o) (hz : ai_Z0 S) (ho : o ≤ 9999) (hoff : off + 6 ≤ N) (hk : k ≤ 100000) (hn9 : n ≤ 300000) (next : ∀ (M' : ai_M) (S' : ai_S) (t' : Int32) (f' : Nat → Int64) (v5 v6 : Option Value), ai_Rx G M' S' x → ai_O G M' t' S' mo ma → M' ow = some (8, ai_eJ G 1 f') → ai_I S' (o + 1) → ai_Z0 S' → ai_Y p l e room_1 s m args below meth c G Q M' (k + 70) (n + 200) [some (.ref b), some (.ref x), some (.ref mo), some (.ref ow), some (.int (nI off)), v5, v6] 1119 []) : ai_Y p l e room_1 s m args below meth c G Q M k n [some (.ref b), some (.ref x), some (.ref mo), some (.ref ow), some (.int (nI off)), v5, v6] 232 [] := by
  have hidx := hL3
  obtain ⟨qs, dr, ix, fa, qa, pa, pst, hx0, -⟩ := id hR
  refine y_aload_n B dL_law_232 rfl ?_
  refine y_aload_n B dL_law_233 rfl ?_
  refine y_iload B dL_law_234 rfl ?_
  refine y_iconst B (nI 1) dL_law_236 (by decide +kernel) ?_
  refine y_iadd B (nI (off + 1)) dL_law_237 (nI_add _ _) ?_
  refine y_sld B hX hbl hbA (n := off + 1) (by omega) hL3 dL_law_238 ?_
  refine y_aload_n B dL_law_239 rfl ?_
  refine y_iload B dL_law_240 rfl ?_
  refine y_iconst B (nI 2) dL_law_242 (by decide +kernel) ?_
  refine y_iadd B (nI (off + 2)) dL_law_243 (nI_add _ _) ?_
  refine y_sld B hX hbl hbA (n := off + 2) (by omega) hL3 dL_law_244 ?_
  refine y_aload_n B dL_law_245 rfl ?_
  refine y_iload B dL_law_246 rfl ?_
  refine y_iconst B (nI 3) dL_law_248 (by decide +kernel) ?_
  refine y_iadd B (nI (off + 3)) dL_law_249 (nI_add _ _) ?_
  refine y_sld B hX hbl hbA (n := off + 3) (by omega) hL3 dL_law_250 ?_
  refine y_aload_n B dL_law_251 rfl ?_
  refine y_iload B dL_law_252 rfl ?_
  refine y_iconst B (nI 4) dL_law_254 (by decide +kernel) ?_
  refine y_iadd B (nI (off + 4)) dL_law_255 (nI_add _ _) ?_
  refine y_sld B hX hbl hbA (n := off + 4) (by omega) hL3 dL_law_256 ?_
  refine y_aload_n B dL_law_257 rfl ?_
  refine y_iload B dL_law_258 rfl ?_
  refine y_iconst B (nI 5) dL_law_260 (by decide +kernel) ?_
  refine y_iadd B (nI (off + 5)) dL_law_261 (nI_add _ _) ?_
  refine y_sld B hX hbl hbA (n := off + 5) (by omega) hL3 dL_law_262 ?_
  refine y_if_eq B 270 dL_law_263 (by decide) (fun c263 => ?_) (fun c263 => ?_)
  · refine y_iconst B (nI 0) dL_law_270 (by decide +kernel) ?_
    refine y_aload_n B dL_law_271 rfl ?_
    refine x_callSX B 7 _ _ (k_L_test l G _ hst hR hI hw hz (Or.inl rfl)) gL_law_L_test (by decide +kernel) rfl rfl rfl rfl ⟨(Nat.le_of_ble_eq_true rfl), (Nat.le_of_ble_eq_true rfl)⟩ (Nat.le_of_ble_eq_true rfl) ⟨Nat.le_trans (m := 500000) (by omega) (Nat.le_of_ble_eq_true rfl), Nat.le_trans (m := 500000) (by omega) (Nat.le_of_ble_eq_true rfl)⟩ dL_law_272 rfl (fun E M1 hr => ?_) (fun r M9 hr => ?_)
    · exact hr.elim
    obtain ⟨rfl, hR1, hk1, f1, hw1, hv1⟩ := hr
    have hq3 : (op_test S (xs (off + 1)) (xs (off + 2)) (xs (off + 3)) (xs (off + 4)) 0).1 ≤ 3 := op_test_3
    have hO1 := hO.kw hk1
    have hJ := hI.J (by omega)
    refine y_istore B dL_law_275 (Nat.le_of_ble_eq_true rfl) ?_
    refine y_aload_n B dL_law_277 rfl ?_
    refine y_aload_n B dL_law_278 rfl ?_
    refine y_iload B dL_law_279 rfl ?_
    refine y_iconst B (nI 1) dL_law_281 (by decide +kernel) ?_
    refine y_iadd B (nI (off + 1)) dL_law_282 (nI_add _ _) ?_
    refine y_sld B hX hbl hbA (n := off + 1) (by omega) hL3 dL_law_283 ?_
    refine y_aload_n B dL_law_284 rfl ?_
    refine y_iload B dL_law_285 rfl ?_
    refine y_iconst B (nI 2) dL_law_287 (by decide +kernel) ?_
    refine y_iadd B (nI (off + 2)) dL_law_288 (nI_add _ _) ?_
    refine y_sld B hX hbl hbA (n := off + 2) (by omega) hL3 dL_law_289 ?_
    refine y_aload_n B dL_law_290 rfl ?_
    refine y_iload B dL_law_291 rfl ?_
    refine y_iconst B (nI 3) dL_law_293 (by decide +kernel) ?_
    refine y_iadd B (nI (off + 3)) dL_law_294 (nI_add _ _) ?_
    refine y_sld B hX hbl hbA (n := off + 3) (by omega) hL3 dL_law_295 ?_
    refine y_aload_n B dL_law_296 rfl ?_
    refine y_iload B dL_law_297 rfl ?_
    refine y_iconst B (nI 4) dL_law_299 (by decide +kernel) ?_
    refine y_iadd B (nI (off + 4)) dL_law_300 (nI_add _ _) ?_
    refine y_sld B hX hbl hbA (n := off + 4) (by omega) hL3 dL_law_301 ?_
    refine y_aload_n B dL_law_302 rfl ?_
    refine y_iload B dL_law_303 rfl ?_
    refine y_iconst B (nI 5) dL_law_305 (by decide +kernel) ?_
    refine y_iadd B (nI (off + 5)) dL_law_306 (nI_add _ _) ?_
    refine y_sld B hX hbl hbA (n := off + 5) (by omega) hL3 dL_law_307 ?_
    refine y_if_eq B 315 dL_law_308 (by decide) (fun c308 => ?_) (fun c308 => absurd c263 c308)
    refine y_iconst B (nI 0) dL_law_315 (by decide +kernel) ?_
    refine y_callV B 5 (q := (RX7, TX7, 15)) _ _ (k_X7_test l G _ hO1 hJ (Or.inl rfl)) hO1.1 rfl gL_law_X7_test (by decide +kernel) rfl rfl rfl rfl ⟨(Nat.le_of_ble_eq_true rfl), (Nat.le_of_ble_eq_true rfl)⟩ (Nat.le_of_ble_eq_true rfl) ⟨Nat.le_trans (m := 500000) (by omega) (Nat.le_of_ble_eq_true rfl), Nat.le_trans (m := 500000) (by omega) (Nat.le_of_ble_eq_true rfl)⟩ dL_law_316 rfl (fun r M9 hr => ?_)
    obtain ⟨hO2, hkm, v, rfl, hv2⟩ := hr
    have hw2 := hkm _ _ _ hw1 (Or.inl rfl)
    refine y_istore B dL_law_319 (Nat.le_of_ble_eq_true rfl) ?_
    refine y_aload_n B dL_law_321 rfl ?_
    refine y_callV B 0 (q := (RX7, TX7, 15)) _ _ (k_X7_thrown l G _ hO2) hO2.1 rfl gL_law_X7_thrown (by decide +kernel) rfl rfl rfl rfl ⟨(Nat.le_of_ble_eq_true rfl), (Nat.le_of_ble_eq_true rfl)⟩ (Nat.le_of_ble_eq_true rfl) ⟨Nat.le_trans (m := 500000) (by omega) (Nat.le_of_ble_eq_true rfl), Nat.le_trans (m := 500000) (by omega) (Nat.le_of_ble_eq_true rfl)⟩ dL_law_322 rfl (fun r M1 hr => ?_)
    obtain ⟨rfl, e9⟩ := hr
    obtain rfl := e9.symm
    refine y_iload B dL_law_325 rfl ?_
    refine y_icmp_eq B 332 dL_law_327 (by decide) (fun c327 => ?_) (fun c327 => absurd rfl c327)
    refine y_iload B dL_law_332 rfl ?_
    refine y_if_ne B 349 dL_law_334 (by decide) (fun c334 => ?_) (fun c334 => ?_)
    · refine y_goto B 1119 dL_law_349 (by decide) ?_
      have hI9 : ai_I (op_test S (xs (off + 1)) (xs (off + 2)) (xs (off + 3)) (xs (off + 4)) 0).2.2 (o + 1) ∧ ai_Z0 (op_test S (xs (off + 1)) (xs (off + 2)) (xs (off + 3)) (xs (off + 4)) 0).2.2 := op_test_I hI hz (Or.inl rfl)
      exact y_wide (by omega) (by omega) (next _ _ _ _ _ _ (hR1.keep hI9.1 (fun b g e hb hg => hkm b g e hb (Or.inr hg))) hO2 hw2 hI9.1 hI9.2)
    · have q0 : (op_test S (xs (off + 1)) (xs (off + 2)) (xs (off + 3)) (xs (off + 4)) 0).1 = 0 := (nI_eq (by omega) (by decide)).mp c334
      refine y_aload_n B dL_law_337 rfl ?_
      refine y_iconst B (nI 0) dL_law_338 (by decide +kernel) ?_
      refine y_laload B hw2 (vp_in_nI (n := 0) (by decide) (by decide)) dL_law_339 ?_
      refine y_iload B dL_law_340 rfl ?_
      refine y_i2l B dL_law_342 ?_
      refine y_lcmp B dL_law_343 ?_
      refine y_if_eq B 349 dL_law_344 (by decide) (fun c344 => ?_) (fun c344 => absurd (by rw [show (nI 0).toNatClampNeg = 0 from by decide +kernel, hv1 q0, hv2 q0]; exact ai_lgs) c344)
      refine y_goto B 1119 dL_law_349 (by decide) ?_
      have hI9 : ai_I (op_test S (xs (off + 1)) (xs (off + 2)) (xs (off + 3)) (xs (off + 4)) 0).2.2 (o + 1) ∧ ai_Z0 (op_test S (xs (off + 1)) (xs (off + 2)) (xs (off + 3)) (xs (off + 4)) 0).2.2 := op_test_I hI hz (Or.inl rfl)
      exact y_wide (by omega) (by omega) (next _ _ _ _ _ _ (hR1.keep hI9.1 (fun b g e hb hg => hkm b g e hb (Or.inr hg))) hO2 hw2 hI9.1 hI9.2)
  · refine y_iconst B (nI 1) dL_law_266 (by decide +kernel) ?_
    refine y_goto B 271 dL_law_267 (by decide) ?_
    refine y_aload_n B dL_law_271 rfl ?_
    refine x_callSX B 7 _ _ (k_L_test l G _ hst hR hI hw hz (Or.inr rfl)) gL_law_L_test (by decide +kernel) rfl rfl rfl rfl ⟨(Nat.le_of_ble_eq_true rfl), (Nat.le_of_ble_eq_true rfl)⟩ (Nat.le_of_ble_eq_true rfl) ⟨Nat.le_trans (m := 500000) (by omega) (Nat.le_of_ble_eq_true rfl), Nat.le_trans (m := 500000) (by omega) (Nat.le_of_ble_eq_true rfl)⟩ dL_law_272 rfl (fun E M1 hr => ?_) (fun r M9 hr => ?_)
    · exact hr.elim
    obtain ⟨rfl, hR1, hk1, f1, hw1, hv1⟩ := hr
    have hq3 : (op_test S (xs (off + 1)) (xs (off + 2)) (xs (off + 3)) (xs (off + 4)) 1).1 ≤ 3 := op_test_3
    have hO1 := hO.kw hk1
    have hJ := hI.J (by omega)
    refine y_istore B dL_law_275 (Nat.le_of_ble_eq_true rfl) ?_
    refine y_aload_n B dL_law_277 rfl ?_
    refine y_aload_n B dL_law_278 rfl ?_
    refine y_iload B dL_law_279 rfl ?_
    refine y_iconst B (nI 1) dL_law_281 (by decide +kernel) ?_
    refine y_iadd B (nI (off + 1)) dL_law_282 (nI_add _ _) ?_
    refine y_sld B hX hbl hbA (n := off + 1) (by omega) hL3 dL_law_283 ?_
    refine y_aload_n B dL_law_284 rfl ?_
    refine y_iload B dL_law_285 rfl ?_
    refine y_iconst B (nI 2) dL_law_287 (by decide +kernel) ?_
    refine y_iadd B (nI (off + 2)) dL_law_288 (nI_add _ _) ?_
    refine y_sld B hX hbl hbA (n := off + 2) (by omega) hL3 dL_law_289 ?_
    refine y_aload_n B dL_law_290 rfl ?_
    refine y_iload B dL_law_291 rfl ?_
    refine y_iconst B (nI 3) dL_law_293 (by decide +kernel) ?_
    refine y_iadd B (nI (off + 3)) dL_law_294 (nI_add _ _) ?_
    refine y_sld B hX hbl hbA (n := off + 3) (by omega) hL3 dL_law_295 ?_
    refine y_aload_n B dL_law_296 rfl ?_
    refine y_iload B dL_law_297 rfl ?_
    refine y_iconst B (nI 4) dL_law_299 (by decide +kernel) ?_
    refine y_iadd B (nI (off + 4)) dL_law_300 (nI_add _ _) ?_
    refine y_sld B hX hbl hbA (n := off + 4) (by omega) hL3 dL_law_301 ?_
    refine y_aload_n B dL_law_302 rfl ?_
    refine y_iload B dL_law_303 rfl ?_
    refine y_iconst B (nI 5) dL_law_305 (by decide +kernel) ?_
    refine y_iadd B (nI (off + 5)) dL_law_306 (nI_add _ _) ?_
    refine y_sld B hX hbl hbA (n := off + 5) (by omega) hL3 dL_law_307 ?_
    refine y_if_eq B 315 dL_law_308 (by decide) (fun c308 => absurd c308 c263) (fun c308 => ?_)
    refine y_iconst B (nI 1) dL_law_311 (by decide +kernel) ?_
    refine y_goto B 316 dL_law_312 (by decide) ?_
    refine y_callV B 5 (q := (RX7, TX7, 15)) _ _ (k_X7_test l G _ hO1 hJ (Or.inr rfl)) hO1.1 rfl gL_law_X7_test (by decide +kernel) rfl rfl rfl rfl ⟨(Nat.le_of_ble_eq_true rfl), (Nat.le_of_ble_eq_true rfl)⟩ (Nat.le_of_ble_eq_true rfl) ⟨Nat.le_trans (m := 500000) (by omega) (Nat.le_of_ble_eq_true rfl), Nat.le_trans (m := 500000) (by omega) (Nat.le_of_ble_eq_true rfl)⟩ dL_law_316 rfl (fun r M9 hr => ?_)
    obtain ⟨hO2, hkm, v, rfl, hv2⟩ := hr
    have hw2 := hkm _ _ _ hw1 (Or.inl rfl)
    refine y_istore B dL_law_319 (Nat.le_of_ble_eq_true rfl) ?_
    refine y_aload_n B dL_law_321 rfl ?_
    refine y_callV B 0 (q := (RX7, TX7, 15)) _ _ (k_X7_thrown l G _ hO2) hO2.1 rfl gL_law_X7_thrown (by decide +kernel) rfl rfl rfl rfl ⟨(Nat.le_of_ble_eq_true rfl), (Nat.le_of_ble_eq_true rfl)⟩ (Nat.le_of_ble_eq_true rfl) ⟨Nat.le_trans (m := 500000) (by omega) (Nat.le_of_ble_eq_true rfl), Nat.le_trans (m := 500000) (by omega) (Nat.le_of_ble_eq_true rfl)⟩ dL_law_322 rfl (fun r M1 hr => ?_)
    obtain ⟨rfl, e9⟩ := hr
    obtain rfl := e9.symm
    refine y_iload B dL_law_325 rfl ?_
    refine y_icmp_eq B 332 dL_law_327 (by decide) (fun c327 => ?_) (fun c327 => absurd rfl c327)
    refine y_iload B dL_law_332 rfl ?_
    refine y_if_ne B 349 dL_law_334 (by decide) (fun c334 => ?_) (fun c334 => ?_)
    · refine y_goto B 1119 dL_law_349 (by decide) ?_
      have hI9 : ai_I (op_test S (xs (off + 1)) (xs (off + 2)) (xs (off + 3)) (xs (off + 4)) 1).2.2 (o + 1) ∧ ai_Z0 (op_test S (xs (off + 1)) (xs (off + 2)) (xs (off + 3)) (xs (off + 4)) 1).2.2 := op_test_I hI hz (Or.inr rfl)
      exact y_wide (by omega) (by omega) (next _ _ _ _ _ _ (hR1.keep hI9.1 (fun b g e hb hg => hkm b g e hb (Or.inr hg))) hO2 hw2 hI9.1 hI9.2)
    · have q0 : (op_test S (xs (off + 1)) (xs (off + 2)) (xs (off + 3)) (xs (off + 4)) 1).1 = 0 := (nI_eq (by omega) (by decide)).mp c334
      refine y_aload_n B dL_law_337 rfl ?_
      refine y_iconst B (nI 0) dL_law_338 (by decide +kernel) ?_
      refine y_laload B hw2 (vp_in_nI (n := 0) (by decide) (by decide)) dL_law_339 ?_
      refine y_iload B dL_law_340 rfl ?_
      refine y_i2l B dL_law_342 ?_
      refine y_lcmp B dL_law_343 ?_
      refine y_if_eq B 349 dL_law_344 (by decide) (fun c344 => ?_) (fun c344 => absurd (by rw [show (nI 0).toNatClampNeg = 0 from by decide +kernel, hv1 q0, hv2 q0]; exact ai_lgs) c344)
      refine y_goto B 1119 dL_law_349 (by decide) ?_
      have hI9 : ai_I (op_test S (xs (off + 1)) (xs (off + 2)) (xs (off + 3)) (xs (off + 4)) 1).2.2 (o + 1) ∧ ai_Z0 (op_test S (xs (off + 1)) (xs (off + 2)) (xs (off + 3)) (xs (off + 4)) 1).2.2 := op_test_I hI hz (Or.inr rfl)
      exact y_wide (by omega) (by omega) (next _ _ _ _ _ _ (hR1.keep hI9.1 (fun b g e hb hg => hkm b g e hb (Or.inr hg))) hO2 hw2 hI9.1 hI9.2)
set_option maxHeartbeats 4000000 in
set_option maxRecDepth 100000 in
theorem law_drop {p : Program} {l : Launch} {e : Env} {s : State} {m : MethodId} {args : Array Value} {below : List Frame} {meth : Method} {c : Code} {G : ai_G} {Q : State → Prop} (B : ai_B p l e room_1 s m args below meth c G cL_law 7 wsL_law RL (some .boolean)) (hst : l.stackTraces = false) {b N : Nat} {xs : Nat → Int32} (hX : va_X b N xs s s.heap) (hbl : b < s.heap.size) (hbA : ¬ ai_A G b) (hL3 : N ≤ 3072) {x mo ow : Nat} {ma : Nat → Nat} {M : ai_M} {S : ai_S} {o off k n : Nat} {t0 : Int32} {f : Nat → Int64} {v5 v6 : Option Value} (hR : ai_Rx G M S x) (hO : ai_O G M t0 S mo ma) (hw : M ow = some (8, ai_eJ G 1 f)) (hI : ai_I S o) (hz : ai_Z0 S) (ho : o ≤ 9999) (hoff : off + 6 ≤ N) (hk : k ≤ 100000) (hn9 : n ≤ 300000) (next : ∀ (M' : ai_M) (S' : ai_S) (t' : Int32) (f' : Nat → Int64) (v5 v6 : Option Value), ai_Rx G M' S' x → ai_O G M' t' S' mo ma → M' ow = some (8, ai_eJ G 1 f') → ai_I S' (o + 1) → ai_Z0 S' → ai_Y p l e room_1 s m args below meth c G Q M' (k + 70) (n + 200) [some (.ref b), some (.ref x), some (.ref mo), some (.ref ow), some (.int (nI off)), v5, v6] 1119 []) : ai_Y p l e room_1 s m args below meth c G Q M k n [some (.ref b), some (.ref x), some (.ref mo), some (.ref ow), some (.int (nI off)), v5, v6] 352 [] := by
  have hidx := hL3
  obtain ⟨qs, dr, ix, fa, qa, pa, pst, hx0, -⟩ := id hR
  refine y_aload_n B dL_law_352 rfl ?_
  refine y_aload_n B dL_law_353 rfl ?_
  refine y_iload B dL_law_354 rfl ?_
  refine y_iconst B (nI 1) dL_law_356 (by decide +kernel) ?_
  refine y_iadd B (nI (off + 1)) dL_law_357 (nI_add _ _) ?_
  refine y_sld B hX hbl hbA (n := off + 1) (by omega) hL3 dL_law_358 ?_
  refine y_aload_n B dL_law_359 rfl ?_
  refine x_callSX B 3 _ _ (k_L_drop l G _ hst hR hI hw hz (by omega)) gL_law_L_drop (by decide +kernel) rfl rfl rfl rfl ⟨(Nat.le_of_ble_eq_true rfl), (Nat.le_of_ble_eq_true rfl)⟩ (Nat.le_of_ble_eq_true rfl) ⟨Nat.le_trans (m := 500000) (by omega) (Nat.le_of_ble_eq_true rfl), Nat.le_trans (m := 500000) (by omega) (Nat.le_of_ble_eq_true rfl)⟩ dL_law_360 rfl (fun E M1 hr => ?_) (fun r M9 hr => ?_)
  · exact hr.elim
  obtain ⟨rfl, hR1, hk1, f1, hw1, hv1⟩ := hr
  have hq3 : (op_drop S (xs (off + 1))).1 ≤ 3 := op_drop_3
  have hO1 := hO.kw hk1
  have hJ := hI.J (by omega)
  refine y_istore B dL_law_363 (Nat.le_of_ble_eq_true rfl) ?_
  refine y_aload_n B dL_law_365 rfl ?_
  refine y_aload_n B dL_law_366 rfl ?_
  refine y_iload B dL_law_367 rfl ?_
  refine y_iconst B (nI 1) dL_law_369 (by decide +kernel) ?_
  refine y_iadd B (nI (off + 1)) dL_law_370 (nI_add _ _) ?_
  refine y_sld B hX hbl hbA (n := off + 1) (by omega) hL3 dL_law_371 ?_
  refine y_callV B 1 (q := (RX7, TX7, 15)) _ _ (k_X7_drop l G _ hO1 hJ) hO1.1 rfl gL_law_X7_drop (by decide +kernel) rfl rfl rfl rfl ⟨(Nat.le_of_ble_eq_true rfl), (Nat.le_of_ble_eq_true rfl)⟩ (Nat.le_of_ble_eq_true rfl) ⟨Nat.le_trans (m := 500000) (by omega) (Nat.le_of_ble_eq_true rfl), Nat.le_trans (m := 500000) (by omega) (Nat.le_of_ble_eq_true rfl)⟩ dL_law_372 rfl (fun r M9 hr => ?_)
  obtain ⟨hO2, hkm, v, rfl, hv2⟩ := hr
  have hw2 := hkm _ _ _ hw1 (Or.inl rfl)
  refine y_istore B dL_law_375 (Nat.le_of_ble_eq_true rfl) ?_
  refine y_aload_n B dL_law_377 rfl ?_
  refine y_callV B 0 (q := (RX7, TX7, 15)) _ _ (k_X7_thrown l G _ hO2) hO2.1 rfl gL_law_X7_thrown (by decide +kernel) rfl rfl rfl rfl ⟨(Nat.le_of_ble_eq_true rfl), (Nat.le_of_ble_eq_true rfl)⟩ (Nat.le_of_ble_eq_true rfl) ⟨Nat.le_trans (m := 500000) (by omega) (Nat.le_of_ble_eq_true rfl), Nat.le_trans (m := 500000) (by omega) (Nat.le_of_ble_eq_true rfl)⟩ dL_law_378 rfl (fun r M1 hr => ?_)
  obtain ⟨rfl, e9⟩ := hr
  obtain rfl := e9.symm
  refine y_iload B dL_law_381 rfl ?_
  refine y_icmp_eq B 388 dL_law_383 (by decide) (fun c383 => ?_) (fun c383 => absurd rfl c383)
  refine y_iload B dL_law_388 rfl ?_
  refine y_if_ne B 405 dL_law_390 (by decide) (fun c390 => ?_) (fun c390 => ?_)
  · refine y_goto B 1119 dL_law_405 (by decide) ?_
    have hI9 : ai_I (op_drop S (xs (off + 1))).2.2 (o + 1) ∧ ai_Z0 (op_drop S (xs (off + 1))).2.2 := op_drop_I hI hz
    exact y_wide (by omega) (by omega) (next _ _ _ _ _ _ (hR1.keep hI9.1 (fun b g e hb hg => hkm b g e hb (Or.inr hg))) hO2 hw2 hI9.1 hI9.2)
  · have q0 : (op_drop S (xs (off + 1))).1 = 0 := (nI_eq (by omega) (by decide)).mp c390
    refine y_aload_n B dL_law_393 rfl ?_
    refine y_iconst B (nI 0) dL_law_394 (by decide +kernel) ?_
    refine y_laload B hw2 (vp_in_nI (n := 0) (by decide) (by decide)) dL_law_395 ?_
    refine y_iload B dL_law_396 rfl ?_
    refine y_i2l B dL_law_398 ?_
    refine y_lcmp B dL_law_399 ?_
    refine y_if_eq B 405 dL_law_400 (by decide) (fun c400 => ?_) (fun c400 => absurd (by rw [show (nI 0).toNatClampNeg = 0 from by decide +kernel, hv1 q0, hv2 q0]; exact ai_lgs) c400)
    refine y_goto B 1119 dL_law_405 (by decide) ?_
    have hI9 : ai_I (op_drop S (xs (off + 1))).2.2 (o + 1) ∧ ai_Z0 (op_drop S (xs (off + 1))).2.2 := op_drop_I hI hz
    exact y_wide (by omega) (by omega) (next _ _ _ _ _ _ (hR1.keep hI9.1 (fun b g e hb hg => hkm b g e hb (Or.inr hg))) hO2 hw2 hI9.1 hI9.2)
set_option maxHeartbeats 4000000 in
set_option maxRecDepth 100000 in
theorem law_setQuiet {p : Program} {l : Launch} {e : Env} {s : State} {m : MethodId} {args : Array Value} {below : List Frame} {meth : Method} {c : Code} {G : ai_G} {Q : State → Prop} (B : ai_B p l e room_1 s m args below meth c G cL_law 7 wsL_law RL (some .boolean)) (hst : l.stackTraces = false) {b N : Nat} {xs : Nat → Int32} (hX : va_X b N xs s s.heap) (hbl : b < s.heap.size) (hbA : ¬ ai_A G b) (hL3 : N ≤ 3072) {x mo ow : Nat} {ma : Nat → Nat} {M : ai_M} {S : ai_S} {o off k n : Nat} {t0 : Int32} {f : Nat → Int64} {v5 v6 : Option Value} (hR : ai_Rx G M S x) (hO : ai_O G M t0 S mo ma) (hw : M ow = some (8, ai_eJ G 1 f)) (hI : ai_I S o) (hz : ai_Z0 S) (ho : o ≤ 9999) (hoff : off + 6 ≤ N) (hk : k ≤ 100000) (hn9 : n ≤ 300000) (next : ∀ (M' : ai_M) (S' : ai_S) (t' : Int32) (f' : Nat → Int64) (v5 v6 : Option Value), ai_Rx G M' S' x → ai_O G M' t' S' mo ma → M' ow = some (8, ai_eJ G 1 f') → ai_I S' (o + 1) → ai_Z0 S' → ai_Y p l e room_1 s m args below meth c G Q M' (k + 70) (n + 200) [some (.ref b), some (.ref x), some (.ref mo), some (.ref ow), some (.int (nI off)), v5, v6] 1119 []) : ai_Y p l e room_1 s m args below meth c G Q M k n [some (.ref b), some (.ref x), some (.ref mo), some (.ref ow), some (.int (nI off)), v5, v6] 408 [] := by
  have hidx := hL3
  obtain ⟨qs, dr, ix, fa, qa, pa, pst, hx0, -⟩ := id hR
  refine y_aload_n B dL_law_408 rfl ?_
  refine y_aload_n B dL_law_409 rfl ?_
  refine y_iload B dL_law_410 rfl ?_
  refine y_iconst B (nI 1) dL_law_412 (by decide +kernel) ?_
  refine y_iadd B (nI (off + 1)) dL_law_413 (nI_add _ _) ?_
  refine y_sld B hX hbl hbA (n := off + 1) (by omega) hL3 dL_law_414 ?_
  refine y_aload_n B dL_law_415 rfl ?_
  refine y_iload B dL_law_416 rfl ?_
  refine y_iconst B (nI 2) dL_law_418 (by decide +kernel) ?_
  refine y_iadd B (nI (off + 2)) dL_law_419 (nI_add _ _) ?_
  refine y_sld B hX hbl hbA (n := off + 2) (by omega) hL3 dL_law_420 ?_
  refine y_aload_n B dL_law_421 rfl ?_
  refine x_callSX B 4 _ _ (k_L_setQuiet l G _ hst hR hI hw hz (by omega)) gL_law_L_setQuiet (by decide +kernel) rfl rfl rfl rfl ⟨(Nat.le_of_ble_eq_true rfl), (Nat.le_of_ble_eq_true rfl)⟩ (Nat.le_of_ble_eq_true rfl) ⟨Nat.le_trans (m := 500000) (by omega) (Nat.le_of_ble_eq_true rfl), Nat.le_trans (m := 500000) (by omega) (Nat.le_of_ble_eq_true rfl)⟩ dL_law_422 rfl (fun E M1 hr => ?_) (fun r M9 hr => ?_)
  · exact hr.elim
  obtain ⟨rfl, hR1, hk1, f1, hw1, hv1⟩ := hr
  have hq3 : (op_setQuiet S (xs (off + 1)) (xs (off + 2))).1 ≤ 3 := op_setQuiet_3
  have hO1 := hO.kw hk1
  have hJ := hI.J (by omega)
  refine y_istore B dL_law_425 (Nat.le_of_ble_eq_true rfl) ?_
  refine y_aload_n B dL_law_427 rfl ?_
  refine y_aload_n B dL_law_428 rfl ?_
  refine y_iload B dL_law_429 rfl ?_
  refine y_iconst B (nI 1) dL_law_431 (by decide +kernel) ?_
  refine y_iadd B (nI (off + 1)) dL_law_432 (nI_add _ _) ?_
  refine y_sld B hX hbl hbA (n := off + 1) (by omega) hL3 dL_law_433 ?_
  refine y_aload_n B dL_law_434 rfl ?_
  refine y_iload B dL_law_435 rfl ?_
  refine y_iconst B (nI 2) dL_law_437 (by decide +kernel) ?_
  refine y_iadd B (nI (off + 2)) dL_law_438 (nI_add _ _) ?_
  refine y_sld B hX hbl hbA (n := off + 2) (by omega) hL3 dL_law_439 ?_
  refine y_callV B 2 (q := (RX7, TX7, 15)) _ _ (k_X7_setQuiet l G _ hO1 hJ) hO1.1 rfl gL_law_X7_setQuiet (by decide +kernel) rfl rfl rfl rfl ⟨(Nat.le_of_ble_eq_true rfl), (Nat.le_of_ble_eq_true rfl)⟩ (Nat.le_of_ble_eq_true rfl) ⟨Nat.le_trans (m := 500000) (by omega) (Nat.le_of_ble_eq_true rfl), Nat.le_trans (m := 500000) (by omega) (Nat.le_of_ble_eq_true rfl)⟩ dL_law_440 rfl (fun r M9 hr => ?_)
  obtain ⟨hO2, hkm, v, rfl, hv2⟩ := hr
  have hw2 := hkm _ _ _ hw1 (Or.inl rfl)
  refine y_istore B dL_law_443 (Nat.le_of_ble_eq_true rfl) ?_
  refine y_aload_n B dL_law_445 rfl ?_
  refine y_callV B 0 (q := (RX7, TX7, 15)) _ _ (k_X7_thrown l G _ hO2) hO2.1 rfl gL_law_X7_thrown (by decide +kernel) rfl rfl rfl rfl ⟨(Nat.le_of_ble_eq_true rfl), (Nat.le_of_ble_eq_true rfl)⟩ (Nat.le_of_ble_eq_true rfl) ⟨Nat.le_trans (m := 500000) (by omega) (Nat.le_of_ble_eq_true rfl), Nat.le_trans (m := 500000) (by omega) (Nat.le_of_ble_eq_true rfl)⟩ dL_law_446 rfl (fun r M1 hr => ?_)
  obtain ⟨rfl, e9⟩ := hr
  obtain rfl := e9.symm
  refine y_iload B dL_law_449 rfl ?_
  refine y_icmp_eq B 456 dL_law_451 (by decide) (fun c451 => ?_) (fun c451 => absurd rfl c451)
  refine y_iload B dL_law_456 rfl ?_
  refine y_if_ne B 473 dL_law_458 (by decide) (fun c458 => ?_) (fun c458 => ?_)
  · refine y_goto B 1119 dL_law_473 (by decide) ?_
    have hI9 : ai_I (op_setQuiet S (xs (off + 1)) (xs (off + 2))).2.2 (o + 1) ∧ ai_Z0 (op_setQuiet S (xs (off + 1)) (xs (off + 2))).2.2 := op_setQuiet_I hI hz
    exact y_wide (by omega) (by omega) (next _ _ _ _ _ _ (hR1.keep hI9.1 (fun b g e hb hg => hkm b g e hb (Or.inr hg))) hO2 hw2 hI9.1 hI9.2)
  · have q0 : (op_setQuiet S (xs (off + 1)) (xs (off + 2))).1 = 0 := (nI_eq (by omega) (by decide)).mp c458
    refine y_aload_n B dL_law_461 rfl ?_
    refine y_iconst B (nI 0) dL_law_462 (by decide +kernel) ?_
    refine y_laload B hw2 (vp_in_nI (n := 0) (by decide) (by decide)) dL_law_463 ?_
    refine y_iload B dL_law_464 rfl ?_
    refine y_i2l B dL_law_466 ?_
    refine y_lcmp B dL_law_467 ?_
    refine y_if_eq B 473 dL_law_468 (by decide) (fun c468 => ?_) (fun c468 => absurd (by rw [show (nI 0).toNatClampNeg = 0 from by decide +kernel, hv1 q0, hv2 q0]; exact ai_lgs) c468)
    refine y_goto B 1119 dL_law_473 (by decide) ?_
    have hI9 : ai_I (op_setQuiet S (xs (off + 1)) (xs (off + 2))).2.2 (o + 1) ∧ ai_Z0 (op_setQuiet S (xs (off + 1)) (xs (off + 2))).2.2 := op_setQuiet_I hI hz
    exact y_wide (by omega) (by omega) (next _ _ _ _ _ _ (hR1.keep hI9.1 (fun b g e hb hg => hkm b g e hb (Or.inr hg))) hO2 hw2 hI9.1 hI9.2)
set_option maxHeartbeats 4000000 in
set_option maxRecDepth 100000 in
theorem law_set {p : Program} {l : Launch} {e : Env} {s : State} {m : MethodId} {args : Array Value} {below : List Frame} {meth : Method} {c : Code} {G : ai_G} {Q : State → Prop} (B : ai_B p l e room_1 s m args below meth c G cL_law 7 wsL_law RL (some .boolean)) (hst : l.stackTraces = false) {b N : Nat} {xs : Nat → Int32} (hX : va_X b N xs s s.heap) (hbl : b < s.heap.size) (hbA : ¬ ai_A G b) (hL3 : N ≤ 3072) {x mo ow : Nat} {ma : Nat → Nat} {M : ai_M} {S : ai_S} {o off k n : Nat} {t0 : Int32} {f : Nat → Int64} {v5 v6 : Option Value} (hR : ai_Rx G M S x) (hO : ai_O G M t0 S mo ma) (hw : M ow = some (8, ai_eJ G 1 f)) (hI : ai_I S o) (hz : ai_Z0 S) (ho : o ≤ 9999) (hoff : off + 6 ≤ N) (hk : k ≤ 100000) (hn9 : n ≤ 300000) (next : ∀ (M' : ai_M) (S' : ai_S) (t' : Int32) (f' : Nat → Int64) (v5 v6 : Option Value), ai_Rx G M' S' x → ai_O G M' t' S' mo ma → M' ow = some (8, ai_eJ G 1 f') → ai_I S' (o + 1) → ai_Z0 S' → ai_Y p l e room_1 s m args below meth c G Q M' (k + 70) (n + 200) [some (.ref b), some (.ref x), some (.ref mo), some (.ref ow), some (.int (nI off)), v5, v6] 1119 []) : ai_Y p l e room_1 s m args below meth c G Q M k n [some (.ref b), some (.ref x), some (.ref mo), some (.ref ow), some (.int (nI off)), v5, v6] 476 [] := by
  have hidx := hL3
  obtain ⟨qs, dr, ix, fa, qa, pa, pst, hx0, -⟩ := id hR
  refine y_aload_n B dL_law_476 rfl ?_
  refine y_aload_n B dL_law_477 rfl ?_
  refine y_iload B dL_law_478 rfl ?_
  refine y_iconst B (nI 1) dL_law_480 (by decide +kernel) ?_
  refine y_iadd B (nI (off + 1)) dL_law_481 (nI_add _ _) ?_
  refine y_sld B hX hbl hbA (n := off + 1) (by omega) hL3 dL_law_482 ?_
  refine y_aload_n B dL_law_483 rfl ?_
  refine y_iload B dL_law_484 rfl ?_
  refine y_iconst B (nI 2) dL_law_486 (by decide +kernel) ?_
  refine y_iadd B (nI (off + 2)) dL_law_487 (nI_add _ _) ?_
  refine y_sld B hX hbl hbA (n := off + 2) (by omega) hL3 dL_law_488 ?_
  refine y_aload_n B dL_law_489 rfl ?_
  refine x_callSX B 4 _ _ (k_L_set l G _ hst hR hI hw hz (by omega)) gL_law_L_set (by decide +kernel) rfl rfl rfl rfl ⟨(Nat.le_of_ble_eq_true rfl), (Nat.le_of_ble_eq_true rfl)⟩ (Nat.le_of_ble_eq_true rfl) ⟨Nat.le_trans (m := 500000) (by omega) (Nat.le_of_ble_eq_true rfl), Nat.le_trans (m := 500000) (by omega) (Nat.le_of_ble_eq_true rfl)⟩ dL_law_490 rfl (fun E M1 hr => ?_) (fun r M9 hr => ?_)
  · exact hr.elim
  obtain ⟨rfl, hR1, hk1, f1, hw1, hv1⟩ := hr
  have hq3 : (op_set S (xs (off + 1)) (xs (off + 2))).1 ≤ 3 := op_set_3
  have hO1 := hO.kw hk1
  have hJ := hI.J (by omega)
  refine y_istore B dL_law_493 (Nat.le_of_ble_eq_true rfl) ?_
  refine y_aload_n B dL_law_495 rfl ?_
  refine y_aload_n B dL_law_496 rfl ?_
  refine y_iload B dL_law_497 rfl ?_
  refine y_iconst B (nI 1) dL_law_499 (by decide +kernel) ?_
  refine y_iadd B (nI (off + 1)) dL_law_500 (nI_add _ _) ?_
  refine y_sld B hX hbl hbA (n := off + 1) (by omega) hL3 dL_law_501 ?_
  refine y_aload_n B dL_law_502 rfl ?_
  refine y_iload B dL_law_503 rfl ?_
  refine y_iconst B (nI 2) dL_law_505 (by decide +kernel) ?_
  refine y_iadd B (nI (off + 2)) dL_law_506 (nI_add _ _) ?_
  refine y_sld B hX hbl hbA (n := off + 2) (by omega) hL3 dL_law_507 ?_
  refine y_callV B 2 (q := (RX7, TX7, 15)) _ _ (k_X7_set l G _ hO1 hJ) hO1.1 rfl gL_law_X7_set (by decide +kernel) rfl rfl rfl rfl ⟨(Nat.le_of_ble_eq_true rfl), (Nat.le_of_ble_eq_true rfl)⟩ (Nat.le_of_ble_eq_true rfl) ⟨Nat.le_trans (m := 500000) (by omega) (Nat.le_of_ble_eq_true rfl), Nat.le_trans (m := 500000) (by omega) (Nat.le_of_ble_eq_true rfl)⟩ dL_law_508 rfl (fun r M9 hr => ?_)
  obtain ⟨hO2, hkm, v, rfl, hv2⟩ := hr
  have hw2 := hkm _ _ _ hw1 (Or.inl rfl)
  refine y_istore B dL_law_511 (Nat.le_of_ble_eq_true rfl) ?_
  refine y_aload_n B dL_law_513 rfl ?_
  refine y_callV B 0 (q := (RX7, TX7, 15)) _ _ (k_X7_thrown l G _ hO2) hO2.1 rfl gL_law_X7_thrown (by decide +kernel) rfl rfl rfl rfl ⟨(Nat.le_of_ble_eq_true rfl), (Nat.le_of_ble_eq_true rfl)⟩ (Nat.le_of_ble_eq_true rfl) ⟨Nat.le_trans (m := 500000) (by omega) (Nat.le_of_ble_eq_true rfl), Nat.le_trans (m := 500000) (by omega) (Nat.le_of_ble_eq_true rfl)⟩ dL_law_514 rfl (fun r M1 hr => ?_)
  obtain ⟨rfl, e9⟩ := hr
  obtain rfl := e9.symm
  refine y_iload B dL_law_517 rfl ?_
  refine y_icmp_eq B 524 dL_law_519 (by decide) (fun c519 => ?_) (fun c519 => absurd rfl c519)
  refine y_iload B dL_law_524 rfl ?_
  refine y_if_ne B 541 dL_law_526 (by decide) (fun c526 => ?_) (fun c526 => ?_)
  · refine y_goto B 1119 dL_law_541 (by decide) ?_
    have hI9 : ai_I (op_set S (xs (off + 1)) (xs (off + 2))).2.2 (o + 1) ∧ ai_Z0 (op_set S (xs (off + 1)) (xs (off + 2))).2.2 := op_set_I hI hz
    exact y_wide (by omega) (by omega) (next _ _ _ _ _ _ (hR1.keep hI9.1 (fun b g e hb hg => hkm b g e hb (Or.inr hg))) hO2 hw2 hI9.1 hI9.2)
  · have q0 : (op_set S (xs (off + 1)) (xs (off + 2))).1 = 0 := (nI_eq (by omega) (by decide)).mp c526
    refine y_aload_n B dL_law_529 rfl ?_
    refine y_iconst B (nI 0) dL_law_530 (by decide +kernel) ?_
    refine y_laload B hw2 (vp_in_nI (n := 0) (by decide) (by decide)) dL_law_531 ?_
    refine y_iload B dL_law_532 rfl ?_
    refine y_i2l B dL_law_534 ?_
    refine y_lcmp B dL_law_535 ?_
    refine y_if_eq B 541 dL_law_536 (by decide) (fun c536 => ?_) (fun c536 => absurd (by rw [show (nI 0).toNatClampNeg = 0 from by decide +kernel, hv1 q0, hv2 q0]; exact ai_lgs) c536)
    refine y_goto B 1119 dL_law_541 (by decide) ?_
    have hI9 : ai_I (op_set S (xs (off + 1)) (xs (off + 2))).2.2 (o + 1) ∧ ai_Z0 (op_set S (xs (off + 1)) (xs (off + 2))).2.2 := op_set_I hI hz
    exact y_wide (by omega) (by omega) (next _ _ _ _ _ _ (hR1.keep hI9.1 (fun b g e hb hg => hkm b g e hb (Or.inr hg))) hO2 hw2 hI9.1 hI9.2)
set_option maxHeartbeats 4000000 in
set_option maxRecDepth 100000 in
theorem law_advance {p : Program} {l : Launch} {e : Env} {s : State} {m : MethodId} {args : Array Value} {below : List Frame} {meth : Method} {c : Code} {G : ai_G} {Q : State → Prop} (B : ai_B p l e room_1 s m args below meth c G cL_law 7 wsL_law RL (some .boolean)) (hst : l.stackTraces = false) {b N : Nat} {xs : Nat → Int32} (hX : va_X b N xs s s.heap) (hbl : b < s.heap.size) (hbA : ¬ ai_A G b) (hL3 : N ≤ 3072) {x mo ow : Nat} {ma : Nat → Nat} {M : ai_M} {S : ai_S} {o off k n : Nat} {t0 : Int32} {f : Nat → Int64} {v5 v6 : Option Value} (hR : ai_Rx G M S x) (hO : ai_O G M t0 S mo ma) (hw : M ow = some (8, ai_eJ G 1 f)) (hI : ai_I S o) (hz : ai_Z0 S) (ho : o ≤ 9999) (hoff : off + 6 ≤ N) (hk : k ≤ 100000) (hn9 : n ≤ 300000) (next : ∀ (M' : ai_M) (S' : ai_S) (t' : Int32) (f' : Nat → Int64) (v5 v6 : Option Value), ai_Rx G M' S' x → ai_O G M' t' S' mo ma → M' ow = some (8, ai_eJ G 1 f') → ai_I S' (o + 1) → ai_Z0 S' → ai_Y p l e room_1 s m args below meth c G Q M' (k + 70) (n + 200) [some (.ref b), some (.ref x), some (.ref mo), some (.ref ow), some (.int (nI off)), v5, v6] 1119 []) : ai_Y p l e room_1 s m args below meth c G Q M k n [some (.ref b), some (.ref x), some (.ref mo), some (.ref ow), some (.int (nI off)), v5, v6] 557 [] := by
  have hidx := hL3
  obtain ⟨qs, dr, ix, fa, qa, pa, pst, hx0, -⟩ := id hR
  refine y_aload_n B dL_law_557 rfl ?_
  refine y_aload_n B dL_law_558 rfl ?_
  refine y_iload B dL_law_559 rfl ?_
  refine y_iconst B (nI 1) dL_law_561 (by decide +kernel) ?_
  refine y_iadd B (nI (off + 1)) dL_law_562 (nI_add _ _) ?_
  refine y_sld B hX hbl hbA (n := off + 1) (by omega) hL3 dL_law_563 ?_
  refine y_aload_n B dL_law_564 rfl ?_
  refine x_callSX B 3 _ _ (k_L_advance l G _ hst hR hI hw hz (by omega)) gL_law_L_advance (by decide +kernel) rfl rfl rfl rfl ⟨(Nat.le_of_ble_eq_true rfl), (Nat.le_of_ble_eq_true rfl)⟩ (Nat.le_of_ble_eq_true rfl) ⟨Nat.le_trans (m := 500000) (by omega) (Nat.le_of_ble_eq_true rfl), Nat.le_trans (m := 500000) (by omega) (Nat.le_of_ble_eq_true rfl)⟩ dL_law_565 rfl (fun E M1 hr => ?_) (fun r M9 hr => ?_)
  · exact hr.elim
  obtain ⟨rfl, hR1, hk1, f1, hw1, hv1⟩ := hr
  have hq3 : (op_advance S (xs (off + 1))).1 ≤ 3 := op_advance_3
  have hO1 := hO.kw hk1
  have hJ := hI.J (by omega)
  refine y_istore B dL_law_568 (Nat.le_of_ble_eq_true rfl) ?_
  refine y_aload_n B dL_law_570 rfl ?_
  refine y_aload_n B dL_law_571 rfl ?_
  refine y_iload B dL_law_572 rfl ?_
  refine y_iconst B (nI 1) dL_law_574 (by decide +kernel) ?_
  refine y_iadd B (nI (off + 1)) dL_law_575 (nI_add _ _) ?_
  refine y_sld B hX hbl hbA (n := off + 1) (by omega) hL3 dL_law_576 ?_
  refine y_callV B 1 (q := (RX7, TX7, 15)) _ _ (k_X7_advance l G _ hO1 hI (by omega)) hO1.1 rfl gL_law_X7_advance (by decide +kernel) rfl rfl rfl rfl ⟨(Nat.le_of_ble_eq_true rfl), (Nat.le_of_ble_eq_true rfl)⟩ (Nat.le_of_ble_eq_true rfl) ⟨Nat.le_trans (m := 500000) (by omega) (Nat.le_of_ble_eq_true rfl), Nat.le_trans (m := 500000) (by omega) (Nat.le_of_ble_eq_true rfl)⟩ dL_law_577 rfl (fun r M9 hr => ?_)
  obtain ⟨hO2, hkm, v, rfl, hv2⟩ := hr
  have hw2 := hkm _ _ _ hw1 (Or.inl rfl)
  refine y_istore B dL_law_580 (Nat.le_of_ble_eq_true rfl) ?_
  refine y_aload_n B dL_law_582 rfl ?_
  refine y_callV B 0 (q := (RX7, TX7, 15)) _ _ (k_X7_thrown l G _ hO2) hO2.1 rfl gL_law_X7_thrown (by decide +kernel) rfl rfl rfl rfl ⟨(Nat.le_of_ble_eq_true rfl), (Nat.le_of_ble_eq_true rfl)⟩ (Nat.le_of_ble_eq_true rfl) ⟨Nat.le_trans (m := 500000) (by omega) (Nat.le_of_ble_eq_true rfl), Nat.le_trans (m := 500000) (by omega) (Nat.le_of_ble_eq_true rfl)⟩ dL_law_583 rfl (fun r M1 hr => ?_)
  obtain ⟨rfl, e9⟩ := hr
  obtain rfl := e9.symm
  refine y_iload B dL_law_586 rfl ?_
  refine y_icmp_eq B 593 dL_law_588 (by decide) (fun c588 => ?_) (fun c588 => absurd rfl c588)
  refine y_iload B dL_law_593 rfl ?_
  refine y_if_ne B 610 dL_law_595 (by decide) (fun c595 => ?_) (fun c595 => ?_)
  · refine y_goto B 1119 dL_law_610 (by decide) ?_
    have hI9 : ai_I (op_advance S (xs (off + 1))).2.2 (o + 1) ∧ ai_Z0 (op_advance S (xs (off + 1))).2.2 := op_advance_I hI hz
    exact y_wide (by omega) (by omega) (next _ _ _ _ _ _ (hR1.keep hI9.1 (fun b g e hb hg => hkm b g e hb (Or.inr hg))) hO2 hw2 hI9.1 hI9.2)
  · have q0 : (op_advance S (xs (off + 1))).1 = 0 := (nI_eq (by omega) (by decide)).mp c595
    refine y_aload_n B dL_law_598 rfl ?_
    refine y_iconst B (nI 0) dL_law_599 (by decide +kernel) ?_
    refine y_laload B hw2 (vp_in_nI (n := 0) (by decide) (by decide)) dL_law_600 ?_
    refine y_iload B dL_law_601 rfl ?_
    refine y_i2l B dL_law_603 ?_
    refine y_lcmp B dL_law_604 ?_
    refine y_if_eq B 610 dL_law_605 (by decide) (fun c605 => ?_) (fun c605 => absurd (by rw [show (nI 0).toNatClampNeg = 0 from by decide +kernel, hv1 q0, hv2 q0]; exact ai_lgs) c605)
    refine y_goto B 1119 dL_law_610 (by decide) ?_
    have hI9 : ai_I (op_advance S (xs (off + 1))).2.2 (o + 1) ∧ ai_Z0 (op_advance S (xs (off + 1))).2.2 := op_advance_I hI hz
    exact y_wide (by omega) (by omega) (next _ _ _ _ _ _ (hR1.keep hI9.1 (fun b g e hb hg => hkm b g e hb (Or.inr hg))) hO2 hw2 hI9.1 hI9.2)
set_option maxHeartbeats 4000000 in
set_option maxRecDepth 100000 in
theorem law_satisfies {p : Program} {l : Launch} {e : Env} {s : State} {m : MethodId} {args : Array Value} {below : List Frame} {meth : Method} {c : Code} {G : ai_G} {Q : State → Prop} (B : ai_B p l e room_1 s m args below meth c G cL_law 7 wsL_law RL (some .boolean)) (hst : l.stackTraces = false) {b N : Nat} {xs : Nat → Int32} (hX : va_X b N xs s s.heap) (hbl : b < s.heap.size) (hbA : ¬ ai_A G b) (hL3 : N ≤ 3072) {x mo ow : Nat} {ma : Nat → Nat} {M : ai_M} {S : ai_S} {o off k n : Nat} {t0 : Int32} {f : Nat → Int64} {v5 v6 : Option Value} (hR : ai_Rx G M S x) (hO : ai_O G M t0 S mo ma) (hw : M ow = some (8, ai_eJ G 1 f)) (hI : ai_I S o) (hz : ai_Z0 S) (ho : o ≤ 9999) (hoff : off + 6 ≤ N) (hk : k ≤ 100000) (hn9 : n ≤ 300000) (next : ∀ (M' : ai_M) (S' : ai_S) (t' : Int32) (f' : Nat → Int64) (v5 v6 : Option Value), ai_Rx G M' S' x → ai_O G M' t' S' mo ma → M' ow = some (8, ai_eJ G 1 f') → ai_I S' (o + 1) → ai_Z0 S' → ai_Y p l e room_1 s m args below meth c G Q M' (k + 70) (n + 200) [some (.ref b), some (.ref x), some (.ref mo), some (.ref ow), some (.int (nI off)), v5, v6] 1119 []) : ai_Y p l e room_1 s m args below meth c G Q M k n [some (.ref b), some (.ref x), some (.ref mo), some (.ref ow), some (.int (nI off)), v5, v6] 613 [] := by
  have hidx := hL3
  obtain ⟨qs, dr, ix, fa, qa, pa, pst, hx0, -⟩ := id hR
  refine y_aload_n B dL_law_613 rfl ?_
  refine y_aload_n B dL_law_614 rfl ?_
  refine y_iload B dL_law_615 rfl ?_
  refine y_iconst B (nI 1) dL_law_617 (by decide +kernel) ?_
  refine y_iadd B (nI (off + 1)) dL_law_618 (nI_add _ _) ?_
  refine y_sld B hX hbl hbA (n := off + 1) (by omega) hL3 dL_law_619 ?_
  refine y_aload_n B dL_law_620 rfl ?_
  refine x_callSX B 3 _ _ (k_L_satisfies l G _ hst hR hI hw) gL_law_L_satisfies (by decide +kernel) rfl rfl rfl rfl ⟨(Nat.le_of_ble_eq_true rfl), (Nat.le_of_ble_eq_true rfl)⟩ (Nat.le_of_ble_eq_true rfl) ⟨Nat.le_trans (m := 500000) (by omega) (Nat.le_of_ble_eq_true rfl), Nat.le_trans (m := 500000) (by omega) (Nat.le_of_ble_eq_true rfl)⟩ dL_law_621 rfl (fun E M1 hr => ?_) (fun r M9 hr => ?_)
  · exact hr.elim
  obtain ⟨rfl, hR1, hk1, f1, hw1, hv1⟩ := hr
  have hq3 : (op_satisfies S (xs (off + 1))).1 ≤ 3 := op_satisfies_3
  have hO1 := hO.kw hk1
  have hJ := hI.J (by omega)
  refine y_istore B dL_law_624 (Nat.le_of_ble_eq_true rfl) ?_
  refine y_aload_n B dL_law_626 rfl ?_
  refine y_aload_n B dL_law_627 rfl ?_
  refine y_iload B dL_law_628 rfl ?_
  refine y_iconst B (nI 1) dL_law_630 (by decide +kernel) ?_
  refine y_iadd B (nI (off + 1)) dL_law_631 (nI_add _ _) ?_
  refine y_sld B hX hbl hbA (n := off + 1) (by omega) hL3 dL_law_632 ?_
  refine y_callV B 1 (q := (RX7, TX7, 15)) _ _ (k_X7_satisfies l G _ hO1 hJ) hO1.1 rfl gL_law_X7_satisfies (by decide +kernel) rfl rfl rfl rfl ⟨(Nat.le_of_ble_eq_true rfl), (Nat.le_of_ble_eq_true rfl)⟩ (Nat.le_of_ble_eq_true rfl) ⟨Nat.le_trans (m := 500000) (by omega) (Nat.le_of_ble_eq_true rfl), Nat.le_trans (m := 500000) (by omega) (Nat.le_of_ble_eq_true rfl)⟩ dL_law_633 rfl (fun r M9 hr => ?_)
  obtain ⟨hO2, hkm, v, rfl, hv2⟩ := hr
  have hw2 := hkm _ _ _ hw1 (Or.inl rfl)
  refine y_istore B dL_law_636 (Nat.le_of_ble_eq_true rfl) ?_
  refine y_aload_n B dL_law_638 rfl ?_
  refine y_callV B 0 (q := (RX7, TX7, 15)) _ _ (k_X7_thrown l G _ hO2) hO2.1 rfl gL_law_X7_thrown (by decide +kernel) rfl rfl rfl rfl ⟨(Nat.le_of_ble_eq_true rfl), (Nat.le_of_ble_eq_true rfl)⟩ (Nat.le_of_ble_eq_true rfl) ⟨Nat.le_trans (m := 500000) (by omega) (Nat.le_of_ble_eq_true rfl), Nat.le_trans (m := 500000) (by omega) (Nat.le_of_ble_eq_true rfl)⟩ dL_law_639 rfl (fun r M1 hr => ?_)
  obtain ⟨rfl, e9⟩ := hr
  obtain rfl := e9.symm
  refine y_iload B dL_law_642 rfl ?_
  refine y_icmp_eq B 649 dL_law_644 (by decide) (fun c644 => ?_) (fun c644 => absurd rfl c644)
  refine y_iload B dL_law_649 rfl ?_
  refine y_if_ne B 673 dL_law_651 (by decide) (fun c651 => ?_) (fun c651 => ?_)
  · refine y_goto B 1119 dL_law_673 (by decide) ?_
    have hI9 : ai_I (op_satisfies S (xs (off + 1))).2.2 (o + 1) ∧ ai_Z0 (op_satisfies S (xs (off + 1))).2.2 := op_S hI hz op_satisfies_S
    exact y_wide (by omega) (by omega) (next _ _ _ _ _ _ (hR1.keep hI9.1 (fun b g e hb hg => hkm b g e hb (Or.inr hg))) hO2 hw2 hI9.1 hI9.2)
  · have q0 : (op_satisfies S (xs (off + 1))).1 = 0 := (nI_eq (by omega) (by decide)).mp c651
    refine y_aload_n B dL_law_654 rfl ?_
    refine y_iconst B (nI 0) dL_law_655 (by decide +kernel) ?_
    refine y_laload B hw2 (vp_in_nI (n := 0) (by decide) (by decide)) dL_law_656 ?_
    refine y_iload B dL_law_657 rfl ?_
    refine y_if_eq B 666 dL_law_659 (by decide) (fun c659 => ?_) (fun c659 => ?_)
    · refine y_lconst B (0) dL_law_666 (by decide +kernel) ?_
      refine y_lcmp B dL_law_667 ?_
      refine y_if_eq B 673 dL_law_668 (by decide) (fun c668 => ?_) (fun c668 => absurd (by rw [show (nI 0).toNatClampNeg = 0 from by decide +kernel, hv1 q0, ← hv2 q0, c659]; exact ai_lgs) c668)
      refine y_goto B 1119 dL_law_673 (by decide) ?_
      have hI9 : ai_I (op_satisfies S (xs (off + 1))).2.2 (o + 1) ∧ ai_Z0 (op_satisfies S (xs (off + 1))).2.2 := op_S hI hz op_satisfies_S
      exact y_wide (by omega) (by omega) (next _ _ _ _ _ _ (hR1.keep hI9.1 (fun b g e hb hg => hkm b g e hb (Or.inr hg))) hO2 hw2 hI9.1 hI9.2)
    · refine y_lconst B (1) dL_law_662 (by decide +kernel) ?_
      refine y_goto B 667 dL_law_663 (by decide) ?_
      refine y_lcmp B dL_law_667 ?_
      refine y_if_eq B 673 dL_law_668 (by decide) (fun c668 => ?_) (fun c668 => absurd (by rw [show (nI 0).toNatClampNeg = 0 from by decide +kernel, hv1 q0, op_satisfies_b.resolve_left (fun y => c659 ((hv2 q0).trans y))]; exact ai_lgs) c668)
      refine y_goto B 1119 dL_law_673 (by decide) ?_
      have hI9 : ai_I (op_satisfies S (xs (off + 1))).2.2 (o + 1) ∧ ai_Z0 (op_satisfies S (xs (off + 1))).2.2 := op_S hI hz op_satisfies_S
      exact y_wide (by omega) (by omega) (next _ _ _ _ _ _ (hR1.keep hI9.1 (fun b g e hb hg => hkm b g e hb (Or.inr hg))) hO2 hw2 hI9.1 hI9.2)
set_option maxHeartbeats 4000000 in
set_option maxRecDepth 100000 in
theorem law_sizeOf {p : Program} {l : Launch} {e : Env} {s : State} {m : MethodId} {args : Array Value} {below : List Frame} {meth : Method} {c : Code} {G : ai_G} {Q : State → Prop} (B : ai_B p l e room_1 s m args below meth c G cL_law 7 wsL_law RL (some .boolean)) (hst : l.stackTraces = false) {b N : Nat} {xs : Nat → Int32} (hX : va_X b N xs s s.heap) (hbl : b < s.heap.size) (hbA : ¬ ai_A G b) (hL3 : N ≤ 3072) {x mo ow : Nat} {ma : Nat → Nat} {M : ai_M} {S : ai_S} {o off k n : Nat} {t0 : Int32} {f : Nat → Int64} {v5 v6 : Option Value} (hR : ai_Rx G M S x) (hO : ai_O G M t0 S mo ma) (hw : M ow = some (8, ai_eJ G 1 f)) (hI : ai_I S o) (hz : ai_Z0 S) (ho : o ≤ 9999) (hoff : off + 6 ≤ N) (hk : k ≤ 100000) (hn9 : n ≤ 300000) (next : ∀ (M' : ai_M) (S' : ai_S) (t' : Int32) (f' : Nat → Int64) (v5 v6 : Option Value), ai_Rx G M' S' x → ai_O G M' t' S' mo ma → M' ow = some (8, ai_eJ G 1 f') → ai_I S' (o + 1) → ai_Z0 S' → ai_Y p l e room_1 s m args below meth c G Q M' (k + 70) (n + 200) [some (.ref b), some (.ref x), some (.ref mo), some (.ref ow), some (.int (nI off)), v5, v6] 1119 []) : ai_Y p l e room_1 s m args below meth c G Q M k n [some (.ref b), some (.ref x), some (.ref mo), some (.ref ow), some (.int (nI off)), v5, v6] 702 [] := by
  have hidx := hL3
  obtain ⟨qs, dr, ix, fa, qa, pa, pst, hx0, -⟩ := id hR
  refine y_aload_n B dL_law_702 rfl ?_
  refine y_aload_n B dL_law_703 rfl ?_
  refine y_iload B dL_law_704 rfl ?_
  refine y_iconst B (nI 1) dL_law_706 (by decide +kernel) ?_
  refine y_iadd B (nI (off + 1)) dL_law_707 (nI_add _ _) ?_
  refine y_sld B hX hbl hbA (n := off + 1) (by omega) hL3 dL_law_708 ?_
  refine y_aload_n B dL_law_709 rfl ?_
  refine x_callSX B 3 _ _ (k_L_sizeOf l G _ hst hR hI hw) gL_law_L_sizeOf (by decide +kernel) rfl rfl rfl rfl ⟨(Nat.le_of_ble_eq_true rfl), (Nat.le_of_ble_eq_true rfl)⟩ (Nat.le_of_ble_eq_true rfl) ⟨Nat.le_trans (m := 500000) (by omega) (Nat.le_of_ble_eq_true rfl), Nat.le_trans (m := 500000) (by omega) (Nat.le_of_ble_eq_true rfl)⟩ dL_law_710 rfl (fun E M1 hr => ?_) (fun r M9 hr => ?_)
  · exact hr.elim
  obtain ⟨rfl, hR1, hk1, f1, hw1, hv1⟩ := hr
  have hq3 : (op_sizeOf S (xs (off + 1))).1 ≤ 3 := op_sizeOf_3
  have hO1 := hO.kw hk1
  have hJ := hI.J (by omega)
  refine y_istore B dL_law_713 (Nat.le_of_ble_eq_true rfl) ?_
  refine y_aload_n B dL_law_715 rfl ?_
  refine y_aload_n B dL_law_716 rfl ?_
  refine y_iload B dL_law_717 rfl ?_
  refine y_iconst B (nI 1) dL_law_719 (by decide +kernel) ?_
  refine y_iadd B (nI (off + 1)) dL_law_720 (nI_add _ _) ?_
  refine y_sld B hX hbl hbA (n := off + 1) (by omega) hL3 dL_law_721 ?_
  refine y_callV B 1 (q := (RX7, TX7, 15)) _ _ (k_X7_sizeOf l G _ hO1 hJ) hO1.1 rfl gL_law_X7_sizeOf (by decide +kernel) rfl rfl rfl rfl ⟨(Nat.le_of_ble_eq_true rfl), (Nat.le_of_ble_eq_true rfl)⟩ (Nat.le_of_ble_eq_true rfl) ⟨Nat.le_trans (m := 500000) (by omega) (Nat.le_of_ble_eq_true rfl), Nat.le_trans (m := 500000) (by omega) (Nat.le_of_ble_eq_true rfl)⟩ dL_law_722 rfl (fun r M9 hr => ?_)
  obtain ⟨hO2, hkm, v, rfl, hv2⟩ := hr
  have hw2 := hkm _ _ _ hw1 (Or.inl rfl)
  refine y_istore B dL_law_725 (Nat.le_of_ble_eq_true rfl) ?_
  refine y_aload_n B dL_law_727 rfl ?_
  refine y_callV B 0 (q := (RX7, TX7, 15)) _ _ (k_X7_thrown l G _ hO2) hO2.1 rfl gL_law_X7_thrown (by decide +kernel) rfl rfl rfl rfl ⟨(Nat.le_of_ble_eq_true rfl), (Nat.le_of_ble_eq_true rfl)⟩ (Nat.le_of_ble_eq_true rfl) ⟨Nat.le_trans (m := 500000) (by omega) (Nat.le_of_ble_eq_true rfl), Nat.le_trans (m := 500000) (by omega) (Nat.le_of_ble_eq_true rfl)⟩ dL_law_728 rfl (fun r M1 hr => ?_)
  obtain ⟨rfl, e9⟩ := hr
  obtain rfl := e9.symm
  refine y_iload B dL_law_731 rfl ?_
  refine y_icmp_eq B 738 dL_law_733 (by decide) (fun c733 => ?_) (fun c733 => absurd rfl c733)
  refine y_iload B dL_law_738 rfl ?_
  refine y_if_ne B 755 dL_law_740 (by decide) (fun c740 => ?_) (fun c740 => ?_)
  · refine y_goto B 1119 dL_law_755 (by decide) ?_
    have hI9 : ai_I (op_sizeOf S (xs (off + 1))).2.2 (o + 1) ∧ ai_Z0 (op_sizeOf S (xs (off + 1))).2.2 := op_S hI hz op_sizeOf_S
    exact y_wide (by omega) (by omega) (next _ _ _ _ _ _ (hR1.keep hI9.1 (fun b g e hb hg => hkm b g e hb (Or.inr hg))) hO2 hw2 hI9.1 hI9.2)
  · have q0 : (op_sizeOf S (xs (off + 1))).1 = 0 := (nI_eq (by omega) (by decide)).mp c740
    refine y_aload_n B dL_law_743 rfl ?_
    refine y_iconst B (nI 0) dL_law_744 (by decide +kernel) ?_
    refine y_laload B hw2 (vp_in_nI (n := 0) (by decide) (by decide)) dL_law_745 ?_
    refine y_iload B dL_law_746 rfl ?_
    refine y_i2l B dL_law_748 ?_
    refine y_lcmp B dL_law_749 ?_
    refine y_if_eq B 755 dL_law_750 (by decide) (fun c750 => ?_) (fun c750 => absurd (by rw [show (nI 0).toNatClampNeg = 0 from by decide +kernel, hv1 q0, hv2 q0]; exact ai_lgs) c750)
    refine y_goto B 1119 dL_law_755 (by decide) ?_
    have hI9 : ai_I (op_sizeOf S (xs (off + 1))).2.2 (o + 1) ∧ ai_Z0 (op_sizeOf S (xs (off + 1))).2.2 := op_S hI hz op_sizeOf_S
    exact y_wide (by omega) (by omega) (next _ _ _ _ _ _ (hR1.keep hI9.1 (fun b g e hb hg => hkm b g e hb (Or.inr hg))) hO2 hw2 hI9.1 hI9.2)
set_option maxHeartbeats 4000000 in
set_option maxRecDepth 100000 in
theorem law_pieces {p : Program} {l : Launch} {e : Env} {s : State} {m : MethodId} {args : Array Value} {below : List Frame} {meth : Method} {c : Code} {G : ai_G} {Q : State → Prop} (B : ai_B p l e room_1 s m args below meth c G cL_law 7 wsL_law RL (some .boolean)) (hst : l.stackTraces = false) {b N : Nat} {xs : Nat → Int32} (hX : va_X b N xs s s.heap) (hbl : b < s.heap.size) (hbA : ¬ ai_A G b) (hL3 : N ≤ 3072) {x mo ow : Nat} {ma : Nat → Nat} {M : ai_M} {S : ai_S} {o off k n : Nat} {t0 : Int32} {f : Nat → Int64} {v5 v6 : Option Value} (hR : ai_Rx G M S x) (hO : ai_O G M t0 S mo ma) (hw : M ow = some (8, ai_eJ G 1 f)) (hI : ai_I S o) (hz : ai_Z0 S) (ho : o ≤ 9999) (hoff : off + 6 ≤ N) (hk : k ≤ 100000) (hn9 : n ≤ 300000) (next : ∀ (M' : ai_M) (S' : ai_S) (t' : Int32) (f' : Nat → Int64) (v5 v6 : Option Value), ai_Rx G M' S' x → ai_O G M' t' S' mo ma → M' ow = some (8, ai_eJ G 1 f') → ai_I S' (o + 1) → ai_Z0 S' → ai_Y p l e room_1 s m args below meth c G Q M' (k + 70) (n + 200) [some (.ref b), some (.ref x), some (.ref mo), some (.ref ow), some (.int (nI off)), v5, v6] 1119 []) : ai_Y p l e room_1 s m args below meth c G Q M k n [some (.ref b), some (.ref x), some (.ref mo), some (.ref ow), some (.int (nI off)), v5, v6] 783 [] := by
  have hidx := hL3
  obtain ⟨qs, dr, ix, fa, qa, pa, pst, hx0, -⟩ := id hR
  refine y_aload_n B dL_law_783 rfl ?_
  refine y_aload_n B dL_law_784 rfl ?_
  refine y_iload B dL_law_785 rfl ?_
  refine y_iconst B (nI 1) dL_law_787 (by decide +kernel) ?_
  refine y_iadd B (nI (off + 1)) dL_law_788 (nI_add _ _) ?_
  refine y_sld B hX hbl hbA (n := off + 1) (by omega) hL3 dL_law_789 ?_
  refine y_aload_n B dL_law_790 rfl ?_
  refine y_iload B dL_law_791 rfl ?_
  refine y_iconst B (nI 2) dL_law_793 (by decide +kernel) ?_
  refine y_iadd B (nI (off + 2)) dL_law_794 (nI_add _ _) ?_
  refine y_sld B hX hbl hbA (n := off + 2) (by omega) hL3 dL_law_795 ?_
  refine y_aload_n B dL_law_796 rfl ?_
  refine x_callSX B 4 _ _ (k_L_pieces l G _ hst hR hI hw) gL_law_L_pieces (by decide +kernel) rfl rfl rfl rfl ⟨(Nat.le_of_ble_eq_true rfl), (Nat.le_of_ble_eq_true rfl)⟩ (Nat.le_of_ble_eq_true rfl) ⟨Nat.le_trans (m := 500000) (by omega) (Nat.le_of_ble_eq_true rfl), Nat.le_trans (m := 500000) (by omega) (Nat.le_of_ble_eq_true rfl)⟩ dL_law_797 rfl (fun E M1 hr => ?_) (fun r M9 hr => ?_)
  · exact hr.elim
  obtain ⟨rfl, hR1, hk1, f1, hw1, hv1⟩ := hr
  have hq3 : (op_pieces S (xs (off + 1)) (xs (off + 2))).1 ≤ 3 := op_pieces_3
  have hO1 := hO.kw hk1
  have hJ := hI.J (by omega)
  refine y_istore B dL_law_800 (Nat.le_of_ble_eq_true rfl) ?_
  refine y_aload_n B dL_law_802 rfl ?_
  refine y_aload_n B dL_law_803 rfl ?_
  refine y_iload B dL_law_804 rfl ?_
  refine y_iconst B (nI 1) dL_law_806 (by decide +kernel) ?_
  refine y_iadd B (nI (off + 1)) dL_law_807 (nI_add _ _) ?_
  refine y_sld B hX hbl hbA (n := off + 1) (by omega) hL3 dL_law_808 ?_
  refine y_aload_n B dL_law_809 rfl ?_
  refine y_iload B dL_law_810 rfl ?_
  refine y_iconst B (nI 2) dL_law_812 (by decide +kernel) ?_
  refine y_iadd B (nI (off + 2)) dL_law_813 (nI_add _ _) ?_
  refine y_sld B hX hbl hbA (n := off + 2) (by omega) hL3 dL_law_814 ?_
  refine y_callV B 2 (q := (RX7, TX7, 15)) _ _ (k_X7_pieces l G _ hO1 hJ) hO1.1 rfl gL_law_X7_pieces (by decide +kernel) rfl rfl rfl rfl ⟨(Nat.le_of_ble_eq_true rfl), (Nat.le_of_ble_eq_true rfl)⟩ (Nat.le_of_ble_eq_true rfl) ⟨Nat.le_trans (m := 500000) (by omega) (Nat.le_of_ble_eq_true rfl), Nat.le_trans (m := 500000) (by omega) (Nat.le_of_ble_eq_true rfl)⟩ dL_law_815 rfl (fun r M9 hr => ?_)
  obtain ⟨hO2, hkm, v, rfl, hv2⟩ := hr
  have hw2 := hkm _ _ _ hw1 (Or.inl rfl)
  refine y_istore B dL_law_818 (Nat.le_of_ble_eq_true rfl) ?_
  refine y_aload_n B dL_law_820 rfl ?_
  refine y_callV B 0 (q := (RX7, TX7, 15)) _ _ (k_X7_thrown l G _ hO2) hO2.1 rfl gL_law_X7_thrown (by decide +kernel) rfl rfl rfl rfl ⟨(Nat.le_of_ble_eq_true rfl), (Nat.le_of_ble_eq_true rfl)⟩ (Nat.le_of_ble_eq_true rfl) ⟨Nat.le_trans (m := 500000) (by omega) (Nat.le_of_ble_eq_true rfl), Nat.le_trans (m := 500000) (by omega) (Nat.le_of_ble_eq_true rfl)⟩ dL_law_821 rfl (fun r M1 hr => ?_)
  obtain ⟨rfl, e9⟩ := hr
  obtain rfl := e9.symm
  refine y_iload B dL_law_824 rfl ?_
  refine y_icmp_eq B 831 dL_law_826 (by decide) (fun c826 => ?_) (fun c826 => absurd rfl c826)
  refine y_iload B dL_law_831 rfl ?_
  refine y_if_ne B 848 dL_law_833 (by decide) (fun c833 => ?_) (fun c833 => ?_)
  · refine y_goto B 1119 dL_law_848 (by decide) ?_
    have hI9 : ai_I (op_pieces S (xs (off + 1)) (xs (off + 2))).2.2 (o + 1) ∧ ai_Z0 (op_pieces S (xs (off + 1)) (xs (off + 2))).2.2 := op_S hI hz op_pieces_S
    exact y_wide (by omega) (by omega) (next _ _ _ _ _ _ (hR1.keep hI9.1 (fun b g e hb hg => hkm b g e hb (Or.inr hg))) hO2 hw2 hI9.1 hI9.2)
  · have q0 : (op_pieces S (xs (off + 1)) (xs (off + 2))).1 = 0 := (nI_eq (by omega) (by decide)).mp c833
    refine y_aload_n B dL_law_836 rfl ?_
    refine y_iconst B (nI 0) dL_law_837 (by decide +kernel) ?_
    refine y_laload B hw2 (vp_in_nI (n := 0) (by decide) (by decide)) dL_law_838 ?_
    refine y_iload B dL_law_839 rfl ?_
    refine y_i2l B dL_law_841 ?_
    refine y_lcmp B dL_law_842 ?_
    refine y_if_eq B 848 dL_law_843 (by decide) (fun c843 => ?_) (fun c843 => absurd (by rw [show (nI 0).toNatClampNeg = 0 from by decide +kernel, hv1 q0, hv2 q0]; exact ai_lgs) c843)
    refine y_goto B 1119 dL_law_848 (by decide) ?_
    have hI9 : ai_I (op_pieces S (xs (off + 1)) (xs (off + 2))).2.2 (o + 1) ∧ ai_Z0 (op_pieces S (xs (off + 1)) (xs (off + 2))).2.2 := op_S hI hz op_pieces_S
    exact y_wide (by omega) (by omega) (next _ _ _ _ _ _ (hR1.keep hI9.1 (fun b g e hb hg => hkm b g e hb (Or.inr hg))) hO2 hw2 hI9.1 hI9.2)
set_option maxHeartbeats 4000000 in
set_option maxRecDepth 100000 in
theorem law_pieceAt {p : Program} {l : Launch} {e : Env} {s : State} {m : MethodId} {args : Array Value} {below : List Frame} {meth : Method} {c : Code} {G : ai_G} {Q : State → Prop} (B : ai_B p l e room_1 s m args below meth c G cL_law 7 wsL_law RL (some .boolean)) (hst : l.stackTraces = false) {b N : Nat} {xs : Nat → Int32} (hX : va_X b N xs s s.heap) (hbl : b < s.heap.size) (hbA : ¬ ai_A G b) (hL3 : N ≤ 3072) {x mo ow : Nat} {ma : Nat → Nat} {M : ai_M} {S : ai_S} {o off k n : Nat} {t0 : Int32} {f : Nat → Int64} {v5 v6 : Option Value} (hR : ai_Rx G M S x) (hO : ai_O G M t0 S mo ma) (hw : M ow = some (8, ai_eJ G 1 f)) (hI : ai_I S o) (hz : ai_Z0 S) (ho : o ≤ 9999) (hoff : off + 6 ≤ N) (hk : k ≤ 100000) (hn9 : n ≤ 300000) (next : ∀ (M' : ai_M) (S' : ai_S) (t' : Int32) (f' : Nat → Int64) (v5 v6 : Option Value), ai_Rx G M' S' x → ai_O G M' t' S' mo ma → M' ow = some (8, ai_eJ G 1 f') → ai_I S' (o + 1) → ai_Z0 S' → ai_Y p l e room_1 s m args below meth c G Q M' (k + 70) (n + 200) [some (.ref b), some (.ref x), some (.ref mo), some (.ref ow), some (.int (nI off)), v5, v6] 1119 []) : ai_Y p l e room_1 s m args below meth c G Q M k n [some (.ref b), some (.ref x), some (.ref mo), some (.ref ow), some (.int (nI off)), v5, v6] 851 [] := by
  have hidx := hL3
  obtain ⟨qs, dr, ix, fa, qa, pa, pst, hx0, -⟩ := id hR
  refine y_aload_n B dL_law_851 rfl ?_
  refine y_aload_n B dL_law_852 rfl ?_
  refine y_iload B dL_law_853 rfl ?_
  refine y_iconst B (nI 1) dL_law_855 (by decide +kernel) ?_
  refine y_iadd B (nI (off + 1)) dL_law_856 (nI_add _ _) ?_
  refine y_sld B hX hbl hbA (n := off + 1) (by omega) hL3 dL_law_857 ?_
  refine y_aload_n B dL_law_858 rfl ?_
  refine y_iload B dL_law_859 rfl ?_
  refine y_iconst B (nI 2) dL_law_861 (by decide +kernel) ?_
  refine y_iadd B (nI (off + 2)) dL_law_862 (nI_add _ _) ?_
  refine y_sld B hX hbl hbA (n := off + 2) (by omega) hL3 dL_law_863 ?_
  refine y_aload_n B dL_law_864 rfl ?_
  refine y_iload B dL_law_865 rfl ?_
  refine y_iconst B (nI 3) dL_law_867 (by decide +kernel) ?_
  refine y_iadd B (nI (off + 3)) dL_law_868 (nI_add _ _) ?_
  refine y_sld B hX hbl hbA (n := off + 3) (by omega) hL3 dL_law_869 ?_
  refine y_aload_n B dL_law_870 rfl ?_
  refine x_callSX B 5 _ _ (k_L_pieceAt l G _ hst hR hI hw) gL_law_L_pieceAt (by decide +kernel) rfl rfl rfl rfl ⟨(Nat.le_of_ble_eq_true rfl), (Nat.le_of_ble_eq_true rfl)⟩ (Nat.le_of_ble_eq_true rfl) ⟨Nat.le_trans (m := 500000) (by omega) (Nat.le_of_ble_eq_true rfl), Nat.le_trans (m := 500000) (by omega) (Nat.le_of_ble_eq_true rfl)⟩ dL_law_871 rfl (fun E M1 hr => ?_) (fun r M9 hr => ?_)
  · exact hr.elim
  obtain ⟨rfl, hR1, hk1, f1, hw1, hv1⟩ := hr
  have hq3 : (op_pieceAt S (xs (off + 1)) (xs (off + 2)) (xs (off + 3))).1 ≤ 3 := op_pieceAt_3
  have hO1 := hO.kw hk1
  have hJ := hI.J (by omega)
  refine y_istore B dL_law_874 (Nat.le_of_ble_eq_true rfl) ?_
  refine y_aload_n B dL_law_876 rfl ?_
  refine y_aload_n B dL_law_877 rfl ?_
  refine y_iload B dL_law_878 rfl ?_
  refine y_iconst B (nI 1) dL_law_880 (by decide +kernel) ?_
  refine y_iadd B (nI (off + 1)) dL_law_881 (nI_add _ _) ?_
  refine y_sld B hX hbl hbA (n := off + 1) (by omega) hL3 dL_law_882 ?_
  refine y_aload_n B dL_law_883 rfl ?_
  refine y_iload B dL_law_884 rfl ?_
  refine y_iconst B (nI 2) dL_law_886 (by decide +kernel) ?_
  refine y_iadd B (nI (off + 2)) dL_law_887 (nI_add _ _) ?_
  refine y_sld B hX hbl hbA (n := off + 2) (by omega) hL3 dL_law_888 ?_
  refine y_aload_n B dL_law_889 rfl ?_
  refine y_iload B dL_law_890 rfl ?_
  refine y_iconst B (nI 3) dL_law_892 (by decide +kernel) ?_
  refine y_iadd B (nI (off + 3)) dL_law_893 (nI_add _ _) ?_
  refine y_sld B hX hbl hbA (n := off + 3) (by omega) hL3 dL_law_894 ?_
  refine y_callV B 3 (q := (RX7, TX7, 15)) _ _ (k_X7_pieceAt l G _ hO1 hJ) hO1.1 rfl gL_law_X7_pieceAt (by decide +kernel) rfl rfl rfl rfl ⟨(Nat.le_of_ble_eq_true rfl), (Nat.le_of_ble_eq_true rfl)⟩ (Nat.le_of_ble_eq_true rfl) ⟨Nat.le_trans (m := 500000) (by omega) (Nat.le_of_ble_eq_true rfl), Nat.le_trans (m := 500000) (by omega) (Nat.le_of_ble_eq_true rfl)⟩ dL_law_895 rfl (fun r M9 hr => ?_)
  obtain ⟨hO2, hkm, v, rfl, hv2⟩ := hr
  have hw2 := hkm _ _ _ hw1 (Or.inl rfl)
  refine y_istore B dL_law_898 (Nat.le_of_ble_eq_true rfl) ?_
  refine y_aload_n B dL_law_900 rfl ?_
  refine y_callV B 0 (q := (RX7, TX7, 15)) _ _ (k_X7_thrown l G _ hO2) hO2.1 rfl gL_law_X7_thrown (by decide +kernel) rfl rfl rfl rfl ⟨(Nat.le_of_ble_eq_true rfl), (Nat.le_of_ble_eq_true rfl)⟩ (Nat.le_of_ble_eq_true rfl) ⟨Nat.le_trans (m := 500000) (by omega) (Nat.le_of_ble_eq_true rfl), Nat.le_trans (m := 500000) (by omega) (Nat.le_of_ble_eq_true rfl)⟩ dL_law_901 rfl (fun r M1 hr => ?_)
  obtain ⟨rfl, e9⟩ := hr
  obtain rfl := e9.symm
  refine y_iload B dL_law_904 rfl ?_
  refine y_icmp_eq B 911 dL_law_906 (by decide) (fun c906 => ?_) (fun c906 => absurd rfl c906)
  refine y_iload B dL_law_911 rfl ?_
  refine y_if_ne B 928 dL_law_913 (by decide) (fun c913 => ?_) (fun c913 => ?_)
  · refine y_goto B 1119 dL_law_928 (by decide) ?_
    have hI9 : ai_I (op_pieceAt S (xs (off + 1)) (xs (off + 2)) (xs (off + 3))).2.2 (o + 1) ∧ ai_Z0 (op_pieceAt S (xs (off + 1)) (xs (off + 2)) (xs (off + 3))).2.2 := op_S hI hz op_pieceAt_S
    exact y_wide (by omega) (by omega) (next _ _ _ _ _ _ (hR1.keep hI9.1 (fun b g e hb hg => hkm b g e hb (Or.inr hg))) hO2 hw2 hI9.1 hI9.2)
  · have q0 : (op_pieceAt S (xs (off + 1)) (xs (off + 2)) (xs (off + 3))).1 = 0 := (nI_eq (by omega) (by decide)).mp c913
    refine y_aload_n B dL_law_916 rfl ?_
    refine y_iconst B (nI 0) dL_law_917 (by decide +kernel) ?_
    refine y_laload B hw2 (vp_in_nI (n := 0) (by decide) (by decide)) dL_law_918 ?_
    refine y_iload B dL_law_919 rfl ?_
    refine y_i2l B dL_law_921 ?_
    refine y_lcmp B dL_law_922 ?_
    refine y_if_eq B 928 dL_law_923 (by decide) (fun c923 => ?_) (fun c923 => absurd (by rw [show (nI 0).toNatClampNeg = 0 from by decide +kernel, hv1 q0, hv2 q0]; exact ai_lgs) c923)
    refine y_goto B 1119 dL_law_928 (by decide) ?_
    have hI9 : ai_I (op_pieceAt S (xs (off + 1)) (xs (off + 2)) (xs (off + 3))).2.2 (o + 1) ∧ ai_Z0 (op_pieceAt S (xs (off + 1)) (xs (off + 2)) (xs (off + 3))).2.2 := op_S hI hz op_pieceAt_S
    exact y_wide (by omega) (by omega) (next _ _ _ _ _ _ (hR1.keep hI9.1 (fun b g e hb hg => hkm b g e hb (Or.inr hg))) hO2 hw2 hI9.1 hI9.2)
set_option maxHeartbeats 4000000 in
set_option maxRecDepth 100000 in
theorem law_isQuiet {p : Program} {l : Launch} {e : Env} {s : State} {m : MethodId} {args : Array Value} {below : List Frame} {meth : Method} {c : Code} {G : ai_G} {Q : State → Prop} (B : ai_B p l e room_1 s m args below meth c G cL_law 7 wsL_law RL (some .boolean)) (hst : l.stackTraces = false) {b N : Nat} {xs : Nat → Int32} (hX : va_X b N xs s s.heap) (hbl : b < s.heap.size) (hbA : ¬ ai_A G b) (hL3 : N ≤ 3072) {x mo ow : Nat} {ma : Nat → Nat} {M : ai_M} {S : ai_S} {o off k n : Nat} {t0 : Int32} {f : Nat → Int64} {v5 v6 : Option Value} (hR : ai_Rx G M S x) (hO : ai_O G M t0 S mo ma) (hw : M ow = some (8, ai_eJ G 1 f)) (hI : ai_I S o) (hz : ai_Z0 S) (ho : o ≤ 9999) (hoff : off + 6 ≤ N) (hk : k ≤ 100000) (hn9 : n ≤ 300000) (next : ∀ (M' : ai_M) (S' : ai_S) (t' : Int32) (f' : Nat → Int64) (v5 v6 : Option Value), ai_Rx G M' S' x → ai_O G M' t' S' mo ma → M' ow = some (8, ai_eJ G 1 f') → ai_I S' (o + 1) → ai_Z0 S' → ai_Y p l e room_1 s m args below meth c G Q M' (k + 70) (n + 200) [some (.ref b), some (.ref x), some (.ref mo), some (.ref ow), some (.int (nI off)), v5, v6] 1119 []) : ai_Y p l e room_1 s m args below meth c G Q M k n [some (.ref b), some (.ref x), some (.ref mo), some (.ref ow), some (.int (nI off)), v5, v6] 944 [] := by
  have hidx := hL3
  obtain ⟨qs, dr, ix, fa, qa, pa, pst, hx0, -⟩ := id hR
  refine y_aload_n B dL_law_944 rfl ?_
  refine y_aload_n B dL_law_945 rfl ?_
  refine y_iload B dL_law_946 rfl ?_
  refine y_iconst B (nI 1) dL_law_948 (by decide +kernel) ?_
  refine y_iadd B (nI (off + 1)) dL_law_949 (nI_add _ _) ?_
  refine y_sld B hX hbl hbA (n := off + 1) (by omega) hL3 dL_law_950 ?_
  refine y_aload_n B dL_law_951 rfl ?_
  refine x_callSX B 3 _ _ (k_L_isQuiet l G _ hst hR hI hw) gL_law_L_isQuiet (by decide +kernel) rfl rfl rfl rfl ⟨(Nat.le_of_ble_eq_true rfl), (Nat.le_of_ble_eq_true rfl)⟩ (Nat.le_of_ble_eq_true rfl) ⟨Nat.le_trans (m := 500000) (by omega) (Nat.le_of_ble_eq_true rfl), Nat.le_trans (m := 500000) (by omega) (Nat.le_of_ble_eq_true rfl)⟩ dL_law_952 rfl (fun E M1 hr => ?_) (fun r M9 hr => ?_)
  · exact hr.elim
  obtain ⟨rfl, hR1, hk1, f1, hw1, hv1⟩ := hr
  have hq3 : (op_isQuiet S (xs (off + 1))).1 ≤ 3 := op_isQuiet_3
  have hO1 := hO.kw hk1
  have hJ := hI.J (by omega)
  refine y_istore B dL_law_955 (Nat.le_of_ble_eq_true rfl) ?_
  refine y_aload_n B dL_law_957 rfl ?_
  refine y_aload_n B dL_law_958 rfl ?_
  refine y_iload B dL_law_959 rfl ?_
  refine y_iconst B (nI 1) dL_law_961 (by decide +kernel) ?_
  refine y_iadd B (nI (off + 1)) dL_law_962 (nI_add _ _) ?_
  refine y_sld B hX hbl hbA (n := off + 1) (by omega) hL3 dL_law_963 ?_
  refine y_callV B 1 (q := (RX7, TX7, 15)) _ _ (k_X7_isQuiet l G _ hO1 hJ) hO1.1 rfl gL_law_X7_isQuiet (by decide +kernel) rfl rfl rfl rfl ⟨(Nat.le_of_ble_eq_true rfl), (Nat.le_of_ble_eq_true rfl)⟩ (Nat.le_of_ble_eq_true rfl) ⟨Nat.le_trans (m := 500000) (by omega) (Nat.le_of_ble_eq_true rfl), Nat.le_trans (m := 500000) (by omega) (Nat.le_of_ble_eq_true rfl)⟩ dL_law_964 rfl (fun r M9 hr => ?_)
  obtain ⟨hO2, hkm, v, rfl, hv2⟩ := hr
  have hw2 := hkm _ _ _ hw1 (Or.inl rfl)
  refine y_istore B dL_law_967 (Nat.le_of_ble_eq_true rfl) ?_
  refine y_aload_n B dL_law_969 rfl ?_
  refine y_callV B 0 (q := (RX7, TX7, 15)) _ _ (k_X7_thrown l G _ hO2) hO2.1 rfl gL_law_X7_thrown (by decide +kernel) rfl rfl rfl rfl ⟨(Nat.le_of_ble_eq_true rfl), (Nat.le_of_ble_eq_true rfl)⟩ (Nat.le_of_ble_eq_true rfl) ⟨Nat.le_trans (m := 500000) (by omega) (Nat.le_of_ble_eq_true rfl), Nat.le_trans (m := 500000) (by omega) (Nat.le_of_ble_eq_true rfl)⟩ dL_law_970 rfl (fun r M1 hr => ?_)
  obtain ⟨rfl, e9⟩ := hr
  obtain rfl := e9.symm
  refine y_iload B dL_law_973 rfl ?_
  refine y_icmp_eq B 980 dL_law_975 (by decide) (fun c975 => ?_) (fun c975 => absurd rfl c975)
  refine y_iload B dL_law_980 rfl ?_
  refine y_if_ne B 1004 dL_law_982 (by decide) (fun c982 => ?_) (fun c982 => ?_)
  · refine y_goto B 1119 dL_law_1004 (by decide) ?_
    have hI9 : ai_I (op_isQuiet S (xs (off + 1))).2.2 (o + 1) ∧ ai_Z0 (op_isQuiet S (xs (off + 1))).2.2 := op_S hI hz op_isQuiet_S
    exact y_wide (by omega) (by omega) (next _ _ _ _ _ _ (hR1.keep hI9.1 (fun b g e hb hg => hkm b g e hb (Or.inr hg))) hO2 hw2 hI9.1 hI9.2)
  · have q0 : (op_isQuiet S (xs (off + 1))).1 = 0 := (nI_eq (by omega) (by decide)).mp c982
    refine y_aload_n B dL_law_985 rfl ?_
    refine y_iconst B (nI 0) dL_law_986 (by decide +kernel) ?_
    refine y_laload B hw2 (vp_in_nI (n := 0) (by decide) (by decide)) dL_law_987 ?_
    refine y_iload B dL_law_988 rfl ?_
    refine y_if_eq B 997 dL_law_990 (by decide) (fun c990 => ?_) (fun c990 => ?_)
    · refine y_lconst B (0) dL_law_997 (by decide +kernel) ?_
      refine y_lcmp B dL_law_998 ?_
      refine y_if_eq B 1004 dL_law_999 (by decide) (fun c999 => ?_) (fun c999 => absurd (by rw [show (nI 0).toNatClampNeg = 0 from by decide +kernel, hv1 q0, ← hv2 q0, c990]; exact ai_lgs) c999)
      refine y_goto B 1119 dL_law_1004 (by decide) ?_
      have hI9 : ai_I (op_isQuiet S (xs (off + 1))).2.2 (o + 1) ∧ ai_Z0 (op_isQuiet S (xs (off + 1))).2.2 := op_S hI hz op_isQuiet_S
      exact y_wide (by omega) (by omega) (next _ _ _ _ _ _ (hR1.keep hI9.1 (fun b g e hb hg => hkm b g e hb (Or.inr hg))) hO2 hw2 hI9.1 hI9.2)
    · refine y_lconst B (1) dL_law_993 (by decide +kernel) ?_
      refine y_goto B 998 dL_law_994 (by decide) ?_
      refine y_lcmp B dL_law_998 ?_
      refine y_if_eq B 1004 dL_law_999 (by decide) (fun c999 => ?_) (fun c999 => absurd (by rw [show (nI 0).toNatClampNeg = 0 from by decide +kernel, hv1 q0, op_isQuiet_b.resolve_left (fun y => c990 ((hv2 q0).trans y))]; exact ai_lgs) c999)
      refine y_goto B 1119 dL_law_1004 (by decide) ?_
      have hI9 : ai_I (op_isQuiet S (xs (off + 1))).2.2 (o + 1) ∧ ai_Z0 (op_isQuiet S (xs (off + 1))).2.2 := op_S hI hz op_isQuiet_S
      exact y_wide (by omega) (by omega) (next _ _ _ _ _ _ (hR1.keep hI9.1 (fun b g e hb hg => hkm b g e hb (Or.inr hg))) hO2 hw2 hI9.1 hI9.2)
set_option maxHeartbeats 4000000 in
set_option maxRecDepth 100000 in
theorem law_alerts {p : Program} {l : Launch} {e : Env} {s : State} {m : MethodId} {args : Array Value} {below : List Frame} {meth : Method} {c : Code} {G : ai_G} {Q : State → Prop} (B : ai_B p l e room_1 s m args below meth c G cL_law 7 wsL_law RL (some .boolean)) (hst : l.stackTraces = false) {b N : Nat} {xs : Nat → Int32} (hX : va_X b N xs s s.heap) (hbl : b < s.heap.size) (hbA : ¬ ai_A G b) (hL3 : N ≤ 3072) {x mo ow : Nat} {ma : Nat → Nat} {M : ai_M} {S : ai_S} {o off k n : Nat} {t0 : Int32} {f : Nat → Int64} {v5 v6 : Option Value} (hR : ai_Rx G M S x) (hO : ai_O G M t0 S mo ma) (hw : M ow = some (8, ai_eJ G 1 f)) (hI : ai_I S o) (hz : ai_Z0 S) (ho : o ≤ 9999) (hoff : off + 6 ≤ N) (hk : k ≤ 100000) (hn9 : n ≤ 300000) (next : ∀ (M' : ai_M) (S' : ai_S) (t' : Int32) (f' : Nat → Int64) (v5 v6 : Option Value), ai_Rx G M' S' x → ai_O G M' t' S' mo ma → M' ow = some (8, ai_eJ G 1 f') → ai_I S' (o + 1) → ai_Z0 S' → ai_Y p l e room_1 s m args below meth c G Q M' (k + 70) (n + 200) [some (.ref b), some (.ref x), some (.ref mo), some (.ref ow), some (.int (nI off)), v5, v6] 1119 []) : ai_Y p l e room_1 s m args below meth c G Q M k n [some (.ref b), some (.ref x), some (.ref mo), some (.ref ow), some (.int (nI off)), v5, v6] 1007 [] := by
  have hidx := hL3
  obtain ⟨qs, dr, ix, fa, qa, pa, pst, hx0, -⟩ := id hR
  refine y_aload_n B dL_law_1007 rfl ?_
  refine y_aload_n B dL_law_1008 rfl ?_
  refine y_iload B dL_law_1009 rfl ?_
  refine y_iconst B (nI 1) dL_law_1011 (by decide +kernel) ?_
  refine y_iadd B (nI (off + 1)) dL_law_1012 (nI_add _ _) ?_
  refine y_sld B hX hbl hbA (n := off + 1) (by omega) hL3 dL_law_1013 ?_
  refine y_aload_n B dL_law_1014 rfl ?_
  refine x_callSX B 3 _ _ (k_L_alerts l G _ hst hR hI hw) gL_law_L_alerts (by decide +kernel) rfl rfl rfl rfl ⟨(Nat.le_of_ble_eq_true rfl), (Nat.le_of_ble_eq_true rfl)⟩ (Nat.le_of_ble_eq_true rfl) ⟨Nat.le_trans (m := 500000) (by omega) (Nat.le_of_ble_eq_true rfl), Nat.le_trans (m := 500000) (by omega) (Nat.le_of_ble_eq_true rfl)⟩ dL_law_1015 rfl (fun E M1 hr => ?_) (fun r M9 hr => ?_)
  · exact hr.elim
  obtain ⟨rfl, hR1, hk1, f1, hw1, hv1⟩ := hr
  have hq3 : (op_alerts S (xs (off + 1))).1 ≤ 3 := op_alerts_3
  have hO1 := hO.kw hk1
  have hJ := hI.J (by omega)
  refine y_istore B dL_law_1018 (Nat.le_of_ble_eq_true rfl) ?_
  refine y_aload_n B dL_law_1020 rfl ?_
  refine y_aload_n B dL_law_1021 rfl ?_
  refine y_iload B dL_law_1022 rfl ?_
  refine y_iconst B (nI 1) dL_law_1024 (by decide +kernel) ?_
  refine y_iadd B (nI (off + 1)) dL_law_1025 (nI_add _ _) ?_
  refine y_sld B hX hbl hbA (n := off + 1) (by omega) hL3 dL_law_1026 ?_
  refine y_callV B 1 (q := (RX7, TX7, 15)) _ _ (k_X7_alerts l G _ hO1 hJ) hO1.1 rfl gL_law_X7_alerts (by decide +kernel) rfl rfl rfl rfl ⟨(Nat.le_of_ble_eq_true rfl), (Nat.le_of_ble_eq_true rfl)⟩ (Nat.le_of_ble_eq_true rfl) ⟨Nat.le_trans (m := 500000) (by omega) (Nat.le_of_ble_eq_true rfl), Nat.le_trans (m := 500000) (by omega) (Nat.le_of_ble_eq_true rfl)⟩ dL_law_1027 rfl (fun r M9 hr => ?_)
  obtain ⟨hO2, hkm, v, rfl, hv2⟩ := hr
  have hw2 := hkm _ _ _ hw1 (Or.inl rfl)
  refine y_istore B dL_law_1030 (Nat.le_of_ble_eq_true rfl) ?_
  refine y_aload_n B dL_law_1032 rfl ?_
  refine y_callV B 0 (q := (RX7, TX7, 15)) _ _ (k_X7_thrown l G _ hO2) hO2.1 rfl gL_law_X7_thrown (by decide +kernel) rfl rfl rfl rfl ⟨(Nat.le_of_ble_eq_true rfl), (Nat.le_of_ble_eq_true rfl)⟩ (Nat.le_of_ble_eq_true rfl) ⟨Nat.le_trans (m := 500000) (by omega) (Nat.le_of_ble_eq_true rfl), Nat.le_trans (m := 500000) (by omega) (Nat.le_of_ble_eq_true rfl)⟩ dL_law_1033 rfl (fun r M1 hr => ?_)
  obtain ⟨rfl, e9⟩ := hr
  obtain rfl := e9.symm
  refine y_iload B dL_law_1036 rfl ?_
  refine y_icmp_eq B 1043 dL_law_1038 (by decide) (fun c1038 => ?_) (fun c1038 => absurd rfl c1038)
  refine y_iload B dL_law_1043 rfl ?_
  refine y_if_ne B 1060 dL_law_1045 (by decide) (fun c1045 => ?_) (fun c1045 => ?_)
  · refine y_goto B 1119 dL_law_1060 (by decide) ?_
    have hI9 : ai_I (op_alerts S (xs (off + 1))).2.2 (o + 1) ∧ ai_Z0 (op_alerts S (xs (off + 1))).2.2 := op_S hI hz op_alerts_S
    exact y_wide (by omega) (by omega) (next _ _ _ _ _ _ (hR1.keep hI9.1 (fun b g e hb hg => hkm b g e hb (Or.inr hg))) hO2 hw2 hI9.1 hI9.2)
  · have q0 : (op_alerts S (xs (off + 1))).1 = 0 := (nI_eq (by omega) (by decide)).mp c1045
    refine y_aload_n B dL_law_1048 rfl ?_
    refine y_iconst B (nI 0) dL_law_1049 (by decide +kernel) ?_
    refine y_laload B hw2 (vp_in_nI (n := 0) (by decide) (by decide)) dL_law_1050 ?_
    refine y_iload B dL_law_1051 rfl ?_
    refine y_i2l B dL_law_1053 ?_
    refine y_lcmp B dL_law_1054 ?_
    refine y_if_eq B 1060 dL_law_1055 (by decide) (fun c1055 => ?_) (fun c1055 => absurd (by rw [show (nI 0).toNatClampNeg = 0 from by decide +kernel, hv1 q0, hv2 q0]; exact ai_lgs) c1055)
    refine y_goto B 1119 dL_law_1060 (by decide) ?_
    have hI9 : ai_I (op_alerts S (xs (off + 1))).2.2 (o + 1) ∧ ai_Z0 (op_alerts S (xs (off + 1))).2.2 := op_S hI hz op_alerts_S
    exact y_wide (by omega) (by omega) (next _ _ _ _ _ _ (hR1.keep hI9.1 (fun b g e hb hg => hkm b g e hb (Or.inr hg))) hO2 hw2 hI9.1 hI9.2)
set_option maxHeartbeats 4000000 in
set_option maxRecDepth 100000 in
theorem law_batch {p : Program} {l : Launch} {e : Env} {s : State} {m : MethodId} {args : Array Value} {below : List Frame} {meth : Method} {c : Code} {G : ai_G} {Q : State → Prop} (B : ai_B p l e room_1 s m args below meth c G cL_law 7 wsL_law RL (some .boolean)) (hst : l.stackTraces = false) {b N : Nat} {xs : Nat → Int32} (hX : va_X b N xs s s.heap) (hbl : b < s.heap.size) (hbA : ¬ ai_A G b) (hL3 : N ≤ 3072) {x mo ow : Nat} {ma : Nat → Nat} {M : ai_M} {S : ai_S} {o off k n : Nat} {t0 : Int32} {f : Nat → Int64} {v5 v6 : Option Value} (hR : ai_Rx G M S x) (hO : ai_O G M t0 S mo ma) (hw : M ow = some (8, ai_eJ G 1 f)) (hI : ai_I S o) (hz : ai_Z0 S) (ho : o ≤ 9999) (hoff : off + 6 ≤ N) (hk : k ≤ 100000) (hn9 : n ≤ 300000) (next : ∀ (M' : ai_M) (S' : ai_S) (t' : Int32) (f' : Nat → Int64) (v5 v6 : Option Value), ai_Rx G M' S' x → ai_O G M' t' S' mo ma → M' ow = some (8, ai_eJ G 1 f') → ai_I S' (o + 1) → ai_Z0 S' → ai_Y p l e room_1 s m args below meth c G Q M' (k + 70) (n + 200) [some (.ref b), some (.ref x), some (.ref mo), some (.ref ow), some (.int (nI off)), v5, v6] 1119 []) : ai_Y p l e room_1 s m args below meth c G Q M k n [some (.ref b), some (.ref x), some (.ref mo), some (.ref ow), some (.int (nI off)), v5, v6] 1063 [] := by
  have hidx := hL3
  obtain ⟨qs, dr, ix, fa, qa, pa, pst, hx0, -⟩ := id hR
  refine y_aload_n B dL_law_1063 rfl ?_
  refine y_aload_n B dL_law_1064 rfl ?_
  refine y_iload B dL_law_1065 rfl ?_
  refine y_iconst B (nI 1) dL_law_1067 (by decide +kernel) ?_
  refine y_iadd B (nI (off + 1)) dL_law_1068 (nI_add _ _) ?_
  refine y_sld B hX hbl hbA (n := off + 1) (by omega) hL3 dL_law_1069 ?_
  refine y_aload_n B dL_law_1070 rfl ?_
  refine x_callSX B 3 _ _ (k_L_batch l G _ hst hR hI hw) gL_law_L_batch (by decide +kernel) rfl rfl rfl rfl ⟨(Nat.le_of_ble_eq_true rfl), (Nat.le_of_ble_eq_true rfl)⟩ (Nat.le_of_ble_eq_true rfl) ⟨Nat.le_trans (m := 500000) (by omega) (Nat.le_of_ble_eq_true rfl), Nat.le_trans (m := 500000) (by omega) (Nat.le_of_ble_eq_true rfl)⟩ dL_law_1071 rfl (fun E M1 hr => ?_) (fun r M9 hr => ?_)
  · exact hr.elim
  obtain ⟨rfl, hR1, hk1, f1, hw1, hv1⟩ := hr
  have hq3 : (op_batch S (xs (off + 1))).1 ≤ 3 := op_batch_3
  have hO1 := hO.kw hk1
  have hJ := hI.J (by omega)
  refine y_istore B dL_law_1074 (Nat.le_of_ble_eq_true rfl) ?_
  refine y_aload_n B dL_law_1076 rfl ?_
  refine y_aload_n B dL_law_1077 rfl ?_
  refine y_iload B dL_law_1078 rfl ?_
  refine y_iconst B (nI 1) dL_law_1080 (by decide +kernel) ?_
  refine y_iadd B (nI (off + 1)) dL_law_1081 (nI_add _ _) ?_
  refine y_sld B hX hbl hbA (n := off + 1) (by omega) hL3 dL_law_1082 ?_
  refine y_callV B 1 (q := (RX7, TX7, 15)) _ _ (k_X7_batch l G _ hO1 hJ) hO1.1 rfl gL_law_X7_batch (by decide +kernel) rfl rfl rfl rfl ⟨(Nat.le_of_ble_eq_true rfl), (Nat.le_of_ble_eq_true rfl)⟩ (Nat.le_of_ble_eq_true rfl) ⟨Nat.le_trans (m := 500000) (by omega) (Nat.le_of_ble_eq_true rfl), Nat.le_trans (m := 500000) (by omega) (Nat.le_of_ble_eq_true rfl)⟩ dL_law_1083 rfl (fun r M9 hr => ?_)
  obtain ⟨hO2, hkm, v, rfl, hv2⟩ := hr
  have hw2 := hkm _ _ _ hw1 (Or.inl rfl)
  refine y_istore B dL_law_1086 (Nat.le_of_ble_eq_true rfl) ?_
  refine y_aload_n B dL_law_1088 rfl ?_
  refine y_callV B 0 (q := (RX7, TX7, 15)) _ _ (k_X7_thrown l G _ hO2) hO2.1 rfl gL_law_X7_thrown (by decide +kernel) rfl rfl rfl rfl ⟨(Nat.le_of_ble_eq_true rfl), (Nat.le_of_ble_eq_true rfl)⟩ (Nat.le_of_ble_eq_true rfl) ⟨Nat.le_trans (m := 500000) (by omega) (Nat.le_of_ble_eq_true rfl), Nat.le_trans (m := 500000) (by omega) (Nat.le_of_ble_eq_true rfl)⟩ dL_law_1089 rfl (fun r M1 hr => ?_)
  obtain ⟨rfl, e9⟩ := hr
  obtain rfl := e9.symm
  refine y_iload B dL_law_1092 rfl ?_
  refine y_icmp_eq B 1099 dL_law_1094 (by decide) (fun c1094 => ?_) (fun c1094 => absurd rfl c1094)
  refine y_iload B dL_law_1099 rfl ?_
  refine y_if_ne B 1116 dL_law_1101 (by decide) (fun c1101 => ?_) (fun c1101 => ?_)
  · refine y_goto B 1119 dL_law_1116 (by decide) ?_
    have hI9 : ai_I (op_batch S (xs (off + 1))).2.2 (o + 1) ∧ ai_Z0 (op_batch S (xs (off + 1))).2.2 := op_S hI hz op_batch_S
    exact y_wide (by omega) (by omega) (next _ _ _ _ _ _ (hR1.keep hI9.1 (fun b g e hb hg => hkm b g e hb (Or.inr hg))) hO2 hw2 hI9.1 hI9.2)
  · have q0 : (op_batch S (xs (off + 1))).1 = 0 := (nI_eq (by omega) (by decide)).mp c1101
    refine y_aload_n B dL_law_1104 rfl ?_
    refine y_iconst B (nI 0) dL_law_1105 (by decide +kernel) ?_
    refine y_laload B hw2 (vp_in_nI (n := 0) (by decide) (by decide)) dL_law_1106 ?_
    refine y_iload B dL_law_1107 rfl ?_
    refine y_i2l B dL_law_1109 ?_
    refine y_lcmp B dL_law_1110 ?_
    refine y_if_eq B 1116 dL_law_1111 (by decide) (fun c1111 => ?_) (fun c1111 => absurd (by rw [show (nI 0).toNatClampNeg = 0 from by decide +kernel, hv1 q0, hv2 q0]; exact ai_lgs) c1111)
    refine y_goto B 1119 dL_law_1116 (by decide) ?_
    have hI9 : ai_I (op_batch S (xs (off + 1))).2.2 (o + 1) ∧ ai_Z0 (op_batch S (xs (off + 1))).2.2 := op_S hI hz op_batch_S
    exact y_wide (by omega) (by omega) (next _ _ _ _ _ _ (hR1.keep hI9.1 (fun b g e hb hg => hkm b g e hb (Or.inr hg))) hO2 hw2 hI9.1 hI9.2)
set_option maxHeartbeats 4000000 in
set_option maxRecDepth 100000 in
theorem law_come {p : Program} {l : Launch} {e : Env} {s : State} {m : MethodId} {args : Array Value} {below : List Frame} {meth : Method} {c : Code} {G : ai_G} {Q : State → Prop} (B : ai_B p l e room_1 s m args below meth c G cL_law 7 wsL_law RL (some .boolean)) (hst : l.stackTraces = false) {b N : Nat} {xs : Nat → Int32} (hX : va_X b N xs s s.heap) (hbl : b < s.heap.size) (hbA : ¬ ai_A G b) (hL3 : N ≤ 3072) {x mo ow : Nat} {ma : Nat → Nat} {M : ai_M} {S : ai_S} {o off k n : Nat} {t0 : Int32} {f : Nat → Int64} {v5 v6 : Option Value} (hR : ai_Rx G M S x) (hO : ai_O G M t0 S mo ma) (hw : M ow = some (8, ai_eJ G 1 f)) (hI : ai_I S o) (hz : ai_Z0 S) (ho : o ≤ 9999) (hoff : off + 6 ≤ N) (hk : k ≤ 100000) (hn9 : n ≤ 300000) (next : ∀ (M' : ai_M) (S' : ai_S) (t' : Int32) (f' : Nat → Int64) (v5 v6 : Option Value), ai_Rx G M' S' x → ai_O G M' t' S' mo ma → M' ow = some (8, ai_eJ G 1 f') → ai_I S' (o + 1) → ai_Z0 S' → ai_Y p l e room_1 s m args below meth c G Q M' (k + 70) (n + 200) [some (.ref b), some (.ref x), some (.ref mo), some (.ref ow), some (.int (nI off)), v5, v6] 1119 []) : ai_Y p l e room_1 s m args below meth c G Q M k n [some (.ref b), some (.ref x), some (.ref mo), some (.ref ow), some (.int (nI off)), v5, v6] 544 [] := by
  have hidx := hL3
  obtain ⟨qs, dr, ix, fa, qa, pa, pst, hx0, -⟩ := id hR
  refine y_aload_n B dL_law_544 rfl ?_
  refine y_callV B 0 (q := (RX6, TX6, 4)) _ _ (k_X6_come l G _ hR hI (by omega)) hx0 rfl gL_law_X6_come (by decide +kernel) rfl rfl rfl rfl ⟨(Nat.le_of_ble_eq_true rfl), (Nat.le_of_ble_eq_true rfl)⟩ (Nat.le_of_ble_eq_true rfl) ⟨Nat.le_trans (m := 500000) (by omega) (Nat.le_of_ble_eq_true rfl), Nat.le_trans (m := 500000) (by omega) (Nat.le_of_ble_eq_true rfl)⟩ dL_law_545 rfl (fun r M9 hr => ?_)
  obtain ⟨rfl, hR1, hkq9⟩ := hr
  have hk1 := hkq9.kw
  have hO1 := hO.kw hk1
  have hJ := hI.J (by omega)
  have hw1 := hkq9 _ _ _ hw (by decide) (fun fs z => nomatch z)
  refine y_aload_n B dL_law_548 rfl ?_
  refine y_callV B 0 (q := (RX7, TX7, 15)) _ _ (k_X7_come l G _ hO1 hI (by omega)) hO1.1 rfl gL_law_X7_come (by decide +kernel) rfl rfl rfl rfl ⟨(Nat.le_of_ble_eq_true rfl), (Nat.le_of_ble_eq_true rfl)⟩ (Nat.le_of_ble_eq_true rfl) ⟨Nat.le_trans (m := 500000) (by omega) (Nat.le_of_ble_eq_true rfl), Nat.le_trans (m := 500000) (by omega) (Nat.le_of_ble_eq_true rfl)⟩ dL_law_549 rfl (fun r M9 hr => ?_)
  obtain ⟨hO2, hkm, v, rfl, hv2⟩ := hr
  have hw2 := hkm _ _ _ hw1 (Or.inl rfl)
  refine y_icmp_eq B 1119 dL_law_552 (by decide) (fun c552 => ?_) (fun c552 => absurd (hv2 rfl).symm c552)
  have hI9 : ai_I (op_come S).2.2 (o + 1) ∧ ai_Z0 (op_come S).2.2 := op_come_I hI hz
  exact y_wide (by omega) (by omega) (next _ _ _ _ _ _ (hR1.keep hI9.1 (fun b g e hb hg => hkm b g e hb (Or.inr hg))) hO2 hw2 hI9.1 hI9.2)
set_option maxHeartbeats 4000000 in
set_option maxRecDepth 100000 in
theorem law_matching {p : Program} {l : Launch} {e : Env} {s : State} {m : MethodId} {args : Array Value} {below : List Frame} {meth : Method} {c : Code} {G : ai_G} {Q : State → Prop} (B : ai_B p l e room_1 s m args below meth c G cL_law 7 wsL_law RL (some .boolean)) (hst : l.stackTraces = false) {b N : Nat} {xs : Nat → Int32} (hX : va_X b N xs s s.heap) (hbl : b < s.heap.size) (hbA : ¬ ai_A G b) (hL3 : N ≤ 3072) {x mo ow : Nat} {ma : Nat → Nat} {M : ai_M} {S : ai_S} {o off k n : Nat} {t0 : Int32} {f : Nat → Int64} {v5 v6 : Option Value} (hR : ai_Rx G M S x) (hO : ai_O G M t0 S mo ma) (hw : M ow = some (8, ai_eJ G 1 f)) (hI : ai_I S o) (hz : ai_Z0 S) (ho : o ≤ 9999) (hoff : off + 6 ≤ N) (hk : k ≤ 100000) (hn9 : n ≤ 300000) (next : ∀ (M' : ai_M) (S' : ai_S) (t' : Int32) (f' : Nat → Int64) (v5 v6 : Option Value), ai_Rx G M' S' x → ai_O G M' t' S' mo ma → M' ow = some (8, ai_eJ G 1 f') → ai_I S' (o + 1) → ai_Z0 S' → ai_Y p l e room_1 s m args below meth c G Q M' (k + 70) (n + 200) [some (.ref b), some (.ref x), some (.ref mo), some (.ref ow), some (.int (nI off)), v5, v6] 1119 []) : ai_Y p l e room_1 s m args below meth c G Q M k n [some (.ref b), some (.ref x), some (.ref mo), some (.ref ow), some (.int (nI off)), v5, v6] 676 [] := by
  have hidx := hL3
  obtain ⟨qs, dr, ix, fa, qa, pa, pst, hx0, -⟩ := id hR
  refine y_aload_n B dL_law_676 rfl ?_
  refine y_callV B 0 (q := (RX6, TX6, 4)) _ _ (k_X6_matching l G _ hR hI) hx0 rfl gL_law_X6_matching (by decide +kernel) rfl rfl rfl rfl ⟨(Nat.le_of_ble_eq_true rfl), (Nat.le_of_ble_eq_true rfl)⟩ (Nat.le_of_ble_eq_true rfl) ⟨Nat.le_trans (m := 500000) (by omega) (Nat.le_of_ble_eq_true rfl), Nat.le_trans (m := 500000) (by omega) (Nat.le_of_ble_eq_true rfl)⟩ dL_law_677 rfl (fun r M9 hr => ?_)
  obtain ⟨rfl, e9⟩ := hr
  obtain rfl := e9.symm
  have hR1 := hR
  have hkq9 := ai_kq.rf0 (M := M)
  have hk1 := hkq9.kw
  have hO1 := hO.kw hk1
  have hJ := hI.J (by omega)
  have hw1 := hkq9 _ _ _ hw (by decide) (fun fs z => nomatch z)
  refine y_aload_n B dL_law_680 rfl ?_
  refine y_callV B 0 (q := (RX7, TX7, 15)) _ _ (k_X7_matching l G _ hO1 hJ) hO1.1 rfl gL_law_X7_matching (by decide +kernel) rfl rfl rfl rfl ⟨(Nat.le_of_ble_eq_true rfl), (Nat.le_of_ble_eq_true rfl)⟩ (Nat.le_of_ble_eq_true rfl) ⟨Nat.le_trans (m := 500000) (by omega) (Nat.le_of_ble_eq_true rfl), Nat.le_trans (m := 500000) (by omega) (Nat.le_of_ble_eq_true rfl)⟩ dL_law_681 rfl (fun r M9 hr => ?_)
  obtain ⟨hO2, hkm, v, rfl, hv2⟩ := hr
  have hw2 := hkm _ _ _ hw1 (Or.inl rfl)
  refine y_icmp_eq B 1119 dL_law_684 (by decide) (fun c684 => ?_) (fun c684 => absurd (hv2 rfl).symm c684)
  have hI9 : ai_I (op_matching S).2.2 (o + 1) ∧ ai_Z0 (op_matching S).2.2 := op_S hI hz rfl
  exact y_wide (by omega) (by omega) (next _ _ _ _ _ _ (hR1.keep hI9.1 (fun b g e hb hg => hkm b g e hb (Or.inr hg))) hO2 hw2 hI9.1 hI9.2)
set_option maxHeartbeats 4000000 in
set_option maxRecDepth 100000 in
theorem law_matchingByIndex {p : Program} {l : Launch} {e : Env} {s : State} {m : MethodId} {args : Array Value} {below : List Frame} {meth : Method} {c : Code} {G : ai_G} {Q : State → Prop} (B : ai_B p l e room_1 s m args below meth c G cL_law 7 wsL_law RL (some .boolean)) (hst : l.stackTraces = false) {b N : Nat} {xs : Nat → Int32} (hX : va_X b N xs s s.heap) (hbl : b < s.heap.size) (hbA : ¬ ai_A G b) (hL3 : N ≤ 3072) {x mo ow : Nat} {ma : Nat → Nat} {M : ai_M} {S : ai_S} {o off k n : Nat} {t0 : Int32} {f : Nat → Int64} {v5 v6 : Option Value} (hR : ai_Rx G M S x) (hO : ai_O G M t0 S mo ma) (hw : M ow = some (8, ai_eJ G 1 f)) (hI : ai_I S o) (hz : ai_Z0 S) (ho : o ≤ 9999) (hoff : off + 6 ≤ N) (hk : k ≤ 100000) (hn9 : n ≤ 300000) (next : ∀ (M' : ai_M) (S' : ai_S) (t' : Int32) (f' : Nat → Int64) (v5 v6 : Option Value), ai_Rx G M' S' x → ai_O G M' t' S' mo ma → M' ow = some (8, ai_eJ G 1 f') → ai_I S' (o + 1) → ai_Z0 S' → ai_Y p l e room_1 s m args below meth c G Q M' (k + 70) (n + 200) [some (.ref b), some (.ref x), some (.ref mo), some (.ref ow), some (.int (nI off)), v5, v6] 1119 []) : ai_Y p l e room_1 s m args below meth c G Q M k n [some (.ref b), some (.ref x), some (.ref mo), some (.ref ow), some (.int (nI off)), v5, v6] 689 [] := by
  have hidx := hL3
  obtain ⟨qs, dr, ix, fa, qa, pa, pst, hx0, -⟩ := id hR
  refine y_aload_n B dL_law_689 rfl ?_
  refine y_callV B 0 (q := (RX6, TX6, 4)) _ _ (k_X6_matchingByIndex l G _ hR hI) hx0 rfl gL_law_X6_matchingByIndex (by decide +kernel) rfl rfl rfl rfl ⟨(Nat.le_of_ble_eq_true rfl), (Nat.le_of_ble_eq_true rfl)⟩ (Nat.le_of_ble_eq_true rfl) ⟨Nat.le_trans (m := 500000) (by omega) (Nat.le_of_ble_eq_true rfl), Nat.le_trans (m := 500000) (by omega) (Nat.le_of_ble_eq_true rfl)⟩ dL_law_690 rfl (fun r M9 hr => ?_)
  obtain ⟨rfl, hR1, hkq9⟩ := hr
  have hk1 := hkq9.kw
  have hO1 := hO.kw hk1
  have hJ := hI.J (by omega)
  have hw1 := hkq9 _ _ _ hw (by decide) (fun fs z => nomatch z)
  refine y_aload_n B dL_law_693 rfl ?_
  refine y_callV B 0 (q := (RX7, TX7, 15)) _ _ (k_X7_matchingByIndex l G _ hO1 hJ) hO1.1 rfl gL_law_X7_matchingByIndex (by decide +kernel) rfl rfl rfl rfl ⟨(Nat.le_of_ble_eq_true rfl), (Nat.le_of_ble_eq_true rfl)⟩ (Nat.le_of_ble_eq_true rfl) ⟨Nat.le_trans (m := 500000) (by omega) (Nat.le_of_ble_eq_true rfl), Nat.le_trans (m := 500000) (by omega) (Nat.le_of_ble_eq_true rfl)⟩ dL_law_694 rfl (fun r M9 hr => ?_)
  obtain ⟨hO2, hkm, v, rfl, hv2⟩ := hr
  have hw2 := hkm _ _ _ hw1 (Or.inl rfl)
  refine y_icmp_eq B 1119 dL_law_697 (by decide) (fun c697 => ?_) (fun c697 => absurd (hv2 rfl).symm c697)
  have hI9 : ai_I (op_matching S).2.2 (o + 1) ∧ ai_Z0 (op_matching S).2.2 := op_S hI hz rfl
  exact y_wide (by omega) (by omega) (next _ _ _ _ _ _ (hR1.keep hI9.1 (fun b g e hb hg => hkm b g e hb (Or.inr hg))) hO2 hw2 hI9.1 hI9.2)
set_option maxHeartbeats 4000000 in
set_option maxRecDepth 100000 in
theorem law_withSize {p : Program} {l : Launch} {e : Env} {s : State} {m : MethodId} {args : Array Value} {below : List Frame} {meth : Method} {c : Code} {G : ai_G} {Q : State → Prop} (B : ai_B p l e room_1 s m args below meth c G cL_law 7 wsL_law RL (some .boolean)) (hst : l.stackTraces = false) {b N : Nat} {xs : Nat → Int32} (hX : va_X b N xs s s.heap) (hbl : b < s.heap.size) (hbA : ¬ ai_A G b) (hL3 : N ≤ 3072) {x mo ow : Nat} {ma : Nat → Nat} {M : ai_M} {S : ai_S} {o off k n : Nat} {t0 : Int32} {f : Nat → Int64} {v5 v6 : Option Value} (hR : ai_Rx G M S x) (hO : ai_O G M t0 S mo ma) (hw : M ow = some (8, ai_eJ G 1 f)) (hI : ai_I S o) (hz : ai_Z0 S) (ho : o ≤ 9999) (hoff : off + 6 ≤ N) (hk : k ≤ 100000) (hn9 : n ≤ 300000) (next : ∀ (M' : ai_M) (S' : ai_S) (t' : Int32) (f' : Nat → Int64) (v5 v6 : Option Value), ai_Rx G M' S' x → ai_O G M' t' S' mo ma → M' ow = some (8, ai_eJ G 1 f') → ai_I S' (o + 1) → ai_Z0 S' → ai_Y p l e room_1 s m args below meth c G Q M' (k + 70) (n + 200) [some (.ref b), some (.ref x), some (.ref mo), some (.ref ow), some (.int (nI off)), v5, v6] 1119 []) : ai_Y p l e room_1 s m args below meth c G Q M k n [some (.ref b), some (.ref x), some (.ref mo), some (.ref ow), some (.int (nI off)), v5, v6] 758 [] := by
  have hidx := hL3
  obtain ⟨qs, dr, ix, fa, qa, pa, pst, hx0, -⟩ := id hR
  refine y_aload_n B dL_law_758 rfl ?_
  refine y_aload_n B dL_law_759 rfl ?_
  refine y_iload B dL_law_760 rfl ?_
  refine y_iconst B (nI 1) dL_law_762 (by decide +kernel) ?_
  refine y_iadd B (nI (off + 1)) dL_law_763 (nI_add _ _) ?_
  refine y_sld B hX hbl hbA (n := off + 1) (by omega) hL3 dL_law_764 ?_
  refine y_callV B 1 (q := (RX6, TX6, 4)) _ _ (k_X6_withSize l G _ hR hI) hx0 rfl gL_law_X6_withSize (by decide +kernel) rfl rfl rfl rfl ⟨(Nat.le_of_ble_eq_true rfl), (Nat.le_of_ble_eq_true rfl)⟩ (Nat.le_of_ble_eq_true rfl) ⟨Nat.le_trans (m := 500000) (by omega) (Nat.le_of_ble_eq_true rfl), Nat.le_trans (m := 500000) (by omega) (Nat.le_of_ble_eq_true rfl)⟩ dL_law_765 rfl (fun r M9 hr => ?_)
  obtain ⟨rfl, e9⟩ := hr
  obtain rfl := e9.symm
  have hR1 := hR
  have hkq9 := ai_kq.rf0 (M := M)
  have hk1 := hkq9.kw
  have hO1 := hO.kw hk1
  have hJ := hI.J (by omega)
  have hw1 := hkq9 _ _ _ hw (by decide) (fun fs z => nomatch z)
  refine y_aload_n B dL_law_768 rfl ?_
  refine y_aload_n B dL_law_769 rfl ?_
  refine y_iload B dL_law_770 rfl ?_
  refine y_iconst B (nI 1) dL_law_772 (by decide +kernel) ?_
  refine y_iadd B (nI (off + 1)) dL_law_773 (nI_add _ _) ?_
  refine y_sld B hX hbl hbA (n := off + 1) (by omega) hL3 dL_law_774 ?_
  refine y_callV B 1 (q := (RX7, TX7, 15)) _ _ (k_X7_withSize l G _ hO1 hJ) hO1.1 rfl gL_law_X7_withSize (by decide +kernel) rfl rfl rfl rfl ⟨(Nat.le_of_ble_eq_true rfl), (Nat.le_of_ble_eq_true rfl)⟩ (Nat.le_of_ble_eq_true rfl) ⟨Nat.le_trans (m := 500000) (by omega) (Nat.le_of_ble_eq_true rfl), Nat.le_trans (m := 500000) (by omega) (Nat.le_of_ble_eq_true rfl)⟩ dL_law_775 rfl (fun r M9 hr => ?_)
  obtain ⟨hO2, hkm, v, rfl, hv2⟩ := hr
  have hw2 := hkm _ _ _ hw1 (Or.inl rfl)
  refine y_icmp_eq B 1119 dL_law_778 (by decide) (fun c778 => ?_) (fun c778 => absurd (hv2 rfl).symm c778)
  have hI9 : ai_I (op_withSize S (xs (off + 1))).2.2 (o + 1) ∧ ai_Z0 (op_withSize S (xs (off + 1))).2.2 := op_S hI hz rfl
  exact y_wide (by omega) (by omega) (next _ _ _ _ _ _ (hR1.keep hI9.1 (fun b g e hb hg => hkm b g e hb (Or.inr hg))) hO2 hw2 hI9.1 hI9.2)
set_option maxHeartbeats 4000000 in
set_option maxRecDepth 100000 in
theorem law_minute {p : Program} {l : Launch} {e : Env} {s : State} {m : MethodId} {args : Array Value} {below : List Frame} {meth : Method} {c : Code} {G : ai_G} {Q : State → Prop} (B : ai_B p l e room_1 s m args below meth c G cL_law 7 wsL_law RL (some .boolean)) (hst : l.stackTraces = false) {b N : Nat} {xs : Nat → Int32} (hX : va_X b N xs s s.heap) (hbl : b < s.heap.size) (hbA : ¬ ai_A G b) (hL3 : N ≤ 3072) {x mo ow : Nat} {ma : Nat → Nat} {M : ai_M} {S : ai_S} {o off k n : Nat} {t0 : Int32} {f : Nat → Int64} {v5 v6 : Option Value} (hR : ai_Rx G M S x) (hO : ai_O G M t0 S mo ma) (hw : M ow = some (8, ai_eJ G 1 f)) (hI : ai_I S o) (hz : ai_Z0 S) (ho : o ≤ 9999) (hoff : off + 6 ≤ N) (hk : k ≤ 100000) (hn9 : n ≤ 300000) (next : ∀ (M' : ai_M) (S' : ai_S) (t' : Int32) (f' : Nat → Int64) (v5 v6 : Option Value), ai_Rx G M' S' x → ai_O G M' t' S' mo ma → M' ow = some (8, ai_eJ G 1 f') → ai_I S' (o + 1) → ai_Z0 S' → ai_Y p l e room_1 s m args below meth c G Q M' (k + 70) (n + 200) [some (.ref b), some (.ref x), some (.ref mo), some (.ref ow), some (.int (nI off)), v5, v6] 1119 []) : ai_Y p l e room_1 s m args below meth c G Q M k n [some (.ref b), some (.ref x), some (.ref mo), some (.ref ow), some (.int (nI off)), v5, v6] 931 [] := by
  have hidx := hL3
  obtain ⟨qs, dr, ix, fa, qa, pa, pst, hx0, -⟩ := id hR
  refine y_aload_n B dL_law_931 rfl ?_
  refine y_callV B 0 (q := (RX6, TX6, 4)) _ _ (k_X6_minute l G _ hR hI) hx0 rfl gL_law_X6_minute (by decide +kernel) rfl rfl rfl rfl ⟨(Nat.le_of_ble_eq_true rfl), (Nat.le_of_ble_eq_true rfl)⟩ (Nat.le_of_ble_eq_true rfl) ⟨Nat.le_trans (m := 500000) (by omega) (Nat.le_of_ble_eq_true rfl), Nat.le_trans (m := 500000) (by omega) (Nat.le_of_ble_eq_true rfl)⟩ dL_law_932 rfl (fun r M9 hr => ?_)
  obtain ⟨rfl, e9⟩ := hr
  obtain rfl := e9.symm
  have hR1 := hR
  have hkq9 := ai_kq.rf0 (M := M)
  have hk1 := hkq9.kw
  have hO1 := hO.kw hk1
  have hJ := hI.J (by omega)
  have hw1 := hkq9 _ _ _ hw (by decide) (fun fs z => nomatch z)
  refine y_aload_n B dL_law_935 rfl ?_
  refine y_callV B 0 (q := (RX7, TX7, 15)) _ _ (k_X7_minute l G _ hO1 hJ) hO1.1 rfl gL_law_X7_minute (by decide +kernel) rfl rfl rfl rfl ⟨(Nat.le_of_ble_eq_true rfl), (Nat.le_of_ble_eq_true rfl)⟩ (Nat.le_of_ble_eq_true rfl) ⟨Nat.le_trans (m := 500000) (by omega) (Nat.le_of_ble_eq_true rfl), Nat.le_trans (m := 500000) (by omega) (Nat.le_of_ble_eq_true rfl)⟩ dL_law_936 rfl (fun r M9 hr => ?_)
  obtain ⟨hO2, hkm, v, rfl, hv2⟩ := hr
  have hw2 := hkm _ _ _ hw1 (Or.inl rfl)
  refine y_icmp_eq B 1119 dL_law_939 (by decide) (fun c939 => ?_) (fun c939 => absurd (hv2 rfl).symm c939)
  have hI9 : ai_I (op_minute S).2.2 (o + 1) ∧ ai_Z0 (op_minute S).2.2 := op_S hI hz rfl
  exact y_wide (by omega) (by omega) (next _ _ _ _ _ _ (hR1.keep hI9.1 (fun b g e hb hg => hkm b g e hb (Or.inr hg))) hO2 hw2 hI9.1 hI9.2)
