/-! ===== THE LAW ===== -/
theorem inlX6 : ∀ w ∈ wsX60, w ∈ wsL_law := fun _ h => List.mem_append_left _ (List.mem_append_left _ (List.mem_append_left _ (List.mem_append_left _ (List.mem_append_left _ (List.mem_append_left _ (List.mem_append_left _ (List.mem_append_left _ (List.mem_append_left _ (List.mem_append_left _ (List.mem_append_left _ (List.mem_append_left _ (List.mem_append_right _ h))))))))))))
theorem inlX7 : ∀ w ∈ wsX70, w ∈ wsL_law := fun _ h => List.mem_append_left _ (List.mem_append_left _ (List.mem_append_left _ (List.mem_append_left _ (List.mem_append_left _ (List.mem_append_left _ (List.mem_append_left _ (List.mem_append_left _ (List.mem_append_left _ (List.mem_append_left _ (List.mem_append_left _ (List.mem_append_right _ h)))))))))))
theorem i_L_law_X6 : ∀ w ∈ wsX60, w ∈ wsL_law := inlX6
theorem i_L_law_X7 : ∀ w ∈ wsX70, w ∈ wsL_law := inlX7
set_option maxHeartbeats 4000000 in
set_option maxRecDepth 100000 in
theorem law_loop {p : Program} {l : Launch} {e : Env} {s : State} {m : MethodId} {args : Array Value} {below : List Frame} {meth : Method} {c : Code} {G : ai_G} {Q : State → Prop} (B : ai_B p l e room_1 s m args below meth c G cL_law 7 wsL_law RL (some .boolean)) (hst : l.stackTraces = false) {b N : Nat} {xs : Nat → Int32} (hX : va_X b N xs s s.heap) (hbl : b < s.heap.size) (hbA : ¬ ai_A G b) (hL3 : N ≤ 3072) {x mo ow : Nat} {ma : Nat → Nat} (fin : ∀ (M : ai_M) (k n : Nat) (Lc : List (Option Value)), k ≤ 601024 → n ≤ 7293033 → ai_Y p l e room_1 s m args below meth c G Q M k n Lc 1126 [.int (nI 1)]) : ∀ (d : Nat) {M : ai_M} {S : ai_S} {o off k n : Nat} {t0 : Int32} {f : Nat → Int64} {v5 v6 : Option Value}, N < off + d → off = 6 * o → off ≤ N → ai_Rx G M S x → ai_O G M t0 S mo ma → M ow = some (8, ai_eJ G 1 f) → ai_I S o → ai_Z0 S → k ≤ 100 + 70 * o → n ≤ 2000 + 200 * o → ai_Y p l e room_1 s m args below meth c G Q M k n [some (.ref b), some (.ref x), some (.ref mo), some (.ref ow), some (.int (nI off)), v5, v6] 23 [] := by
  intro d
  induction d with
  | zero => intros; omega
  | succ d ih =>
    intro M S o off k n t0 f v5 v6 hd9 eo hoN hR hO hw hI hz hk hn9
    refine y_iload B dL_law_23 rfl ?_
    refine y_aload_n B dL_law_25 rfl ?_
    refine y_slen B hX hbl hbA dL_law_26 ?_
    refine y_bipush B (nI 6) dL_law_27 (by decide +kernel) ?_
    refine y_isub B (nI N - nI 6) dL_law_29 (rfl) ?_
    refine y_icmp_gt B 1125 dL_law_30 (by decide) (fun c30 => ?_) (fun c30 => ?_)
    · refine y_iconst B (nI 1) dL_law_1125 (by decide +kernel) ?_
      exact fin _ _ _ _ (by omega) (by omega)
    · have q30 : off + 6 ≤ N := by
        have y := Int32.not_lt.mp c30
        have y2 : (nI N - nI 6).toInt = (N : Int) - 6 := pk_sub_toInt (by omega) (by omega)
        rw [Int32.le_iff_toInt_le, nI_toInt (by omega), y2] at y
        omega
      refine y_aload_n B dL_law_33 rfl ?_
      refine y_iload B dL_law_34 rfl ?_
      refine y_sld B hX hbl hbA (n := off) (by omega) hL3 dL_law_36 ?_
      refine y_bipush B (nI 31) dL_law_37 (by decide +kernel) ?_
      obtain ⟨j, hj, ej⟩ := pk_andE (xs off) (m := nI 31) 5 (by decide +kernel)
      refine y_iand B (nI j) dL_law_39 (ej) ?_
      have nxt : ∀ (M' : ai_M) (S' : ai_S) (t' : Int32) (f' : Nat → Int64) (v5 v6 : Option Value), ai_Rx G M' S' x → ai_O G M' t' S' mo ma → M' ow = some (8, ai_eJ G 1 f') → ai_I S' (o + 1) → ai_Z0 S' → ai_Y p l e room_1 s m args below meth c G Q M' (k + 70) (n + 200) [some (.ref b), some (.ref x), some (.ref mo), some (.ref ow), some (.int (nI off)), v5, v6] 1119 [] := by
        intro M' S' t' f' v5 v6 a1 a2 a3 a4 a5
        refine y_iinc B (nI (off + 6)) dL_law_1119 rfl (nI_add off 6) ?_
        refine y_goto B 23 dL_law_1122 (by decide) ?_
        exact ih (by omega) (by omega) (by omega) a1 a2 a3 a4 a5 (by omega) (by omega)
      rcases (show j = 0 ∨ j = 1 ∨ j = 2 ∨ j = 3 ∨ j = 4 ∨ j = 5 ∨ j = 6 ∨ j = 7 ∨ j = 8 ∨ j = 9 ∨ j = 10 ∨ j = 11 ∨ j = 12 ∨ j = 13 ∨ j = 14 ∨ j = 15 ∨ j = 16 ∨ j = 17 ∨ j = 18 ∨ 18 < j by omega) with rfl | rfl | rfl | rfl | rfl | rfl | rfl | rfl | rfl | rfl | rfl | rfl | rfl | rfl | rfl | rfl | rfl | rfl | rfl | h18
      · refine y_tableIn B (off := 92) 132 dL_law_40 (by decide +kernel) (by decide +kernel) (by decide +kernel) (by decide +kernel) ?_
        exact law_question B hst hX hbl hbA hL3 hR hO hw hI hz (by omega) q30 (by omega) (by omega) nxt
      · refine y_tableIn B (off := 136) 176 dL_law_40 (by decide +kernel) (by decide +kernel) (by decide +kernel) (by decide +kernel) ?_
        exact law_product B hst hX hbl hbA hL3 hR hO hw hI hz (by omega) q30 (by omega) (by omega) nxt
      · refine y_tableIn B (off := 192) 232 dL_law_40 (by decide +kernel) (by decide +kernel) (by decide +kernel) (by decide +kernel) ?_
        exact law_test B hst hX hbl hbA hL3 hR hO hw hI hz (by omega) q30 (by omega) (by omega) nxt
      · refine y_tableIn B (off := 312) 352 dL_law_40 (by decide +kernel) (by decide +kernel) (by decide +kernel) (by decide +kernel) ?_
        exact law_drop B hst hX hbl hbA hL3 hR hO hw hI hz (by omega) q30 (by omega) (by omega) nxt
      · refine y_tableIn B (off := 368) 408 dL_law_40 (by decide +kernel) (by decide +kernel) (by decide +kernel) (by decide +kernel) ?_
        exact law_setQuiet B hst hX hbl hbA hL3 hR hO hw hI hz (by omega) q30 (by omega) (by omega) nxt
      · refine y_tableIn B (off := 436) 476 dL_law_40 (by decide +kernel) (by decide +kernel) (by decide +kernel) (by decide +kernel) ?_
        exact law_set B hst hX hbl hbA hL3 hR hO hw hI hz (by omega) q30 (by omega) (by omega) nxt
      · refine y_tableIn B (off := 504) 544 dL_law_40 (by decide +kernel) (by decide +kernel) (by decide +kernel) (by decide +kernel) ?_
        exact law_come B hst hX hbl hbA hL3 hR hO hw hI hz (by omega) q30 (by omega) (by omega) nxt
      · refine y_tableIn B (off := 517) 557 dL_law_40 (by decide +kernel) (by decide +kernel) (by decide +kernel) (by decide +kernel) ?_
        exact law_advance B hst hX hbl hbA hL3 hR hO hw hI hz (by omega) q30 (by omega) (by omega) nxt
      · refine y_tableIn B (off := 573) 613 dL_law_40 (by decide +kernel) (by decide +kernel) (by decide +kernel) (by decide +kernel) ?_
        exact law_satisfies B hst hX hbl hbA hL3 hR hO hw hI hz (by omega) q30 (by omega) (by omega) nxt
      · refine y_tableIn B (off := 636) 676 dL_law_40 (by decide +kernel) (by decide +kernel) (by decide +kernel) (by decide +kernel) ?_
        exact law_matching B hst hX hbl hbA hL3 hR hO hw hI hz (by omega) q30 (by omega) (by omega) nxt
      · refine y_tableIn B (off := 649) 689 dL_law_40 (by decide +kernel) (by decide +kernel) (by decide +kernel) (by decide +kernel) ?_
        exact law_matchingByIndex B hst hX hbl hbA hL3 hR hO hw hI hz (by omega) q30 (by omega) (by omega) nxt
      · refine y_tableIn B (off := 662) 702 dL_law_40 (by decide +kernel) (by decide +kernel) (by decide +kernel) (by decide +kernel) ?_
        exact law_sizeOf B hst hX hbl hbA hL3 hR hO hw hI hz (by omega) q30 (by omega) (by omega) nxt
      · refine y_tableIn B (off := 718) 758 dL_law_40 (by decide +kernel) (by decide +kernel) (by decide +kernel) (by decide +kernel) ?_
        exact law_withSize B hst hX hbl hbA hL3 hR hO hw hI hz (by omega) q30 (by omega) (by omega) nxt
      · refine y_tableIn B (off := 743) 783 dL_law_40 (by decide +kernel) (by decide +kernel) (by decide +kernel) (by decide +kernel) ?_
        exact law_pieces B hst hX hbl hbA hL3 hR hO hw hI hz (by omega) q30 (by omega) (by omega) nxt
      · refine y_tableIn B (off := 811) 851 dL_law_40 (by decide +kernel) (by decide +kernel) (by decide +kernel) (by decide +kernel) ?_
        exact law_pieceAt B hst hX hbl hbA hL3 hR hO hw hI hz (by omega) q30 (by omega) (by omega) nxt
      · refine y_tableIn B (off := 891) 931 dL_law_40 (by decide +kernel) (by decide +kernel) (by decide +kernel) (by decide +kernel) ?_
        exact law_minute B hst hX hbl hbA hL3 hR hO hw hI hz (by omega) q30 (by omega) (by omega) nxt
      · refine y_tableIn B (off := 904) 944 dL_law_40 (by decide +kernel) (by decide +kernel) (by decide +kernel) (by decide +kernel) ?_
        exact law_isQuiet B hst hX hbl hbA hL3 hR hO hw hI hz (by omega) q30 (by omega) (by omega) nxt
      · refine y_tableIn B (off := 967) 1007 dL_law_40 (by decide +kernel) (by decide +kernel) (by decide +kernel) (by decide +kernel) ?_
        exact law_alerts B hst hX hbl hbA hL3 hR hO hw hI hz (by omega) q30 (by omega) (by omega) nxt
      · refine y_tableIn B (off := 1023) 1063 dL_law_40 (by decide +kernel) (by decide +kernel) (by decide +kernel) (by decide +kernel) ?_
        exact law_batch B hst hX hbl hbA hL3 hR hO hw hI hz (by omega) q30 (by omega) (by omega) nxt
      · refine y_tableOut B 1119 dL_law_40 (Or.inr (by rw [nI_toInt (by omega)]; omega)) (by decide) ?_
        exact y_wide (by omega) (by omega) (nxt M S t0 f v5 v6 hR hO hw hI.up hz)
set_option maxHeartbeats 4000000 in
set_option maxRecDepth 100000 in
theorem law_begin {p : Program} {l : Launch} {e : Env} {s : State} {m : MethodId} {args : Array Value} {below : List Frame} {meth : Method} {c : Code} {G : ai_G} {Q : State → Prop} (B : ai_B p l e room_1 s m args below meth c G cL_law 7 wsL_law RL (some .boolean)) (hst : l.stackTraces = false) {b N : Nat} {xs : Nat → Int32} (hX : va_X b N xs s s.heap) (hbl : b < s.heap.size) (hbA : ¬ ai_A G b) (hL3 : N ≤ 3072) (fin : ∀ (M : ai_M) (k n : Nat) (Lc : List (Option Value)), k ≤ 601024 → n ≤ 7293033 → ai_Y p l e room_1 s m args below meth c G Q M k n Lc 1126 [.int (nI 1)]) : ai_Y p l e room_1 s m args below meth c G Q (fun _ => none) 0 0 [some (.ref b), none, none, none, none, none, none] 0 [] := by
  refine y_new B (C := RX6) (T := TX6) (N := 4) (ci := 7) (100) [.null, .null, .null, .int 0] i_L_law_X6 tyX6 tyX6_ok (by decide +kernel) (by decide +kernel) (by decide +kernel) rfl (fun j hj => by rcases (show j = 0 ∨ j = 1 ∨ j = 2 ∨ j = 3 by omega) with rfl | rfl | rfl | rfl <;> rfl) (Nat.le_of_ble_eq_true rfl) (Nat.le_of_ble_eq_true rfl) dL_law_0 (fun x hx => ?_)
  refine y_dup B dL_law_3 rfl ?_
  refine y_callI B 0 _ _ (k_X6_init l G _ (S := ai_S0) ai_U_s rfl rfl rfl) gL_law_X6_init (by decide +kernel) (by decide +kernel) (by decide +kernel) rfl (by decide +kernel) rfl rfl rfl rfl ⟨(Nat.le_of_ble_eq_true rfl), (Nat.le_of_ble_eq_true rfl)⟩ (Nat.le_of_ble_eq_true rfl) ⟨(Nat.le_of_ble_eq_true rfl), (Nat.le_of_ble_eq_true rfl)⟩ dL_law_4 rfl (fun r M1 hr => ?_)
  obtain ⟨rfl, hR1, kp1⟩ := hr
  refine y_astore_n B dL_law_7 (Nat.le_of_ble_eq_true rfl) ?_
  refine y_new B (C := RX7) (T := TX7) (N := 15) (ci := 8) (9) [.int 0, .int 0, .int 0, .null, .null, .null, .null, .null, .null, .null, .null, .null, .null, .null, .null] i_L_law_X7 tyX7 tyX7_ok (by decide +kernel) (by decide +kernel) (by decide +kernel) rfl (fun j hj => by rcases (show j = 0 ∨ j = 1 ∨ j = 2 ∨ j = 3 ∨ j = 4 ∨ j = 5 ∨ j = 6 ∨ j = 7 ∨ j = 8 ∨ j = 9 ∨ j = 10 ∨ j = 11 ∨ j = 12 ∨ j = 13 ∨ j = 14 by omega) with rfl | rfl | rfl | rfl | rfl | rfl | rfl | rfl | rfl | rfl | rfl | rfl | rfl | rfl | rfl <;> rfl) (Nat.le_of_ble_eq_true rfl) (Nat.le_of_ble_eq_true rfl) dL_law_8 (fun mo hmo => ?_)
  refine y_dup B dL_law_11 rfl ?_
  refine y_callI B 0 _ _ (k_X7_init l G _ ai_U_s) gL_law_X7_init (by decide +kernel) (by decide +kernel) (by decide +kernel) rfl (by decide +kernel) rfl rfl rfl rfl ⟨(Nat.le_of_ble_eq_true rfl), (Nat.le_of_ble_eq_true rfl)⟩ (Nat.le_of_ble_eq_true rfl) ⟨(Nat.le_of_ble_eq_true rfl), (Nat.le_of_ble_eq_true rfl)⟩ dL_law_12 rfl (fun r M2 hr => ?_)
  obtain ⟨rfl, ma, hO1, kp2⟩ := hr
  refine y_astore_n B dL_law_15 (Nat.le_of_ble_eq_true rfl) ?_
  refine y_iconst B (nI 1) dL_law_16 (by decide +kernel) ?_
  refine y_newa B (atype := .long) (8) 4 (ty := .long) (N' := 1) (a0 := (1, .inr (.inl (fun _ => 0)))) (by decide +kernel) rfl rfl (fun _ => rfl) (by decide) (nI_clamp (by decide)) (by decide) (Nat.le_of_ble_eq_true rfl) (Nat.le_of_ble_eq_true rfl) dL_law_17 (fun ow how => ?_)
  refine y_astore_n B dL_law_19 (Nat.le_of_ble_eq_true rfl) ?_
  refine y_iconst B (nI 0) dL_law_20 (by decide +kernel) ?_
  refine y_istore B dL_law_21 (Nat.le_of_ble_eq_true rfl) ?_
  refine law_loop B hst hX hbl hbA hL3 (x := x) (mo := mo) (ow := ow) (ma := ma) fin (N + 1) (o := 0) (off := 0) (by omega) rfl (Nat.zero_le _) (hR1.keep ai_S0_I.1 (fun b g e hb hg => ai_U_f how (kp2 b g e (ai_U_f hmo hb) (fun z => by rw [z, hmo] at hb; cases hb)))) (hO1.kw (fun b g e hb _ _ _ => ai_U_f how hb)) ai_U_s ai_S0_I.1 ai_S0_I.2 (Nat.le_of_ble_eq_true rfl) (Nat.le_of_ble_eq_true rfl)
