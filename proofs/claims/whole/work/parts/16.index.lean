/-! ===== THE INDEX OF PIECES ===== -/
/-- a chain of postings holds the products l -/
def ai_ch (M : ai_M) : List Nat → Option Nat → Prop
  | [], r => r = none
  | a :: l, r => ∃ (n : Nat) (nx : Option Nat), r = some n ∧ M n = some (108, .inr (3, [.ref a, va_rf nx])) ∧ ai_ch M l nx
theorem ai_ch.keep {M M' : ai_M} (hk : ∀ (b : Nat) (e : va_E), M b = some (108, e) → M' b = some (108, e)) : ∀ {l : List Nat} {r : Option Nat}, ai_ch M l r → ai_ch M' l r
  | [], _, h => h
  | _ :: _, _, ⟨n, nx, h1, h2, h3⟩ => ⟨n, nx, h1, hk _ _ h2, ai_ch.keep hk h3⟩
theorem ai_ch.hk {M M' : ai_M} (hk : ai_hk M M') {l : List Nat} {r : Option Nat} (h : ai_ch M l r) : ai_ch M' l r := by
  induction l generalizing r with
  | nil => exact h
  | cons a l ih =>
    obtain ⟨n, nx, h1, h2, h3⟩ := h
    exact ⟨n, nx, h1, hk.inr h2 (by decide), ih h3⟩
/-- the index: its row, and the products of each place -/
def ai_Ix (G : ai_G) (M : ai_M) (pst : Nat → List Nat) (ix fa : Nat) (fi : Nat → Option Nat) : Prop := M ix = some (106, .inr (2, [.ref fa])) ∧ M fa = some (107, ai_eP G 768 fi) ∧ ∀ pl, pl < 768 → ai_ch M (pst pl) (fi pl)
theorem ai_hk.ix {G : ai_G} {M M1 : ai_M} (h : ai_hk M M1) {pst : Nat → List Nat} {ix fa : Nat} {fi : Nat → Option Nat} (hi : ai_Ix G M pst ix fa fi) : ai_Ix G M1 pst ix fa fi := ⟨h.inr hi.1 (by decide), h.inl hi.2.1, fun pl hp => (hi.2.2 pl hp).hk h⟩
theorem i_X1_init_X1 : ∀ w ∈ wsX10, w ∈ wsX1_init := fun _ h => List.mem_cons_of_mem _ (List.mem_append_right _ h)
theorem i_X1_firstAt_X1 : ∀ w ∈ wsX10, w ∈ wsX1_firstAt := fun _ h => List.mem_cons_of_mem _ (List.mem_append_right _ h)
theorem i_X1_post_X1 : ∀ w ∈ wsX10, w ∈ wsX1_post := fun _ h => List.mem_cons_of_mem _ (List.mem_append_left _ (List.mem_append_right _ h))
theorem i_X1_post_X2 : ∀ w ∈ wsX20, w ∈ wsX1_post := fun _ h => List.mem_cons_of_mem _ (List.mem_append_right _ h)
theorem i_X1_hitAbove_X2 : ∀ w ∈ wsX20, w ∈ wsX1_hitAbove := fun _ h => List.mem_cons_of_mem _ (List.mem_append_left _ (List.mem_append_left _ (List.mem_append_right _ h)))
theorem i_X1_hitAbove_X3 : ∀ w ∈ wsX30, w ∈ wsX1_hitAbove := fun _ h => List.mem_cons_of_mem _ (List.mem_append_left _ (List.mem_append_right _ h))
set_option maxHeartbeats 4000000 in
set_option maxRecDepth 100000 in
theorem k_X1_init (l : Launch) (G : ai_G) (M : ai_M) {a g : Nat} (gv : Nat) (h1 : M a = some (g, .inr (2, [.null]))) : ai_C l yX1_init wsX1_init ({ frames := 1, cells := 1, slots := 768, locals := 20 } : Room) 1 768 G M [.ref a] (fun r M1 => r = none ∧ ∃ q, M q = none ∧ M1 = ai_U (ai_U M q gv (ai_eP G 768 (fun _ => none))) a g (.inr (2, [.ref q]))) := by
  refine y_start (by decide +kernel) rfl (Nat.le_of_ble_eq_true rfl) (Nat.le_of_ble_eq_true rfl) (fun x hx => by simp only [List.mem_cons, List.not_mem_nil, or_false] at hx; rcases hx with rfl <;> rfl) ?_
  intro p e s m below meth c B hnm
  have hinit : meth.name = "<init>" := hnm
  refine y_aload_n B dX1_init_0 rfl ?_
  refine y_oinit B (by decide +kernel) (by decide +kernel) (by decide +kernel) (Nat.le_of_ble_eq_true rfl) (Nat.le_of_ble_eq_true rfl) dX1_init_1 ?_
  refine y_aload_n B dX1_init_4 rfl ?_
  refine y_sipush B (nI 768) dX1_init_5 (by decide +kernel) ?_
  refine y_newq B gv 2 (by decide +kernel) B.2.2.2.2.2.2.2.2.1.1.2.1 rfl (by decide) (nI_clamp (by decide)) (by decide) (Nat.le_of_ble_eq_true rfl) (Nat.le_of_ble_eq_true rfl) dX1_init_8 (fun q hq => ?_)
  refine y_putF B hinit (ref := "AlertIndex$PieceIndex") (ci := 2) (C := RX1) (T := TX1) (N := 1) (ty := (.array (.object "AlertIndex$Posting"))) (ai_U_f hq h1) rfl i_X1_init_X1 tyX1 tyX1_ok nmX1 0 (by decide) (by decide +kernel) (fun _ h9 => h9) rfl rfl (by decide +kernel) rfl rfl (Nat.le_of_ble_eq_true rfl) dX1_init_11 ?_
  exact y_vret B dX1_init_14 (Nat.le_of_ble_eq_true rfl) (Nat.le_of_ble_eq_true rfl) (⟨rfl, q, hq, rfl⟩)
set_option maxHeartbeats 4000000 in
set_option maxRecDepth 100000 in
theorem k_X1_firstAt (l : Launch) (G : ai_G) (M : ai_M) {a fa : Nat} {pst : Nat → List Nat} {fi : Nat → Option Nat} (hI : ai_Ix G M pst a fa fi) {p9 : Nat} (hp : p9 < 768) : ai_C l yX1_firstAt wsX1_firstAt ({ frames := 0, cells := 0, slots := 0, locals := 0 } : Room) 0 0 G M [.ref a, .int (nI p9)] (fun r M1 => r = some (va_rf (fi p9)) ∧ M1 = M) := by
  refine y_start (by decide +kernel) rfl (Nat.le_of_ble_eq_true rfl) (Nat.le_of_ble_eq_true rfl) (fun x hx => by simp only [List.mem_cons, List.not_mem_nil, or_false] at hx; rcases hx with rfl | rfl <;> rfl) ?_
  intro p e s m below meth c B hnm
  refine y_iload_n B dX1_firstAt_0 rfl ?_
  refine y_if_lt B 22 dX1_firstAt_1 (by decide) (fun c1 => absurd c1 (nI_pos (by omega))) (fun c1 => ?_)
  refine y_iload_n B dX1_firstAt_4 rfl ?_
  refine y_aload_n B dX1_firstAt_5 rfl ?_
  refine y_get B (ref := "AlertIndex$PieceIndex") (ci := 2) (C := RX1) (T := TX1) (N := 1) hI.1 rfl i_X1_firstAt_X1 0 (by decide) (by decide +kernel) (fun _ h9 => h9) rfl dX1_firstAt_6 ?_
  refine y_alen B (nI 768) 2 hI.2.1 rfl rfl dX1_firstAt_9 ?_
  refine y_icmp_ge B 22 dX1_firstAt_10 (by decide) (fun c10 => absurd c10 (nI_ge hp (by decide))) (fun c10 => ?_)
  refine y_aload_n B dX1_firstAt_13 rfl ?_
  refine y_get B (ref := "AlertIndex$PieceIndex") (ci := 2) (C := RX1) (T := TX1) (N := 1) hI.1 rfl i_X1_firstAt_X1 0 (by decide) (by decide +kernel) (fun _ h9 => h9) rfl dX1_firstAt_14 ?_
  refine y_iload_n B dX1_firstAt_17 rfl ?_
  refine y_aaloadP B (fi p9) hI.2.1 (vp_in_nI hp (by decide)) (by rw [nI_clamp (by omega)]) dX1_firstAt_18 ?_
  refine y_goto B 23 dX1_firstAt_19 (by decide) ?_
  cases hz : fi p9 with
  | none => exact y_aret B (Or.inl ⟨_, rfl⟩) (Or.inl rfl) dX1_firstAt_23 (Nat.le_of_ble_eq_true rfl) (Nat.le_of_ble_eq_true rfl) ⟨by rfl, rfl⟩
  | some z => exact y_aret B (Or.inl ⟨_, rfl⟩) (Or.inr ⟨_, rfl⟩) dX1_firstAt_23 (Nat.le_of_ble_eq_true rfl) (Nat.le_of_ble_eq_true rfl) ⟨by rfl, rfl⟩
set_option maxHeartbeats 4000000 in
set_option maxRecDepth 100000 in
theorem k_X1_post (l : Launch) (G : ai_G) (M : ai_M) {a fa : Nat} {pst : Nat → List Nat} {fi : Nat → Option Nat} (hI : ai_Ix G M pst a fa fi) {p9 pr : Nat} (hp : p9 < 768) : ai_C l yX1_post wsX1_post ({ frames := 2, cells := 1, slots := 2, locals := 34 } : Room) 1 2 G M [.ref a, .ref pr, .int (nI p9)] (fun r M1 => r = none ∧ ∃ q, M q = none ∧ M1 = ai_U (ai_U M q 108 (.inr (3, [.ref pr, va_rf (fi p9)]))) fa 107 (ai_eP G 768 (va_up fi p9 (some q)))) := by
  refine y_start (by decide +kernel) rfl (Nat.le_of_ble_eq_true rfl) (Nat.le_of_ble_eq_true rfl) (fun x hx => by simp only [List.mem_cons, List.not_mem_nil, or_false] at hx; rcases hx with rfl | rfl | rfl <;> rfl) ?_
  intro p e s m below meth c B hnm
  refine y_iload_n B dX1_post_0 rfl ?_
  refine y_if_lt B 33 dX1_post_1 (by decide) (fun c1 => absurd c1 (nI_pos (by omega))) (fun c1 => ?_)
  refine y_iload_n B dX1_post_4 rfl ?_
  refine y_aload_n B dX1_post_5 rfl ?_
  refine y_get B (ref := "AlertIndex$PieceIndex") (ci := 2) (C := RX1) (T := TX1) (N := 1) hI.1 rfl i_X1_post_X1 0 (by decide) (by decide +kernel) (fun _ h9 => h9) rfl dX1_post_6 ?_
  refine y_alen B (nI 768) 2 hI.2.1 rfl rfl dX1_post_9 ?_
  refine y_icmp_ge B 33 dX1_post_10 (by decide) (fun c10 => absurd c10 (nI_ge hp (by decide))) (fun c10 => ?_)
  refine y_aload_n B dX1_post_13 rfl ?_
  refine y_get B (ref := "AlertIndex$PieceIndex") (ci := 2) (C := RX1) (T := TX1) (N := 1) hI.1 rfl i_X1_post_X1 0 (by decide) (by decide +kernel) (fun _ h9 => h9) rfl dX1_post_14 ?_
  refine y_iload_n B dX1_post_17 rfl ?_
  refine y_new B (C := RX2) (T := TX2) (N := 2) (ci := 3) (108) [.null, .null] i_X1_post_X2 tyX2 tyX2_ok (by decide +kernel) (by decide +kernel) (by decide +kernel) rfl (fun j hj => by rcases (show j = 0 ∨ j = 1 by omega) with rfl | rfl <;> rfl) (Nat.le_of_ble_eq_true rfl) (Nat.le_of_ble_eq_true rfl) dX1_post_18 (fun q hq => ?_)
  have hnf : fa ≠ q := fun z => by have y := hI.2.1; rw [z, hq] at y; cases y
  have hnx : a ≠ q := fun z => by have y := hI.1; rw [z, hq] at y; cases y
  refine y_dup B dX1_post_21 rfl ?_
  refine y_aload_n B dX1_post_22 rfl ?_
  refine y_aload_n B dX1_post_23 rfl ?_
  refine y_get B (ref := "AlertIndex$PieceIndex") (ci := 2) (C := RX1) (T := TX1) (N := 1) ((ai_U_n hnx).trans hI.1) rfl i_X1_post_X1 0 (by decide) (by decide +kernel) (fun _ h9 => h9) rfl dX1_post_24 ?_
  refine y_iload_n B dX1_post_27 rfl ?_
  refine y_aaloadP B (fi p9) ((ai_U_n hnf).trans hI.2.1) (vp_in_nI hp (by decide)) (by rw [nI_clamp (by omega)]) dX1_post_28 ?_
  refine y_callI B 2 _ _ (k_X2_init l G _ ai_U_s) gX1_post_X2_init (by decide +kernel) (by decide +kernel) (by decide +kernel) rfl (by decide +kernel) rfl rfl rfl rfl ⟨(Nat.le_of_ble_eq_true rfl), (Nat.le_of_ble_eq_true rfl)⟩ (Nat.le_of_ble_eq_true rfl) ⟨(Nat.le_of_ble_eq_true rfl), (Nat.le_of_ble_eq_true rfl)⟩ dX1_post_29 rfl (fun r M1 hr => ?_)
  obtain ⟨rfl, rfl⟩ := hr
  rw [ai_UU]
  refine y_aastoreP B ((ai_U_n hnf).trans hI.2.1) ai_U_s (vp_in_nI hp (by decide)) dX1_post_32 ?_
  rw [nI_clamp (by omega)]
  exact y_vret B dX1_post_33 (Nat.le_of_ble_eq_true rfl) (Nat.le_of_ble_eq_true rfl) (⟨rfl, q, hq, rfl⟩)
/-- the nodes of a range's pieces, from b on -/
def ai_nd : Nat → Nat → Nat → List Nat
  | 0, _, _ => []
  | n + 1, b, h => if b ≤ h then ((64 + b) / 2 ^ ai_lv b h) :: ai_nd n (b + 2 ^ ai_lv b h) h else []
def ai_pcs (lo hi : Nat) : List Nat := ai_nd 64 lo hi
/-- products entered at the places of nodes of a name -/
def ai_en (nm pr : Nat) : List Nat → (Nat → List Nat) → Nat → List Nat
  | [], pst => pst
  | x :: l, pst => ai_en nm pr l (va_up pst (nm * 128 + x) (pr :: pst (nm * 128 + x)))
theorem ai_node_lt : ∀ b, b < 64 → ∀ l, l < 7 → (64 + b) / 2 ^ l < 128 := by decide +kernel
theorem ai_s32 : ∀ n, n < 7 → ((nI n &&& 31).toBitVec.smod 32).toNat = n := by decide +kernel
theorem ai_shl1 {n : Nat} (h : n < 7) : nI 1 <<< (nI n &&& 31) = nI (2 ^ n) := by
  have := pk_shlN (n := 1) (nI n &&& 31) n (ai_s32 n h) (by rcases (show n = 0 ∨ n = 1 ∨ n = 2 ∨ n = 3 ∨ n = 4 ∨ n = 5 ∨ n = 6 by omega) with rfl | rfl | rfl | rfl | rfl | rfl | rfl <;> decide)
  rw [this, Nat.one_mul]
set_option maxHeartbeats 4000000 in
set_option maxRecDepth 100000 in
theorem k_X1_enter (l : Launch) (G : ai_G) (M : ai_M) {a fa : Nat} {pst : Nat → List Nat} {fi : Nat → Option Nat} (hI : ai_Ix G M pst a fa fi) {pr nm lo hi : Nat} (hn : nm < 6) (hlo : lo < 64) (hhi : hi < 64) : ai_C l yX1_enter wsX1_enter ({ frames := 3, cells := 64, slots := 128, locals := 56 } : Room) 64 128 G M [.ref a, .ref pr, .int (nI nm), .int (nI lo), .int (nI hi)] (fun r M1 => r = none ∧ (∃ fi1, ai_Ix G M1 (ai_en nm pr (ai_pcs lo hi) pst) a fa fi1) ∧ ∀ (b g : Nat) (e : va_E), M b = some (g, e) → b ≠ fa → M1 b = some (g, e)) := by
  refine y_start (by decide +kernel) rfl (Nat.le_of_ble_eq_true rfl) (Nat.le_of_ble_eq_true rfl) (fun x hx => by simp only [List.mem_cons, List.not_mem_nil, or_false] at hx; rcases hx with rfl | rfl | rfl | rfl | rfl <;> rfl) ?_
  intro p e s m below meth c B hnm
  have lp : ∀ (d : Nat) (i b : Nat) (Mi : ai_M) (psi : Nat → List Nat) (fii : Nat → Option Nat) (x7 : Option Value), (64 < i + d) → (i ≤ 64) → (b ≤ 64) → (i ≤ b) → (ai_Ix G Mi psi a fa fii) → (ai_en nm pr (ai_pcs lo hi) pst = ai_en nm pr (ai_nd (64 - i) b hi) psi) → (∀ (b g : Nat) (e : va_E), M b = some (g, e) → b ≠ fa → Mi b = some (g, e)) → ai_Y p l e ({ frames := 3, cells := 64, slots := 128, locals := 56 } : Room) s m [.ref a, .ref pr, .int (nI nm), .int (nI lo), .int (nI hi)].toArray below meth c G (MQ below (ai_Q G (fun r M1 => r = none ∧ (∃ fi1, ai_Ix G M1 (ai_en nm pr (ai_pcs lo hi) pst) a fa fi1) ∧ ∀ (b g : Nat) (e : va_E), M b = some (g, e) → b ≠ fa → M1 b = some (g, e))) [.ref a, .ref pr, .int (nI nm), .int (nI lo), .int (nI hi)].toArray s 64 128 (ai_A G)) Mi (i) (2 * i) [some (.ref a), some (.ref pr), some (.int (nI nm)), some (.int (nI lo)), some (.int (nI hi)), some (.int (nI b)), some (.int (nI i)), x7] 6 [] := by
    intro d
    induction d with
    | zero => intros; omega
    | succ d ih =>
      intro i b Mi psi fii x7 hm hi9 hb9 hib hI he hk
      refine y_iload B dX1_enter_6 rfl ?_
      refine y_bipush B (nI 64) dX1_enter_8 (by decide +kernel) ?_
      refine y_icmp_ge B 63 dX1_enter_10 (by decide) (fun c10 => ?_) (fun c10 => ?_)
      · have q10 : i = 64 := Nat.le_antisymm hi9 ((nI_leI (by omega) (by omega)).mp c10)
        exact y_vret B dX1_enter_63 (by omega) (by omega) ⟨rfl, ⟨fii, by rw [he, q10]; exact hI⟩, hk⟩
      · have q10 : i < 64 := Nat.lt_of_not_le (fun z => c10 ((nI_leI (by omega) (by omega)).mpr z))
        obtain ⟨n, hn9⟩ : ∃ n, 64 - i = n + 1 := ⟨63 - i, by omega⟩
        refine y_iload B dX1_enter_13 rfl ?_
        refine y_iload B dX1_enter_15 rfl ?_
        refine y_icmp_gt B 63 dX1_enter_17 (by decide) (fun c17 => ?_) (fun c17 => ?_)
        · have q17 : hi < b := (nI_ltI (by omega) (by omega)).mp c17
          exact y_vret B dX1_enter_63 (by omega) (by omega) ⟨rfl, ⟨fii, by rw [he, hn9]; unfold ai_nd; rw [if_neg (by omega)]; exact hI⟩, hk⟩
        · have q17 : b ≤ hi := Nat.le_of_not_lt (fun z => c17 ((nI_ltI (by omega) (by omega)).mpr z))
          obtain ⟨l1, l2, l3⟩ := ai_lv_le b (by omega) hi hhi q17
          have l4 := ai_node_lt b (by omega) (ai_lv b hi) (by omega)
          refine y_iload B dX1_enter_20 rfl ?_
          refine y_iload B dX1_enter_22 rfl ?_
          refine y_callSN B 2 (host := "AlertIndex") _ _ (k_X6_levelOfPiece l G _ (by omega) hhi) ggX1_enter_X6_levelOfPiece B.2.2.2.2.2.2.2.2.1.1.2.2.2.2.1 (by decide +kernel) (by decide +kernel) (by decide +kernel) rfl rfl rfl rfl ⟨(Nat.le_of_ble_eq_true rfl), (Nat.le_of_ble_eq_true rfl)⟩ (Nat.le_of_ble_eq_true rfl) ⟨by show i + 0 ≤ 64; omega, by show 2 * i + 0 ≤ 128; omega⟩ dX1_enter_24 rfl (fun r M1 hr => ?_)
          obtain ⟨rfl, e9⟩ := hr
          obtain rfl := e9.symm
          refine y_istore B dX1_enter_27 (Nat.le_of_ble_eq_true rfl) ?_
          refine y_aload_n B dX1_enter_29 rfl ?_
          refine y_aload_n B dX1_enter_30 rfl ?_
          refine y_iload_n B dX1_enter_31 rfl ?_
          refine y_sipush B (nI 128) dX1_enter_32 (by decide +kernel) ?_
          refine y_imul B (nI (nm * 128)) dX1_enter_35 (pk_mul _ _) ?_
          refine y_bipush B (nI 64) dX1_enter_36 (by decide +kernel) ?_
          refine y_iload B dX1_enter_38 rfl ?_
          refine y_iadd B (nI (64 + b)) dX1_enter_40 (nI_add _ _) ?_
          refine y_iload B dX1_enter_41 rfl ?_
          refine y_ishr B (nI ((64 + b) / 2 ^ ai_lv b hi)) dX1_enter_43 (pk_shrN (by omega) _ _ (ai_s32 _ (by omega))) ?_
          refine y_iadd B (nI (nm * 128 + (64 + b) / 2 ^ ai_lv b hi)) dX1_enter_44 (nI_add _ _) ?_
          refine y_callV B 2 (q := (RX1, TX1, 1)) _ _ (k_X1_post l G _ hI (p9 := nm * 128 + (64 + b) / 2 ^ ai_lv b hi) (pr := pr) (by omega)) hI.1 rfl gX1_enter_X1_post (by decide +kernel) rfl rfl rfl rfl ⟨(Nat.le_of_ble_eq_true rfl), (Nat.le_of_ble_eq_true rfl)⟩ (Nat.le_of_ble_eq_true rfl) ⟨by show i + 1 ≤ 64; omega, by show 2 * i + 2 ≤ 128; omega⟩ dX1_enter_45 rfl (fun r M1 hr => ?_)
          obtain ⟨rfl, q, hq, rfl⟩ := hr
          refine y_iload B dX1_enter_48 rfl ?_
          refine y_iconst B (nI 1) dX1_enter_50 (by decide +kernel) ?_
          refine y_iload B dX1_enter_51 rfl ?_
          refine y_ishl B (nI (2 ^ ai_lv b hi)) dX1_enter_53 (ai_shl1 (by omega)) ?_
          refine y_iadd B (nI (b + 2 ^ ai_lv b hi)) dX1_enter_54 (nI_add _ _) ?_
          refine y_istore B dX1_enter_55 (Nat.le_of_ble_eq_true rfl) ?_
          refine y_iinc B (nI (i + 1)) dX1_enter_57 rfl (nI_1 i) ?_
          refine y_goto B 6 dX1_enter_60 (by decide) ?_
          have hp2 : 1 ≤ 2 ^ ai_lv b hi := Nat.one_le_two_pow
          have hnf : fa ≠ q := fun z => by have y := hI.2.1; rw [z, hq] at y; cases y
          have hna : a ≠ fa := ai_ne hI.1 hI.2.1 (by decide)
          refine ih (i + 1) (b + 2 ^ ai_lv b hi) _ (va_up psi (nm * 128 + (64 + b) / 2 ^ ai_lv b hi) (pr :: psi (nm * 128 + (64 + b) / 2 ^ ai_lv b hi))) _ _ (by omega) (by omega) (by omega) (by omega) ⟨(ai_U_n hna).trans (ai_U_f hq hI.1), ai_U_s, fun pl hpl => ?_⟩ ?_ (fun b9 g e hb hne => (ai_U_n hne).trans (ai_U_f hq (hk b9 g e hb hne)))
          · have keep : ∀ {l : List Nat} {r : Option Nat}, ai_ch Mi l r → ai_ch (ai_U (ai_U Mi q 108 (.inr (3, [.ref pr, va_rf (fii (nm * 128 + (64 + b) / 2 ^ ai_lv b hi))]))) fa 107 (ai_eP G 768 (va_up fii (nm * 128 + (64 + b) / 2 ^ ai_lv b hi) (some q)))) l r := fun h => h.keep (fun b9 e hb => (ai_U_n (ai_ne hb hI.2.1 (by decide))).trans (ai_U_f hq hb))
            by_cases hz : pl = nm * 128 + (64 + b) / 2 ^ ai_lv b hi
            · rw [hz, va_up, if_pos rfl, va_up, if_pos rfl]
              exact ⟨q, _, rfl, (ai_U_n (fun z => hnf z.symm)).trans ai_U_s, keep (hI.2.2 _ (by omega))⟩
            · rw [va_up, if_neg hz, va_up, if_neg hz]
              exact keep (hI.2.2 pl hpl)
          · rw [he, hn9, show 64 - (i + 1) = n by omega]
            conv => lhs; rw [show ai_nd (n + 1) b hi = ((64 + b) / 2 ^ ai_lv b hi) :: ai_nd n (b + 2 ^ ai_lv b hi) hi from by conv => lhs; unfold ai_nd; rw [if_pos q17]]
            rfl
  refine y_iload_n B dX1_enter_0 rfl ?_
  refine y_istore B dX1_enter_1 (Nat.le_of_ble_eq_true rfl) ?_
  refine y_iconst B (nI 0) dX1_enter_3 (by decide +kernel) ?_
  refine y_istore B dX1_enter_4 (Nat.le_of_ble_eq_true rfl) ?_
  exact lp 65 0 lo M pst fi none (by omega) (by omega) (by omega) (by omega) hI rfl (fun b g e h _ => h)
/-- the sum of f over a node and those above it -/
def ai_ups : Nat → (Nat → Nat) → Nat → Nat
  | 0, _, _ => 0
  | n + 1, f, x => if x = 0 then 0 else f x + ai_ups n f (x / 2)
theorem ai_ht_eq {M : ai_M} {a g : Nat} {x y : Value} {v v' : Int32} (h : M a = some (g, .inr (4, [x, y, .int v]))) (h2 : ai_ht M a v') : v = v' := by
  obtain ⟨_, _, _, h3⟩ := h2
  rw [h] at h3
  cases h3
  rfl
section AIQ
variable {p : Program} {l : Launch} {e : Env} {R : Room} {s : State} {m : MethodId} {args : Array Value} {below : List Frame} {meth : Method} {c : Code} {G : ai_G} {Q : State → Prop} {M : ai_M} {cells slots : Nat} {L : List (Option Value)} {pc : Nat} {st : List Value} {cc : ByteArray} {nL : Nat} {ws : List Cond} {own : String} {ret : Option FieldType}
theorem ai_astoreQ (B : ai_B p l e R s m args below meth c G cc nL ws own ret) {i : Nat} {r : Option Nat} (hd : decode cc pc = .ok (.astore i, 2)) (hi : i < L.length) (k : ai_Y p l e R s m args below meth c G Q M cells slots (L.set i (some (va_rf r))) (pc + 2) st) : ai_Y p l e R s m args below meth c G Q M cells slots L pc (va_rf r :: st) := by
  cases r with
  | none => exact y_astoreN B hd hi k
  | some r => exact y_astore B hd hi k
end AIQ
set_option maxHeartbeats 4000000 in
set_option maxRecDepth 100000 in
theorem k_X1_hitAbove (l : Launch) (G : ai_G) (M : ai_M) {a fa : Nat} {pst : Nat → List Nat} {fi : Nat → Option Nat} (hI : ai_Ix G M pst a fa fi) {tr lf : Nat} (ht : tr + 128 ≤ 768) (hl : lf < 128) (hp : ∀ pl, pl < 768 → ∀ b ∈ pst pl, ∃ v, ai_ht M b v) : ai_C l yX1_hitAbove wsX1_hitAbove ({ frames := 1, cells := 0, slots := 0, locals := 21 } : Room) 0 0 G M [.ref a, .int (nI tr), .int (nI lf)] (fun r M1 => r = none ∧ ai_hk M M1 ∧ ∀ b h, ai_ht M b (nI h) → ai_ht M1 b (nI (h + ai_ups 7 (fun x => (pst (tr + x)).count b) lf))) := by
  refine y_start (by decide +kernel) rfl (Nat.le_of_ble_eq_true rfl) (Nat.le_of_ble_eq_true rfl) (fun x hx => by simp only [List.mem_cons, List.not_mem_nil, or_false] at hx; rcases hx with rfl | rfl | rfl <;> rfl) ?_
  intro p e s m below meth c B hnm
  have inner : ∀ (lst : List Nat) (nd : Nat) (Mi : ai_M) (r : Option Nat), ai_ch Mi lst r → (∀ b ∈ lst, ∃ v, ai_ht Mi b v) → (∀ (Mj : ai_M) (x4 : Option Value), ai_hk Mi Mj → (∀ b h, ai_ht Mi b (nI h) → ai_ht Mj b (nI (h + lst.count b))) → ai_Y p l e ({ frames := 1, cells := 0, slots := 0, locals := 21 } : Room) s m [.ref a, .int (nI tr), .int (nI lf)].toArray below meth c G (MQ below (ai_Q G (fun r M1 => r = none ∧ ai_hk M M1 ∧ ∀ b h, ai_ht M b (nI h) → ai_ht M1 b (nI (h + ai_ups 7 (fun x => (pst (tr + x)).count b) lf)))) [.ref a, .int (nI tr), .int (nI lf)].toArray s 0 0 (ai_A G)) Mj 0 0 [some (.ref a), some (.int (nI tr)), some (.int (nI lf)), some (.int (nI nd)), x4] 44 []) → ai_Y p l e ({ frames := 1, cells := 0, slots := 0, locals := 21 } : Room) s m [.ref a, .int (nI tr), .int (nI lf)].toArray below meth c G (MQ below (ai_Q G (fun r M1 => r = none ∧ ai_hk M M1 ∧ ∀ b h, ai_ht M b (nI h) → ai_ht M1 b (nI (h + ai_ups 7 (fun x => (pst (tr + x)).count b) lf)))) [.ref a, .int (nI tr), .int (nI lf)].toArray s 0 0 (ai_A G)) Mi 0 0 [some (.ref a), some (.int (nI tr)), some (.int (nI lf)), some (.int (nI nd)), some (va_rf r)] 15 [] := by
    intro lst
    induction lst with
    | nil =>
      intro nd Mi r hc hv kk
      obtain rfl : r = none := hc
      refine y_aloadN B dX1_hitAbove_15 rfl ?_
      refine y_ifnullN B 44 dX1_hitAbove_17 (by decide) ?_
      exact kk Mi _ ai_hk.rf (fun b h z => z)
    | cons b0 lst ih =>
      intro nd Mi r hc hv kk
      obtain ⟨n, nx, rfl, hN, hc2⟩ := hc
      obtain ⟨v0, hv0⟩ := hv b0 List.mem_cons_self
      obtain ⟨g0, x0, y0, h0⟩ := id hv0
      refine y_aload B dX1_hitAbove_15 rfl ?_
      refine y_ifnull B dX1_hitAbove_17 ?_
      refine y_aload B dX1_hitAbove_20 rfl ?_
      refine y_get B (ref := "AlertIndex$Posting") (ci := 3) (C := RX2) (T := TX2) (N := 2) hN rfl i_X1_hitAbove_X2 0 (by decide) (by decide +kernel) (fun _ h9 => h9) rfl dX1_hitAbove_22 ?_
      refine y_dup B dX1_hitAbove_25 rfl ?_
      refine y_get B (ref := "AlertIndex$Product") (ci := 4) (C := RX3) (T := TX3) (N := 3) h0 rfl i_X1_hitAbove_X3 2 (by decide) (by decide +kernel) (fun _ h9 => h9) rfl dX1_hitAbove_26 ?_
      refine y_iconst B (nI 1) dX1_hitAbove_29 (by decide +kernel) ?_
      refine y_iadd B (v0 + nI 1) dX1_hitAbove_30 (rfl) ?_
      refine y_put B (ref := "AlertIndex$Product") (ci := 4) (C := RX3) (T := TX3) (N := 3) (ty := .int) h0 rfl i_X1_hitAbove_X3 tyX3 tyX3_ok nmX3 2 (by decide) (by decide +kernel) (fun _ h9 => h9) rfl (by decide +kernel) rfl rfl (Nat.le_of_ble_eq_true rfl) dX1_hitAbove_31 ?_
      have hk1 : ai_hk Mi (ai_U Mi b0 g0 (.inr (4, [x0, y0, .int (v0 + nI 1)]))) := ai_hk.one h0
      have hN2 := hk1.inr hN (by decide)
      refine y_aload B dX1_hitAbove_34 rfl ?_
      refine y_get B (ref := "AlertIndex$Posting") (ci := 3) (C := RX2) (T := TX2) (N := 2) hN2 rfl i_X1_hitAbove_X2 1 (by decide) (by decide +kernel) (fun _ h9 => h9) rfl dX1_hitAbove_36 ?_
      refine ai_astoreQ B dX1_hitAbove_39 (Nat.le_of_ble_eq_true rfl) ?_
      refine y_goto B 15 dX1_hitAbove_41 (by decide) ?_
      refine ih nd _ nx (hc2.hk hk1) (fun b hb => ?_) (fun Mj x4 hkj hj => kk Mj x4 (hk1.tr hkj) (fun b h hb => ?_))
      · obtain ⟨v, g, x, y, z⟩ := hv b (List.mem_cons_of_mem _ hb)
        by_cases e : b = b0
        · exact ⟨_, _, _, _, by rw [e]; exact ai_U_s⟩
        · exact ⟨v, g, x, y, (ai_U_n e).trans z⟩
      · rw [List.count_cons]
        by_cases e : b = b0
        · subst e
          have ev : v0 = nI h := ai_ht_eq h0 hb
          rw [show (b == b) = true from beq_self_eq_true b, if_pos rfl, show h + (lst.count b + 1) = (h + 1) + lst.count b by omega]
          exact hj b (h + 1) ⟨g0, x0, y0, by rw [ai_U_s, ev, nI_add]; rfl⟩
        · rw [show (b0 == b) = false from beq_eq_false_iff_ne.mpr (fun z => e z.symm), if_neg (by decide)]
          exact hj b h (hb.u e)
  have lp : ∀ (d nd : Nat) (Mi : ai_M) (x4 : Option Value), nd < 2 ^ d → d ≤ 7 → ai_hk M Mi → (∀ b h, ai_ht M b (nI h) → ∃ h2, ai_ht Mi b (nI h2) ∧ h2 + ai_ups d (fun x => (pst (tr + x)).count b) nd = h + ai_ups 7 (fun x => (pst (tr + x)).count b) lf) → ai_Y p l e ({ frames := 1, cells := 0, slots := 0, locals := 21 } : Room) s m [.ref a, .int (nI tr), .int (nI lf)].toArray below meth c G (MQ below (ai_Q G (fun r M1 => r = none ∧ ai_hk M M1 ∧ ∀ b h, ai_ht M b (nI h) → ai_ht M1 b (nI (h + ai_ups 7 (fun x => (pst (tr + x)).count b) lf)))) [.ref a, .int (nI tr), .int (nI lf)].toArray s 0 0 (ai_A G)) Mi 0 0 [some (.ref a), some (.int (nI tr)), some (.int (nI lf)), some (.int (nI nd)), x4] 2 [] := by
    intro d
    induction d with
    | zero =>
      intro nd Mi x4 hnd hd hk hs
      obtain rfl : nd = 0 := by simpa using hnd
      refine y_iload_n B dX1_hitAbove_2 rfl ?_
      refine y_if_le B 51 dX1_hitAbove_3 (by decide) (fun c3 => ?_) (fun c3 => absurd (by decide) c3)
      exact y_vret B dX1_hitAbove_51 (Nat.le_of_ble_eq_true rfl) (Nat.le_of_ble_eq_true rfl) (⟨rfl, hk, fun b h hb => by obtain ⟨h2, z1, z2⟩ := hs b h hb; rw [← z2]; exact z1⟩)
    | succ d ih =>
      intro nd Mi x4 hnd hd hk hs
      have h27 : 2 ^ (d + 1) ≤ 128 := Nat.pow_le_pow_right (by decide) hd
      have hIi := hk.ix hI
      refine y_iload_n B dX1_hitAbove_2 rfl ?_
      refine y_if_le B 51 dX1_hitAbove_3 (by decide) (fun c3 => ?_) (fun c3 => ?_)
      · have q3 : nd = 0 := Nat.le_zero.mp ((nI_leI (b := 0) (by omega) (by omega)).mp c3)
        exact y_vret B dX1_hitAbove_51 (Nat.le_of_ble_eq_true rfl) (Nat.le_of_ble_eq_true rfl) (⟨rfl, hk, fun b h hb => by obtain ⟨h2, z1, z2⟩ := hs b h hb; rw [q3] at z2; rw [← z2]; exact z1⟩)
      · have q3 : nd ≠ 0 := fun z => c3 (by rw [z]; decide)
        refine y_aload_n B dX1_hitAbove_6 rfl ?_
        refine y_iload_n B dX1_hitAbove_7 rfl ?_
        refine y_iload_n B dX1_hitAbove_8 rfl ?_
        refine y_iadd B (nI (tr + nd)) dX1_hitAbove_9 (nI_add _ _) ?_
        refine y_callV B 1 (q := (RX1, TX1, 1)) _ _ (k_X1_firstAt l G _ hIi (p9 := tr + nd) (by omega)) hIi.1 rfl gX1_hitAbove_X1_firstAt (by decide +kernel) rfl rfl rfl rfl ⟨(Nat.le_of_ble_eq_true rfl), (Nat.le_of_ble_eq_true rfl)⟩ (Nat.le_of_ble_eq_true rfl) ⟨(Nat.le_of_ble_eq_true rfl), (Nat.le_of_ble_eq_true rfl)⟩ dX1_hitAbove_10 rfl (fun r M1 hr => ?_)
        obtain ⟨rfl, rfl⟩ := hr
        refine ai_astoreQ B dX1_hitAbove_13 (Nat.le_of_ble_eq_true rfl) ?_
        refine inner (pst (tr + nd)) nd _ _ (hIi.2.2 (tr + nd) (by omega)) (fun b hb => ?_) (fun Mj x5 hkj hj => ?_)
        · obtain ⟨v, g1, x1, y1, hv⟩ := hp (tr + nd) (by omega) b hb
          obtain ⟨e1, a1, c1⟩ := hk b _ _ hv
          rcases c1 with rfl | ⟨x, y, v1, v2, e2, rfl⟩
          · exact ⟨v, _, _, _, a1⟩
          · exact ⟨v2, _, _, _, a1⟩
        refine y_iload_n B dX1_hitAbove_44 rfl ?_
        refine y_iconst B (nI 1) dX1_hitAbove_45 (by decide +kernel) ?_
        refine y_ishr B (nI (nd / 2)) dX1_hitAbove_46 ((pk_shrN (by omega) (nI 1 &&& 31) 1 (by decide)).trans (by rw [Nat.pow_one])) ?_
        refine y_istore_n B dX1_hitAbove_47 (Nat.le_of_ble_eq_true rfl) ?_
        refine y_goto B 2 dX1_hitAbove_48 (by decide) ?_
        refine ih (nd / 2) _ _ (by omega) (by omega) (hk.tr hkj) (fun b h hb => ?_)
        obtain ⟨h2, z1, z2⟩ := hs b h hb
        refine ⟨_, hj b h2 z1, ?_⟩
        rw [← z2]
        conv => rhs; unfold ai_ups
        rw [if_neg q3]
        dsimp only
        omega
  refine y_iload_n B dX1_hitAbove_0 rfl ?_
  refine y_istore_n B dX1_hitAbove_1 (Nat.le_of_ble_eq_true rfl) ?_
  exact lp 7 lf M none (by omega) (by omega) ai_hk.rf (fun b h hb => ⟨h, hb, rfl⟩)
