/-! ===== THE STATE as numbers: S 0 = (thrown, minute, how many questions); rows 1 draft (a value + 1, 0 for none), 2 dropped, 3 products, 4 quiet times, 5 untils, 6 alerts, 7 batches, 8 tests (by 3 q + p), 9 names, 10 lows, 11 highs, 12 barred (by 4 (3 q + p) + t) ===== -/
abbrev ai_S : Type := Nat → Nat → Nat
def ai_b (x : Bool) : Int32 := if x then nI 1 else nI 0
def ai_nD (v : Nat) : Int32 := if v = 0 then -1 else nI (v - 1)
def ai_all : Nat → (Nat → Bool) → Bool
  | 0, _ => true
  | n + 1, p => ai_all n p && p n
def ai_any : Nat → (Nat → Bool) → Bool
  | 0, _ => false
  | n + 1, p => ai_any n p || p n
def ai_cn : Nat → (Nat → Bool) → Nat
  | 0, _ => 0
  | n + 1, p => ai_cn n p + if p n then 1 else 0
theorem ai_all_iff : ∀ (n : Nat) (p : Nat → Bool), ai_all n p = true ↔ ∀ i, i < n → p i = true
  | 0, p => ⟨fun _ i h => absurd h (Nat.not_lt_zero i), fun _ => rfl⟩
  | n + 1, p => by
    unfold ai_all
    rw [Bool.and_eq_true, ai_all_iff n p]
    exact ⟨fun h i hi => by rcases Nat.lt_succ_iff_lt_or_eq.mp hi with q | q; exact h.1 i q; rw [q]; exact h.2, fun h => ⟨fun i hi => h i (Nat.lt_succ_of_lt hi), h n (Nat.lt_succ_self n)⟩⟩
theorem ai_any_iff : ∀ (n : Nat) (p : Nat → Bool), ai_any n p = true ↔ ∃ i, i < n ∧ p i = true
  | 0, p => ⟨fun h => by simp [ai_any] at h, fun ⟨i, h, _⟩ => absurd h (Nat.not_lt_zero i)⟩
  | n + 1, p => by
    unfold ai_any
    rw [Bool.or_eq_true, ai_any_iff n p]
    constructor
    · rintro (⟨i, hi, h⟩ | h)
      · exact ⟨i, Nat.lt_succ_of_lt hi, h⟩
      · exact ⟨n, Nat.lt_succ_self n, h⟩
    · rintro ⟨i, hi, h⟩
      rcases Nat.lt_succ_iff_lt_or_eq.mp hi with q | q
      · exact Or.inl ⟨i, q, h⟩
      · exact Or.inr (by rw [← q]; exact h)
theorem ai_all_f {n i : Nat} {p : Nat → Bool} (hi : i < n) (h : p i = false) : ai_all n p = false := by
  cases e : ai_all n p with
  | false => rfl
  | true => rw [(ai_all_iff n p).mp e i hi] at h; cases h
theorem ai_any_t {n i : Nat} {p : Nat → Bool} (hi : i < n) (h : p i = true) : ai_any n p = true := (ai_any_iff n p).mpr ⟨i, hi, h⟩
theorem ai_any_f {n : Nat} {p : Nat → Bool} (h : ∀ i, i < n → p i = false) : ai_any n p = false := by
  cases e : ai_any n p with
  | false => rfl
  | true => obtain ⟨i, hi, q⟩ := (ai_any_iff n p).mp e; rw [h i hi] at q; cases q
theorem ai_cn_le : ∀ (n : Nat) (p : Nat → Bool), ai_cn n p ≤ n
  | 0, _ => Nat.le_refl _
  | n + 1, p => by
    have := ai_cn_le n p
    unfold ai_cn
    split <;> omega
theorem ai_cn_cong {p p' : Nat → Bool} : ∀ {n : Nat}, (∀ i, i < n → p i = p' i) → ai_cn n p = ai_cn n p'
  | 0, _ => rfl
  | n + 1, h => by
    unfold ai_cn
    rw [ai_cn_cong (fun i hi => h i (Nat.lt_succ_of_lt hi)), h n (Nat.lt_succ_self n)]
theorem ai_all_cong {p p' : Nat → Bool} : ∀ {n : Nat}, (∀ i, i < n → p i = p' i) → ai_all n p = ai_all n p'
  | 0, _ => rfl
  | n + 1, h => by
    unfold ai_all
    rw [ai_all_cong (fun i hi => h i (Nat.lt_succ_of_lt hi)), h n (Nat.lt_succ_self n)]
theorem ai_any_cong {p p' : Nat → Bool} : ∀ {n : Nat}, (∀ i, i < n → p i = p' i) → ai_any n p = ai_any n p'
  | 0, _ => rfl
  | n + 1, h => by
    unfold ai_any
    rw [ai_any_cong (fun i hi => h i (Nat.lt_succ_of_lt hi)), h n (Nat.lt_succ_self n)]
def ai_in (v lo hi : Nat) : Bool := decide (lo + 1 ≤ v) && decide (v ≤ hi + 1)
def ai_tt (v lo hi b : Nat) : Bool := ai_in v lo hi != decide (b = 1)
def ai_tk (S : ai_S) (k : Nat) : Bool := ai_tt (S 1 (S 9 k)) (S 10 k) (S 11 k) (S 12 k)
def ai_pt (S : ai_S) (j : Nat) : Bool := ai_all (S 8 j) (fun t => ai_tk S (4 * j + t))
def ai_qt (S : ai_S) (q : Nat) : Bool := ai_any (S 3 q) (fun p => ai_pt S (3 * q + p))
def ai_pn (S : ai_S) (j : Nat) : Nat := ai_cn (S 8 j) (fun t => decide (S 12 (4 * j + t) = 0))
def ai_mn (n : Nat) (f : Nat → Nat) : Nat := match n with
  | 0 => 4
  | n + 1 => Nat.min (ai_mn n f) (f n)
def ai_sz (S : ai_S) (q : Nat) : Nat := if S 3 q = 0 then 0 else ai_mn (S 3 q) (fun p => ai_pn S (3 * q + p))
theorem ai_mn_le : ∀ (n : Nat) (f : Nat → Nat), ai_mn n f ≤ 4
  | 0, _ => Nat.le_refl _
  | n + 1, f => Nat.le_trans (Nat.min_le_left _ _) (ai_mn_le n f)
theorem ai_mn_cong {f f' : Nat → Nat} : ∀ {n : Nat}, (∀ i, i < n → f i = f' i) → ai_mn n f = ai_mn n f'
  | 0, _ => rfl
  | n + 1, h => by
    unfold ai_mn
    rw [ai_mn_cong (fun i hi => h i (Nat.lt_succ_of_lt hi)), h n (Nat.lt_succ_self n)]
theorem ai_sz_le (S : ai_S) (q : Nat) : ai_sz S q ≤ 4 := by
  unfold ai_sz
  split
  · omega
  · exact ai_mn_le _ _
/-- the state with one number changed -/
def ai_u (S : ai_S) (k i v : Nat) : ai_S := fun a b => if a = k ∧ b = i then v else S a b
theorem ai_u_s {S : ai_S} {k i v : Nat} : ai_u S k i v k i = v := if_pos ⟨rfl, rfl⟩
theorem ai_u_k {S : ai_S} {k i v a b : Nat} (h : a ≠ k) : ai_u S k i v a b = S a b := if_neg (fun z => h z.1)
theorem ai_u_i {S : ai_S} {k i v a b : Nat} (h : b ≠ i) : ai_u S k i v a b = S a b := if_neg (fun z => h z.2)
theorem ai_u_row {S : ai_S} {k i v : Nat} : (fun b => ai_u S k i v k b) = va_up (S k) i v := by
  funext b
  unfold ai_u va_up
  by_cases h : b = i
  · rw [if_pos ⟨rfl, h⟩, if_pos h]
  · rw [if_neg (fun z => h z.2), if_neg h]
theorem ai_upd (g : Nat → Int32) (D : Nat → Nat) (a w : Nat) : upd (fun i => g (D i)) a (g w) = fun i => g (va_up D a w i) := by
  funext b
  unfold upd va_up
  by_cases h : b = a
  · rw [if_pos h, if_pos h]
  · rw [if_neg h, if_neg h]
/-- what is so at every call: o calls have been made -/
def ai_okT (S : ai_S) (k : Nat) : Prop := S 9 k < 6 ∧ S 10 k ≤ S 11 k ∧ S 11 k < 64 ∧ S 12 k ≤ 1
def ai_okP (S : ai_S) (j : Nat) : Prop := S 8 j ≤ 4 ∧ ∀ t, t < S 8 j → ai_okT S (4 * j + t)
def ai_okQ (S : ai_S) (o q : Nat) : Prop := S 2 q ≤ 1 ∧ S 3 q ≤ 3 ∧ S 4 q ≤ 1000 ∧ S 5 q ≤ S 0 1 + 1000 ∧ S 7 q ≤ o ∧ (S 2 q = 0 → S 7 q = 0 ∨ S 0 1 < S 5 q) ∧ ∀ p, p < S 3 q → ai_okP S (3 * q + p)
def ai_I (S : ai_S) (o : Nat) : Prop := S 0 1 ≤ 1000000 ∧ S 0 2 ≤ 20 ∧ (∀ i, i < 6 → S 1 i ≤ 64) ∧ ∀ q, q < S 0 2 → ai_okQ S o q
theorem ai_nD0 : ai_nD 0 = -1 := rfl
theorem ai_nDs (v : Nat) : ai_nD (v + 1) = nI v := rfl
theorem ai_nDz {v : Nat} (h : v ≤ 64) : ai_nD v = -1 ↔ v = 0 := by
  cases v with
  | zero => exact ⟨fun _ => rfl, fun _ => rfl⟩
  | succ v =>
    rw [ai_nDs]
    refine ⟨fun z => absurd ?_ (nI_pos (n := v) (by omega)), fun z => by omega⟩
    rw [z]; decide
theorem ai_bt (x : Bool) : ai_b x = nI 0 ↔ x = false := by cases x <;> decide
theorem ai_b0 (x : Bool) : ai_b x = 0 ↔ x = false := by cases x <;> decide
theorem ai_bn (x : Bool) : narrow .boolean (.int (ai_b x)) = .int (ai_b x) := by cases x <;> rfl
