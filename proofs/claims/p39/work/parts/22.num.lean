/-! ===== numbers ===== -/
def bI (p : Prop) [Decidable p] : Int32 := if p then 1 else 0
theorem bI_t {p : Prop} [Decidable p] (h : p) : bI p = 1 := if_pos h
theorem bI_f {p : Prop} [Decidable p] (h : ¬ p) : bI p = 0 := if_neg h
theorem bI_0 {p : Prop} [Decidable p] : (bI p = 0) = ¬ p := by
  by_cases h : p
  · rw [bI_t h]; simp [h]
  · rw [bI_f h]; simp [h]
theorem n_lt {a b : Nat} (ha : a < 2147483648) (hb : b < 2147483648) : (nI a < nI b) = (a < b) := propext (nI_ltI ha hb)
theorem n_le {a b : Nat} (ha : a < 2147483648) (hb : b < 2147483648) : (nI a ≤ nI b) = (a ≤ b) := propext (nI_leI ha hb)
theorem n_eq {a b : Nat} (ha : a < 2147483648) (hb : b < 2147483648) : (nI a = nI b) = (a = b) := propext (nI_eq ha hb)
theorem n_lit (k : Nat) : (OfNat.ofNat k : Int32) = nI k := rfl
theorem n_neg {a : Nat} (ha : a < 2147483648) : (nI a < 0) = False := propext ⟨fun h => nI_pos ha h, False.elim⟩
theorem n_m9 {a : Nat} (ha : a < 2147483648) : (nI a = -9) = False := propext ⟨fun h => nI_pos ha (by rw [h]; decide), False.elim⟩
/-- a number within, or not -/
theorem n_in (x : Int32) {n : Nat} (hn : n < 2147483648) : (∃ j, j < n ∧ x = nI j) ∨ ¬ (0 ≤ x ∧ x < nI n) := by
  by_cases h : 0 ≤ x ∧ x < nI n
  · obtain ⟨j, hj, rfl⟩ := nI_of (Int32.not_lt.mpr h.1)
    exact Or.inl ⟨j, (nI_ltI hj hn).mp h.2, rfl⟩
  · exact Or.inr h
theorem n_win {j n : Nat} (hj : j < n) (hn : n < 2147483648) : 0 ≤ nI j ∧ nI j < nI n := ⟨nI_pos' (by omega), nI_lt hj hn⟩
/-! rows -/
theorem rd_set {xs : List Int32} {j : Nat} (i : Nat) (x : Int32) (h : j < xs.length) : rd (xs.set j x) i = if i = j then x else rd xs i := by
  unfold rd
  rw [List.getD_eq_getElem?_getD, List.getElem?_set]
  by_cases hi : j = i
  · subst hi; simp [h]
  · have hi' : ¬ i = j := fun q => hi q.symm
    simp [hi, hi', List.getD_eq_getElem?_getD]
theorem uA_s (A : Nat → List Int32) (k : Nat) (xs : List Int32) : uA A k xs k = xs := if_pos rfl
theorem uA_n (A : Nat → List Int32) (k : Nat) (xs : List Int32) {j : Nat} (h : j ≠ k) : uA A k xs j = A j := if_neg h
/-! bits of a set of cells -/
def bits (p : Nat → Bool) : Nat → Nat
  | 0 => 0
  | n + 1 => bits p n + (if p n then 2 ^ n else 0)
theorem bits_lt (p : Nat → Bool) : ∀ n, bits p n < 2 ^ n := by
  intro n
  induction n with
  | zero => exact Nat.one_pos
  | succ n ih =>
    unfold bits
    rw [Nat.pow_succ]
    split <;> omega
theorem bits_congr {p q : Nat → Bool} : ∀ n, (∀ i, i < n → p i = q i) → bits p n = bits q n := by
  intro n
  induction n with
  | zero => intro _; rfl
  | succ n ih =>
    intro h
    unfold bits
    rw [ih (fun i hi => h i (by omega)), h n (by omega)]
theorem bits_test (p : Nat → Bool) : ∀ n i, (bits p n).testBit i = (decide (i < n) && p i) := by
  intro n
  induction n with
  | zero => intro i; simp [bits]
  | succ n ih =>
    intro i
    unfold bits
    have hlt := bits_lt p n
    by_cases hp : p n = true
    · rw [if_pos hp, Nat.add_comm]
      by_cases hi : i = n
      · subst hi
        rw [Nat.testBit_two_pow_add_eq, ih]
        simp [hp]
      · rcases Nat.lt_or_gt_of_ne hi with hi | hi
        · rw [Nat.testBit_two_pow_add_gt hi, ih]
          have : i < n + 1 := by omega
          simp [hi, this]
        · have h1 : 2 ^ n + bits p n < 2 ^ i := by
            have : 2 ^ (n + 1) ≤ 2 ^ i := Nat.pow_le_pow_right (by omega) hi
            rw [Nat.pow_succ] at this
            omega
          rw [Nat.testBit_lt_two_pow h1]
          have : ¬ i < n + 1 := by omega
          simp [this]
    · rw [if_neg hp, Nat.add_zero, ih]
      by_cases hi : i = n
      · subst hi; simp [hp]
      · have : (i < n + 1) ↔ (i < n) := by omega
        simp [this]
theorem bits_ext {n a b : Nat} (ha : a < 2 ^ n) (hb : b < 2 ^ n) (h : ∀ i, i < n → a.testBit i = b.testBit i) : a = b := by
  apply Nat.eq_of_testBit_eq
  intro i
  by_cases hi : i < n
  · exact h i hi
  · rw [Nat.testBit_lt_two_pow (Nat.lt_of_lt_of_le ha (Nat.pow_le_pow_right (by omega) (by omega))), Nat.testBit_lt_two_pow (Nat.lt_of_lt_of_le hb (Nat.pow_le_pow_right (by omega) (by omega)))]
theorem bits_of {n a : Nat} (ha : a < 2 ^ n) : a = bits (fun i => a.testBit i) n :=
  bits_ext ha (bits_lt _ n) fun i hi => by rw [bits_test]; simp [hi]
/-! the machine's shifts over small numbers -/
theorem sh_and : ∀ n, n < 32 → ((nI n &&& 31).toBitVec.smod 32).toNat = n := by decide +kernel
theorem sh_r {a k : Nat} (ha : a < 2147483648) (hk : k < 31) : nI a >>> (nI k &&& 31) = nI (a / 2 ^ k) := pk_shrN ha _ k (sh_and k (by omega))
theorem sh_l {a k : Nat} (hk : k < 31) (h : a * 2 ^ k < 4294967296) : nI a <<< (nI k &&& 31) = nI (a * 2 ^ k) := pk_shlN _ k (sh_and k (by omega)) h
theorem sh_1 {k : Nat} (hk : k < 31) : (1 : Int32) <<< (nI k &&& 31) = nI (2 ^ k) := by
  have h := sh_l (a := 1) hk (by rw [Nat.one_mul]; exact Nat.lt_of_le_of_lt (Nat.pow_le_pow_right (by omega) (by omega : k ≤ 30)) (by decide))
  rw [Nat.one_mul] at h
  exact h
theorem n_and1 {a : Nat} (h : a < 4294967296) : nI a &&& 1 = nI (a % 2) := pk_andN h 1 rfl
theorem n_and (a b : Nat) : nI a &&& nI b = nI (a &&& b) := by
  unfold nI
  rw [← Int32.toBitVec_inj]
  simp [BitVec.ofNat_and]
theorem n_or (a b : Nat) : nI a ||| nI b = nI (a ||| b) := by
  unfold nI
  rw [← Int32.toBitVec_inj]
  simp [BitVec.ofNat_or]
theorem tb_div (a k : Nat) : a / 2 ^ k % 2 = (a.testBit k).toNat := by rw [Nat.testBit_eq_decide_div_mod_eq]; rcases Nat.mod_two_eq_zero_or_one (a / 2 ^ k) with h | h <;> simp [h]
/-- whether a set has a number -/
theorem has_n {a k : Nat} (ha : a < 2147483648) (hk : k < 31) : (nI a >>> (nI k &&& 31)) &&& 1 = bI (a.testBit k = true) := by
  rw [sh_r ha hk, n_and1 (Nat.lt_of_le_of_lt (Nat.div_le_self _ _) (by omega)), tb_div]
  cases a.testBit k <;> rfl
theorem bits_or (p : Nat → Bool) (n : Nat) : bits p n ||| 2 ^ n = bits p n + 2 ^ n := by
  have h := Nat.two_pow_add_eq_or_of_lt (bits_lt p n) 1
  rw [Nat.mul_one] at h
  rw [Nat.or_comm, ← h, Nat.add_comm]
