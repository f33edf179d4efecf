/-! ===== how many bits; fits ===== -/
def cnt (p : Nat → Bool) : Nat → Nat
  | 0 => 0
  | n + 1 => cnt p n + (if p n = true then 1 else 0)
theorem cnt_congr {p q : Nat → Bool} : ∀ n, (∀ i, i < n → p i = q i) → cnt p n = cnt q n := by
  intro n
  induction n with
  | zero => intro _; rfl
  | succ n ih => intro h; unfold cnt; rw [ih (fun i hi => h i (by omega)), h n (by omega)]
theorem cnt_le (p : Nat → Bool) : ∀ n, cnt p n ≤ n := by
  intro n
  induction n with
  | zero => exact Nat.le_refl _
  | succ n ih => unfold cnt; split <;> omega
theorem cnt_ext (p : Nat → Bool) (n : Nat) : ∀ m, cnt (fun i => decide (i < n) && p i) (n + m) = cnt p n := by
  intro m
  induction m with
  | zero => exact cnt_congr n fun i hi => by simp [hi]
  | succ m ih =>
    show cnt (fun i => decide (i < n) && p i) (n + m) + (if (decide (n + m < n) && p (n + m)) = true then 1 else 0) = _
    rw [ih]
    have h : ¬ n + m < n := by omega
    simp [h]
def pc (x : Nat) : Nat := cnt (fun i => x.testBit i) 7
theorem pc_bits (p : Nat → Bool) {n : Nat} (h : n ≤ 7) : pc (bits p n) = cnt p n := by
  unfold pc
  have e := cnt_ext p n (7 - n)
  rw [show n + (7 - n) = 7 by omega] at e
  rw [← e]
  exact cnt_congr 7 fun i _ => bits_test p n i
def bcI (a : Int32) : Int32 := match M_J6_bitCount_0f7a4 0 a [] with
  | some (some (.int y), _) => y
  | _ => 0
theorem bc_eq (fu : Nat) (a : Int32) (w : XW) : U_J6_bitCount_0f7a4 fu [.int a] w = some (some (.int (bcI a)), w) := rfl
theorem bc_small : ∀ x, x < 128 → bcI (nI x) = nI (pc x) := by decide +kernel
theorem c_bitCount (fu : Nat) (w : XW) {x : Nat} (h : x < 128) : U_J6_bitCount_0f7a4 fu [.int (nI x)] w = some (some (.int (nI (pc x))), w) := by rw [bc_eq, bc_small x h]
theorem n_all (x : Int32) : ∃ k, k < 4294967296 ∧ x = nI k := by
  refine ⟨x.toBitVec.toNat, x.toBitVec.isLt, ?_⟩
  unfold nI
  rw [← Int32.toBitVec_inj]
  simp
theorem n_z {y : Nat} (hy : y < 4294967296) (h : nI y = 0) : y = 0 := by
  have := congrArg (fun z => z.toBitVec.toNat) h
  unfold nI at this
  simp at this
  omega
theorem n_msk : ∀ n, n < 8 → (-1 : Int32) <<< (nI n &&& 31) = nI (2 ^ 32 - (2 ^ n - 1 + 1)) := by decide +kernel
theorem fits_in (x : Int32) {n : Nat} (hn : n ≤ 7) : (∃ j, j < 2 ^ n ∧ x = nI j ∧ x &&& ((-1 : Int32) <<< (nI n &&& 31)) = 0) ∨ (¬ (0 ≤ x ∧ x < nI (2 ^ n)) ∧ ¬ x &&& ((-1 : Int32) <<< (nI n &&& 31)) = 0) := by
  obtain ⟨k, hk, rfl⟩ := n_all x
  rw [n_msk n (by omega), n_and]
  have hpos : 0 < 2 ^ n := Nat.pos_of_ne_zero (by simp)
  have hp7 : 2 ^ n ≤ 128 := Nat.pow_le_pow_right (n := 2) (by omega) hn
  have tb : ∀ i, (2 ^ 32 - (2 ^ n - 1 + 1)).testBit i = (decide (i < 32) && !decide (i < n)) := fun i => by
    rw [Nat.testBit_two_pow_sub_succ (by omega), Nat.testBit_two_pow_sub_one]
  by_cases h : k < 2 ^ n
  · refine Or.inl ⟨k, h, rfl, ?_⟩
    have : k &&& (2 ^ 32 - (2 ^ n - 1 + 1)) = 0 := by
      apply Nat.eq_of_testBit_eq
      intro i
      rw [Nat.testBit_and, tb, Nat.zero_testBit]
      by_cases q : i < n
      · simp [q]
      · rw [Nat.testBit_lt_two_pow (Nat.lt_of_lt_of_le h (Nat.pow_le_pow_right (by omega) (by omega)))]
        rfl
    rw [this]
    rfl
  · have hz : ¬ nI (k &&& (2 ^ 32 - (2 ^ n - 1 + 1))) = 0 := by
      intro z
      have z0 := n_z (Nat.lt_of_le_of_lt Nat.and_le_left hk) z
      apply h
      apply Nat.lt_pow_two_of_testBit
      intro i hi
      have := congrArg (fun y => y.testBit i) z0
      simp only [Nat.testBit_and, tb, Nat.zero_testBit] at this
      by_cases q : i < 32
      · have q2 : ¬ i < n := by omega
        simpa [q, q2] using this
      · exact Nat.testBit_lt_two_pow (Nat.lt_of_lt_of_le (show k < 2 ^ 32 from hk) (Nat.pow_le_pow_right (n := 2) (by omega) (by omega)))
    refine Or.inr ⟨?_, hz⟩
    rintro ⟨a, b⟩
    rcases n_in (nI k) (n := 2 ^ n) (by omega) with ⟨j, hj, e⟩ | q
    · have := congrArg (fun z => z.toBitVec.toNat) e
      unfold nI at this
      simp at this
      omega
    · exact q ⟨a, b⟩
section O9
variable {σ : SG} {A : Nat → List Int32} {I : Nat → Nat → Int32} {fu : Nat}
end O9

