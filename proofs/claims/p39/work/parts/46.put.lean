section P6
variable {σ : SG} {A : Nat → List Int32} {I : Nat → Nat → Int32} {fu : Nat}
theorem n_upto (x : Int32) {n : Nat} (hn : n < 2147483648) : (∃ j, j < n ∧ x = nI j ∧ 0 ≤ x ∧ x ≤ nI n - 1) ∨ ¬ (0 ≤ x ∧ x ≤ nI n - 1) := by
  cases n with
  | zero =>
    refine Or.inr fun z => ?_
    have := Int32.le_trans z.1 z.2
    exact absurd this (by decide)
  | succ k =>
    rw [n_sub1]
    rcases n_rng x (a := 0) (b := k) (by omega) (by omega) with ⟨j, _, hj, rfl⟩ | h
    · exact Or.inl ⟨j, by omega, rfl, n_rin (Nat.zero_le j) hj (by omega)⟩
    · exact Or.inr h
theorem n_60 (q j : Nat) : nI q * 60 + nI j = nI (60 * q + j) ∧ 60 * nI q + nI j = nI (60 * q + j) := by
  rw [show (60 : Int32) = nI 60 from rfl, pk_mul, pk_mul, nI_add, nI_add, Nat.mul_comm]
  exact ⟨rfl, rfl⟩
/-- what a cell of a sort keeps of a number -/
def cutI (t : Nat) (v : Int32) : Int32 := if t = 0 then Int8.toInt32 (Int32.toInt8 v) else if t = 1 then Int16.toInt32 (Int32.toInt16 v) else v
theorem c_cut (w : XW) {t : Nat} (ht : t ≤ 2) (v : Int32) : U_X4_cut fu [.int v, .int (nI t)] w = some (some (.int (cutI t v)), w) := by
  simp only [u_X4_cut, M_X4_cut, cutI]
  have e0 : (nI t = 0) = (t = 0) := nI_pe0 (by omega)
  have e1 : (nI t = 1) = (t = 1) := n_eq (by omega) (by decide)
  by_cases h0 : t = 0
  · rw [if_pos (by rw [e0]; exact h0), if_pos h0]
  · rw [if_neg (by rw [e0]; exact h0), if_neg h0]
    by_cases h1 : t = 1
    · rw [if_pos (by rw [e1]; exact h1), if_pos h1]
    · rw [if_neg (by rw [e1]; exact h1), if_neg h1]
end P6

