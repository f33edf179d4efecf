/-! ===== sheets ===== -/
section P5
variable {σ : SG} {A : Nat → List Int32} {I : Nat → Nat → Int32} {fu : Nat}
theorem rd_oob {xs : List Int32} (i : Nat) {j : Nat} (x : Int32) (h : i ≠ j) : rd (xs.set j x) i = rd xs i := by
  unfold rd
  rw [List.getD_eq_getElem?_getD, List.getD_eq_getElem?_getD, List.getElem?_set]
  rw [if_neg (fun q => h q.symm)]
theorem n_sheet (x : Int32) : (∃ q, q < 4 ∧ x = nI q ∧ bI (0 ≤ x ∧ x ≤ 3) = 1) ∨ (¬ (0 ≤ x ∧ x ≤ 3)) := by
  rcases n_rng x (a := 0) (b := 3) (by omega) (by omega) with ⟨q, _, hq, rfl⟩ | h
  · exact Or.inl ⟨q, by omega, rfl, bI_t (n_rin (b := 3) (Nat.zero_le q) hq (by decide))⟩
  · exact Or.inr h
end P5

