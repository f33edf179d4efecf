theorem n_xor (a b : Nat) : nI a ^^^ nI b = nI (a ^^^ b) := by
  unfold nI
  rw [← Int32.toBitVec_inj]
  simp [BitVec.ofNat_xor]
theorem bits_flip {p q : Nat → Bool} {n c : Nat} (hc : c < n) (hq : ∀ i, q i = if i = c then !p c else p i) : bits p n ^^^ 2 ^ c = bits q n := by
  refine bits_ext (n := n) ?_ (bits_lt q n) fun i hi => ?_
  · exact Nat.xor_lt_two_pow (bits_lt p n) (Nat.pow_lt_pow_right (by omega) hc)
  · rw [Nat.testBit_xor, bits_test, bits_test, Nat.testBit_two_pow, hq i]
    by_cases h : i = c
    · subst h; simp [hi]
    · have h' : ¬ c = i := fun q => h q.symm
      simp [hi, h, h']
section O3
variable {σ : SG} {A : Nat → List Int32} {I : Nat → Nat → Int32} {fu : Nat}
theorem rd_self {xs : List Int32} {j : Nat} (x : Int32) (h : j < xs.length) : rd (xs.set j x) j = x := by rw [rd_set _ _ h, if_pos rfl]
theorem rd_oth {xs : List Int32} {i j : Nat} (x : Int32) (h : j < xs.length) (hij : i ≠ j) : rd (xs.set j x) i = rd xs i := by rw [rd_set _ _ h, if_neg hij]
end O3

