section O7
theorem bits_and (p q : Nat → Bool) (n : Nat) : bits p n &&& bits q n = bits (fun i => p i && q i) n := by
  refine bits_ext (n := n) (Nat.lt_of_le_of_lt Nat.and_le_left (bits_lt p n)) (bits_lt _ n) fun i hi => ?_
  rw [and_test, bits_test]
theorem bits_z {p : Nat → Bool} : ∀ n, (∀ i, i < n → p i = false) → bits p n = 0 := by
  intro n
  induction n with
  | zero => intro _; rfl
  | succ n ih => intro h; rw [bits_S _ _ (h n (by omega))]; exact ih (fun i hi => h i (by omega))
theorem n_or0 (a : Nat) : nI a ||| 0 = nI a := by
  rw [show (0 : Int32) = nI 0 from rfl, n_or, Nat.or_zero]
theorem bits_stepO (p : Nat → Bool) {c : Nat} (hc : c < 31) : (if p c = true then nI (bits p c) ||| (1 : Int32) <<< (nI c &&& 31) else nI (bits p c) ||| 0) = nI (bits p (c + 1)) := by
  rw [n_or0]
  exact bits_step p hc
variable {σ : SG} {A : Nat → List Int32} {I : Nat → Nat → Int32} {fu : Nat}
theorem X_more (σ : SG) (L : Nat → Nat) (v : Nat) {d d2 : Nat} (h : d ≤ d2) (x : X σ L v d) : X σ L v d2 := (X_rea σ L v d2).mpr (((X_rea σ L v d).mp x).more h)
theorem Sd_dry (σ : SG) {v c : Nat} (hc : c < σ 0 0) : Sd σ (σ 7) v (c + 1) = dryB σ v c := by
  unfold Sd dryB
  simp only [Nat.add_sub_cancel]
  refine decide_eq_decide.mpr ?_
  omega
end O7

