theorem n_rng (x : Int32) {a b : Nat} (ha : a < 2147483648) (hb : b < 2147483648) : (∃ j, a ≤ j ∧ j ≤ b ∧ x = nI j) ∨ ¬ (nI a ≤ x ∧ x ≤ nI b) := by
  by_cases h : nI a ≤ x ∧ x ≤ nI b
  · have hx : ¬ x < 0 := Int32.not_lt.mpr (Int32.le_trans (nI_pos' ha) h.1)
    obtain ⟨j, hj, rfl⟩ := nI_of hx
    exact Or.inl ⟨j, (nI_leI ha hj).mp h.1, (nI_leI hj hb).mp h.2, rfl⟩
  · exact Or.inr h
theorem n_rin {j a b : Nat} (h1 : a ≤ j) (h2 : j ≤ b) (hb : b < 2147483648) : nI a ≤ nI j ∧ nI j ≤ nI b := ⟨nI_le h1 (by omega), nI_le h2 (by omega)⟩
section O2
variable {σ : SG} {A : Nat → List Int32} {I : Nat → Nat → Int32} {fu : Nat}
theorem RR.n0 (r : RR σ A I) : σ 0 0 = 0 ∨ 3 ≤ σ 0 0 := r.1.1
theorem uI_uI (I : Nat → Nat → Int32) (a j : Nat) (x y : Int32) : uI (uI I a j x) a j y = uI I a j y := by
  funext b i
  unfold uI
  split <;> rfl
theorem c_failBy (x : Int32) : U_X7_failBy fu [.ref 1, .int x] (enc A I) = some (some (.int (-10 - x)), enc A (uI I 1 7 x)) := by
  simp only [u_X7_failBy, M_X7_failBy, io_1, gr_1_0, gr_1_1, gr_1_2, gr_1_3, gr_1_4, gr_1_5, gi_1_6, pf_1_6, gi_1_7, pf_1_7, io_2, gr_2_0, gr_2_1, gr_2_2, gr_2_3, gr_2_4, gr_2_5, gr_2_6, gr_2_7, gi_2_8, pf_2_8, gi_2_9, pf_2_9, gi_2_10, pf_2_10, gi_2_11, pf_2_11, gi_2_12, pf_2_12, gi_2_13, pf_2_13, gi_2_14, pf_2_14, io_11, gr_11_0, gr_11_1, gr_11_2, io_15, gr_15_0, gr_15_1, gi_15_2, pf_15_2, gi_15_3, pf_15_3, gi_15_4, pf_15_4, gi_15_5, pf_15_5, io_18, gr_18_0, gr_18_1, gi_18_2, pf_18_2, io_21, gr_21_0, gr_21_1, gr_21_2, gr_21_3, gi_21_4, pf_21_4, gi_21_5, pf_21_5, gi_21_6, pf_21_6, gi_21_7, pf_21_7, io_34, gr_34_0, gi_34_1, pf_34_1, al_3, al_4, al_5, al_6, al_7, al_8, al_9, al_10, al_12, al_13, al_14, al_16, al_17, al_19, al_20, al_22, al_23, al_24, al_26, al_27, al_28, al_29, al_30, al_31, al_32, al_33, al_35, ↓reduceIte, Option.bind_some, cI_some, cL_some, cV_some, rz_0, rz_1]
theorem uI_s (I : Nat → Nat → Int32) (a j : Nat) (x : Int32) : uI I a j x a j = x := if_pos ⟨rfl, rfl⟩
theorem uI_self (I : Nat → Nat → Int32) (a j : Nat) : uI I a j (I a j) = I := by
  funext b i
  unfold uI
  split
  next h => rw [h.1, h.2]
  next => rfl
end O2

