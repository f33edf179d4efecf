/-! ===== small methods ===== -/
section SM
variable {fu : Nat} (A : Nat → List Int32) (I : Nat → Nat → Int32)
theorem bI_and (p q : Prop) [Decidable p] [Decidable q] : (if p then (bI q) else 0) = bI (p ∧ q) := by
  by_cases hp : p <;> by_cases hq : q <;> simp [bI, hp, hq]
theorem lt0 (c : Int32) : (c < 0) = ¬ (0 ≤ c) := propext Int32.not_le.symm
theorem c_isThere : U_X0_isThere fu [.ref 2] (enc A I) = some (some (.int (bI (0 < I 2 8))), enc A I) := by
  simp only [u_X0_isThere, M_X0_isThere, io_1, gr_1_0, gr_1_1, gr_1_2, gr_1_3, gr_1_4, gr_1_5, gi_1_6, pf_1_6, gi_1_7, pf_1_7, io_2, gr_2_0, gr_2_1, gr_2_2, gr_2_3, gr_2_4, gr_2_5, gr_2_6, gr_2_7, gi_2_8, pf_2_8, gi_2_9, pf_2_9, gi_2_10, pf_2_10, gi_2_11, pf_2_11, gi_2_12, pf_2_12, gi_2_13, pf_2_13, gi_2_14, pf_2_14, io_11, gr_11_0, gr_11_1, gr_11_2, io_15, gr_15_0, gr_15_1, gi_15_2, pf_15_2, gi_15_3, pf_15_3, gi_15_4, pf_15_4, gi_15_5, pf_15_5, io_18, gr_18_0, gr_18_1, gi_18_2, pf_18_2, io_21, gr_21_0, gr_21_1, gr_21_2, gr_21_3, gi_21_4, pf_21_4, gi_21_5, pf_21_5, gi_21_6, pf_21_6, gi_21_7, pf_21_7, io_34, gr_34_0, gi_34_1, pf_34_1, al_3, al_4, al_5, al_6, al_7, al_8, al_9, al_10, al_12, al_13, al_14, al_16, al_17, al_19, al_20, al_22, al_23, al_24, al_26, al_27, al_28, al_29, al_30, al_31, al_32, al_33, al_35, ↓reduceIte, Option.bind_some, cI_some, cL_some, cV_some, rz_0, rz_1]
  by_cases h : 0 < I 2 8
  · rw [if_pos h, bI_t h]
  · rw [if_neg h, bI_f h]
theorem c_isCell (c : Int32) : U_X0_isCell fu [.ref 2, .int c] (enc A I) = some (some (.int (bI (0 ≤ c ∧ c < I 2 8))), enc A I) := by
  simp only [u_X0_isCell, M_X0_isCell, io_1, gr_1_0, gr_1_1, gr_1_2, gr_1_3, gr_1_4, gr_1_5, gi_1_6, pf_1_6, gi_1_7, pf_1_7, io_2, gr_2_0, gr_2_1, gr_2_2, gr_2_3, gr_2_4, gr_2_5, gr_2_6, gr_2_7, gi_2_8, pf_2_8, gi_2_9, pf_2_9, gi_2_10, pf_2_10, gi_2_11, pf_2_11, gi_2_12, pf_2_12, gi_2_13, pf_2_13, gi_2_14, pf_2_14, io_11, gr_11_0, gr_11_1, gr_11_2, io_15, gr_15_0, gr_15_1, gi_15_2, pf_15_2, gi_15_3, pf_15_3, gi_15_4, pf_15_4, gi_15_5, pf_15_5, io_18, gr_18_0, gr_18_1, gi_18_2, pf_18_2, io_21, gr_21_0, gr_21_1, gr_21_2, gr_21_3, gi_21_4, pf_21_4, gi_21_5, pf_21_5, gi_21_6, pf_21_6, gi_21_7, pf_21_7, io_34, gr_34_0, gi_34_1, pf_34_1, al_3, al_4, al_5, al_6, al_7, al_8, al_9, al_10, al_12, al_13, al_14, al_16, al_17, al_19, al_20, al_22, al_23, al_24, al_26, al_27, al_28, al_29, al_30, al_31, al_32, al_33, al_35, ↓reduceIte, Option.bind_some, cI_some, cL_some, cV_some, rz_0, rz_1]
  by_cases h : c < 0
  · rw [if_pos h, bI_f (fun q => absurd q.1 (Int32.not_le.mpr h))]
  · rw [if_neg h]
    by_cases h2 : c < I 2 8
    · rw [if_pos h2, bI_t ⟨Int32.not_lt.mp h, h2⟩]
    · rw [if_neg h2, bI_f (fun q => h2 q.2)]
theorem c_isStone (c : Int32) : U_X0_isStone fu [.ref 2, .int c] (enc A I) = some (some (.int (bI (0 ≤ c ∧ c < I 2 12))), enc A I) := by
  simp only [u_X0_isStone, M_X0_isStone, io_1, gr_1_0, gr_1_1, gr_1_2, gr_1_3, gr_1_4, gr_1_5, gi_1_6, pf_1_6, gi_1_7, pf_1_7, io_2, gr_2_0, gr_2_1, gr_2_2, gr_2_3, gr_2_4, gr_2_5, gr_2_6, gr_2_7, gi_2_8, pf_2_8, gi_2_9, pf_2_9, gi_2_10, pf_2_10, gi_2_11, pf_2_11, gi_2_12, pf_2_12, gi_2_13, pf_2_13, gi_2_14, pf_2_14, io_11, gr_11_0, gr_11_1, gr_11_2, io_15, gr_15_0, gr_15_1, gi_15_2, pf_15_2, gi_15_3, pf_15_3, gi_15_4, pf_15_4, gi_15_5, pf_15_5, io_18, gr_18_0, gr_18_1, gi_18_2, pf_18_2, io_21, gr_21_0, gr_21_1, gr_21_2, gr_21_3, gi_21_4, pf_21_4, gi_21_5, pf_21_5, gi_21_6, pf_21_6, gi_21_7, pf_21_7, io_34, gr_34_0, gi_34_1, pf_34_1, al_3, al_4, al_5, al_6, al_7, al_8, al_9, al_10, al_12, al_13, al_14, al_16, al_17, al_19, al_20, al_22, al_23, al_24, al_26, al_27, al_28, al_29, al_30, al_31, al_32, al_33, al_35, ↓reduceIte, Option.bind_some, cI_some, cL_some, cV_some, rz_0, rz_1]
  by_cases h : c < 0
  · rw [if_pos h, bI_f (fun q => absurd q.1 (Int32.not_le.mpr h))]
  · rw [if_neg h]
    by_cases h2 : c < I 2 12
    · rw [if_pos h2, bI_t ⟨Int32.not_lt.mp h, h2⟩]
    · rw [if_neg h2, bI_f (fun q => h2 q.2)]
theorem c_isWalker (c : Int32) : U_X0_isWalker fu [.ref 2, .int c] (enc A I) = some (some (.int (bI (0 ≤ c ∧ c < I 2 14))), enc A I) := by
  simp only [u_X0_isWalker, M_X0_isWalker, io_1, gr_1_0, gr_1_1, gr_1_2, gr_1_3, gr_1_4, gr_1_5, gi_1_6, pf_1_6, gi_1_7, pf_1_7, io_2, gr_2_0, gr_2_1, gr_2_2, gr_2_3, gr_2_4, gr_2_5, gr_2_6, gr_2_7, gi_2_8, pf_2_8, gi_2_9, pf_2_9, gi_2_10, pf_2_10, gi_2_11, pf_2_11, gi_2_12, pf_2_12, gi_2_13, pf_2_13, gi_2_14, pf_2_14, io_11, gr_11_0, gr_11_1, gr_11_2, io_15, gr_15_0, gr_15_1, gi_15_2, pf_15_2, gi_15_3, pf_15_3, gi_15_4, pf_15_4, gi_15_5, pf_15_5, io_18, gr_18_0, gr_18_1, gi_18_2, pf_18_2, io_21, gr_21_0, gr_21_1, gr_21_2, gr_21_3, gi_21_4, pf_21_4, gi_21_5, pf_21_5, gi_21_6, pf_21_6, gi_21_7, pf_21_7, io_34, gr_34_0, gi_34_1, pf_34_1, al_3, al_4, al_5, al_6, al_7, al_8, al_9, al_10, al_12, al_13, al_14, al_16, al_17, al_19, al_20, al_22, al_23, al_24, al_26, al_27, al_28, al_29, al_30, al_31, al_32, al_33, al_35, ↓reduceIte, Option.bind_some, cI_some, cL_some, cV_some, rz_0, rz_1]
  by_cases h : c < 0
  · rw [if_pos h, bI_f (fun q => absurd q.1 (Int32.not_le.mpr h))]
  · rw [if_neg h]
    by_cases h2 : c < I 2 14
    · rw [if_pos h2, bI_t ⟨Int32.not_lt.mp h, h2⟩]
    · rw [if_neg h2, bI_f (fun q => h2 q.2)]
end SM
section ST
variable {fu : Nat} (w : XW)
theorem c_within (v a b : Int32) : U_X7_isWithin fu [.int v, .int a, .int b] w = some (some (.int (bI (a ≤ v ∧ v ≤ b))), w) := by
  simp only [u_X7_isWithin, M_X7_isWithin, io_1, gr_1_0, gr_1_1, gr_1_2, gr_1_3, gr_1_4, gr_1_5, gi_1_6, pf_1_6, gi_1_7, pf_1_7, io_2, gr_2_0, gr_2_1, gr_2_2, gr_2_3, gr_2_4, gr_2_5, gr_2_6, gr_2_7, gi_2_8, pf_2_8, gi_2_9, pf_2_9, gi_2_10, pf_2_10, gi_2_11, pf_2_11, gi_2_12, pf_2_12, gi_2_13, pf_2_13, gi_2_14, pf_2_14, io_11, gr_11_0, gr_11_1, gr_11_2, io_15, gr_15_0, gr_15_1, gi_15_2, pf_15_2, gi_15_3, pf_15_3, gi_15_4, pf_15_4, gi_15_5, pf_15_5, io_18, gr_18_0, gr_18_1, gi_18_2, pf_18_2, io_21, gr_21_0, gr_21_1, gr_21_2, gr_21_3, gi_21_4, pf_21_4, gi_21_5, pf_21_5, gi_21_6, pf_21_6, gi_21_7, pf_21_7, io_34, gr_34_0, gi_34_1, pf_34_1, al_3, al_4, al_5, al_6, al_7, al_8, al_9, al_10, al_12, al_13, al_14, al_16, al_17, al_19, al_20, al_22, al_23, al_24, al_26, al_27, al_28, al_29, al_30, al_31, al_32, al_33, al_35, ↓reduceIte, Option.bind_some, cI_some, cL_some, cV_some, rz_0, rz_1]
  by_cases h : v < a
  · rw [if_pos h, bI_f (fun q => absurd q.1 (Int32.not_le.mpr h))]
  · rw [if_neg h]
    by_cases h2 : b < v
    · rw [if_pos h2, bI_f (fun q => absurd q.2 (Int32.not_le.mpr h2))]
    · rw [if_neg h2, bI_t ⟨Int32.not_lt.mp h, Int32.not_lt.mp h2⟩]
theorem rz_b (p : Prop) [Decidable p] : retZ (bI p) w = some (some (.int (bI p)), w) := by
  by_cases h : p
  · rw [bI_t h]; rfl
  · rw [bI_f h]; rfl
theorem c_isSheet (v : Int32) : U_X4_isSheet fu [.int v] w = some (some (.int (bI (0 ≤ v ∧ v ≤ 3))), w) := by
  simp only [u_X4_isSheet, M_X4_isSheet, c_within, rz_b, io_1, gr_1_0, gr_1_1, gr_1_2, gr_1_3, gr_1_4, gr_1_5, gi_1_6, pf_1_6, gi_1_7, pf_1_7, io_2, gr_2_0, gr_2_1, gr_2_2, gr_2_3, gr_2_4, gr_2_5, gr_2_6, gr_2_7, gi_2_8, pf_2_8, gi_2_9, pf_2_9, gi_2_10, pf_2_10, gi_2_11, pf_2_11, gi_2_12, pf_2_12, gi_2_13, pf_2_13, gi_2_14, pf_2_14, io_11, gr_11_0, gr_11_1, gr_11_2, io_15, gr_15_0, gr_15_1, gi_15_2, pf_15_2, gi_15_3, pf_15_3, gi_15_4, pf_15_4, gi_15_5, pf_15_5, io_18, gr_18_0, gr_18_1, gi_18_2, pf_18_2, io_21, gr_21_0, gr_21_1, gr_21_2, gr_21_3, gi_21_4, pf_21_4, gi_21_5, pf_21_5, gi_21_6, pf_21_6, gi_21_7, pf_21_7, io_34, gr_34_0, gi_34_1, pf_34_1, al_3, al_4, al_5, al_6, al_7, al_8, al_9, al_10, al_12, al_13, al_14, al_16, al_17, al_19, al_20, al_22, al_23, al_24, al_26, al_27, al_28, al_29, al_30, al_31, al_32, al_33, al_35, ↓reduceIte, Option.bind_some, cI_some, cL_some, cV_some, rz_0, rz_1]
theorem c_isSort (v : Int32) : U_X4_isSort fu [.int v] w = some (some (.int (bI (0 ≤ v ∧ v ≤ 2))), w) := by
  simp only [u_X4_isSort, M_X4_isSort, c_within, rz_b, io_1, gr_1_0, gr_1_1, gr_1_2, gr_1_3, gr_1_4, gr_1_5, gi_1_6, pf_1_6, gi_1_7, pf_1_7, io_2, gr_2_0, gr_2_1, gr_2_2, gr_2_3, gr_2_4, gr_2_5, gr_2_6, gr_2_7, gi_2_8, pf_2_8, gi_2_9, pf_2_9, gi_2_10, pf_2_10, gi_2_11, pf_2_11, gi_2_12, pf_2_12, gi_2_13, pf_2_13, gi_2_14, pf_2_14, io_11, gr_11_0, gr_11_1, gr_11_2, io_15, gr_15_0, gr_15_1, gi_15_2, pf_15_2, gi_15_3, pf_15_3, gi_15_4, pf_15_4, gi_15_5, pf_15_5, io_18, gr_18_0, gr_18_1, gi_18_2, pf_18_2, io_21, gr_21_0, gr_21_1, gr_21_2, gr_21_3, gi_21_4, pf_21_4, gi_21_5, pf_21_5, gi_21_6, pf_21_6, gi_21_7, pf_21_7, io_34, gr_34_0, gi_34_1, pf_34_1, al_3, al_4, al_5, al_6, al_7, al_8, al_9, al_10, al_12, al_13, al_14, al_16, al_17, al_19, al_20, al_22, al_23, al_24, al_26, al_27, al_28, al_29, al_30, al_31, al_32, al_33, al_35, ↓reduceIte, Option.bind_some, cI_some, cL_some, cV_some, rz_0, rz_1]
theorem c_has (a b : Int32) : U_X7_has fu [.int a, .int b] w = some (some (.int (bI (¬ (a >>> (b &&& 31)) &&& 1 = 0))), w) := by
  simp only [u_X7_has, M_X7_has, io_1, gr_1_0, gr_1_1, gr_1_2, gr_1_3, gr_1_4, gr_1_5, gi_1_6, pf_1_6, gi_1_7, pf_1_7, io_2, gr_2_0, gr_2_1, gr_2_2, gr_2_3, gr_2_4, gr_2_5, gr_2_6, gr_2_7, gi_2_8, pf_2_8, gi_2_9, pf_2_9, gi_2_10, pf_2_10, gi_2_11, pf_2_11, gi_2_12, pf_2_12, gi_2_13, pf_2_13, gi_2_14, pf_2_14, io_11, gr_11_0, gr_11_1, gr_11_2, io_15, gr_15_0, gr_15_1, gi_15_2, pf_15_2, gi_15_3, pf_15_3, gi_15_4, pf_15_4, gi_15_5, pf_15_5, io_18, gr_18_0, gr_18_1, gi_18_2, pf_18_2, io_21, gr_21_0, gr_21_1, gr_21_2, gr_21_3, gi_21_4, pf_21_4, gi_21_5, pf_21_5, gi_21_6, pf_21_6, gi_21_7, pf_21_7, io_34, gr_34_0, gi_34_1, pf_34_1, al_3, al_4, al_5, al_6, al_7, al_8, al_9, al_10, al_12, al_13, al_14, al_16, al_17, al_19, al_20, al_22, al_23, al_24, al_26, al_27, al_28, al_29, al_30, al_31, al_32, al_33, al_35, ↓reduceIte, Option.bind_some, cI_some, cL_some, cV_some, rz_0, rz_1]
  by_cases h : (a >>> (b &&& 31)) &&& 1 = 0
  · rw [if_pos h, bI_f (fun q => q h)]
  · rw [if_neg h, bI_t h]
theorem c_hasn {a b : Nat} (ha : a < 2147483648) (hb : b < 31) : U_X7_has fu [.int (nI a), .int (nI b)] w = some (some (.int (bI (a.testBit b = true))), w) := by
  rw [c_has, has_n ha hb]
  cases a.testBit b <;> rfl
end ST
/-! ===== what a state says, by the machine's numbers ===== -/
section RL
variable {σ : SG} {A : Nat → List Int32} {I : Nat → Nat → Int32}
theorem RR.len (r : RR σ A I) {k : Nat} (h : isArr k = true) : (A k).length = lenT k := r.2.1 k h
theorem RR.n7 (r : RR σ A I) : σ 0 0 ≤ 7 := r.1.2.1
theorem RR.m6 (r : RR σ A I) : σ 0 3 ≤ 6 := r.1.2.2.2.2.1
theorem RR.k6 (r : RR σ A I) : σ 0 4 ≤ 6 := r.1.2.2.2.2.2.1
theorem nI_0lt {n : Nat} (h : n < 2147483648) : ((0 : Int32) < nI n) = (0 < n) := by rw [n_lit 0]; exact n_lt (by decide) h
theorem nI_pe0 {n : Nat} (h : n < 2147483648) : (nI n = 0) = (n = 0) := by rw [n_lit 0]; exact n_eq h (by decide)
end RL

