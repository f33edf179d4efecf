section P6
variable {σ : SG} {A : Nat → List Int32} {I : Nat → Nat → Int32} {fu : Nat}
theorem n_upto (x : Int32) {n : Nat} (hn : n < 2147483648) : (∃ j, j < n ∧ x = nI j ∧ 0 ≤ x ∧ x ≤ nI n - 1) ∨ ¬ (0 ≤ x ∧ x ≤ nI n - 1) := by
  cases n with
  | zero =>
    refine Or.inr fun z => ?_
    have := Int32.le_trans z.1 z.2
    exact absurd this (by decide)
  | succ k =>
    rw [n_sub1]
    rcases n_rng x (a := 0) (b := k) (by omega) (by omega) with ⟨j, _, hj, rfl⟩ | h
    · exact Or.inl ⟨j, by omega, rfl, n_rin (Nat.zero_le j) hj (by omega)⟩
    · exact Or.inr h
theorem n_60 (q j : Nat) : nI q * 60 + nI j = nI (60 * q + j) ∧ 60 * nI q + nI j = nI (60 * q + j) := by
  rw [show (60 : Int32) = nI 60 from rfl, pk_mul, pk_mul, nI_add, nI_add, Nat.mul_comm]
  exact ⟨rfl, rfl⟩
theorem ai_I (A : Nat → List Int32) (I : Nat → Nat → Int32) {q : Nat} (hL : LEN A) (hq : q < 4) : aI (enc A I) 13 (nI q) = some (rd (A 13) q) ∧ aI (enc A I) 12 (nI q) = some (rd (A 12) q) ∧ aI (enc A I) 37 (nI q) = some (rd (A 37) q) ∧ aI (enc A I) 38 (nI q) = some (rd (A 38) q) :=
  ⟨ai_13 A I (by rw [hL 13 rfl]; exact hq) (by omega), ai_12 A I (by rw [hL 12 rfl]; exact hq) (by omega), ai_37 A I (by rw [hL 37 rfl]; exact hq) (by omega), ai_38 A I (by rw [hL 38 rfl]; exact hq) (by omega)⟩
/-- what a cell of a sort keeps of a number -/
def cutI (t : Nat) (v : Int32) : Int32 := if t = 0 then Int8.toInt32 (Int32.toInt8 v) else if t = 1 then Int16.toInt32 (Int32.toInt16 v) else v
theorem c_cut (w : XW) {t : Nat} (ht : t ≤ 2) (v : Int32) : U_X4_cut fu [.int v, .int (nI t)] w = some (some (.int (cutI t v)), w) := by
  simp only [u_X4_cut, M_X4_cut, cutI]
  have e0 : (nI t = 0) = (t = 0) := nI_pe0 (by omega)
  have e1 : (nI t = 1) = (t = 1) := n_eq (by omega) (by decide)
  by_cases h0 : t = 0
  · rw [if_pos (by rw [e0]; exact h0), if_pos h0]
  · rw [if_neg (by rw [e0]; exact h0), if_neg h0]
    by_cases h1 : t = 1
    · rw [if_pos (by rw [e1]; exact h1), if_pos h1]
    · rw [if_neg (by rw [e1]; exact h1), if_neg h1]
theorem op_put (r : RR σ A I) (x y z : Int32) : OP (U_X7_put fu) (U_X8_put fu) [.ref 1, .int x, .int y, .int z] [.ref 36, .int x, .int y, .int z] A I := by
  have h10 : ¬ (1 : Int32) = 0 := by decide
  rcases n_sheet x with ⟨q, hq, rfl, ht⟩ | h
  rotate_left
  · exact OP.fl (v := -1) (x := 0) r (by simp only [u_X7_put, M_X7_put, c_isSheet, io_1, gr_1_0, gr_1_1, gr_1_2, gr_1_3, gr_1_4, gr_1_5, gi_1_6, pf_1_6, gi_1_7, pf_1_7, io_2, gr_2_0, gr_2_1, gr_2_2, gr_2_3, gr_2_4, gr_2_5, gr_2_6, gr_2_7, gi_2_8, pf_2_8, gi_2_9, pf_2_9, gi_2_10, pf_2_10, gi_2_11, pf_2_11, gi_2_12, pf_2_12, gi_2_13, pf_2_13, gi_2_14, pf_2_14, io_11, gr_11_0, gr_11_1, gr_11_2, io_15, gr_15_0, gr_15_1, gi_15_2, pf_15_2, gi_15_3, pf_15_3, gi_15_4, pf_15_4, gi_15_5, pf_15_5, io_18, gr_18_0, gr_18_1, gi_18_2, pf_18_2, io_21, gr_21_0, gr_21_1, gr_21_2, gr_21_3, gi_21_4, pf_21_4, gi_21_5, pf_21_5, gi_21_6, pf_21_6, gi_21_7, pf_21_7, io_34, gr_34_0, gi_34_1, pf_34_1, io_36, gi_36_0, pf_36_0, gi_36_1, pf_36_1, gr_36_2, gr_36_3, gr_36_4, gi_36_5, pf_36_5, gi_36_6, pf_36_6, gi_36_7, pf_36_7, gr_36_8, gr_36_9, gr_36_10, gr_36_11, gi_36_12, pf_36_12, gi_36_13, pf_36_13, gi_36_14, pf_36_14, gr_36_15, gr_36_16, gi_36_17, pf_36_17, gr_36_18, gr_36_19, gr_36_20, gr_36_21, gr_36_22, gi_36_23, pf_36_23, gr_36_24, gr_36_25, gi_36_26, pf_36_26, gr_36_27, gr_36_28, gr_36_29, gr_36_30, gi_36_31, pf_36_31, gr_36_32, gr_36_33, gi_36_34, pf_36_34, gi_36_35, pf_36_35, gr_36_36, al_3, al_4, al_5, al_6, al_7, al_8, al_9, al_10, al_12, al_13, al_14, al_16, al_17, al_19, al_20, al_22, al_23, al_24, al_26, al_27, al_28, al_29, al_30, al_31, al_32, al_33, al_35, al_37, al_38, al_39, al_40, al_41, al_42, al_43, al_44, al_45, al_46, al_47, al_48, al_49, al_50, al_51, al_52, al_53, al_54, al_55, al_56, al_57, al_58, al_59, ↓reduceIte, Option.bind_some, cI_some, cL_some, cV_some, rz_0, rz_1, bI_f h]) (by simp only [u_X8_put, M_X8_put, m_isSheet, io_1, gr_1_0, gr_1_1, gr_1_2, gr_1_3, gr_1_4, gr_1_5, gi_1_6, pf_1_6, gi_1_7, pf_1_7, io_2, gr_2_0, gr_2_1, gr_2_2, gr_2_3, gr_2_4, gr_2_5, gr_2_6, gr_2_7, gi_2_8, pf_2_8, gi_2_9, pf_2_9, gi_2_10, pf_2_10, gi_2_11, pf_2_11, gi_2_12, pf_2_12, gi_2_13, pf_2_13, gi_2_14, pf_2_14, io_11, gr_11_0, gr_11_1, gr_11_2, io_15, gr_15_0, gr_15_1, gi_15_2, pf_15_2, gi_15_3, pf_15_3, gi_15_4, pf_15_4, gi_15_5, pf_15_5, io_18, gr_18_0, gr_18_1, gi_18_2, pf_18_2, io_21, gr_21_0, gr_21_1, gr_21_2, gr_21_3, gi_21_4, pf_21_4, gi_21_5, pf_21_5, gi_21_6, pf_21_6, gi_21_7, pf_21_7, io_34, gr_34_0, gi_34_1, pf_34_1, io_36, gi_36_0, pf_36_0, gi_36_1, pf_36_1, gr_36_2, gr_36_3, gr_36_4, gi_36_5, pf_36_5, gi_36_6, pf_36_6, gi_36_7, pf_36_7, gr_36_8, gr_36_9, gr_36_10, gr_36_11, gi_36_12, pf_36_12, gi_36_13, pf_36_13, gi_36_14, pf_36_14, gr_36_15, gr_36_16, gi_36_17, pf_36_17, gr_36_18, gr_36_19, gr_36_20, gr_36_21, gr_36_22, gi_36_23, pf_36_23, gr_36_24, gr_36_25, gi_36_26, pf_36_26, gr_36_27, gr_36_28, gr_36_29, gr_36_30, gi_36_31, pf_36_31, gr_36_32, gr_36_33, gi_36_34, pf_36_34, gi_36_35, pf_36_35, gr_36_36, al_3, al_4, al_5, al_6, al_7, al_8, al_9, al_10, al_12, al_13, al_14, al_16, al_17, al_19, al_20, al_22, al_23, al_24, al_26, al_27, al_28, al_29, al_30, al_31, al_32, al_33, al_35, al_37, al_38, al_39, al_40, al_41, al_42, al_43, al_44, al_45, al_46, al_47, al_48, al_49, al_50, al_51, al_52, al_53, al_54, al_55, al_56, al_57, al_58, al_59, ↓reduceIte, Option.bind_some, cI_some, cL_some, cV_some, rz_0, rz_1, bI_f h])
  obtain ⟨o, ho⟩ := r.rs.o hq
  have cth := fun J => c_thereS (fu := fu) (I := J) r.2.1 hq ho
  have arr := fun J => ai_I A J r.2.1 hq
  cases o with
  | none =>
    refine OP.fl (v := -10 - 1) (x := 1) r ?_ ?_
    · simp only [u_X7_put, M_X7_put, c_isSheet, io_1, gr_1_0, gr_1_1, gr_1_2, gr_1_3, gr_1_4, gr_1_5, gi_1_6, pf_1_6, gi_1_7, pf_1_7, io_2, gr_2_0, gr_2_1, gr_2_2, gr_2_3, gr_2_4, gr_2_5, gr_2_6, gr_2_7, gi_2_8, pf_2_8, gi_2_9, pf_2_9, gi_2_10, pf_2_10, gi_2_11, pf_2_11, gi_2_12, pf_2_12, gi_2_13, pf_2_13, gi_2_14, pf_2_14, io_11, gr_11_0, gr_11_1, gr_11_2, io_15, gr_15_0, gr_15_1, gi_15_2, pf_15_2, gi_15_3, pf_15_3, gi_15_4, pf_15_4, gi_15_5, pf_15_5, io_18, gr_18_0, gr_18_1, gi_18_2, pf_18_2, io_21, gr_21_0, gr_21_1, gr_21_2, gr_21_3, gi_21_4, pf_21_4, gi_21_5, pf_21_5, gi_21_6, pf_21_6, gi_21_7, pf_21_7, io_34, gr_34_0, gi_34_1, pf_34_1, io_36, gi_36_0, pf_36_0, gi_36_1, pf_36_1, gr_36_2, gr_36_3, gr_36_4, gi_36_5, pf_36_5, gi_36_6, pf_36_6, gi_36_7, pf_36_7, gr_36_8, gr_36_9, gr_36_10, gr_36_11, gi_36_12, pf_36_12, gi_36_13, pf_36_13, gi_36_14, pf_36_14, gr_36_15, gr_36_16, gi_36_17, pf_36_17, gr_36_18, gr_36_19, gr_36_20, gr_36_21, gr_36_22, gi_36_23, pf_36_23, gr_36_24, gr_36_25, gi_36_26, pf_36_26, gr_36_27, gr_36_28, gr_36_29, gr_36_30, gi_36_31, pf_36_31, gr_36_32, gr_36_33, gi_36_34, pf_36_34, gi_36_35, pf_36_35, gr_36_36, al_3, al_4, al_5, al_6, al_7, al_8, al_9, al_10, al_12, al_13, al_14, al_16, al_17, al_19, al_20, al_22, al_23, al_24, al_26, al_27, al_28, al_29, al_30, al_31, al_32, al_33, al_35, al_37, al_38, al_39, al_40, al_41, al_42, al_43, al_44, al_45, al_46, al_47, al_48, al_49, al_50, al_51, al_52, al_53, al_54, al_55, al_56, al_57, al_58, al_59, ↓reduceIte, Option.bind_some, cI_some, cL_some, cV_some, rz_0, rz_1, ht, if_neg h10, cth, bI_0, ne_eq, not_true_eq_false, not_false_eq_true, if_true, c_failBy, uI_uI]
    · simp only [u_X8_put, M_X8_put, m_isSheet, io_1, gr_1_0, gr_1_1, gr_1_2, gr_1_3, gr_1_4, gr_1_5, gi_1_6, pf_1_6, gi_1_7, pf_1_7, io_2, gr_2_0, gr_2_1, gr_2_2, gr_2_3, gr_2_4, gr_2_5, gr_2_6, gr_2_7, gi_2_8, pf_2_8, gi_2_9, pf_2_9, gi_2_10, pf_2_10, gi_2_11, pf_2_11, gi_2_12, pf_2_12, gi_2_13, pf_2_13, gi_2_14, pf_2_14, io_11, gr_11_0, gr_11_1, gr_11_2, io_15, gr_15_0, gr_15_1, gi_15_2, pf_15_2, gi_15_3, pf_15_3, gi_15_4, pf_15_4, gi_15_5, pf_15_5, io_18, gr_18_0, gr_18_1, gi_18_2, pf_18_2, io_21, gr_21_0, gr_21_1, gr_21_2, gr_21_3, gi_21_4, pf_21_4, gi_21_5, pf_21_5, gi_21_6, pf_21_6, gi_21_7, pf_21_7, io_34, gr_34_0, gi_34_1, pf_34_1, io_36, gi_36_0, pf_36_0, gi_36_1, pf_36_1, gr_36_2, gr_36_3, gr_36_4, gi_36_5, pf_36_5, gi_36_6, pf_36_6, gi_36_7, pf_36_7, gr_36_8, gr_36_9, gr_36_10, gr_36_11, gi_36_12, pf_36_12, gi_36_13, pf_36_13, gi_36_14, pf_36_14, gr_36_15, gr_36_16, gi_36_17, pf_36_17, gr_36_18, gr_36_19, gr_36_20, gr_36_21, gr_36_22, gi_36_23, pf_36_23, gr_36_24, gr_36_25, gi_36_26, pf_36_26, gr_36_27, gr_36_28, gr_36_29, gr_36_30, gi_36_31, pf_36_31, gr_36_32, gr_36_33, gi_36_34, pf_36_34, gi_36_35, pf_36_35, gr_36_36, al_3, al_4, al_5, al_6, al_7, al_8, al_9, al_10, al_12, al_13, al_14, al_16, al_17, al_19, al_20, al_22, al_23, al_24, al_26, al_27, al_28, al_29, al_30, al_31, al_32, al_33, al_35, al_37, al_38, al_39, al_40, al_41, al_42, al_43, al_44, al_45, al_46, al_47, al_48, al_49, al_50, al_51, al_52, al_53, al_54, al_55, al_56, al_57, al_58, al_59, ↓reduceIte, Option.bind_some, cI_some, cL_some, cV_some, rz_0, rz_1, ht, if_neg h10, (arr _).2.2.1, ho.2, if_true, m_fails, uI_uI]
  | some p =>
    obtain ⟨n, t⟩ := p
    obtain ⟨a1, a2, a3, a4, a5, a6, a7⟩ := ho
    have hne : ¬ nI t = -9 := by rw [n_m9 (by omega)]; exact id
    rcases n_upto y (n := n) (by omega) with ⟨j, hj, rfl, w1, w2⟩ | h
    rotate_left
    · refine OP.fl (v := -10 - 3) (x := 3) r ?_ ?_
      · simp only [u_X7_put, M_X7_put, c_isSheet, io_1, gr_1_0, gr_1_1, gr_1_2, gr_1_3, gr_1_4, gr_1_5, gi_1_6, pf_1_6, gi_1_7, pf_1_7, io_2, gr_2_0, gr_2_1, gr_2_2, gr_2_3, gr_2_4, gr_2_5, gr_2_6, gr_2_7, gi_2_8, pf_2_8, gi_2_9, pf_2_9, gi_2_10, pf_2_10, gi_2_11, pf_2_11, gi_2_12, pf_2_12, gi_2_13, pf_2_13, gi_2_14, pf_2_14, io_11, gr_11_0, gr_11_1, gr_11_2, io_15, gr_15_0, gr_15_1, gi_15_2, pf_15_2, gi_15_3, pf_15_3, gi_15_4, pf_15_4, gi_15_5, pf_15_5, io_18, gr_18_0, gr_18_1, gi_18_2, pf_18_2, io_21, gr_21_0, gr_21_1, gr_21_2, gr_21_3, gi_21_4, pf_21_4, gi_21_5, pf_21_5, gi_21_6, pf_21_6, gi_21_7, pf_21_7, io_34, gr_34_0, gi_34_1, pf_34_1, io_36, gi_36_0, pf_36_0, gi_36_1, pf_36_1, gr_36_2, gr_36_3, gr_36_4, gi_36_5, pf_36_5, gi_36_6, pf_36_6, gi_36_7, pf_36_7, gr_36_8, gr_36_9, gr_36_10, gr_36_11, gi_36_12, pf_36_12, gi_36_13, pf_36_13, gi_36_14, pf_36_14, gr_36_15, gr_36_16, gi_36_17, pf_36_17, gr_36_18, gr_36_19, gr_36_20, gr_36_21, gr_36_22, gi_36_23, pf_36_23, gr_36_24, gr_36_25, gi_36_26, pf_36_26, gr_36_27, gr_36_28, gr_36_29, gr_36_30, gi_36_31, pf_36_31, gr_36_32, gr_36_33, gi_36_34, pf_36_34, gi_36_35, pf_36_35, gr_36_36, al_3, al_4, al_5, al_6, al_7, al_8, al_9, al_10, al_12, al_13, al_14, al_16, al_17, al_19, al_20, al_22, al_23, al_24, al_26, al_27, al_28, al_29, al_30, al_31, al_32, al_33, al_35, al_37, al_38, al_39, al_40, al_41, al_42, al_43, al_44, al_45, al_46, al_47, al_48, al_49, al_50, al_51, al_52, al_53, al_54, al_55, al_56, al_57, al_58, al_59, ↓reduceIte, Option.bind_some, cI_some, cL_some, cV_some, rz_0, rz_1, ht, if_neg h10, cth, bI_0, ne_eq, reduceCtorEq, not_false_eq_true, not_true_eq_false, if_false, (arr _).1, a3, c_within, h, c_failBy, uI_uI, if_true]
      · simp only [u_X8_put, M_X8_put, m_isSheet, io_1, gr_1_0, gr_1_1, gr_1_2, gr_1_3, gr_1_4, gr_1_5, gi_1_6, pf_1_6, gi_1_7, pf_1_7, io_2, gr_2_0, gr_2_1, gr_2_2, gr_2_3, gr_2_4, gr_2_5, gr_2_6, gr_2_7, gi_2_8, pf_2_8, gi_2_9, pf_2_9, gi_2_10, pf_2_10, gi_2_11, pf_2_11, gi_2_12, pf_2_12, gi_2_13, pf_2_13, gi_2_14, pf_2_14, io_11, gr_11_0, gr_11_1, gr_11_2, io_15, gr_15_0, gr_15_1, gi_15_2, pf_15_2, gi_15_3, pf_15_3, gi_15_4, pf_15_4, gi_15_5, pf_15_5, io_18, gr_18_0, gr_18_1, gi_18_2, pf_18_2, io_21, gr_21_0, gr_21_1, gr_21_2, gr_21_3, gi_21_4, pf_21_4, gi_21_5, pf_21_5, gi_21_6, pf_21_6, gi_21_7, pf_21_7, io_34, gr_34_0, gi_34_1, pf_34_1, io_36, gi_36_0, pf_36_0, gi_36_1, pf_36_1, gr_36_2, gr_36_3, gr_36_4, gi_36_5, pf_36_5, gi_36_6, pf_36_6, gi_36_7, pf_36_7, gr_36_8, gr_36_9, gr_36_10, gr_36_11, gi_36_12, pf_36_12, gi_36_13, pf_36_13, gi_36_14, pf_36_14, gr_36_15, gr_36_16, gi_36_17, pf_36_17, gr_36_18, gr_36_19, gr_36_20, gr_36_21, gr_36_22, gi_36_23, pf_36_23, gr_36_24, gr_36_25, gi_36_26, pf_36_26, gr_36_27, gr_36_28, gr_36_29, gr_36_30, gi_36_31, pf_36_31, gr_36_32, gr_36_33, gi_36_34, pf_36_34, gi_36_35, pf_36_35, gr_36_36, al_3, al_4, al_5, al_6, al_7, al_8, al_9, al_10, al_12, al_13, al_14, al_16, al_17, al_19, al_20, al_22, al_23, al_24, al_26, al_27, al_28, al_29, al_30, al_31, al_32, al_33, al_35, al_37, al_38, al_39, al_40, al_41, al_42, al_43, al_44, al_45, al_46, al_47, al_48, al_49, al_50, al_51, al_52, al_53, al_54, al_55, al_56, al_57, al_58, al_59, ↓reduceIte, Option.bind_some, cI_some, cL_some, cV_some, rz_0, rz_1, ht, if_neg h10, (arr _).2.2.1, (arr _).2.2.2, a6, a4, if_neg hne, m_within, bI_0, h, not_false_eq_true, if_true, m_fails, uI_uI]
    · have hw : bI (0 ≤ nI j ∧ nI j ≤ nI n - 1) = 1 := bI_t ⟨w1, w2⟩
      have l14 : 60 * q + j < (A 14).length := by rw [r.len rfl]; show 60 * q + j < 240; omega
      have l39 : 60 * q + j < (A 39).length := by rw [r.len rfl]; show 60 * q + j < 240; omega
      have s14 := si_14 A (uI I 1 7 0) (cutI t z) l14 (show 60 * q + j < 2147483648 by omega)
      have arr1 := fun J => ai_I (uA A 14 ((A 14).set (60 * q + j) (cutI t z))) J (r.2.1.set (by rw [List.length_set])) hq
      have s39 := si_39 (uA A 14 ((A 14).set (60 * q + j) (cutI t z))) (uI (uI I 1 7 0) 36 0 0) (cutI t z) (show 60 * q + j < _ by rw [uA_n _ _ _ (by decide)]; exact l39) (show 60 * q + j < 2147483648 by omega)
      rw [uA_n A 14 _ (show (39 : Nat) ≠ 14 by decide)] at s39
      have e0 : (nI t = 0) = (t = 0) := nI_pe0 (by omega)
      have e1 : (nI t = 1) = (t = 1) := n_eq (by omega) (by decide)
      have b37 : rd (uA A 14 ((A 14).set (60 * q + j) (cutI t z)) 37) q = nI t := by rw [uA_n _ _ _ (by decide)]; exact a6
      have b38 : rd (uA A 14 ((A 14).set (60 * q + j) (cutI t z)) 38) q = nI n := by rw [uA_n _ _ _ (by decide)]; exact a4
      refine ⟨1, uA A 14 ((A 14).set (60 * q + j) (cutI t z)), uI I 1 7 0, uA (uA A 14 ((A 14).set (60 * q + j) (cutI t z))) 39 ((A 39).set (60 * q + j) (cutI t z)), uI (uI I 1 7 0) 36 0 0, σ, ?_, ?_, ?_, ?_, fun _ => rfl, ?_⟩
      · simp only [u_X7_put, M_X7_put, c_isSheet, io_1, gr_1_0, gr_1_1, gr_1_2, gr_1_3, gr_1_4, gr_1_5, gi_1_6, pf_1_6, gi_1_7, pf_1_7, io_2, gr_2_0, gr_2_1, gr_2_2, gr_2_3, gr_2_4, gr_2_5, gr_2_6, gr_2_7, gi_2_8, pf_2_8, gi_2_9, pf_2_9, gi_2_10, pf_2_10, gi_2_11, pf_2_11, gi_2_12, pf_2_12, gi_2_13, pf_2_13, gi_2_14, pf_2_14, io_11, gr_11_0, gr_11_1, gr_11_2, io_15, gr_15_0, gr_15_1, gi_15_2, pf_15_2, gi_15_3, pf_15_3, gi_15_4, pf_15_4, gi_15_5, pf_15_5, io_18, gr_18_0, gr_18_1, gi_18_2, pf_18_2, io_21, gr_21_0, gr_21_1, gr_21_2, gr_21_3, gi_21_4, pf_21_4, gi_21_5, pf_21_5, gi_21_6, pf_21_6, gi_21_7, pf_21_7, io_34, gr_34_0, gi_34_1, pf_34_1, io_36, gi_36_0, pf_36_0, gi_36_1, pf_36_1, gr_36_2, gr_36_3, gr_36_4, gi_36_5, pf_36_5, gi_36_6, pf_36_6, gi_36_7, pf_36_7, gr_36_8, gr_36_9, gr_36_10, gr_36_11, gi_36_12, pf_36_12, gi_36_13, pf_36_13, gi_36_14, pf_36_14, gr_36_15, gr_36_16, gi_36_17, pf_36_17, gr_36_18, gr_36_19, gr_36_20, gr_36_21, gr_36_22, gi_36_23, pf_36_23, gr_36_24, gr_36_25, gi_36_26, pf_36_26, gr_36_27, gr_36_28, gr_36_29, gr_36_30, gi_36_31, pf_36_31, gr_36_32, gr_36_33, gi_36_34, pf_36_34, gi_36_35, pf_36_35, gr_36_36, al_3, al_4, al_5, al_6, al_7, al_8, al_9, al_10, al_12, al_13, al_14, al_16, al_17, al_19, al_20, al_22, al_23, al_24, al_26, al_27, al_28, al_29, al_30, al_31, al_32, al_33, al_35, al_37, al_38, al_39, al_40, al_41, al_42, al_43, al_44, al_45, al_46, al_47, al_48, al_49, al_50, al_51, al_52, al_53, al_54, al_55, al_56, al_57, al_58, al_59, ↓reduceIte, Option.bind_some, cI_some, cL_some, cV_some, rz_0, rz_1, ht, if_neg h10, cth, bI_0, ne_eq, reduceCtorEq, not_false_eq_true, not_true_eq_false, if_false, (arr _).1, a3, c_within, hw, u_X4_write, M_X4_write, (arr _).2.1, a5, c_cut _ a2, (n_60 q j).1, s14]
        rw [if_neg (fun y => y ⟨w1, w2⟩)]
      · exact uA_n _ _ _ (by decide)
      · simp only [u_X8_put, M_X8_put, m_isSheet, io_1, gr_1_0, gr_1_1, gr_1_2, gr_1_3, gr_1_4, gr_1_5, gi_1_6, pf_1_6, gi_1_7, pf_1_7, io_2, gr_2_0, gr_2_1, gr_2_2, gr_2_3, gr_2_4, gr_2_5, gr_2_6, gr_2_7, gi_2_8, pf_2_8, gi_2_9, pf_2_9, gi_2_10, pf_2_10, gi_2_11, pf_2_11, gi_2_12, pf_2_12, gi_2_13, pf_2_13, gi_2_14, pf_2_14, io_11, gr_11_0, gr_11_1, gr_11_2, io_15, gr_15_0, gr_15_1, gi_15_2, pf_15_2, gi_15_3, pf_15_3, gi_15_4, pf_15_4, gi_15_5, pf_15_5, io_18, gr_18_0, gr_18_1, gi_18_2, pf_18_2, io_21, gr_21_0, gr_21_1, gr_21_2, gr_21_3, gi_21_4, pf_21_4, gi_21_5, pf_21_5, gi_21_6, pf_21_6, gi_21_7, pf_21_7, io_34, gr_34_0, gi_34_1, pf_34_1, io_36, gi_36_0, pf_36_0, gi_36_1, pf_36_1, gr_36_2, gr_36_3, gr_36_4, gi_36_5, pf_36_5, gi_36_6, pf_36_6, gi_36_7, pf_36_7, gr_36_8, gr_36_9, gr_36_10, gr_36_11, gi_36_12, pf_36_12, gi_36_13, pf_36_13, gi_36_14, pf_36_14, gr_36_15, gr_36_16, gi_36_17, pf_36_17, gr_36_18, gr_36_19, gr_36_20, gr_36_21, gr_36_22, gi_36_23, pf_36_23, gr_36_24, gr_36_25, gi_36_26, pf_36_26, gr_36_27, gr_36_28, gr_36_29, gr_36_30, gi_36_31, pf_36_31, gr_36_32, gr_36_33, gi_36_34, pf_36_34, gi_36_35, pf_36_35, gr_36_36, al_3, al_4, al_5, al_6, al_7, al_8, al_9, al_10, al_12, al_13, al_14, al_16, al_17, al_19, al_20, al_22, al_23, al_24, al_26, al_27, al_28, al_29, al_30, al_31, al_32, al_33, al_35, al_37, al_38, al_39, al_40, al_41, al_42, al_43, al_44, al_45, al_46, al_47, al_48, al_49, al_50, al_51, al_52, al_53, al_54, al_55, al_56, al_57, al_58, al_59, ↓reduceIte, Option.bind_some, cI_some, cL_some, cV_some, rz_0, rz_1, ht, if_neg h10, (arr1 _).2.2.1, (arr1 _).2.2.2, b37, b38, if_neg hne, m_within, hw, (n_60 q j).2, e0, e1]
        unfold cutI at s39 ⊢
        by_cases h0 : t = 0
        · rw [if_pos h0] at s39 ⊢
          simp only [if_pos h0] at s39 ⊢
          rw [s39]
          rfl
        · simp only [if_neg h0] at s39 ⊢
          by_cases h1 : t = 1
          · simp only [if_pos h1] at s39 ⊢
            rw [s39]
            rfl
          · simp only [if_neg h1] at s39 ⊢
            rw [s39]
            rfl
      · rw [uA_n _ _ _ (by decide), uA_n _ _ _ (by decide)]
      · refine r.she (fun k a b c d e f => by rw [uA_n _ _ _ f, uA_n _ _ _ c]) (fun k => ?_) (fun a b h1 h2 => ?_) (RS.of ?_ ?_ fun p hp => ?_)
        · by_cases z1 : k = 39
          · rw [z1, uA_s, List.length_set]
          · rw [uA_n _ _ _ z1]
            by_cases z2 : k = 14
            · rw [z2, uA_s, List.length_set]
            · rw [uA_n _ _ _ z2]
        · unfold uI
          rw [if_neg (fun w => h2 ⟨w.1, Or.inl w.2⟩), if_neg (fun w => h1 ⟨w.1, Or.inr w.2⟩)]
        · exact r.rs.1
        · rfl
        · by_cases zp : p = q
          · subst zp
            refine ⟨some (n, t), a1, a2, ?_, ?_, ?_, ?_, fun i hi => ?_⟩
            · rw [uA_n _ _ _ (by decide), uA_n _ _ _ (by decide)]; exact a3
            · rw [uA_n _ _ _ (by decide), uA_n _ _ _ (by decide)]; exact a4
            · rw [uA_n _ _ _ (by decide), uA_n _ _ _ (by decide)]; exact a5
            · rw [uA_n _ _ _ (by decide), uA_n _ _ _ (by decide)]; exact a6
            · rw [uA_s, uA_n _ _ _ (by decide), uA_s, rd_set _ _ l14, rd_set _ _ l39]
              by_cases zi : 60 * p + i = 60 * p + j
              · rw [if_pos zi, if_pos zi]
              · rw [if_neg zi, if_neg zi]; exact a7 i hi
          · obtain ⟨o2, ho2⟩ := r.rs.o hp
            refine ⟨o2, ho2.oth zp (fun i _ => by rw [uA_n _ _ _ (by decide), uA_n _ _ _ (by decide)]) (fun i _ => by rw [uA_n _ _ _ (by decide), uA_n _ _ _ (by decide)]) (fun i _ => by rw [uA_n _ _ _ (by decide), uA_n _ _ _ (by decide)]) (fun i _ => by rw [uA_n _ _ _ (by decide), uA_n _ _ _ (by decide)]) (fun i hi => by rw [uA_n _ _ _ (by decide), uA_s, rd_oob i _ (by omega)]) (fun i hi => by rw [uA_s, rd_oob i _ (by omega)])⟩
end P6
