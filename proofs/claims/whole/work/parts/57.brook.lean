section Q8
variable {σ : SG} {A : Nat → List Int32} {I : Nat → Nat → Int32} {fu : Nat}
theorem op_brook (hf : 1000 ≤ fu) (r : RR σ A I) (s y i n : Int32) : OP (U_X7_brook fu) (U_X8_brook fu) [.ref 1, .int s, .int y, .int i, .int n] [.ref 36, .int s, .int y, .int i, .int n] A I := by
  have h10 : ¬ (1 : Int32) = 0 := by decide
  rcases n_sheet s with ⟨q, hq, rfl, ht⟩ | h
  rotate_left
  · refine OP.fl (v := -1) (x := 0) r ?_ ?_
    · simp -implicitDefEqProofs only [u_X7_brook, M_X7_brook, u_X7_refusalOfCells, M_X7_refusalOfCells, c_isSheet, io_1, gr_1_0, gr_1_1, gr_1_2, gr_1_3, gr_1_4, gr_1_5, gi_1_6, pf_1_6, gi_1_7, pf_1_7, io_2, gr_2_0, gr_2_1, gr_2_2, gr_2_3, gr_2_4, gr_2_5, gr_2_6, gr_2_7, gi_2_8, pf_2_8, gi_2_9, pf_2_9, gi_2_10, pf_2_10, gi_2_11, pf_2_11, gi_2_12, pf_2_12, gi_2_13, pf_2_13, gi_2_14, pf_2_14, io_11, gr_11_0, gr_11_1, gr_11_2, io_15, gr_15_0, gr_15_1, gi_15_2, pf_15_2, gi_15_3, pf_15_3, gi_15_4, pf_15_4, gi_15_5, pf_15_5, io_18, gr_18_0, gr_18_1, gi_18_2, pf_18_2, io_21, gr_21_0, gr_21_1, gr_21_2, gr_21_3, gi_21_4, pf_21_4, gi_21_5, pf_21_5, gi_21_6, pf_21_6, gi_21_7, pf_21_7, io_34, gr_34_0, gi_34_1, pf_34_1, io_36, gi_36_0, pf_36_0, gi_36_1, pf_36_1, gr_36_2, gr_36_3, gr_36_4, gi_36_5, pf_36_5, gi_36_6, pf_36_6, gi_36_7, pf_36_7, gr_36_8, gr_36_9, gr_36_10, gr_36_11, gi_36_12, pf_36_12, gi_36_13, pf_36_13, gi_36_14, pf_36_14, gr_36_15, gr_36_16, gi_36_17, pf_36_17, gr_36_18, gr_36_19, gr_36_20, gr_36_21, gr_36_22, gi_36_23, pf_36_23, gr_36_24, gr_36_25, gi_36_26, pf_36_26, gr_36_27, gr_36_28, gr_36_29, gr_36_30, gi_36_31, pf_36_31, gr_36_32, gr_36_33, gi_36_34, pf_36_34, gi_36_35, pf_36_35, gr_36_36, al_3, al_4, al_5, al_6, al_7, al_8, al_9, al_10, al_12, al_13, al_14, al_16, al_17, al_19, al_20, al_22, al_23, al_24, al_26, al_27, al_28, al_29, al_30, al_31, al_32, al_33, al_35, al_37, al_38, al_39, al_40, al_41, al_42, al_43, al_44, al_45, al_46, al_47, al_48, al_49, al_50, al_51, al_52, al_53, al_54, al_55, al_56, al_57, al_58, al_59, ↓reduceIte, Option.bind_some, cI_some, cL_some, cV_some, rz_0, rz_1, bI_f h]
      rw [if_neg (by decide)]
    · simp -implicitDefEqProofs only [u_X8_brook, M_X8_brook, m_isSheet, io_1, gr_1_0, gr_1_1, gr_1_2, gr_1_3, gr_1_4, gr_1_5, gi_1_6, pf_1_6, gi_1_7, pf_1_7, io_2, gr_2_0, gr_2_1, gr_2_2, gr_2_3, gr_2_4, gr_2_5, gr_2_6, gr_2_7, gi_2_8, pf_2_8, gi_2_9, pf_2_9, gi_2_10, pf_2_10, gi_2_11, pf_2_11, gi_2_12, pf_2_12, gi_2_13, pf_2_13, gi_2_14, pf_2_14, io_11, gr_11_0, gr_11_1, gr_11_2, io_15, gr_15_0, gr_15_1, gi_15_2, pf_15_2, gi_15_3, pf_15_3, gi_15_4, pf_15_4, gi_15_5, pf_15_5, io_18, gr_18_0, gr_18_1, gi_18_2, pf_18_2, io_21, gr_21_0, gr_21_1, gr_21_2, gr_21_3, gi_21_4, pf_21_4, gi_21_5, pf_21_5, gi_21_6, pf_21_6, gi_21_7, pf_21_7, io_34, gr_34_0, gi_34_1, pf_34_1, io_36, gi_36_0, pf_36_0, gi_36_1, pf_36_1, gr_36_2, gr_36_3, gr_36_4, gi_36_5, pf_36_5, gi_36_6, pf_36_6, gi_36_7, pf_36_7, gr_36_8, gr_36_9, gr_36_10, gr_36_11, gi_36_12, pf_36_12, gi_36_13, pf_36_13, gi_36_14, pf_36_14, gr_36_15, gr_36_16, gi_36_17, pf_36_17, gr_36_18, gr_36_19, gr_36_20, gr_36_21, gr_36_22, gi_36_23, pf_36_23, gr_36_24, gr_36_25, gi_36_26, pf_36_26, gr_36_27, gr_36_28, gr_36_29, gr_36_30, gi_36_31, pf_36_31, gr_36_32, gr_36_33, gi_36_34, pf_36_34, gi_36_35, pf_36_35, gr_36_36, al_3, al_4, al_5, al_6, al_7, al_8, al_9, al_10, al_12, al_13, al_14, al_16, al_17, al_19, al_20, al_22, al_23, al_24, al_26, al_27, al_28, al_29, al_30, al_31, al_32, al_33, al_35, al_37, al_38, al_39, al_40, al_41, al_42, al_43, al_44, al_45, al_46, al_47, al_48, al_49, al_50, al_51, al_52, al_53, al_54, al_55, al_56, al_57, al_58, al_59, ↓reduceIte, Option.bind_some, cI_some, cL_some, cV_some, rz_0, rz_1, bI_f h]
  rcases n_rng y (a := 0) (b := 2) (by omega) (by omega) with ⟨t, _, ht2, rfl⟩ | h
  rotate_left
  · have hb : bI (0 ≤ y ∧ y ≤ 2) = 0 := bI_f h
    refine OP.fl (v := -2) (x := 0) r ?_ ?_
    · simp -implicitDefEqProofs only [u_X7_brook, M_X7_brook, u_X7_refusalOfCells, M_X7_refusalOfCells, c_isSheet, c_isSort, io_1, gr_1_0, gr_1_1, gr_1_2, gr_1_3, gr_1_4, gr_1_5, gi_1_6, pf_1_6, gi_1_7, pf_1_7, io_2, gr_2_0, gr_2_1, gr_2_2, gr_2_3, gr_2_4, gr_2_5, gr_2_6, gr_2_7, gi_2_8, pf_2_8, gi_2_9, pf_2_9, gi_2_10, pf_2_10, gi_2_11, pf_2_11, gi_2_12, pf_2_12, gi_2_13, pf_2_13, gi_2_14, pf_2_14, io_11, gr_11_0, gr_11_1, gr_11_2, io_15, gr_15_0, gr_15_1, gi_15_2, pf_15_2, gi_15_3, pf_15_3, gi_15_4, pf_15_4, gi_15_5, pf_15_5, io_18, gr_18_0, gr_18_1, gi_18_2, pf_18_2, io_21, gr_21_0, gr_21_1, gr_21_2, gr_21_3, gi_21_4, pf_21_4, gi_21_5, pf_21_5, gi_21_6, pf_21_6, gi_21_7, pf_21_7, io_34, gr_34_0, gi_34_1, pf_34_1, io_36, gi_36_0, pf_36_0, gi_36_1, pf_36_1, gr_36_2, gr_36_3, gr_36_4, gi_36_5, pf_36_5, gi_36_6, pf_36_6, gi_36_7, pf_36_7, gr_36_8, gr_36_9, gr_36_10, gr_36_11, gi_36_12, pf_36_12, gi_36_13, pf_36_13, gi_36_14, pf_36_14, gr_36_15, gr_36_16, gi_36_17, pf_36_17, gr_36_18, gr_36_19, gr_36_20, gr_36_21, gr_36_22, gi_36_23, pf_36_23, gr_36_24, gr_36_25, gi_36_26, pf_36_26, gr_36_27, gr_36_28, gr_36_29, gr_36_30, gi_36_31, pf_36_31, gr_36_32, gr_36_33, gi_36_34, pf_36_34, gi_36_35, pf_36_35, gr_36_36, al_3, al_4, al_5, al_6, al_7, al_8, al_9, al_10, al_12, al_13, al_14, al_16, al_17, al_19, al_20, al_22, al_23, al_24, al_26, al_27, al_28, al_29, al_30, al_31, al_32, al_33, al_35, al_37, al_38, al_39, al_40, al_41, al_42, al_43, al_44, al_45, al_46, al_47, al_48, al_49, al_50, al_51, al_52, al_53, al_54, al_55, al_56, al_57, al_58, al_59, ↓reduceIte, Option.bind_some, cI_some, cL_some, cV_some, rz_0, rz_1, ht, if_neg h10, hb]
      rw [if_neg (by decide)]
    · simp -implicitDefEqProofs only [u_X8_brook, M_X8_brook, m_isSheet, m_isSort, io_1, gr_1_0, gr_1_1, gr_1_2, gr_1_3, gr_1_4, gr_1_5, gi_1_6, pf_1_6, gi_1_7, pf_1_7, io_2, gr_2_0, gr_2_1, gr_2_2, gr_2_3, gr_2_4, gr_2_5, gr_2_6, gr_2_7, gi_2_8, pf_2_8, gi_2_9, pf_2_9, gi_2_10, pf_2_10, gi_2_11, pf_2_11, gi_2_12, pf_2_12, gi_2_13, pf_2_13, gi_2_14, pf_2_14, io_11, gr_11_0, gr_11_1, gr_11_2, io_15, gr_15_0, gr_15_1, gi_15_2, pf_15_2, gi_15_3, pf_15_3, gi_15_4, pf_15_4, gi_15_5, pf_15_5, io_18, gr_18_0, gr_18_1, gi_18_2, pf_18_2, io_21, gr_21_0, gr_21_1, gr_21_2, gr_21_3, gi_21_4, pf_21_4, gi_21_5, pf_21_5, gi_21_6, pf_21_6, gi_21_7, pf_21_7, io_34, gr_34_0, gi_34_1, pf_34_1, io_36, gi_36_0, pf_36_0, gi_36_1, pf_36_1, gr_36_2, gr_36_3, gr_36_4, gi_36_5, pf_36_5, gi_36_6, pf_36_6, gi_36_7, pf_36_7, gr_36_8, gr_36_9, gr_36_10, gr_36_11, gi_36_12, pf_36_12, gi_36_13, pf_36_13, gi_36_14, pf_36_14, gr_36_15, gr_36_16, gi_36_17, pf_36_17, gr_36_18, gr_36_19, gr_36_20, gr_36_21, gr_36_22, gi_36_23, pf_36_23, gr_36_24, gr_36_25, gi_36_26, pf_36_26, gr_36_27, gr_36_28, gr_36_29, gr_36_30, gi_36_31, pf_36_31, gr_36_32, gr_36_33, gi_36_34, pf_36_34, gi_36_35, pf_36_35, gr_36_36, al_3, al_4, al_5, al_6, al_7, al_8, al_9, al_10, al_12, al_13, al_14, al_16, al_17, al_19, al_20, al_22, al_23, al_24, al_26, al_27, al_28, al_29, al_30, al_31, al_32, al_33, al_35, al_37, al_38, al_39, al_40, al_41, al_42, al_43, al_44, al_45, al_46, al_47, al_48, al_49, al_50, al_51, al_52, al_53, al_54, al_55, al_56, al_57, al_58, al_59, ↓reduceIte, Option.bind_some, cI_some, cL_some, cV_some, rz_0, rz_1, ht, if_neg h10, hb]
  have htt : bI (0 ≤ nI t ∧ nI t ≤ 2) = 1 := bI_t (n_rin (b := 2) (Nat.zero_le t) ht2 (by decide))
  obtain ⟨o, ho⟩ := r.rs.o hq
  have ref := c_refuse (fu := fu) (I := uI I 1 7 0) r.2.1 hq ht2 ho i n
  by_cases hz : fvI o (nI t) i n = 0
  rotate_left
  · rw [if_neg hz, uI_uI] at ref
    have aga := fun z => m_against (fu := fu) (I := uI (uI I 1 7 z) 36 0 0) (by omega) r.2.1 hq ho (nI t) i n
    refine OP.fl (v := -10 - fvI o (nI t) i n) (x := fvI o (nI t) i n) r ?_ ?_
    · simp -implicitDefEqProofs only [u_X7_brook, M_X7_brook, io_1, gr_1_0, gr_1_1, gr_1_2, gr_1_3, gr_1_4, gr_1_5, gi_1_6, pf_1_6, gi_1_7, pf_1_7, io_2, gr_2_0, gr_2_1, gr_2_2, gr_2_3, gr_2_4, gr_2_5, gr_2_6, gr_2_7, gi_2_8, pf_2_8, gi_2_9, pf_2_9, gi_2_10, pf_2_10, gi_2_11, pf_2_11, gi_2_12, pf_2_12, gi_2_13, pf_2_13, gi_2_14, pf_2_14, io_11, gr_11_0, gr_11_1, gr_11_2, io_15, gr_15_0, gr_15_1, gi_15_2, pf_15_2, gi_15_3, pf_15_3, gi_15_4, pf_15_4, gi_15_5, pf_15_5, io_18, gr_18_0, gr_18_1, gi_18_2, pf_18_2, io_21, gr_21_0, gr_21_1, gr_21_2, gr_21_3, gi_21_4, pf_21_4, gi_21_5, pf_21_5, gi_21_6, pf_21_6, gi_21_7, pf_21_7, io_34, gr_34_0, gi_34_1, pf_34_1, io_36, gi_36_0, pf_36_0, gi_36_1, pf_36_1, gr_36_2, gr_36_3, gr_36_4, gi_36_5, pf_36_5, gi_36_6, pf_36_6, gi_36_7, pf_36_7, gr_36_8, gr_36_9, gr_36_10, gr_36_11, gi_36_12, pf_36_12, gi_36_13, pf_36_13, gi_36_14, pf_36_14, gr_36_15, gr_36_16, gi_36_17, pf_36_17, gr_36_18, gr_36_19, gr_36_20, gr_36_21, gr_36_22, gi_36_23, pf_36_23, gr_36_24, gr_36_25, gi_36_26, pf_36_26, gr_36_27, gr_36_28, gr_36_29, gr_36_30, gi_36_31, pf_36_31, gr_36_32, gr_36_33, gi_36_34, pf_36_34, gi_36_35, pf_36_35, gr_36_36, al_3, al_4, al_5, al_6, al_7, al_8, al_9, al_10, al_12, al_13, al_14, al_16, al_17, al_19, al_20, al_22, al_23, al_24, al_26, al_27, al_28, al_29, al_30, al_31, al_32, al_33, al_35, al_37, al_38, al_39, al_40, al_41, al_42, al_43, al_44, al_45, al_46, al_47, al_48, al_49, al_50, al_51, al_52, al_53, al_54, al_55, al_56, al_57, al_58, al_59, ↓reduceIte, Option.bind_some, cI_some, cL_some, cV_some, rz_0, rz_1, ref]
      rw [if_neg (fvI_n hz)]
    · simp -implicitDefEqProofs only [u_X8_brook, M_X8_brook, m_isSheet, m_isSort, io_1, gr_1_0, gr_1_1, gr_1_2, gr_1_3, gr_1_4, gr_1_5, gi_1_6, pf_1_6, gi_1_7, pf_1_7, io_2, gr_2_0, gr_2_1, gr_2_2, gr_2_3, gr_2_4, gr_2_5, gr_2_6, gr_2_7, gi_2_8, pf_2_8, gi_2_9, pf_2_9, gi_2_10, pf_2_10, gi_2_11, pf_2_11, gi_2_12, pf_2_12, gi_2_13, pf_2_13, gi_2_14, pf_2_14, io_11, gr_11_0, gr_11_1, gr_11_2, io_15, gr_15_0, gr_15_1, gi_15_2, pf_15_2, gi_15_3, pf_15_3, gi_15_4, pf_15_4, gi_15_5, pf_15_5, io_18, gr_18_0, gr_18_1, gi_18_2, pf_18_2, io_21, gr_21_0, gr_21_1, gr_21_2, gr_21_3, gi_21_4, pf_21_4, gi_21_5, pf_21_5, gi_21_6, pf_21_6, gi_21_7, pf_21_7, io_34, gr_34_0, gi_34_1, pf_34_1, io_36, gi_36_0, pf_36_0, gi_36_1, pf_36_1, gr_36_2, gr_36_3, gr_36_4, gi_36_5, pf_36_5, gi_36_6, pf_36_6, gi_36_7, pf_36_7, gr_36_8, gr_36_9, gr_36_10, gr_36_11, gi_36_12, pf_36_12, gi_36_13, pf_36_13, gi_36_14, pf_36_14, gr_36_15, gr_36_16, gi_36_17, pf_36_17, gr_36_18, gr_36_19, gr_36_20, gr_36_21, gr_36_22, gi_36_23, pf_36_23, gr_36_24, gr_36_25, gi_36_26, pf_36_26, gr_36_27, gr_36_28, gr_36_29, gr_36_30, gi_36_31, pf_36_31, gr_36_32, gr_36_33, gi_36_34, pf_36_34, gi_36_35, pf_36_35, gr_36_36, al_3, al_4, al_5, al_6, al_7, al_8, al_9, al_10, al_12, al_13, al_14, al_16, al_17, al_19, al_20, al_22, al_23, al_24, al_26, al_27, al_28, al_29, al_30, al_31, al_32, al_33, al_35, al_37, al_38, al_39, al_40, al_41, al_42, al_43, al_44, al_45, al_46, al_47, al_48, al_49, al_50, al_51, al_52, al_53, al_54, al_55, al_56, al_57, al_58, al_59, ↓reduceIte, Option.bind_some, cI_some, cL_some, cV_some, rz_0, rz_1, ht, htt, if_neg h10, aga, if_neg hz, m_fails, uI_uI]
  rw [if_pos hz] at ref
  obtain ⟨n0, t0, i0, kk, ho0, _, rfl, rfl, hik, hn0⟩ := fv_0 ho hz
  have ho2 := ho
  rw [ho0] at ho2
  obtain ⟨a1, a2, a3, a4, a5, a6, a7⟩ := ho2
  have hb : 60 * q + i0 + kk ≤ 240 := by omega
  obtain ⟨v, hvd⟩ : ∃ v : Nat → Int32, ∀ p, v p = rd (A 14) (60 * q + i0 + p) := ⟨_, fun _ => rfl⟩
  have hv14 : ∀ p, p < kk → rd (A 14) (60 * q + i0 + p) = v p := fun p _ => (hvd p).symm
  have hv39 : ∀ p, p < kk → rd (A 39) (60 * q + i0 + p) = v p := fun p hp => by
    rw [hvd p, Nat.add_assoc]
    exact (a7 _ (by omega)).symm
  obtain ⟨p, hp, hp240, hc⟩ := c_first (fu := fu) (I := uI I 1 7 0) hf r.2.1 hb hv14
  have hm := mtl_le v kk
  have e60 : ∀ k, 60 * nI q + nI i0 + nI k = nI (60 * q + i0 + k) := fun k => by rw [(n_60 q i0).2, nI_add]
  by_cases hgood : p = kk ∧ p = 2 * mtl v kk + 6
  rotate_left
  · -- a fault in the text
    rw [if_neg hgood] at hc
    have aga := m_against (fu := fu) (I := uI (uI I 1 7 0) 36 0 0) hf r.2.1 hq ho (nI t) (nI i0) (nI kk)
    obtain ⟨p2, B, J, m1, m2, m3, m4, m5⟩ := m_read (fu := fu) (A := A) (I := uI (uI (uI I 1 7 0) 36 0 0) 36 12 (nI (60 * q + i0))) hf r.2.1 hb hv39 (uI_s _ _ _ _)
    have ep : p2 = p := m4.uniq hp
    subst ep
    rw [bI_f hgood] at m1
    have r1 := r.flt 0
    have hF : Fr A (uI (uI I 1 7 0) 36 0 0) B J := (Fr.int (Fr.rf _ _) rfl).tr m2
    refine ⟨-100 - nI p2, A, uI I 1 7 0, B, J, σ, ?_, rfl, ?_, hF.zero, fun _ => ?_, hF.R r1⟩
    · simp -implicitDefEqProofs only [u_X7_brook, M_X7_brook, io_1, gr_1_0, gr_1_1, gr_1_2, gr_1_3, gr_1_4, gr_1_5, gi_1_6, pf_1_6, gi_1_7, pf_1_7, io_2, gr_2_0, gr_2_1, gr_2_2, gr_2_3, gr_2_4, gr_2_5, gr_2_6, gr_2_7, gi_2_8, pf_2_8, gi_2_9, pf_2_9, gi_2_10, pf_2_10, gi_2_11, pf_2_11, gi_2_12, pf_2_12, gi_2_13, pf_2_13, gi_2_14, pf_2_14, io_11, gr_11_0, gr_11_1, gr_11_2, io_15, gr_15_0, gr_15_1, gi_15_2, pf_15_2, gi_15_3, pf_15_3, gi_15_4, pf_15_4, gi_15_5, pf_15_5, io_18, gr_18_0, gr_18_1, gi_18_2, pf_18_2, io_21, gr_21_0, gr_21_1, gr_21_2, gr_21_3, gi_21_4, pf_21_4, gi_21_5, pf_21_5, gi_21_6, pf_21_6, gi_21_7, pf_21_7, io_34, gr_34_0, gi_34_1, pf_34_1, io_36, gi_36_0, pf_36_0, gi_36_1, pf_36_1, gr_36_2, gr_36_3, gr_36_4, gi_36_5, pf_36_5, gi_36_6, pf_36_6, gi_36_7, pf_36_7, gr_36_8, gr_36_9, gr_36_10, gr_36_11, gi_36_12, pf_36_12, gi_36_13, pf_36_13, gi_36_14, pf_36_14, gr_36_15, gr_36_16, gi_36_17, pf_36_17, gr_36_18, gr_36_19, gr_36_20, gr_36_21, gr_36_22, gi_36_23, pf_36_23, gr_36_24, gr_36_25, gi_36_26, pf_36_26, gr_36_27, gr_36_28, gr_36_29, gr_36_30, gi_36_31, pf_36_31, gr_36_32, gr_36_33, gi_36_34, pf_36_34, gi_36_35, pf_36_35, gr_36_36, al_3, al_4, al_5, al_6, al_7, al_8, al_9, al_10, al_12, al_13, al_14, al_16, al_17, al_19, al_20, al_22, al_23, al_24, al_26, al_27, al_28, al_29, al_30, al_31, al_32, al_33, al_35, al_37, al_38, al_39, al_40, al_41, al_42, al_43, al_44, al_45, al_46, al_47, al_48, al_49, al_50, al_51, al_52, al_53, al_54, al_55, al_56, al_57, al_58, al_59, ↓reduceIte, Option.bind_some, cI_some, cL_some, cV_some, rz_0, rz_1, ref, hc, n_neg (show p2 < 2147483648 by omega), if_false]
    · have ed : nI (60 * q + i0 + p2) - nI (60 * q + i0) = nI p2 := by rw [pk_sub (by omega), show 60 * q + i0 + p2 - (60 * q + i0) = p2 by omega]
      have m3' : J 36 12 = nI (60 * q + i0 + p2) := m3
      simp -implicitDefEqProofs only [u_X8_brook, M_X8_brook, m_isSheet, m_isSort, io_1, gr_1_0, gr_1_1, gr_1_2, gr_1_3, gr_1_4, gr_1_5, gi_1_6, pf_1_6, gi_1_7, pf_1_7, io_2, gr_2_0, gr_2_1, gr_2_2, gr_2_3, gr_2_4, gr_2_5, gr_2_6, gr_2_7, gi_2_8, pf_2_8, gi_2_9, pf_2_9, gi_2_10, pf_2_10, gi_2_11, pf_2_11, gi_2_12, pf_2_12, gi_2_13, pf_2_13, gi_2_14, pf_2_14, io_11, gr_11_0, gr_11_1, gr_11_2, io_15, gr_15_0, gr_15_1, gi_15_2, pf_15_2, gi_15_3, pf_15_3, gi_15_4, pf_15_4, gi_15_5, pf_15_5, io_18, gr_18_0, gr_18_1, gi_18_2, pf_18_2, io_21, gr_21_0, gr_21_1, gr_21_2, gr_21_3, gi_21_4, pf_21_4, gi_21_5, pf_21_5, gi_21_6, pf_21_6, gi_21_7, pf_21_7, io_34, gr_34_0, gi_34_1, pf_34_1, io_36, gi_36_0, pf_36_0, gi_36_1, pf_36_1, gr_36_2, gr_36_3, gr_36_4, gi_36_5, pf_36_5, gi_36_6, pf_36_6, gi_36_7, pf_36_7, gr_36_8, gr_36_9, gr_36_10, gr_36_11, gi_36_12, pf_36_12, gi_36_13, pf_36_13, gi_36_14, pf_36_14, gr_36_15, gr_36_16, gi_36_17, pf_36_17, gr_36_18, gr_36_19, gr_36_20, gr_36_21, gr_36_22, gi_36_23, pf_36_23, gr_36_24, gr_36_25, gi_36_26, pf_36_26, gr_36_27, gr_36_28, gr_36_29, gr_36_30, gi_36_31, pf_36_31, gr_36_32, gr_36_33, gi_36_34, pf_36_34, gi_36_35, pf_36_35, gr_36_36, al_3, al_4, al_5, al_6, al_7, al_8, al_9, al_10, al_12, al_13, al_14, al_16, al_17, al_19, al_20, al_22, al_23, al_24, al_26, al_27, al_28, al_29, al_30, al_31, al_32, al_33, al_35, al_37, al_38, al_39, al_40, al_41, al_42, al_43, al_44, al_45, al_46, al_47, al_48, al_49, al_50, al_51, al_52, al_53, al_54, al_55, al_56, al_57, al_58, al_59, ↓reduceIte, Option.bind_some, cI_some, cL_some, cV_some, rz_0, rz_1, ht, htt, if_neg h10, aga, if_pos hz, (n_60 q i0).2, nI_add, m1, m3', ed]
    · rw [hF.2.2 1 7 rfl, hF.2.2 36 0 rfl]; rfl
  -- the text is taken
  obtain ⟨hpk, hp6⟩ := hgood
  obtain ⟨m, hmm⟩ : ∃ m, m = mtl v kk := ⟨_, rfl⟩
  rw [if_pos ⟨hpk, hp6⟩] at hc
  rw [← hmm] at hm hp hp6
  have hk6 : kk = 2 * m + 6 := by omega
  have gd : ∀ p', p' < 2 * m + 6 → gon m p' (v p') = true := fun p' h => (hp.1 p' (by omega)).2.2
  have dd : ∀ p', p' < 2 * m + 6 → p' ≠ 0 → p' ≠ m + 1 → p' ≠ m + 2 → p' ≠ 2 * m + 3 → p' ≠ 2 * m + 4 → v p' - 48 = nI (dig (v p')) ∧ dig (v p') ≤ 9 := fun p' h h0 h1 h2 h3 h4 => by
    have := gd p' h
    rw [gon_g h0 h1 h2 h3 h4, decide_eq_true_iff] at this
    exact dig_n this
  obtain ⟨xs, x1, x2, x3⟩ := c_makeAnew (fu := fu) (A := A) (I := uI I 1 7 0) hf r.2.1
  have hL1 : LEN (uA A 5 xs) := r.2.1.set (by rw [x1]; exact (r.len (k := 5) rfl).symm)
  have hv14' : ∀ p, p < kk → rd (uA A 5 xs 14) (60 * q + i0 + p) = v p := by rw [uA_n _ _ _ (by decide)]; exact hv14
  have ctl := c_told (fu := fu) (I := anw (uI I 1 7 0)) hf hL1 hb hv14'
  rw [← hmm] at ctl
  obtain ⟨es, cs, d1, d2, d3, d4⟩ := c_readL (fu := fu) hb (m := m) hm.2 (by omega) m 0 fu (uA A 5 xs 3) (uA A 5 xs 4) (uA A 5 xs) (anw (uI I 1 7 0)) hL1 hv14' (by omega) (by omega) (hL1 3 rfl) (hL1 4 rfl) (fun j hj => by omega)
  have e38 : uA (uA (uA A 5 xs) 3 (uA A 5 xs 3)) 4 (uA A 5 xs 4) = uA A 5 xs := by
    rw [uA_self]; exact uA_self _ 4
  rw [e38] at d1
  obtain ⟨A1, hA1⟩ : ∃ X, X = uA (uA (uA A 5 xs) 3 es) 4 cs := ⟨_, rfl⟩
  obtain ⟨I1, hI1⟩ : ∃ X, X = uI (uI (anw (uI I 1 7 0)) 2 9 (v (2 * m + 5) - 48)) 2 8 (nI m) := ⟨_, rfl⟩
  rw [← hA1, ← hI1] at d1
  have hLA : LEN A1 := by
    rw [hA1]
    exact (hL1.set (by rw [d2]; exact (hL1 3 rfl).symm)).set (by rw [d3, uA_n _ _ _ (by decide)]; exact (hL1 4 rfl).symm)
  have oA : ∀ k, k ≠ 3 → k ≠ 4 → k ≠ 5 → A1 k = A k := fun k a b c => by rw [hA1, uA_n _ _ _ b, uA_n _ _ _ a, uA_n _ _ _ c]
  have v3 : A1 3 = es := by rw [hA1, uA_n _ _ _ (by decide), uA_s]
  have v4 : A1 4 = cs := by rw [hA1, uA_s]
  have v5 : A1 5 = xs := by rw [hA1, uA_n _ _ _ (by decide), uA_n _ _ _ (by decide), uA_s]
  have oI : ∀ o j, o ≠ 2 → I1 o j = uI I 1 7 0 o j := fun o j h => by
    rw [hI1]; unfold anw uI
    simp only [h, false_and, if_false]
  have hi8 : I1 2 8 = nI m := by rw [hI1]; exact uI_s _ _ _ _
  have hoA : SHo A1 q o := by
    rw [ho0] at ho ⊢
    unfold SHo at ho ⊢
    simp only [oA 12 (by decide) (by decide) (by decide), oA 13 (by decide) (by decide) (by decide), oA 14 (by decide) (by decide) (by decide), oA 37 (by decide) (by decide) (by decide), oA 38 (by decide) (by decide) (by decide), oA 39 (by decide) (by decide) (by decide)]
    exact ho
  have aga := m_against (fu := fu) (I := uI I1 36 0 0) hf hLA hq hoA (nI t) (nI i0) (nI kk)
  have hv39' : ∀ p, p < kk → rd (A1 39) (60 * q + i0 + p) = v p := by rw [oA 39 (by decide) (by decide) (by decide)]; exact hv39
  obtain ⟨p2, B, J, m1, m2, m3, m4, m5⟩ := m_read (fu := fu) (A := A1) (I := uI (uI I1 36 0 0) 36 12 (nI (60 * q + i0))) hf hLA hb hv39' (uI_s _ _ _ _)
  rw [← hmm] at m1 m4 m5
  have ep : p2 = p := m4.uniq hp
  subst ep
  rw [bI_t ⟨hpk, hp6⟩] at m1
  obtain ⟨m6, m7, m8⟩ := m5 ⟨hpk, hp6⟩
  have hLB : LEN B := fun k hk => by rw [m2.2.1]; exact hLA k hk
  obtain ⟨J1, hJ1⟩ : ∃ X, X = uI (uI (uI (uI (uI J 36 5 (nI m)) 36 6 (v (2 * m + 5) - 48)) 36 7 0) 36 17 0) 36 23 0 := ⟨_, rfl⟩
  obtain ⟨C, c1, c2, c3, c4⟩ := m_brookL (fu := fu) hm.2 m 0 fu B J1 (by omega) (by omega) hLB (by rw [hJ1]; rfl) (fun j hj => by omega)
  obtain ⟨pc, hpc⟩ : ∃ pc, pc = dig (v (2 * m + 5)) := ⟨_, rfl⟩
  have dpc := dd (2 * m + 5) (by omega) (by omega) (by omega) (by omega) (by omega) (by omega)
  rw [← hpc] at dpc
  have ddp : ∀ c, c < m → v (1 + c) - 48 = nI (dig (v (1 + c))) ∧ dig (v (1 + c)) ≤ 9 := fun c hc => dd (1 + c) (by omega) (by omega) (by omega) (by omega) (by omega) (by omega)
  have dbd : ∀ c, c < m → v (m + 3 + c) - 48 = nI (dig (v (m + 3 + c))) ∧ dig (v (m + 3 + c)) ≤ 9 := fun c hc => dd (m + 3 + c) (by omega) (by omega) (by omega) (by omega) (by omega) (by omega)
  -- what is as it was
  have CA : ∀ k, scrA k = false → k ≠ 3 → k ≠ 4 → k ≠ 5 → k ≠ 40 → k ≠ 41 → k ≠ 42 → k ≠ 43 → C k = A k := fun k hk a b c d e f g => by rw [c3 k d e f g, m2.1 k hk, oA k a b c]
  have JI : ∀ o j, scrI o j = false → ¬ (o = 36 ∧ (j = 0 ∨ j = 5 ∨ j = 6 ∨ j = 7 ∨ j = 17 ∨ j = 23)) → J1 o j = I1 o j := fun o j hk h => by
    have e : J1 o j = J o j := by
      rw [hJ1]; unfold uI
      rw [if_neg (fun w => h ⟨w.1, by omega⟩), if_neg (fun w => h ⟨w.1, by omega⟩), if_neg (fun w => h ⟨w.1, by omega⟩), if_neg (fun w => h ⟨w.1, by omega⟩), if_neg (fun w => h ⟨w.1, by omega⟩)]
    rw [e, m2.2.2 o j hk]
    unfold uI
    rw [if_neg (fun w => by rw [w.1, w.2] at hk; cases hk), if_neg (fun w => h ⟨w.1, by omega⟩)]
  have CS : ∀ k, k = 3 ∨ k = 4 ∨ k = 5 → C k = A1 k := fun k h => by
    rw [c3 k (by omega) (by omega) (by omega) (by omega), m2.1 k (by rcases h with h | h | h <;> (rw [h]; rfl))]
  have hbz : ∀ (f : Nat → Bool) k, (∀ i, f i = false) → nI (bits f k) = 0 := fun f k hf => by rw [bits_z k (fun i _ => hf i)]; rfl
  have J2 : ∀ j, J1 2 j = I1 2 j := fun j => JI 2 j rfl (by omega)
  refine ⟨nI m, A1, I1, C, J1, newS m pc (fun c => dig (v (1 + c))) (fun c => dig (v (m + 3 + c))), ?_, oA 0 (by decide) (by decide) (by decide), ?_, CA 0 rfl (by decide) (by decide) (by decide) (by decide) (by decide) (by decide) (by decide), fun _ => ?_, newS_wf hm.1 hm.2 dpc.2 (fun c hc => ⟨(ddp c hc).2, (dbd c hc).2⟩), c2, ⟨⟨?_, ?_, ?_, ?_, ?_, ?_, ?_⟩, fun c hc => ⟨?_, ?_, ?_⟩, fun s hs => absurd hs (Nat.not_lt_zero _), fun s hs => absurd hs (Nat.not_lt_zero _)⟩, ⟨⟨?_, ?_, ?_, ?_, ?_, ?_⟩, fun c hc => ⟨?_, ?_, ?_, ?_⟩, fun s hs => absurd hs (Nat.not_lt_zero _), fun s hs => absurd hs (Nat.not_lt_zero _)⟩, RS.of ?_ rfl fun k hk => ?_⟩
  · have rin : U_X5_readInto fu [.ref 2, .ref 11, .int (nI q), .int (nI i0), .int (nI kk)] (enc (uA A 5 xs) (anw (uI I 1 7 0))) = some (none, enc A1 I1) := by
      simp -implicitDefEqProofs only [u_X5_readInto, M_X5_readInto, ctl, io_1, gr_1_0, gr_1_1, gr_1_2, gr_1_3, gr_1_4, gr_1_5, gi_1_6, pf_1_6, gi_1_7, pf_1_7, io_2, gr_2_0, gr_2_1, gr_2_2, gr_2_3, gr_2_4, gr_2_5, gr_2_6, gr_2_7, gi_2_8, pf_2_8, gi_2_9, pf_2_9, gi_2_10, pf_2_10, gi_2_11, pf_2_11, gi_2_12, pf_2_12, gi_2_13, pf_2_13, gi_2_14, pf_2_14, io_11, gr_11_0, gr_11_1, gr_11_2, io_15, gr_15_0, gr_15_1, gi_15_2, pf_15_2, gi_15_3, pf_15_3, gi_15_4, pf_15_4, gi_15_5, pf_15_5, io_18, gr_18_0, gr_18_1, gi_18_2, pf_18_2, io_21, gr_21_0, gr_21_1, gr_21_2, gr_21_3, gi_21_4, pf_21_4, gi_21_5, pf_21_5, gi_21_6, pf_21_6, gi_21_7, pf_21_7, io_34, gr_34_0, gi_34_1, pf_34_1, io_36, gi_36_0, pf_36_0, gi_36_1, pf_36_1, gr_36_2, gr_36_3, gr_36_4, gi_36_5, pf_36_5, gi_36_6, pf_36_6, gi_36_7, pf_36_7, gr_36_8, gr_36_9, gr_36_10, gr_36_11, gi_36_12, pf_36_12, gi_36_13, pf_36_13, gi_36_14, pf_36_14, gr_36_15, gr_36_16, gi_36_17, pf_36_17, gr_36_18, gr_36_19, gr_36_20, gr_36_21, gr_36_22, gi_36_23, pf_36_23, gr_36_24, gr_36_25, gi_36_26, pf_36_26, gr_36_27, gr_36_28, gr_36_29, gr_36_30, gi_36_31, pf_36_31, gr_36_32, gr_36_33, gi_36_34, pf_36_34, gi_36_35, pf_36_35, gr_36_36, al_3, al_4, al_5, al_6, al_7, al_8, al_9, al_10, al_12, al_13, al_14, al_16, al_17, al_19, al_20, al_22, al_23, al_24, al_26, al_27, al_28, al_29, al_30, al_31, al_32, al_33, al_35, al_37, al_38, al_39, al_40, al_41, al_42, al_43, al_44, al_45, al_46, al_47, al_48, al_49, al_50, al_51, al_52, al_53, al_54, al_55, al_56, al_57, al_58, al_59, ↓reduceIte, Option.bind_some, cI_some, cL_some, cV_some, rz_0, rz_1]
      exact d1
    simp -implicitDefEqProofs only [u_X7_brook, M_X7_brook, io_1, gr_1_0, gr_1_1, gr_1_2, gr_1_3, gr_1_4, gr_1_5, gi_1_6, pf_1_6, gi_1_7, pf_1_7, io_2, gr_2_0, gr_2_1, gr_2_2, gr_2_3, gr_2_4, gr_2_5, gr_2_6, gr_2_7, gi_2_8, pf_2_8, gi_2_9, pf_2_9, gi_2_10, pf_2_10, gi_2_11, pf_2_11, gi_2_12, pf_2_12, gi_2_13, pf_2_13, gi_2_14, pf_2_14, io_11, gr_11_0, gr_11_1, gr_11_2, io_15, gr_15_0, gr_15_1, gi_15_2, pf_15_2, gi_15_3, pf_15_3, gi_15_4, pf_15_4, gi_15_5, pf_15_5, io_18, gr_18_0, gr_18_1, gi_18_2, pf_18_2, io_21, gr_21_0, gr_21_1, gr_21_2, gr_21_3, gi_21_4, pf_21_4, gi_21_5, pf_21_5, gi_21_6, pf_21_6, gi_21_7, pf_21_7, io_34, gr_34_0, gi_34_1, pf_34_1, io_36, gi_36_0, pf_36_0, gi_36_1, pf_36_1, gr_36_2, gr_36_3, gr_36_4, gi_36_5, pf_36_5, gi_36_6, pf_36_6, gi_36_7, pf_36_7, gr_36_8, gr_36_9, gr_36_10, gr_36_11, gi_36_12, pf_36_12, gi_36_13, pf_36_13, gi_36_14, pf_36_14, gr_36_15, gr_36_16, gi_36_17, pf_36_17, gr_36_18, gr_36_19, gr_36_20, gr_36_21, gr_36_22, gi_36_23, pf_36_23, gr_36_24, gr_36_25, gi_36_26, pf_36_26, gr_36_27, gr_36_28, gr_36_29, gr_36_30, gi_36_31, pf_36_31, gr_36_32, gr_36_33, gi_36_34, pf_36_34, gi_36_35, pf_36_35, gr_36_36, al_3, al_4, al_5, al_6, al_7, al_8, al_9, al_10, al_12, al_13, al_14, al_16, al_17, al_19, al_20, al_22, al_23, al_24, al_26, al_27, al_28, al_29, al_30, al_31, al_32, al_33, al_35, al_37, al_38, al_39, al_40, al_41, al_42, al_43, al_44, al_45, al_46, al_47, al_48, al_49, al_50, al_51, al_52, al_53, al_54, al_55, al_56, al_57, al_58, al_59, ↓reduceIte, Option.bind_some, cI_some, cL_some, cV_some, rz_0, rz_1, ref, hc, x3, rin, hi8]
    rw [if_pos (by decide)]
  · have eJ : ∀ a b c d e, uI (uI (uI (uI (uI J 36 5 a) 36 6 b) 36 7 c) 36 17 d) 36 23 e = uI (uI (uI (uI (uI J 36 5 a) 36 6 b) 36 7 c) 36 17 d) 36 23 e := fun _ _ _ _ _ => rfl
    have m7' : ∀ x, uI J 36 5 x 36 14 = v (2 * m + 5) - 48 := fun x => m7
    simp -implicitDefEqProofs only [u_X8_brook, M_X8_brook, m_isSheet, m_isSort, io_1, gr_1_0, gr_1_1, gr_1_2, gr_1_3, gr_1_4, gr_1_5, gi_1_6, pf_1_6, gi_1_7, pf_1_7, io_2, gr_2_0, gr_2_1, gr_2_2, gr_2_3, gr_2_4, gr_2_5, gr_2_6, gr_2_7, gi_2_8, pf_2_8, gi_2_9, pf_2_9, gi_2_10, pf_2_10, gi_2_11, pf_2_11, gi_2_12, pf_2_12, gi_2_13, pf_2_13, gi_2_14, pf_2_14, io_11, gr_11_0, gr_11_1, gr_11_2, io_15, gr_15_0, gr_15_1, gi_15_2, pf_15_2, gi_15_3, pf_15_3, gi_15_4, pf_15_4, gi_15_5, pf_15_5, io_18, gr_18_0, gr_18_1, gi_18_2, pf_18_2, io_21, gr_21_0, gr_21_1, gr_21_2, gr_21_3, gi_21_4, pf_21_4, gi_21_5, pf_21_5, gi_21_6, pf_21_6, gi_21_7, pf_21_7, io_34, gr_34_0, gi_34_1, pf_34_1, io_36, gi_36_0, pf_36_0, gi_36_1, pf_36_1, gr_36_2, gr_36_3, gr_36_4, gi_36_5, pf_36_5, gi_36_6, pf_36_6, gi_36_7, pf_36_7, gr_36_8, gr_36_9, gr_36_10, gr_36_11, gi_36_12, pf_36_12, gi_36_13, pf_36_13, gi_36_14, pf_36_14, gr_36_15, gr_36_16, gi_36_17, pf_36_17, gr_36_18, gr_36_19, gr_36_20, gr_36_21, gr_36_22, gi_36_23, pf_36_23, gr_36_24, gr_36_25, gi_36_26, pf_36_26, gr_36_27, gr_36_28, gr_36_29, gr_36_30, gi_36_31, pf_36_31, gr_36_32, gr_36_33, gi_36_34, pf_36_34, gi_36_35, pf_36_35, gr_36_36, al_3, al_4, al_5, al_6, al_7, al_8, al_9, al_10, al_12, al_13, al_14, al_16, al_17, al_19, al_20, al_22, al_23, al_24, al_26, al_27, al_28, al_29, al_30, al_31, al_32, al_33, al_35, al_37, al_38, al_39, al_40, al_41, al_42, al_43, al_44, al_45, al_46, al_47, al_48, al_49, al_50, al_51, al_52, al_53, al_54, al_55, al_56, al_57, al_58, al_59, ↓reduceIte, Option.bind_some, cI_some, cL_some, cV_some, rz_0, rz_1, ht, htt, if_neg h10, aga, if_pos hz, (n_60 q i0).2, nI_add, m1, m6, m7', ← hJ1]
    exact c1
  · rw [JI 1 7 rfl (by omega), oI 1 7 (by decide)]
    have e : J1 36 0 = J 36 0 := by rw [hJ1]; rfl
    rw [e, m2.2.2 36 0 rfl]
    rfl
  · rw [J2]; exact hi8
  · rw [J2, hI1]; exact dpc.1
  · refine Eq.trans ?_ (hbz _ _ (fun _ => rfl)).symm
    rw [J2, hI1]; rfl
  · rw [J2, hI1]; rfl
  · rw [J2, hI1]; rfl
  · refine Eq.trans ?_ (hbz _ _ (fun _ => rfl)).symm
    rw [J2, hI1]; rfl
  · rw [J2, hI1]; rfl
  · rw [CS 3 (by omega), v3, (d4 c hc).1]; exact (ddp c hc).1
  · rw [CS 4 (by omega), v4, (d4 c hc).2]; exact (dbd c hc).1
  · rw [CS 5 (by omega), v5]
    have hc' : c < m := hc
    exact x2 c (by omega)
  · rw [hJ1]; rfl
  · rw [hJ1]; exact dpc.1
  · rw [hJ1]; rfl
  · rw [hJ1]; rfl
  · rw [hJ1]; rfl
  · rw [JI 36 31 rfl (by omega), oI 36 31 (by decide)]; exact r.i36_31
  · rw [(c4 c hc).1, (m8 c hc).1]; exact (ddp c hc).1
  · rw [(c4 c hc).2.1, (m8 c hc).2]; exact (dbd c hc).1
  · exact (c4 c hc).2.2.2
  · exact (c4 c hc).2.2.1
  · rw [JI 1 6 rfl (by omega), JI 36 1 rfl (by omega), oI 1 6 (by decide), oI 36 1 (by decide)]
    exact r.rs.1
  · obtain ⟨o3, ho3⟩ := r.rs.o hk
    refine ⟨o3, ?_⟩
    have g : ∀ k, k = 12 ∨ k = 13 ∨ k = 14 ∨ k = 37 ∨ k = 38 ∨ k = 39 → C k = A k := fun k h => CA k (by rcases h with h | h | h | h | h | h <;> (rw [h]; rfl)) (by omega) (by omega) (by omega) (by omega) (by omega) (by omega) (by omega)
    cases o3 with
    | none =>
      unfold SHo at ho3 ⊢
      rw [g 13 (by omega), g 37 (by omega)]
      exact ho3
    | some x =>
      obtain ⟨n3, t3⟩ := x
      unfold SHo at ho3 ⊢
      rw [g 12 (by omega), g 13 (by omega), g 14 (by omega), g 37 (by omega), g 38 (by omega), g 39 (by omega)]
      exact ho3
end Q8
