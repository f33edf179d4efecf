section P7
variable {σ : SG} {A : Nat → List Int32} {I : Nat → Nat → Int32} {fu : Nat}
/-- a stretch of noughts -/
def zed (xs : List Int32) (a : Nat) : Nat → List Int32
  | 0 => xs
  | k + 1 => (zed xs a k).set (a + k) 0
theorem zed_l (xs : List Int32) (a : Nat) : ∀ k, (zed xs a k).length = xs.length := by
  intro k
  induction k with
  | zero => rfl
  | succ k ih => unfold zed; rw [List.length_set]; exact ih
theorem zed_in (xs : List Int32) (a : Nat) : ∀ k, a + k ≤ xs.length → ∀ i, a ≤ i → i < a + k → rd (zed xs a k) i = 0 := by
  intro k
  induction k with
  | zero => intro _ i h1 h2; omega
  | succ k ih =>
    intro hl i h1 h2
    unfold zed
    rw [rd_set _ _ (by rw [zed_l]; omega)]
    by_cases y : i = a + k
    · rw [if_pos y]
    · rw [if_neg y]; exact ih (by omega) i h1 (by omega)
theorem zed_out (xs : List Int32) (a : Nat) : ∀ k, ∀ i, (i < a ∨ a + k ≤ i) → rd (zed xs a k) i = rd xs i := by
  intro k
  induction k with
  | zero => intro i _; rfl
  | succ k ih =>
    intro i h
    unfold zed
    rw [rd_oob i _ (by omega)]
    exact ih i (by omega)
theorem c_fill14 (hf : 1000 ≤ fu) (h14 : (A 14).length = 240) {a m : Nat} (hm : a + m ≤ 240) : U_J7_fill_fda19 fu [.ref 14, .int (nI a), .int (nI (a + m)), .int 0] (enc A I) = some (none, enc (uA A 14 (zed (A 14) a m)) I) := by
  have loop : ∀ d k n, k + d = m → d < n → F_J7_fill_fda19 fu n 14 (nI (a + m)) 0 (nI (a + k)) (enc (uA A 14 (zed (A 14) a k)) I) = some (none, enc (uA A 14 (zed (A 14) a m)) I) := by
    intro d
    induction d with
    | zero =>
      intro k n hk hn
      obtain ⟨n, rfl⟩ : ∃ j, n = j + 1 := ⟨n - 1, by omega⟩
      simp only [F_J7_fill_fda19, n_lt (show a + k < 2147483648 by omega) (show a + m < 2147483648 by omega)]
      rw [if_neg (by omega), show k = m by omega]
    | succ d ih =>
      intro k n hk hn
      obtain ⟨n, rfl⟩ : ∃ j, n = j + 1 := ⟨n - 1, by omega⟩
      have e := si_14 (uA A 14 (zed (A 14) a k)) I 0 (show a + k < _ by rw [uA_s, zed_l]; omega) (show a + k < 2147483648 by omega)
      rw [uA_s, uA_uA] at e
      simp only [F_J7_fill_fda19, n_lt (show a + k < 2147483648 by omega) (show a + m < 2147483648 by omega), nI_1]
      rw [if_pos (by omega), e]
      exact ih (k + 1) n (by omega) (by omega)
  have hal : aL (enc A I) 14 = some (nI 240) := by rw [al_14, h14]; rfl
  simp only [u_J7_fill_fda19, M_J7_fill_fda19, hal, Option.bind_some, u_J7_rangeCheck_23922, M_J7_rangeCheck_23922, n_lt (show a + m < 2147483648 by omega) (show a < 2147483648 by omega), n_neg (show a < 2147483648 by omega), if_false, n_lt (show 240 < 2147483648 by omega) (show a + m < 2147483648 by omega)]
  rw [if_neg (by omega), if_neg (by omega), cV_some]
  have := loop m 0 fu (by omega) (by omega)
  have e0 : uA A 14 (zed (A 14) a 0) = A := uA_self A 14
  rw [e0] at this
  exact this
theorem m_zero (h39 : (A 39).length = 240) {q : Nat} (hq : q < 4) : ∀ d k n, k + d = 60 → d < n → F_X8_sheet fu n 36 (nI q) (nI k) (enc (uA A 39 (zed (A 39) (60 * q) k)) I) = some (some (.int 1), enc (uA A 39 (zed (A 39) (60 * q) 60)) I) := by
  intro d
  induction d with
  | zero =>
    intro k n hk hn
    obtain ⟨n, rfl⟩ : ∃ j, n = j + 1 := ⟨n - 1, by omega⟩
    have e : k = 60 := by omega
    subst e
    simp only [F_X8_sheet]
    rw [if_neg (by decide)]
  | succ d ih =>
    intro k n hk hn
    obtain ⟨n, rfl⟩ : ∃ j, n = j + 1 := ⟨n - 1, by omega⟩
    have e := si_39 (uA A 39 (zed (A 39) (60 * q) k)) I 0 (show 60 * q + k < _ by rw [uA_s, zed_l]; omega) (show 60 * q + k < 2147483648 by omega)
    rw [uA_s, uA_uA] at e
    have e60 : (nI k < 60) = (k < 60) := n_lt (by omega) (by decide)
    simp only [F_X8_sheet, e60, io_1, gr_1_0, gr_1_1, gr_1_2, gr_1_3, gr_1_4, gr_1_5, gi_1_6, pf_1_6, gi_1_7, pf_1_7, io_2, gr_2_0, gr_2_1, gr_2_2, gr_2_3, gr_2_4, gr_2_5, gr_2_6, gr_2_7, gi_2_8, pf_2_8, gi_2_9, pf_2_9, gi_2_10, pf_2_10, gi_2_11, pf_2_11, gi_2_12, pf_2_12, gi_2_13, pf_2_13, gi_2_14, pf_2_14, io_11, gr_11_0, gr_11_1, gr_11_2, io_15, gr_15_0, gr_15_1, gi_15_2, pf_15_2, gi_15_3, pf_15_3, gi_15_4, pf_15_4, gi_15_5, pf_15_5, io_18, gr_18_0, gr_18_1, gi_18_2, pf_18_2, io_21, gr_21_0, gr_21_1, gr_21_2, gr_21_3, gi_21_4, pf_21_4, gi_21_5, pf_21_5, gi_21_6, pf_21_6, gi_21_7, pf_21_7, io_34, gr_34_0, gi_34_1, pf_34_1, io_36, gi_36_0, pf_36_0, gi_36_1, pf_36_1, gr_36_2, gr_36_3, gr_36_4, gi_36_5, pf_36_5, gi_36_6, pf_36_6, gi_36_7, pf_36_7, gr_36_8, gr_36_9, gr_36_10, gr_36_11, gi_36_12, pf_36_12, gi_36_13, pf_36_13, gi_36_14, pf_36_14, gr_36_15, gr_36_16, gi_36_17, pf_36_17, gr_36_18, gr_36_19, gr_36_20, gr_36_21, gr_36_22, gi_36_23, pf_36_23, gr_36_24, gr_36_25, gi_36_26, pf_36_26, gr_36_27, gr_36_28, gr_36_29, gr_36_30, gi_36_31, pf_36_31, gr_36_32, gr_36_33, gi_36_34, pf_36_34, gi_36_35, pf_36_35, gr_36_36, al_3, al_4, al_5, al_6, al_7, al_8, al_9, al_10, al_12, al_13, al_14, al_16, al_17, al_19, al_20, al_22, al_23, al_24, al_26, al_27, al_28, al_29, al_30, al_31, al_32, al_33, al_35, al_37, al_38, al_39, al_40, al_41, al_42, al_43, al_44, al_45, al_46, al_47, al_48, al_49, al_50, al_51, al_52, al_53, al_54, al_55, al_56, al_57, al_58, al_59, ↓reduceIte, Option.bind_some, cI_some, cL_some, cV_some, rz_0, rz_1, (n_60 q k).2, nI_1]
    rw [if_pos (by omega), e]
    exact ih (k + 1) n (by omega) (by omega)
theorem op_sheet (hf : 1000 ≤ fu) (r : RR σ A I) (x y z : Int32) : OP (U_X7_sheet fu) (U_X8_sheet fu) [.ref 1, .int x, .int y, .int z] [.ref 36, .int x, .int y, .int z] A I := by
  have h10 : ¬ (1 : Int32) = 0 := by decide
  rcases n_sheet x with ⟨q, hq, rfl, ht⟩ | h
  rotate_left
  · exact OP.fl (v := -1) (x := 0) r (by simp only [u_X7_sheet, M_X7_sheet, c_isSheet, io_1, gr_1_0, gr_1_1, gr_1_2, gr_1_3, gr_1_4, gr_1_5, gi_1_6, pf_1_6, gi_1_7, pf_1_7, io_2, gr_2_0, gr_2_1, gr_2_2, gr_2_3, gr_2_4, gr_2_5, gr_2_6, gr_2_7, gi_2_8, pf_2_8, gi_2_9, pf_2_9, gi_2_10, pf_2_10, gi_2_11, pf_2_11, gi_2_12, pf_2_12, gi_2_13, pf_2_13, gi_2_14, pf_2_14, io_11, gr_11_0, gr_11_1, gr_11_2, io_15, gr_15_0, gr_15_1, gi_15_2, pf_15_2, gi_15_3, pf_15_3, gi_15_4, pf_15_4, gi_15_5, pf_15_5, io_18, gr_18_0, gr_18_1, gi_18_2, pf_18_2, io_21, gr_21_0, gr_21_1, gr_21_2, gr_21_3, gi_21_4, pf_21_4, gi_21_5, pf_21_5, gi_21_6, pf_21_6, gi_21_7, pf_21_7, io_34, gr_34_0, gi_34_1, pf_34_1, io_36, gi_36_0, pf_36_0, gi_36_1, pf_36_1, gr_36_2, gr_36_3, gr_36_4, gi_36_5, pf_36_5, gi_36_6, pf_36_6, gi_36_7, pf_36_7, gr_36_8, gr_36_9, gr_36_10, gr_36_11, gi_36_12, pf_36_12, gi_36_13, pf_36_13, gi_36_14, pf_36_14, gr_36_15, gr_36_16, gi_36_17, pf_36_17, gr_36_18, gr_36_19, gr_36_20, gr_36_21, gr_36_22, gi_36_23, pf_36_23, gr_36_24, gr_36_25, gi_36_26, pf_36_26, gr_36_27, gr_36_28, gr_36_29, gr_36_30, gi_36_31, pf_36_31, gr_36_32, gr_36_33, gi_36_34, pf_36_34, gi_36_35, pf_36_35, gr_36_36, al_3, al_4, al_5, al_6, al_7, al_8, al_9, al_10, al_12, al_13, al_14, al_16, al_17, al_19, al_20, al_22, al_23, al_24, al_26, al_27, al_28, al_29, al_30, al_31, al_32, al_33, al_35, al_37, al_38, al_39, al_40, al_41, al_42, al_43, al_44, al_45, al_46, al_47, al_48, al_49, al_50, al_51, al_52, al_53, al_54, al_55, al_56, al_57, al_58, al_59, ↓reduceIte, Option.bind_some, cI_some, cL_some, cV_some, rz_0, rz_1, bI_f h]) (by simp only [u_X8_sheet, M_X8_sheet, m_isSheet, io_1, gr_1_0, gr_1_1, gr_1_2, gr_1_3, gr_1_4, gr_1_5, gi_1_6, pf_1_6, gi_1_7, pf_1_7, io_2, gr_2_0, gr_2_1, gr_2_2, gr_2_3, gr_2_4, gr_2_5, gr_2_6, gr_2_7, gi_2_8, pf_2_8, gi_2_9, pf_2_9, gi_2_10, pf_2_10, gi_2_11, pf_2_11, gi_2_12, pf_2_12, gi_2_13, pf_2_13, gi_2_14, pf_2_14, io_11, gr_11_0, gr_11_1, gr_11_2, io_15, gr_15_0, gr_15_1, gi_15_2, pf_15_2, gi_15_3, pf_15_3, gi_15_4, pf_15_4, gi_15_5, pf_15_5, io_18, gr_18_0, gr_18_1, gi_18_2, pf_18_2, io_21, gr_21_0, gr_21_1, gr_21_2, gr_21_3, gi_21_4, pf_21_4, gi_21_5, pf_21_5, gi_21_6, pf_21_6, gi_21_7, pf_21_7, io_34, gr_34_0, gi_34_1, pf_34_1, io_36, gi_36_0, pf_36_0, gi_36_1, pf_36_1, gr_36_2, gr_36_3, gr_36_4, gi_36_5, pf_36_5, gi_36_6, pf_36_6, gi_36_7, pf_36_7, gr_36_8, gr_36_9, gr_36_10, gr_36_11, gi_36_12, pf_36_12, gi_36_13, pf_36_13, gi_36_14, pf_36_14, gr_36_15, gr_36_16, gi_36_17, pf_36_17, gr_36_18, gr_36_19, gr_36_20, gr_36_21, gr_36_22, gi_36_23, pf_36_23, gr_36_24, gr_36_25, gi_36_26, pf_36_26, gr_36_27, gr_36_28, gr_36_29, gr_36_30, gi_36_31, pf_36_31, gr_36_32, gr_36_33, gi_36_34, pf_36_34, gi_36_35, pf_36_35, gr_36_36, al_3, al_4, al_5, al_6, al_7, al_8, al_9, al_10, al_12, al_13, al_14, al_16, al_17, al_19, al_20, al_22, al_23, al_24, al_26, al_27, al_28, al_29, al_30, al_31, al_32, al_33, al_35, al_37, al_38, al_39, al_40, al_41, al_42, al_43, al_44, al_45, al_46, al_47, al_48, al_49, al_50, al_51, al_52, al_53, al_54, al_55, al_56, al_57, al_58, al_59, ↓reduceIte, Option.bind_some, cI_some, cL_some, cV_some, rz_0, rz_1, bI_f h])
  rcases n_rng y (a := 0) (b := 2) (by omega) (by omega) with ⟨t, _, ht2, rfl⟩ | h
  rotate_left
  · have hb : bI (0 ≤ y ∧ y ≤ 2) = 0 := bI_f h
    exact OP.fl (v := -2) (x := 0) r (by simp only [u_X7_sheet, M_X7_sheet, c_isSheet, c_isSort, io_1, gr_1_0, gr_1_1, gr_1_2, gr_1_3, gr_1_4, gr_1_5, gi_1_6, pf_1_6, gi_1_7, pf_1_7, io_2, gr_2_0, gr_2_1, gr_2_2, gr_2_3, gr_2_4, gr_2_5, gr_2_6, gr_2_7, gi_2_8, pf_2_8, gi_2_9, pf_2_9, gi_2_10, pf_2_10, gi_2_11, pf_2_11, gi_2_12, pf_2_12, gi_2_13, pf_2_13, gi_2_14, pf_2_14, io_11, gr_11_0, gr_11_1, gr_11_2, io_15, gr_15_0, gr_15_1, gi_15_2, pf_15_2, gi_15_3, pf_15_3, gi_15_4, pf_15_4, gi_15_5, pf_15_5, io_18, gr_18_0, gr_18_1, gi_18_2, pf_18_2, io_21, gr_21_0, gr_21_1, gr_21_2, gr_21_3, gi_21_4, pf_21_4, gi_21_5, pf_21_5, gi_21_6, pf_21_6, gi_21_7, pf_21_7, io_34, gr_34_0, gi_34_1, pf_34_1, io_36, gi_36_0, pf_36_0, gi_36_1, pf_36_1, gr_36_2, gr_36_3, gr_36_4, gi_36_5, pf_36_5, gi_36_6, pf_36_6, gi_36_7, pf_36_7, gr_36_8, gr_36_9, gr_36_10, gr_36_11, gi_36_12, pf_36_12, gi_36_13, pf_36_13, gi_36_14, pf_36_14, gr_36_15, gr_36_16, gi_36_17, pf_36_17, gr_36_18, gr_36_19, gr_36_20, gr_36_21, gr_36_22, gi_36_23, pf_36_23, gr_36_24, gr_36_25, gi_36_26, pf_36_26, gr_36_27, gr_36_28, gr_36_29, gr_36_30, gi_36_31, pf_36_31, gr_36_32, gr_36_33, gi_36_34, pf_36_34, gi_36_35, pf_36_35, gr_36_36, al_3, al_4, al_5, al_6, al_7, al_8, al_9, al_10, al_12, al_13, al_14, al_16, al_17, al_19, al_20, al_22, al_23, al_24, al_26, al_27, al_28, al_29, al_30, al_31, al_32, al_33, al_35, al_37, al_38, al_39, al_40, al_41, al_42, al_43, al_44, al_45, al_46, al_47, al_48, al_49, al_50, al_51, al_52, al_53, al_54, al_55, al_56, al_57, al_58, al_59, ↓reduceIte, Option.bind_some, cI_some, cL_some, cV_some, rz_0, rz_1, ht, if_neg h10, hb]) (by simp only [u_X8_sheet, M_X8_sheet, m_isSheet, m_isSort, io_1, gr_1_0, gr_1_1, gr_1_2, gr_1_3, gr_1_4, gr_1_5, gi_1_6, pf_1_6, gi_1_7, pf_1_7, io_2, gr_2_0, gr_2_1, gr_2_2, gr_2_3, gr_2_4, gr_2_5, gr_2_6, gr_2_7, gi_2_8, pf_2_8, gi_2_9, pf_2_9, gi_2_10, pf_2_10, gi_2_11, pf_2_11, gi_2_12, pf_2_12, gi_2_13, pf_2_13, gi_2_14, pf_2_14, io_11, gr_11_0, gr_11_1, gr_11_2, io_15, gr_15_0, gr_15_1, gi_15_2, pf_15_2, gi_15_3, pf_15_3, gi_15_4, pf_15_4, gi_15_5, pf_15_5, io_18, gr_18_0, gr_18_1, gi_18_2, pf_18_2, io_21, gr_21_0, gr_21_1, gr_21_2, gr_21_3, gi_21_4, pf_21_4, gi_21_5, pf_21_5, gi_21_6, pf_21_6, gi_21_7, pf_21_7, io_34, gr_34_0, gi_34_1, pf_34_1, io_36, gi_36_0, pf_36_0, gi_36_1, pf_36_1, gr_36_2, gr_36_3, gr_36_4, gi_36_5, pf_36_5, gi_36_6, pf_36_6, gi_36_7, pf_36_7, gr_36_8, gr_36_9, gr_36_10, gr_36_11, gi_36_12, pf_36_12, gi_36_13, pf_36_13, gi_36_14, pf_36_14, gr_36_15, gr_36_16, gi_36_17, pf_36_17, gr_36_18, gr_36_19, gr_36_20, gr_36_21, gr_36_22, gi_36_23, pf_36_23, gr_36_24, gr_36_25, gi_36_26, pf_36_26, gr_36_27, gr_36_28, gr_36_29, gr_36_30, gi_36_31, pf_36_31, gr_36_32, gr_36_33, gi_36_34, pf_36_34, gi_36_35, pf_36_35, gr_36_36, al_3, al_4, al_5, al_6, al_7, al_8, al_9, al_10, al_12, al_13, al_14, al_16, al_17, al_19, al_20, al_22, al_23, al_24, al_26, al_27, al_28, al_29, al_30, al_31, al_32, al_33, al_35, al_37, al_38, al_39, al_40, al_41, al_42, al_43, al_44, al_45, al_46, al_47, al_48, al_49, al_50, al_51, al_52, al_53, al_54, al_55, al_56, al_57, al_58, al_59, ↓reduceIte, Option.bind_some, cI_some, cL_some, cV_some, rz_0, rz_1, ht, if_neg h10, hb])
  have htt : bI (0 ≤ nI t ∧ nI t ≤ 2) = 1 := bI_t (n_rin (b := 2) (Nat.zero_le t) ht2 (by decide))
  by_cases hbig : 60 < z
  · exact OP.fl (v := -2) (x := 0) r (by simp only [u_X7_sheet, M_X7_sheet, c_isSheet, c_isSort, io_1, gr_1_0, gr_1_1, gr_1_2, gr_1_3, gr_1_4, gr_1_5, gi_1_6, pf_1_6, gi_1_7, pf_1_7, io_2, gr_2_0, gr_2_1, gr_2_2, gr_2_3, gr_2_4, gr_2_5, gr_2_6, gr_2_7, gi_2_8, pf_2_8, gi_2_9, pf_2_9, gi_2_10, pf_2_10, gi_2_11, pf_2_11, gi_2_12, pf_2_12, gi_2_13, pf_2_13, gi_2_14, pf_2_14, io_11, gr_11_0, gr_11_1, gr_11_2, io_15, gr_15_0, gr_15_1, gi_15_2, pf_15_2, gi_15_3, pf_15_3, gi_15_4, pf_15_4, gi_15_5, pf_15_5, io_18, gr_18_0, gr_18_1, gi_18_2, pf_18_2, io_21, gr_21_0, gr_21_1, gr_21_2, gr_21_3, gi_21_4, pf_21_4, gi_21_5, pf_21_5, gi_21_6, pf_21_6, gi_21_7, pf_21_7, io_34, gr_34_0, gi_34_1, pf_34_1, io_36, gi_36_0, pf_36_0, gi_36_1, pf_36_1, gr_36_2, gr_36_3, gr_36_4, gi_36_5, pf_36_5, gi_36_6, pf_36_6, gi_36_7, pf_36_7, gr_36_8, gr_36_9, gr_36_10, gr_36_11, gi_36_12, pf_36_12, gi_36_13, pf_36_13, gi_36_14, pf_36_14, gr_36_15, gr_36_16, gi_36_17, pf_36_17, gr_36_18, gr_36_19, gr_36_20, gr_36_21, gr_36_22, gi_36_23, pf_36_23, gr_36_24, gr_36_25, gi_36_26, pf_36_26, gr_36_27, gr_36_28, gr_36_29, gr_36_30, gi_36_31, pf_36_31, gr_36_32, gr_36_33, gi_36_34, pf_36_34, gi_36_35, pf_36_35, gr_36_36, al_3, al_4, al_5, al_6, al_7, al_8, al_9, al_10, al_12, al_13, al_14, al_16, al_17, al_19, al_20, al_22, al_23, al_24, al_26, al_27, al_28, al_29, al_30, al_31, al_32, al_33, al_35, al_37, al_38, al_39, al_40, al_41, al_42, al_43, al_44, al_45, al_46, al_47, al_48, al_49, al_50, al_51, al_52, al_53, al_54, al_55, al_56, al_57, al_58, al_59, ↓reduceIte, Option.bind_some, cI_some, cL_some, cV_some, rz_0, rz_1, ht, htt, if_neg h10, if_pos hbig]) (by simp only [u_X8_sheet, M_X8_sheet, m_isSheet, m_isSort, io_1, gr_1_0, gr_1_1, gr_1_2, gr_1_3, gr_1_4, gr_1_5, gi_1_6, pf_1_6, gi_1_7, pf_1_7, io_2, gr_2_0, gr_2_1, gr_2_2, gr_2_3, gr_2_4, gr_2_5, gr_2_6, gr_2_7, gi_2_8, pf_2_8, gi_2_9, pf_2_9, gi_2_10, pf_2_10, gi_2_11, pf_2_11, gi_2_12, pf_2_12, gi_2_13, pf_2_13, gi_2_14, pf_2_14, io_11, gr_11_0, gr_11_1, gr_11_2, io_15, gr_15_0, gr_15_1, gi_15_2, pf_15_2, gi_15_3, pf_15_3, gi_15_4, pf_15_4, gi_15_5, pf_15_5, io_18, gr_18_0, gr_18_1, gi_18_2, pf_18_2, io_21, gr_21_0, gr_21_1, gr_21_2, gr_21_3, gi_21_4, pf_21_4, gi_21_5, pf_21_5, gi_21_6, pf_21_6, gi_21_7, pf_21_7, io_34, gr_34_0, gi_34_1, pf_34_1, io_36, gi_36_0, pf_36_0, gi_36_1, pf_36_1, gr_36_2, gr_36_3, gr_36_4, gi_36_5, pf_36_5, gi_36_6, pf_36_6, gi_36_7, pf_36_7, gr_36_8, gr_36_9, gr_36_10, gr_36_11, gi_36_12, pf_36_12, gi_36_13, pf_36_13, gi_36_14, pf_36_14, gr_36_15, gr_36_16, gi_36_17, pf_36_17, gr_36_18, gr_36_19, gr_36_20, gr_36_21, gr_36_22, gi_36_23, pf_36_23, gr_36_24, gr_36_25, gi_36_26, pf_36_26, gr_36_27, gr_36_28, gr_36_29, gr_36_30, gi_36_31, pf_36_31, gr_36_32, gr_36_33, gi_36_34, pf_36_34, gi_36_35, pf_36_35, gr_36_36, al_3, al_4, al_5, al_6, al_7, al_8, al_9, al_10, al_12, al_13, al_14, al_16, al_17, al_19, al_20, al_22, al_23, al_24, al_26, al_27, al_28, al_29, al_30, al_31, al_32, al_33, al_35, al_37, al_38, al_39, al_40, al_41, al_42, al_43, al_44, al_45, al_46, al_47, al_48, al_49, al_50, al_51, al_52, al_53, al_54, al_55, al_56, al_57, al_58, al_59, ↓reduceIte, Option.bind_some, cI_some, cL_some, cV_some, rz_0, rz_1, ht, htt, if_neg h10, if_pos hbig])
  by_cases hneg : z < 0
  · exact OP.fl (v := -10 - 4) (x := 4) r (by simp only [u_X7_sheet, M_X7_sheet, c_isSheet, c_isSort, io_1, gr_1_0, gr_1_1, gr_1_2, gr_1_3, gr_1_4, gr_1_5, gi_1_6, pf_1_6, gi_1_7, pf_1_7, io_2, gr_2_0, gr_2_1, gr_2_2, gr_2_3, gr_2_4, gr_2_5, gr_2_6, gr_2_7, gi_2_8, pf_2_8, gi_2_9, pf_2_9, gi_2_10, pf_2_10, gi_2_11, pf_2_11, gi_2_12, pf_2_12, gi_2_13, pf_2_13, gi_2_14, pf_2_14, io_11, gr_11_0, gr_11_1, gr_11_2, io_15, gr_15_0, gr_15_1, gi_15_2, pf_15_2, gi_15_3, pf_15_3, gi_15_4, pf_15_4, gi_15_5, pf_15_5, io_18, gr_18_0, gr_18_1, gi_18_2, pf_18_2, io_21, gr_21_0, gr_21_1, gr_21_2, gr_21_3, gi_21_4, pf_21_4, gi_21_5, pf_21_5, gi_21_6, pf_21_6, gi_21_7, pf_21_7, io_34, gr_34_0, gi_34_1, pf_34_1, io_36, gi_36_0, pf_36_0, gi_36_1, pf_36_1, gr_36_2, gr_36_3, gr_36_4, gi_36_5, pf_36_5, gi_36_6, pf_36_6, gi_36_7, pf_36_7, gr_36_8, gr_36_9, gr_36_10, gr_36_11, gi_36_12, pf_36_12, gi_36_13, pf_36_13, gi_36_14, pf_36_14, gr_36_15, gr_36_16, gi_36_17, pf_36_17, gr_36_18, gr_36_19, gr_36_20, gr_36_21, gr_36_22, gi_36_23, pf_36_23, gr_36_24, gr_36_25, gi_36_26, pf_36_26, gr_36_27, gr_36_28, gr_36_29, gr_36_30, gi_36_31, pf_36_31, gr_36_32, gr_36_33, gi_36_34, pf_36_34, gi_36_35, pf_36_35, gr_36_36, al_3, al_4, al_5, al_6, al_7, al_8, al_9, al_10, al_12, al_13, al_14, al_16, al_17, al_19, al_20, al_22, al_23, al_24, al_26, al_27, al_28, al_29, al_30, al_31, al_32, al_33, al_35, al_37, al_38, al_39, al_40, al_41, al_42, al_43, al_44, al_45, al_46, al_47, al_48, al_49, al_50, al_51, al_52, al_53, al_54, al_55, al_56, al_57, al_58, al_59, ↓reduceIte, Option.bind_some, cI_some, cL_some, cV_some, rz_0, rz_1, ht, htt, if_neg h10, if_neg hbig, if_pos hneg, c_failBy, uI_uI]) (by simp only [u_X8_sheet, M_X8_sheet, m_isSheet, m_isSort, io_1, gr_1_0, gr_1_1, gr_1_2, gr_1_3, gr_1_4, gr_1_5, gi_1_6, pf_1_6, gi_1_7, pf_1_7, io_2, gr_2_0, gr_2_1, gr_2_2, gr_2_3, gr_2_4, gr_2_5, gr_2_6, gr_2_7, gi_2_8, pf_2_8, gi_2_9, pf_2_9, gi_2_10, pf_2_10, gi_2_11, pf_2_11, gi_2_12, pf_2_12, gi_2_13, pf_2_13, gi_2_14, pf_2_14, io_11, gr_11_0, gr_11_1, gr_11_2, io_15, gr_15_0, gr_15_1, gi_15_2, pf_15_2, gi_15_3, pf_15_3, gi_15_4, pf_15_4, gi_15_5, pf_15_5, io_18, gr_18_0, gr_18_1, gi_18_2, pf_18_2, io_21, gr_21_0, gr_21_1, gr_21_2, gr_21_3, gi_21_4, pf_21_4, gi_21_5, pf_21_5, gi_21_6, pf_21_6, gi_21_7, pf_21_7, io_34, gr_34_0, gi_34_1, pf_34_1, io_36, gi_36_0, pf_36_0, gi_36_1, pf_36_1, gr_36_2, gr_36_3, gr_36_4, gi_36_5, pf_36_5, gi_36_6, pf_36_6, gi_36_7, pf_36_7, gr_36_8, gr_36_9, gr_36_10, gr_36_11, gi_36_12, pf_36_12, gi_36_13, pf_36_13, gi_36_14, pf_36_14, gr_36_15, gr_36_16, gi_36_17, pf_36_17, gr_36_18, gr_36_19, gr_36_20, gr_36_21, gr_36_22, gi_36_23, pf_36_23, gr_36_24, gr_36_25, gi_36_26, pf_36_26, gr_36_27, gr_36_28, gr_36_29, gr_36_30, gi_36_31, pf_36_31, gr_36_32, gr_36_33, gi_36_34, pf_36_34, gi_36_35, pf_36_35, gr_36_36, al_3, al_4, al_5, al_6, al_7, al_8, al_9, al_10, al_12, al_13, al_14, al_16, al_17, al_19, al_20, al_22, al_23, al_24, al_26, al_27, al_28, al_29, al_30, al_31, al_32, al_33, al_35, al_37, al_38, al_39, al_40, al_41, al_42, al_43, al_44, al_45, al_46, al_47, al_48, al_49, al_50, al_51, al_52, al_53, al_54, al_55, al_56, al_57, al_58, al_59, ↓reduceIte, Option.bind_some, cI_some, cL_some, cV_some, rz_0, rz_1, ht, htt, if_neg h10, if_neg hbig, if_pos hneg, m_fails, uI_uI])
  rcases n_rng z (a := 0) (b := 60) (by omega) (by omega) with ⟨n, _, hn, rfl⟩ | h
  rotate_left
  · exact absurd ⟨Int32.not_lt.mp hneg, Int32.not_lt.mp hbig⟩ h
  have l12 : q < (A 12).length := by rw [r.len rfl]; exact hq
  have l13 : q < (A 13).length := by rw [r.len rfl]; exact hq
  have l37 : q < (A 37).length := by rw [r.len rfl]; exact hq
  have l38 : q < (A 38).length := by rw [r.len rfl]; exact hq
  have l14 : (A 14).length = 240 := r.len rfl
  have l39 : (A 39).length = 240 := r.len rfl
  -- the class
  obtain ⟨A1, hc, k12, k13, k14, kot⟩ : ∃ A1, U_X7_sheet fu [.ref 1, .int (nI q), .int (nI t), .int (nI n)] (enc A I) = some (some (.int 1), enc A1 (uI I 1 7 0)) ∧ A1 12 = (A 12).set q (nI t) ∧ A1 13 = (A 13).set q (nI n) ∧ A1 14 = zed (A 14) (60 * q) n ∧ ∀ k, k ≠ 12 → k ≠ 13 → k ≠ 14 → A1 k = A k := by
    have s12 := si_12 A (uI I 1 7 0) (nI t) l12 (show q < 2147483648 by omega)
    have s13 := si_13 (uA A 12 ((A 12).set q (nI t))) (uI I 1 7 0) (nI n) (show q < _ by rw [uA_n _ _ _ (by decide)]; exact l13) (show q < 2147483648 by omega)
    rw [uA_n A 12 _ (show (13 : Nat) ≠ 12 by decide)] at s13
    have f14 := c_fill14 (fu := fu) (A := uA (uA A 12 ((A 12).set q (nI t))) 13 ((A 13).set q (nI n))) (I := uI I 1 7 0) hf (by rw [uA_n _ _ _ (by decide), uA_n _ _ _ (by decide)]; exact l14) (show 60 * q + n ≤ 240 by omega)
    rw [uA_n _ 13 _ (show (14 : Nat) ≠ 13 by decide), uA_n _ 12 _ (show (14 : Nat) ≠ 12 by decide)] at f14
    have eq1 : nI q * 60 = nI (60 * q) := by rw [show (60 : Int32) = nI 60 from rfl, pk_mul, Nat.mul_comm]
    refine ⟨uA (uA (uA A 12 ((A 12).set q (nI t))) 13 ((A 13).set q (nI n))) 14 (zed (A 14) (60 * q) n), ?_, ?_, ?_, ?_, fun k a b c => ?_⟩
    · simp -implicitDefEqProofs only [u_X7_sheet, M_X7_sheet, c_isSheet, c_isSort, io_1, gr_1_0, gr_1_1, gr_1_2, gr_1_3, gr_1_4, gr_1_5, gi_1_6, pf_1_6, gi_1_7, pf_1_7, io_2, gr_2_0, gr_2_1, gr_2_2, gr_2_3, gr_2_4, gr_2_5, gr_2_6, gr_2_7, gi_2_8, pf_2_8, gi_2_9, pf_2_9, gi_2_10, pf_2_10, gi_2_11, pf_2_11, gi_2_12, pf_2_12, gi_2_13, pf_2_13, gi_2_14, pf_2_14, io_11, gr_11_0, gr_11_1, gr_11_2, io_15, gr_15_0, gr_15_1, gi_15_2, pf_15_2, gi_15_3, pf_15_3, gi_15_4, pf_15_4, gi_15_5, pf_15_5, io_18, gr_18_0, gr_18_1, gi_18_2, pf_18_2, io_21, gr_21_0, gr_21_1, gr_21_2, gr_21_3, gi_21_4, pf_21_4, gi_21_5, pf_21_5, gi_21_6, pf_21_6, gi_21_7, pf_21_7, io_34, gr_34_0, gi_34_1, pf_34_1, io_36, gi_36_0, pf_36_0, gi_36_1, pf_36_1, gr_36_2, gr_36_3, gr_36_4, gi_36_5, pf_36_5, gi_36_6, pf_36_6, gi_36_7, pf_36_7, gr_36_8, gr_36_9, gr_36_10, gr_36_11, gi_36_12, pf_36_12, gi_36_13, pf_36_13, gi_36_14, pf_36_14, gr_36_15, gr_36_16, gi_36_17, pf_36_17, gr_36_18, gr_36_19, gr_36_20, gr_36_21, gr_36_22, gi_36_23, pf_36_23, gr_36_24, gr_36_25, gi_36_26, pf_36_26, gr_36_27, gr_36_28, gr_36_29, gr_36_30, gi_36_31, pf_36_31, gr_36_32, gr_36_33, gi_36_34, pf_36_34, gi_36_35, pf_36_35, gr_36_36, al_3, al_4, al_5, al_6, al_7, al_8, al_9, al_10, al_12, al_13, al_14, al_16, al_17, al_19, al_20, al_22, al_23, al_24, al_26, al_27, al_28, al_29, al_30, al_31, al_32, al_33, al_35, al_37, al_38, al_39, al_40, al_41, al_42, al_43, al_44, al_45, al_46, al_47, al_48, al_49, al_50, al_51, al_52, al_53, al_54, al_55, al_56, al_57, al_58, al_59, ↓reduceIte, Option.bind_some, cI_some, cL_some, cV_some, rz_0, rz_1, ht, htt, if_neg h10, if_neg hbig, if_neg hneg, u_X4_renew, M_X4_renew, s12, s13, eq1, nI_add, f14]
    · rw [uA_n _ _ _ (by decide), uA_n _ _ _ (by decide), uA_s]
    · rw [uA_n _ _ _ (by decide), uA_s]
    · rw [uA_s]
    · rw [uA_n _ _ _ c, uA_n _ _ _ b, uA_n _ _ _ a]
  -- the model
  have e37 : A1 37 = A 37 := kot 37 (by decide) (by decide) (by decide)
  have e38 : A1 38 = A 38 := kot 38 (by decide) (by decide) (by decide)
  have e39 : A1 39 = A 39 := kot 39 (by decide) (by decide) (by decide)
  obtain ⟨A2, hm, n37, n38, n39, not⟩ : ∃ A2, U_X8_sheet fu [.ref 36, .int (nI q), .int (nI t), .int (nI n)] (enc A1 (uI I 1 7 0)) = some (some (.int 1), enc A2 (uI (uI I 1 7 0) 36 0 0)) ∧ A2 37 = (A 37).set q (nI t) ∧ A2 38 = (A 38).set q (nI n) ∧ A2 39 = zed (A 39) (60 * q) 60 ∧ ∀ k, k ≠ 37 → k ≠ 38 → k ≠ 39 → A2 k = A1 k := by
    have s37 := si_37 A1 (uI (uI I 1 7 0) 36 0 0) (nI t) (show q < _ by rw [e37]; exact l37) (show q < 2147483648 by omega)
    rw [e37] at s37
    have s38 := si_38 (uA A1 37 ((A 37).set q (nI t))) (uI (uI I 1 7 0) 36 0 0) (nI n) (show q < _ by rw [uA_n _ _ _ (by decide), e38]; exact l38) (show q < 2147483648 by omega)
    rw [uA_n A1 37 _ (show (38 : Nat) ≠ 37 by decide), e38] at s38
    have z39 := m_zero (fu := fu) (A := uA (uA A1 37 ((A 37).set q (nI t))) 38 ((A 38).set q (nI n))) (I := uI (uI I 1 7 0) 36 0 0) (by rw [uA_n _ _ _ (by decide), uA_n _ _ _ (by decide), e39]; exact l39) hq 60 0 fu (by omega) (by omega)
    rw [uA_n _ 38 _ (show (39 : Nat) ≠ 38 by decide), uA_n _ 37 _ (show (39 : Nat) ≠ 37 by decide), e39] at z39
    have e0 : uA (uA (uA A1 37 ((A 37).set q (nI t))) 38 ((A 38).set q (nI n))) 39 (zed (A 39) (60 * q) 0) = uA (uA A1 37 ((A 37).set q (nI t))) 38 ((A 38).set q (nI n)) := by
      funext j
      unfold uA
      by_cases y : j = 39
      · rw [if_pos y, if_neg (by omega), if_neg (by omega), y, e39]; rfl
      · rw [if_neg y]
    rw [e0] at z39
    refine ⟨uA (uA (uA A1 37 ((A 37).set q (nI t))) 38 ((A 38).set q (nI n))) 39 (zed (A 39) (60 * q) 60), ?_, ?_, ?_, ?_, fun k a b c => ?_⟩
    · simp -implicitDefEqProofs only [u_X8_sheet, M_X8_sheet, m_isSheet, m_isSort, io_1, gr_1_0, gr_1_1, gr_1_2, gr_1_3, gr_1_4, gr_1_5, gi_1_6, pf_1_6, gi_1_7, pf_1_7, io_2, gr_2_0, gr_2_1, gr_2_2, gr_2_3, gr_2_4, gr_2_5, gr_2_6, gr_2_7, gi_2_8, pf_2_8, gi_2_9, pf_2_9, gi_2_10, pf_2_10, gi_2_11, pf_2_11, gi_2_12, pf_2_12, gi_2_13, pf_2_13, gi_2_14, pf_2_14, io_11, gr_11_0, gr_11_1, gr_11_2, io_15, gr_15_0, gr_15_1, gi_15_2, pf_15_2, gi_15_3, pf_15_3, gi_15_4, pf_15_4, gi_15_5, pf_15_5, io_18, gr_18_0, gr_18_1, gi_18_2, pf_18_2, io_21, gr_21_0, gr_21_1, gr_21_2, gr_21_3, gi_21_4, pf_21_4, gi_21_5, pf_21_5, gi_21_6, pf_21_6, gi_21_7, pf_21_7, io_34, gr_34_0, gi_34_1, pf_34_1, io_36, gi_36_0, pf_36_0, gi_36_1, pf_36_1, gr_36_2, gr_36_3, gr_36_4, gi_36_5, pf_36_5, gi_36_6, pf_36_6, gi_36_7, pf_36_7, gr_36_8, gr_36_9, gr_36_10, gr_36_11, gi_36_12, pf_36_12, gi_36_13, pf_36_13, gi_36_14, pf_36_14, gr_36_15, gr_36_16, gi_36_17, pf_36_17, gr_36_18, gr_36_19, gr_36_20, gr_36_21, gr_36_22, gi_36_23, pf_36_23, gr_36_24, gr_36_25, gi_36_26, pf_36_26, gr_36_27, gr_36_28, gr_36_29, gr_36_30, gi_36_31, pf_36_31, gr_36_32, gr_36_33, gi_36_34, pf_36_34, gi_36_35, pf_36_35, gr_36_36, al_3, al_4, al_5, al_6, al_7, al_8, al_9, al_10, al_12, al_13, al_14, al_16, al_17, al_19, al_20, al_22, al_23, al_24, al_26, al_27, al_28, al_29, al_30, al_31, al_32, al_33, al_35, al_37, al_38, al_39, al_40, al_41, al_42, al_43, al_44, al_45, al_46, al_47, al_48, al_49, al_50, al_51, al_52, al_53, al_54, al_55, al_56, al_57, al_58, al_59, ↓reduceIte, Option.bind_some, cI_some, cL_some, cV_some, rz_0, rz_1, ht, htt, if_neg h10, if_neg hbig, if_neg hneg, s37, s38]
      exact z39
    · rw [uA_n _ _ _ (by decide), uA_n _ _ _ (by decide), uA_s]
    · rw [uA_n _ _ _ (by decide), uA_s]
    · rw [uA_s]
    · rw [uA_n _ _ _ c, uA_n _ _ _ b, uA_n _ _ _ a]
  have m12 : A2 12 = (A 12).set q (nI t) := (not 12 (by decide) (by decide) (by decide)).trans k12
  have m13 : A2 13 = (A 13).set q (nI n) := (not 13 (by decide) (by decide) (by decide)).trans k13
  have m14 : A2 14 = zed (A 14) (60 * q) n := (not 14 (by decide) (by decide) (by decide)).trans k14
  refine ⟨1, A1, uI I 1 7 0, A2, uI (uI I 1 7 0) 36 0 0, σ, hc, kot 0 (by decide) (by decide) (by decide), hm, (not 0 (by decide) (by decide) (by decide)).trans (kot 0 (by decide) (by decide) (by decide)), fun _ => rfl, ?_⟩
  refine r.she (fun k a b c d e f => (not k d e f).trans (kot k a b c)) (fun k => ?_) (fun a b h1 h2 => ?_) (RS.of ?_ ?_ fun p hp => ?_)
  · by_cases z1 : k = 12
    · rw [z1, m12, List.length_set]
    by_cases z2 : k = 13
    · rw [z2, m13, List.length_set]
    by_cases z3 : k = 14
    · rw [z3, m14, zed_l]
    by_cases z4 : k = 37
    · rw [z4, n37, List.length_set]
    by_cases z5 : k = 38
    · rw [z5, n38, List.length_set]
    by_cases z6 : k = 39
    · rw [z6, n39, zed_l]
    rw [not k z4 z5 z6, kot k z1 z2 z3]
  · unfold uI
    rw [if_neg (fun w => h2 ⟨w.1, Or.inl w.2⟩), if_neg (fun w => h1 ⟨w.1, Or.inr w.2⟩)]
  · exact r.rs.1
  · rfl
  · by_cases zp : p = q
    · subst zp
      refine ⟨some (n, t), hn, ht2, ?_, ?_, ?_, ?_, fun i hi => ?_⟩
      · rw [m13, rd_set _ _ l13, if_pos rfl]
      · rw [n38, rd_set _ _ l38, if_pos rfl]
      · rw [m12, rd_set _ _ l12, if_pos rfl]
      · rw [n37, rd_set _ _ l37, if_pos rfl]
      · rw [m14, n39, zed_in _ _ _ (by omega) _ (by omega) (by omega), zed_in _ _ _ (by omega) _ (by omega) (by omega)]
    · obtain ⟨o2, ho2⟩ := r.rs.o hp
      refine ⟨o2, ho2.oth zp (fun i hi => by rw [m12, rd_oob i _ hi]) (fun i hi => by rw [m13, rd_oob i _ hi]) (fun i hi => by rw [n37, rd_oob i _ hi]) (fun i hi => by rw [n38, rd_oob i _ hi]) (fun i hi => by rw [m14, zed_out _ _ _ _ (by omega)]) (fun i hi => by rw [n39, zed_out _ _ _ _ (by omega)])⟩
end P7
