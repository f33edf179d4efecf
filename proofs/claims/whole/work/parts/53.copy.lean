/-! ===== copy ===== -/
def cpy (xs ys : List Int32) (a b n : Nat) : List Int32 := ys.take b ++ ((xs.drop a).take n ++ ys.drop (b + n))
theorem cpy_len {xs ys : List Int32} {a b n : Nat} (h1 : a + n ≤ xs.length) (h2 : b + n ≤ ys.length) : (cpy xs ys a b n).length = ys.length := by
  unfold cpy
  simp only [List.length_append, List.length_take, List.length_drop]
  omega
theorem cpy_rd {xs ys : List Int32} {a b n : Nat} (h1 : a + n ≤ xs.length) (h2 : b + n ≤ ys.length) (i : Nat) : rd (cpy xs ys a b n) i = if b ≤ i ∧ i < b + n then rd xs (a + (i - b)) else rd ys i := by
  unfold rd cpy
  simp only [List.getD_eq_getElem?_getD]
  by_cases h : i < b
  · rw [List.getElem?_append_left (by rw [List.length_take]; omega), List.getElem?_take_of_lt h, if_neg (by omega)]
  · rw [List.getElem?_append_right (by rw [List.length_take]; omega), List.length_take, show min b ys.length = b by omega]
    by_cases h3 : i - b < n
    · rw [List.getElem?_append_left (by rw [List.length_take, List.length_drop]; omega), List.getElem?_take_of_lt h3, List.getElem?_drop, if_pos ⟨by omega, by omega⟩]
    · rw [List.getElem?_append_right (by rw [List.length_take, List.length_drop]; omega), List.length_take, List.length_drop, show min n (xs.length - a) = n by omega, List.getElem?_drop, if_neg (by omega), show b + n + (i - b - n) = i by omega]
theorem sC_enc {w : XW} {o o2 : Nat} {xs ys : List Int32} (h1 : w[o]? = some (.inr (0, xs))) (h2 : w[o2]? = some (.inr (0, ys))) (z1 : o ≠ 0) (z2 : o2 ≠ 0) {a b n : Nat} (ha : a + n ≤ xs.length) (hb : b + n ≤ ys.length) (hx : a + n < 2147483648) (hy : b + n < 2147483648) :
    oCopy [.ref o, .int (nI a), .ref o2, .int (nI b), .int (nI n)] w = some (none, w.set o2 (.inr (0, cpy xs ys a b n))) := by
  unfold oCopy sC
  simp only [h1, h2, nI_clamp (show a < 2147483648 by omega), nI_clamp (show b < 2147483648 by omega), nI_clamp (show n < 2147483648 by omega)]
  rw [if_pos ⟨trivial, trivial, z1, z2, nI_pos' (by omega), nI_pos' (by omega), nI_pos' (by omega), ha, hb⟩]
  rfl
section Q4
variable {σ : SG} {A : Nat → List Int32} {I : Nat → Nat → Int32} {fu : Nat}
theorem copy_14 (hl : (A 14).length = 240) {a b n : Nat} (ha : a + n ≤ 240) (hb : b + n ≤ 240) : oCopy [.ref 14, .int (nI a), .ref 14, .int (nI b), .int (nI n)] (enc A I) = some (none, enc (uA A 14 (cpy (A 14) (A 14) a b n)) I) :=
  (sC_enc (w := enc A I) (o := 14) (o2 := 14) (xs := A 14) (ys := A 14) rfl rfl (by decide) (by decide) (by omega) (by omega) (by omega) (by omega)).trans (congrArg some (congrArg (Prod.mk none) rfl))
theorem c_reaches (hL : LEN A) {q n0 : Nat} (hq : q < 4) (h3 : rd (A 13) q = nI n0) (i n : Int32) : U_X4_reaches fu [.ref 11, .int (nI q), .int i, .int n] (enc A I) = some (some (.int (bI (¬ (i < 0) ∧ ¬ (nI n0 < i) ∧ ¬ (nI n0 - i < n)))), enc A I) := by
  have arr := ai_I A I hL hq
  simp only [u_X4_reaches, M_X4_reaches, io_1, gr_1_0, gr_1_1, gr_1_2, gr_1_3, gr_1_4, gr_1_5, gi_1_6, pf_1_6, gi_1_7, pf_1_7, io_2, gr_2_0, gr_2_1, gr_2_2, gr_2_3, gr_2_4, gr_2_5, gr_2_6, gr_2_7, gi_2_8, pf_2_8, gi_2_9, pf_2_9, gi_2_10, pf_2_10, gi_2_11, pf_2_11, gi_2_12, pf_2_12, gi_2_13, pf_2_13, gi_2_14, pf_2_14, io_11, gr_11_0, gr_11_1, gr_11_2, io_15, gr_15_0, gr_15_1, gi_15_2, pf_15_2, gi_15_3, pf_15_3, gi_15_4, pf_15_4, gi_15_5, pf_15_5, io_18, gr_18_0, gr_18_1, gi_18_2, pf_18_2, io_21, gr_21_0, gr_21_1, gr_21_2, gr_21_3, gi_21_4, pf_21_4, gi_21_5, pf_21_5, gi_21_6, pf_21_6, gi_21_7, pf_21_7, io_34, gr_34_0, gi_34_1, pf_34_1, io_36, gi_36_0, pf_36_0, gi_36_1, pf_36_1, gr_36_2, gr_36_3, gr_36_4, gi_36_5, pf_36_5, gi_36_6, pf_36_6, gi_36_7, pf_36_7, gr_36_8, gr_36_9, gr_36_10, gr_36_11, gi_36_12, pf_36_12, gi_36_13, pf_36_13, gi_36_14, pf_36_14, gr_36_15, gr_36_16, gi_36_17, pf_36_17, gr_36_18, gr_36_19, gr_36_20, gr_36_21, gr_36_22, gi_36_23, pf_36_23, gr_36_24, gr_36_25, gi_36_26, pf_36_26, gr_36_27, gr_36_28, gr_36_29, gr_36_30, gi_36_31, pf_36_31, gr_36_32, gr_36_33, gi_36_34, pf_36_34, gi_36_35, pf_36_35, gr_36_36, al_3, al_4, al_5, al_6, al_7, al_8, al_9, al_10, al_12, al_13, al_14, al_16, al_17, al_19, al_20, al_22, al_23, al_24, al_26, al_27, al_28, al_29, al_30, al_31, al_32, al_33, al_35, al_37, al_38, al_39, al_40, al_41, al_42, al_43, al_44, al_45, al_46, al_47, al_48, al_49, al_50, al_51, al_52, al_53, al_54, al_55, al_56, al_57, al_58, al_59, ↓reduceIte, Option.bind_some, cI_some, cL_some, cV_some, rz_0, rz_1, arr.1, h3]
  by_cases h3 : i < 0
  · rw [if_pos h3, bI_f (fun z => z.1 h3)]
  · rw [if_neg h3]
    by_cases h4 : nI n0 < i
    · rw [if_pos h4, bI_f (fun z => z.2.1 h4)]
    · rw [if_neg h4]
      by_cases h5 : nI n0 - i < n
      · rw [if_pos h5, bI_f (fun z => z.2.2 h5)]
      · rw [if_neg h5, bI_t ⟨h3, h4, h5⟩]
/-- one cell goes over -/
theorem m_copy1 {a b c : Nat} {q1 i q2 j kk ah k : Int32} (e1 : 60 * q1 + i = nI a) (e2 : 60 * q2 + j = nI b) {xs : List Int32} (hl : xs.length = 240) (ha : a + c < 240) (hb : b + c < 240) (n : Nat) :
    (F_X8_copy fu (n + 1)).2.2 36 q1 i q2 j kk ah k (nI c) (enc (uA A 39 xs) I) = (F_X8_copy fu n).2.1 36 q1 i q2 j kk ah (k + 1) (enc (uA A 39 (xs.set (b + c) (rd xs (a + c)))) I) := by
  have e39 : aI (enc (uA A 39 xs) I) 39 (nI (a + c)) = some (rd xs (a + c)) := by rw [ai_39 _ _ (by rw [uA_s]; omega) (by omega), uA_s]
  have s39 := si_39 (uA A 39 xs) I (rd xs (a + c)) (show b + c < _ by rw [uA_s]; omega) (show b + c < 2147483648 by omega)
  rw [uA_s, uA_uA] at s39
  rw [F_X8_copy]
  simp only [io_1, gr_1_0, gr_1_1, gr_1_2, gr_1_3, gr_1_4, gr_1_5, gi_1_6, pf_1_6, gi_1_7, pf_1_7, io_2, gr_2_0, gr_2_1, gr_2_2, gr_2_3, gr_2_4, gr_2_5, gr_2_6, gr_2_7, gi_2_8, pf_2_8, gi_2_9, pf_2_9, gi_2_10, pf_2_10, gi_2_11, pf_2_11, gi_2_12, pf_2_12, gi_2_13, pf_2_13, gi_2_14, pf_2_14, io_11, gr_11_0, gr_11_1, gr_11_2, io_15, gr_15_0, gr_15_1, gi_15_2, pf_15_2, gi_15_3, pf_15_3, gi_15_4, pf_15_4, gi_15_5, pf_15_5, io_18, gr_18_0, gr_18_1, gi_18_2, pf_18_2, io_21, gr_21_0, gr_21_1, gr_21_2, gr_21_3, gi_21_4, pf_21_4, gi_21_5, pf_21_5, gi_21_6, pf_21_6, gi_21_7, pf_21_7, io_34, gr_34_0, gi_34_1, pf_34_1, io_36, gi_36_0, pf_36_0, gi_36_1, pf_36_1, gr_36_2, gr_36_3, gr_36_4, gi_36_5, pf_36_5, gi_36_6, pf_36_6, gi_36_7, pf_36_7, gr_36_8, gr_36_9, gr_36_10, gr_36_11, gi_36_12, pf_36_12, gi_36_13, pf_36_13, gi_36_14, pf_36_14, gr_36_15, gr_36_16, gi_36_17, pf_36_17, gr_36_18, gr_36_19, gr_36_20, gr_36_21, gr_36_22, gi_36_23, pf_36_23, gr_36_24, gr_36_25, gi_36_26, pf_36_26, gr_36_27, gr_36_28, gr_36_29, gr_36_30, gi_36_31, pf_36_31, gr_36_32, gr_36_33, gi_36_34, pf_36_34, gi_36_35, pf_36_35, gr_36_36, al_3, al_4, al_5, al_6, al_7, al_8, al_9, al_10, al_12, al_13, al_14, al_16, al_17, al_19, al_20, al_22, al_23, al_24, al_26, al_27, al_28, al_29, al_30, al_31, al_32, al_33, al_35, al_37, al_38, al_39, al_40, al_41, al_42, al_43, al_44, al_45, al_46, al_47, al_48, al_49, al_50, al_51, al_52, al_53, al_54, al_55, al_56, al_57, al_58, al_59, ↓reduceIte, Option.bind_some, cI_some, cL_some, cV_some, rz_0, rz_1, e1, e2, nI_add, e39, s39]
theorem m_copyB {a b kk : Nat} {q1 i q2 j : Int32} (e1 : 60 * q1 + i = nI a) (e2 : 60 * q2 + j = nI b) {X : List Int32} (ha : a + kk ≤ 240) (hb : b + kk ≤ 240) (hs : b ≤ a ∨ a + kk ≤ b) : ∀ m k xs n, k + m = kk → 2 * m < n → xs.length = 240 → (∀ p, rd xs p = if b ≤ p ∧ p < b + k then rd X (a + (p - b)) else rd X p) →
    ∃ ys, (F_X8_copy fu n).2.1 36 q1 i q2 j (nI kk) 0 (nI k) (enc (uA A 39 xs) I) = some (some (.int (nI kk)), enc (uA A 39 ys) I) ∧ ys.length = 240 ∧ ∀ p, rd ys p = if b ≤ p ∧ p < b + kk then rd X (a + (p - b)) else rd X p := by
  intro m
  induction m with
  | zero =>
    intro k xs n hk hn hl h
    obtain ⟨n, rfl⟩ : ∃ j, n = j + 1 := ⟨n - 1, by omega⟩
    refine ⟨xs, ?_, hl, fun p => by rw [h p, show k = kk by omega]⟩
    simp only [F_X8_copy, n_lt (show k < 2147483648 by omega) (show kk < 2147483648 by omega)]
    rw [if_neg (by omega)]
  | succ m ih =>
    intro k xs n hk hn hl h
    obtain ⟨n, rfl⟩ : ∃ j, n = j + 2 := ⟨n - 2, by omega⟩
    have hv : rd xs (a + k) = rd X (a + k) := by rw [h (a + k), if_neg (by omega)]
    obtain ⟨ys, g1, g2, g3⟩ := ih (k + 1) (xs.set (b + k) (rd xs (a + k))) n (by omega) (by omega) (by rw [List.length_set]; exact hl) (fun p => by
      rw [rd_set _ _ (by omega), hv, h p]
      by_cases y : p = b + k
      · rw [if_pos y, if_pos (by omega), y, show b + k - b = k by omega]
      · rw [if_neg y]
        by_cases y2 : b ≤ p ∧ p < b + k
        · rw [if_pos y2, if_pos (by omega)]
        · rw [if_neg y2, if_neg (by omega)])
    refine ⟨ys, ?_, g2, g3⟩
    rw [F_X8_copy]
    simp only [n_lt (show k < 2147483648 by omega) (show kk < 2147483648 by omega)]
    rw [if_pos (by omega), if_pos trivial, m_copy1 e1 e2 hl (by omega) (by omega), nI_1]
    exact g1
theorem m_copyA {a b kk : Nat} {q1 i q2 j : Int32} (e1 : 60 * q1 + i = nI a) (e2 : 60 * q2 + j = nI b) {X : List Int32} (ha : a + kk ≤ 240) (hb : b + kk ≤ 240) (hs : a ≤ b ∨ b + kk ≤ a) : ∀ m k xs n, k + m = kk → 2 * m < n → xs.length = 240 → (∀ p, rd xs p = if b + m ≤ p ∧ p < b + kk then rd X (a + (p - b)) else rd X p) →
    ∃ ys, (F_X8_copy fu n).2.1 36 q1 i q2 j (nI kk) 1 (nI k) (enc (uA A 39 xs) I) = some (some (.int (nI kk)), enc (uA A 39 ys) I) ∧ ys.length = 240 ∧ ∀ p, rd ys p = if b ≤ p ∧ p < b + kk then rd X (a + (p - b)) else rd X p := by
  intro m
  induction m with
  | zero =>
    intro k xs n hk hn hl h
    obtain ⟨n, rfl⟩ : ∃ j, n = j + 1 := ⟨n - 1, by omega⟩
    refine ⟨xs, ?_, hl, fun p => h p⟩
    simp only [F_X8_copy, n_lt (show k < 2147483648 by omega) (show kk < 2147483648 by omega)]
    rw [if_neg (by omega)]
  | succ m ih =>
    intro k xs n hk hn hl h
    obtain ⟨n, rfl⟩ : ∃ j, n = j + 2 := ⟨n - 2, by omega⟩
    have hv : rd xs (a + m) = rd X (a + m) := by rw [h (a + m), if_neg (by omega)]
    obtain ⟨ys, g1, g2, g3⟩ := ih (k + 1) (xs.set (b + m) (rd xs (a + m))) n (by omega) (by omega) (by rw [List.length_set]; exact hl) (fun p => by
      rw [rd_set _ _ (by omega), hv, h p]
      by_cases y : p = b + m
      · rw [if_pos y, if_pos (by omega), y, show b + m - b = m by omega]
      · rw [if_neg y]
        by_cases y2 : b + (m + 1) ≤ p ∧ p < b + kk
        · rw [if_pos y2, if_pos (by omega)]
        · rw [if_neg y2, if_neg (by omega)])
    refine ⟨ys, ?_, g2, g3⟩
    have ec : nI kk - 1 - nI k = nI m := by
      rw [show kk = (k + m) + 1 by omega, n_sub1, pk_sub (by omega), show k + m - k = m by omega]
    rw [F_X8_copy]
    simp only [n_lt (show k < 2147483648 by omega) (show kk < 2147483648 by omega), ec]
    rw [if_pos (by omega), if_neg (by decide), m_copy1 e1 e2 hl (by omega) (by omega), nI_1]
    exact g1
theorem op_copy (hf : 1000 ≤ fu) (r : RR σ A I) (x i y j n : Int32) : OP (U_X7_copy fu) (U_X8_copy fu) [.ref 1, .int x, .int i, .int y, .int j, .int n] [.ref 36, .int x, .int i, .int y, .int j, .int n] A I := by
  have h10 : ¬ (1 : Int32) = 0 := by decide
  obtain ⟨N, hN⟩ : ∃ k, fu = k + 1 := ⟨fu - 1, by omega⟩
  rcases n_sheet x with ⟨q, hq, rfl, ht⟩ | h
  rotate_left
  · refine OP.fl (v := -1) (x := 0) r ?_ ?_
    · simp -implicitDefEqProofs only [u_X7_copy, M_X7_copy, c_isSheet, io_1, gr_1_0, gr_1_1, gr_1_2, gr_1_3, gr_1_4, gr_1_5, gi_1_6, pf_1_6, gi_1_7, pf_1_7, io_2, gr_2_0, gr_2_1, gr_2_2, gr_2_3, gr_2_4, gr_2_5, gr_2_6, gr_2_7, gi_2_8, pf_2_8, gi_2_9, pf_2_9, gi_2_10, pf_2_10, gi_2_11, pf_2_11, gi_2_12, pf_2_12, gi_2_13, pf_2_13, gi_2_14, pf_2_14, io_11, gr_11_0, gr_11_1, gr_11_2, io_15, gr_15_0, gr_15_1, gi_15_2, pf_15_2, gi_15_3, pf_15_3, gi_15_4, pf_15_4, gi_15_5, pf_15_5, io_18, gr_18_0, gr_18_1, gi_18_2, pf_18_2, io_21, gr_21_0, gr_21_1, gr_21_2, gr_21_3, gi_21_4, pf_21_4, gi_21_5, pf_21_5, gi_21_6, pf_21_6, gi_21_7, pf_21_7, io_34, gr_34_0, gi_34_1, pf_34_1, io_36, gi_36_0, pf_36_0, gi_36_1, pf_36_1, gr_36_2, gr_36_3, gr_36_4, gi_36_5, pf_36_5, gi_36_6, pf_36_6, gi_36_7, pf_36_7, gr_36_8, gr_36_9, gr_36_10, gr_36_11, gi_36_12, pf_36_12, gi_36_13, pf_36_13, gi_36_14, pf_36_14, gr_36_15, gr_36_16, gi_36_17, pf_36_17, gr_36_18, gr_36_19, gr_36_20, gr_36_21, gr_36_22, gi_36_23, pf_36_23, gr_36_24, gr_36_25, gi_36_26, pf_36_26, gr_36_27, gr_36_28, gr_36_29, gr_36_30, gi_36_31, pf_36_31, gr_36_32, gr_36_33, gi_36_34, pf_36_34, gi_36_35, pf_36_35, gr_36_36, al_3, al_4, al_5, al_6, al_7, al_8, al_9, al_10, al_12, al_13, al_14, al_16, al_17, al_19, al_20, al_22, al_23, al_24, al_26, al_27, al_28, al_29, al_30, al_31, al_32, al_33, al_35, al_37, al_38, al_39, al_40, al_41, al_42, al_43, al_44, al_45, al_46, al_47, al_48, al_49, al_50, al_51, al_52, al_53, al_54, al_55, al_56, al_57, al_58, al_59, ↓reduceIte, Option.bind_some, cI_some, cL_some, cV_some, rz_0, rz_1, bI_f h]
    · simp -implicitDefEqProofs only [u_X8_copy, M_X8_copy, m_isSheet, io_1, gr_1_0, gr_1_1, gr_1_2, gr_1_3, gr_1_4, gr_1_5, gi_1_6, pf_1_6, gi_1_7, pf_1_7, io_2, gr_2_0, gr_2_1, gr_2_2, gr_2_3, gr_2_4, gr_2_5, gr_2_6, gr_2_7, gi_2_8, pf_2_8, gi_2_9, pf_2_9, gi_2_10, pf_2_10, gi_2_11, pf_2_11, gi_2_12, pf_2_12, gi_2_13, pf_2_13, gi_2_14, pf_2_14, io_11, gr_11_0, gr_11_1, gr_11_2, io_15, gr_15_0, gr_15_1, gi_15_2, pf_15_2, gi_15_3, pf_15_3, gi_15_4, pf_15_4, gi_15_5, pf_15_5, io_18, gr_18_0, gr_18_1, gi_18_2, pf_18_2, io_21, gr_21_0, gr_21_1, gr_21_2, gr_21_3, gi_21_4, pf_21_4, gi_21_5, pf_21_5, gi_21_6, pf_21_6, gi_21_7, pf_21_7, io_34, gr_34_0, gi_34_1, pf_34_1, io_36, gi_36_0, pf_36_0, gi_36_1, pf_36_1, gr_36_2, gr_36_3, gr_36_4, gi_36_5, pf_36_5, gi_36_6, pf_36_6, gi_36_7, pf_36_7, gr_36_8, gr_36_9, gr_36_10, gr_36_11, gi_36_12, pf_36_12, gi_36_13, pf_36_13, gi_36_14, pf_36_14, gr_36_15, gr_36_16, gi_36_17, pf_36_17, gr_36_18, gr_36_19, gr_36_20, gr_36_21, gr_36_22, gi_36_23, pf_36_23, gr_36_24, gr_36_25, gi_36_26, pf_36_26, gr_36_27, gr_36_28, gr_36_29, gr_36_30, gi_36_31, pf_36_31, gr_36_32, gr_36_33, gi_36_34, pf_36_34, gi_36_35, pf_36_35, gr_36_36, al_3, al_4, al_5, al_6, al_7, al_8, al_9, al_10, al_12, al_13, al_14, al_16, al_17, al_19, al_20, al_22, al_23, al_24, al_26, al_27, al_28, al_29, al_30, al_31, al_32, al_33, al_35, al_37, al_38, al_39, al_40, al_41, al_42, al_43, al_44, al_45, al_46, al_47, al_48, al_49, al_50, al_51, al_52, al_53, al_54, al_55, al_56, al_57, al_58, al_59, ↓reduceIte, Option.bind_some, cI_some, cL_some, cV_some, rz_0, rz_1, bI_f h]
  rcases n_sheet y with ⟨q2, hq2, rfl, ht2⟩ | h
  rotate_left
  · refine OP.fl (v := -1) (x := 0) r ?_ ?_
    · simp -implicitDefEqProofs only [u_X7_copy, M_X7_copy, c_isSheet, io_1, gr_1_0, gr_1_1, gr_1_2, gr_1_3, gr_1_4, gr_1_5, gi_1_6, pf_1_6, gi_1_7, pf_1_7, io_2, gr_2_0, gr_2_1, gr_2_2, gr_2_3, gr_2_4, gr_2_5, gr_2_6, gr_2_7, gi_2_8, pf_2_8, gi_2_9, pf_2_9, gi_2_10, pf_2_10, gi_2_11, pf_2_11, gi_2_12, pf_2_12, gi_2_13, pf_2_13, gi_2_14, pf_2_14, io_11, gr_11_0, gr_11_1, gr_11_2, io_15, gr_15_0, gr_15_1, gi_15_2, pf_15_2, gi_15_3, pf_15_3, gi_15_4, pf_15_4, gi_15_5, pf_15_5, io_18, gr_18_0, gr_18_1, gi_18_2, pf_18_2, io_21, gr_21_0, gr_21_1, gr_21_2, gr_21_3, gi_21_4, pf_21_4, gi_21_5, pf_21_5, gi_21_6, pf_21_6, gi_21_7, pf_21_7, io_34, gr_34_0, gi_34_1, pf_34_1, io_36, gi_36_0, pf_36_0, gi_36_1, pf_36_1, gr_36_2, gr_36_3, gr_36_4, gi_36_5, pf_36_5, gi_36_6, pf_36_6, gi_36_7, pf_36_7, gr_36_8, gr_36_9, gr_36_10, gr_36_11, gi_36_12, pf_36_12, gi_36_13, pf_36_13, gi_36_14, pf_36_14, gr_36_15, gr_36_16, gi_36_17, pf_36_17, gr_36_18, gr_36_19, gr_36_20, gr_36_21, gr_36_22, gi_36_23, pf_36_23, gr_36_24, gr_36_25, gi_36_26, pf_36_26, gr_36_27, gr_36_28, gr_36_29, gr_36_30, gi_36_31, pf_36_31, gr_36_32, gr_36_33, gi_36_34, pf_36_34, gi_36_35, pf_36_35, gr_36_36, al_3, al_4, al_5, al_6, al_7, al_8, al_9, al_10, al_12, al_13, al_14, al_16, al_17, al_19, al_20, al_22, al_23, al_24, al_26, al_27, al_28, al_29, al_30, al_31, al_32, al_33, al_35, al_37, al_38, al_39, al_40, al_41, al_42, al_43, al_44, al_45, al_46, al_47, al_48, al_49, al_50, al_51, al_52, al_53, al_54, al_55, al_56, al_57, al_58, al_59, ↓reduceIte, Option.bind_some, cI_some, cL_some, cV_some, rz_0, rz_1, ht, if_neg h10, bI_f h]
    · simp -implicitDefEqProofs only [u_X8_copy, M_X8_copy, m_isSheet, io_1, gr_1_0, gr_1_1, gr_1_2, gr_1_3, gr_1_4, gr_1_5, gi_1_6, pf_1_6, gi_1_7, pf_1_7, io_2, gr_2_0, gr_2_1, gr_2_2, gr_2_3, gr_2_4, gr_2_5, gr_2_6, gr_2_7, gi_2_8, pf_2_8, gi_2_9, pf_2_9, gi_2_10, pf_2_10, gi_2_11, pf_2_11, gi_2_12, pf_2_12, gi_2_13, pf_2_13, gi_2_14, pf_2_14, io_11, gr_11_0, gr_11_1, gr_11_2, io_15, gr_15_0, gr_15_1, gi_15_2, pf_15_2, gi_15_3, pf_15_3, gi_15_4, pf_15_4, gi_15_5, pf_15_5, io_18, gr_18_0, gr_18_1, gi_18_2, pf_18_2, io_21, gr_21_0, gr_21_1, gr_21_2, gr_21_3, gi_21_4, pf_21_4, gi_21_5, pf_21_5, gi_21_6, pf_21_6, gi_21_7, pf_21_7, io_34, gr_34_0, gi_34_1, pf_34_1, io_36, gi_36_0, pf_36_0, gi_36_1, pf_36_1, gr_36_2, gr_36_3, gr_36_4, gi_36_5, pf_36_5, gi_36_6, pf_36_6, gi_36_7, pf_36_7, gr_36_8, gr_36_9, gr_36_10, gr_36_11, gi_36_12, pf_36_12, gi_36_13, pf_36_13, gi_36_14, pf_36_14, gr_36_15, gr_36_16, gi_36_17, pf_36_17, gr_36_18, gr_36_19, gr_36_20, gr_36_21, gr_36_22, gi_36_23, pf_36_23, gr_36_24, gr_36_25, gi_36_26, pf_36_26, gr_36_27, gr_36_28, gr_36_29, gr_36_30, gi_36_31, pf_36_31, gr_36_32, gr_36_33, gi_36_34, pf_36_34, gi_36_35, pf_36_35, gr_36_36, al_3, al_4, al_5, al_6, al_7, al_8, al_9, al_10, al_12, al_13, al_14, al_16, al_17, al_19, al_20, al_22, al_23, al_24, al_26, al_27, al_28, al_29, al_30, al_31, al_32, al_33, al_35, al_37, al_38, al_39, al_40, al_41, al_42, al_43, al_44, al_45, al_46, al_47, al_48, al_49, al_50, al_51, al_52, al_53, al_54, al_55, al_56, al_57, al_58, al_59, ↓reduceIte, Option.bind_some, cI_some, cL_some, cV_some, rz_0, rz_1, ht, if_neg h10, bI_f h]
  obtain ⟨o, ho⟩ := r.rs.o hq
  obtain ⟨o2, ho2⟩ := r.rs.o hq2
  have cth := fun J => c_thereS (fu := fu) (I := J) r.2.1 hq ho
  have cth2 := fun J => c_thereS (fu := fu) (I := J) r.2.1 hq2 ho2
  have arr := fun J => ai_I A J r.2.1 hq
  have arr2 := fun J => ai_I A J r.2.1 hq2
  cases o with
  | none =>
    refine OP.fl (v := -10 - 1) (x := 1) r ?_ ?_
    · simp -implicitDefEqProofs only [u_X7_copy, M_X7_copy, c_isSheet, io_1, gr_1_0, gr_1_1, gr_1_2, gr_1_3, gr_1_4, gr_1_5, gi_1_6, pf_1_6, gi_1_7, pf_1_7, io_2, gr_2_0, gr_2_1, gr_2_2, gr_2_3, gr_2_4, gr_2_5, gr_2_6, gr_2_7, gi_2_8, pf_2_8, gi_2_9, pf_2_9, gi_2_10, pf_2_10, gi_2_11, pf_2_11, gi_2_12, pf_2_12, gi_2_13, pf_2_13, gi_2_14, pf_2_14, io_11, gr_11_0, gr_11_1, gr_11_2, io_15, gr_15_0, gr_15_1, gi_15_2, pf_15_2, gi_15_3, pf_15_3, gi_15_4, pf_15_4, gi_15_5, pf_15_5, io_18, gr_18_0, gr_18_1, gi_18_2, pf_18_2, io_21, gr_21_0, gr_21_1, gr_21_2, gr_21_3, gi_21_4, pf_21_4, gi_21_5, pf_21_5, gi_21_6, pf_21_6, gi_21_7, pf_21_7, io_34, gr_34_0, gi_34_1, pf_34_1, io_36, gi_36_0, pf_36_0, gi_36_1, pf_36_1, gr_36_2, gr_36_3, gr_36_4, gi_36_5, pf_36_5, gi_36_6, pf_36_6, gi_36_7, pf_36_7, gr_36_8, gr_36_9, gr_36_10, gr_36_11, gi_36_12, pf_36_12, gi_36_13, pf_36_13, gi_36_14, pf_36_14, gr_36_15, gr_36_16, gi_36_17, pf_36_17, gr_36_18, gr_36_19, gr_36_20, gr_36_21, gr_36_22, gi_36_23, pf_36_23, gr_36_24, gr_36_25, gi_36_26, pf_36_26, gr_36_27, gr_36_28, gr_36_29, gr_36_30, gi_36_31, pf_36_31, gr_36_32, gr_36_33, gi_36_34, pf_36_34, gi_36_35, pf_36_35, gr_36_36, al_3, al_4, al_5, al_6, al_7, al_8, al_9, al_10, al_12, al_13, al_14, al_16, al_17, al_19, al_20, al_22, al_23, al_24, al_26, al_27, al_28, al_29, al_30, al_31, al_32, al_33, al_35, al_37, al_38, al_39, al_40, al_41, al_42, al_43, al_44, al_45, al_46, al_47, al_48, al_49, al_50, al_51, al_52, al_53, al_54, al_55, al_56, al_57, al_58, al_59, ↓reduceIte, Option.bind_some, cI_some, cL_some, cV_some, rz_0, rz_1, ht, ht2, if_neg h10, cth, bI_0, ne_eq, not_true_eq_false, not_false_eq_true, if_true, c_failBy, uI_uI]
    · simp -implicitDefEqProofs only [u_X8_copy, M_X8_copy, m_isSheet, io_1, gr_1_0, gr_1_1, gr_1_2, gr_1_3, gr_1_4, gr_1_5, gi_1_6, pf_1_6, gi_1_7, pf_1_7, io_2, gr_2_0, gr_2_1, gr_2_2, gr_2_3, gr_2_4, gr_2_5, gr_2_6, gr_2_7, gi_2_8, pf_2_8, gi_2_9, pf_2_9, gi_2_10, pf_2_10, gi_2_11, pf_2_11, gi_2_12, pf_2_12, gi_2_13, pf_2_13, gi_2_14, pf_2_14, io_11, gr_11_0, gr_11_1, gr_11_2, io_15, gr_15_0, gr_15_1, gi_15_2, pf_15_2, gi_15_3, pf_15_3, gi_15_4, pf_15_4, gi_15_5, pf_15_5, io_18, gr_18_0, gr_18_1, gi_18_2, pf_18_2, io_21, gr_21_0, gr_21_1, gr_21_2, gr_21_3, gi_21_4, pf_21_4, gi_21_5, pf_21_5, gi_21_6, pf_21_6, gi_21_7, pf_21_7, io_34, gr_34_0, gi_34_1, pf_34_1, io_36, gi_36_0, pf_36_0, gi_36_1, pf_36_1, gr_36_2, gr_36_3, gr_36_4, gi_36_5, pf_36_5, gi_36_6, pf_36_6, gi_36_7, pf_36_7, gr_36_8, gr_36_9, gr_36_10, gr_36_11, gi_36_12, pf_36_12, gi_36_13, pf_36_13, gi_36_14, pf_36_14, gr_36_15, gr_36_16, gi_36_17, pf_36_17, gr_36_18, gr_36_19, gr_36_20, gr_36_21, gr_36_22, gi_36_23, pf_36_23, gr_36_24, gr_36_25, gi_36_26, pf_36_26, gr_36_27, gr_36_28, gr_36_29, gr_36_30, gi_36_31, pf_36_31, gr_36_32, gr_36_33, gi_36_34, pf_36_34, gi_36_35, pf_36_35, gr_36_36, al_3, al_4, al_5, al_6, al_7, al_8, al_9, al_10, al_12, al_13, al_14, al_16, al_17, al_19, al_20, al_22, al_23, al_24, al_26, al_27, al_28, al_29, al_30, al_31, al_32, al_33, al_35, al_37, al_38, al_39, al_40, al_41, al_42, al_43, al_44, al_45, al_46, al_47, al_48, al_49, al_50, al_51, al_52, al_53, al_54, al_55, al_56, al_57, al_58, al_59, ↓reduceIte, Option.bind_some, cI_some, cL_some, cV_some, rz_0, rz_1, ht, ht2, if_neg h10, (arr _).2.2.1, ho.2, if_true, m_fails, uI_uI]
  | some p =>
    obtain ⟨n1, t⟩ := p
    obtain ⟨a1, a2, a3, a4, a5, a6, a7⟩ := ho
    have hne : ¬ nI t = -9 := by rw [n_m9 (by omega)]; exact id
    cases o2 with
    | none =>
      refine OP.fl (v := -10 - 1) (x := 1) r ?_ ?_
      · simp -implicitDefEqProofs only [u_X7_copy, M_X7_copy, c_isSheet, io_1, gr_1_0, gr_1_1, gr_1_2, gr_1_3, gr_1_4, gr_1_5, gi_1_6, pf_1_6, gi_1_7, pf_1_7, io_2, gr_2_0, gr_2_1, gr_2_2, gr_2_3, gr_2_4, gr_2_5, gr_2_6, gr_2_7, gi_2_8, pf_2_8, gi_2_9, pf_2_9, gi_2_10, pf_2_10, gi_2_11, pf_2_11, gi_2_12, pf_2_12, gi_2_13, pf_2_13, gi_2_14, pf_2_14, io_11, gr_11_0, gr_11_1, gr_11_2, io_15, gr_15_0, gr_15_1, gi_15_2, pf_15_2, gi_15_3, pf_15_3, gi_15_4, pf_15_4, gi_15_5, pf_15_5, io_18, gr_18_0, gr_18_1, gi_18_2, pf_18_2, io_21, gr_21_0, gr_21_1, gr_21_2, gr_21_3, gi_21_4, pf_21_4, gi_21_5, pf_21_5, gi_21_6, pf_21_6, gi_21_7, pf_21_7, io_34, gr_34_0, gi_34_1, pf_34_1, io_36, gi_36_0, pf_36_0, gi_36_1, pf_36_1, gr_36_2, gr_36_3, gr_36_4, gi_36_5, pf_36_5, gi_36_6, pf_36_6, gi_36_7, pf_36_7, gr_36_8, gr_36_9, gr_36_10, gr_36_11, gi_36_12, pf_36_12, gi_36_13, pf_36_13, gi_36_14, pf_36_14, gr_36_15, gr_36_16, gi_36_17, pf_36_17, gr_36_18, gr_36_19, gr_36_20, gr_36_21, gr_36_22, gi_36_23, pf_36_23, gr_36_24, gr_36_25, gi_36_26, pf_36_26, gr_36_27, gr_36_28, gr_36_29, gr_36_30, gi_36_31, pf_36_31, gr_36_32, gr_36_33, gi_36_34, pf_36_34, gi_36_35, pf_36_35, gr_36_36, al_3, al_4, al_5, al_6, al_7, al_8, al_9, al_10, al_12, al_13, al_14, al_16, al_17, al_19, al_20, al_22, al_23, al_24, al_26, al_27, al_28, al_29, al_30, al_31, al_32, al_33, al_35, al_37, al_38, al_39, al_40, al_41, al_42, al_43, al_44, al_45, al_46, al_47, al_48, al_49, al_50, al_51, al_52, al_53, al_54, al_55, al_56, al_57, al_58, al_59, ↓reduceIte, Option.bind_some, cI_some, cL_some, cV_some, rz_0, rz_1, ht, ht2, if_neg h10, cth, cth2, bI_0, ne_eq, reduceCtorEq, not_true_eq_false, not_false_eq_true, if_true, if_false, c_failBy, uI_uI]
      · simp -implicitDefEqProofs only [u_X8_copy, M_X8_copy, m_isSheet, io_1, gr_1_0, gr_1_1, gr_1_2, gr_1_3, gr_1_4, gr_1_5, gi_1_6, pf_1_6, gi_1_7, pf_1_7, io_2, gr_2_0, gr_2_1, gr_2_2, gr_2_3, gr_2_4, gr_2_5, gr_2_6, gr_2_7, gi_2_8, pf_2_8, gi_2_9, pf_2_9, gi_2_10, pf_2_10, gi_2_11, pf_2_11, gi_2_12, pf_2_12, gi_2_13, pf_2_13, gi_2_14, pf_2_14, io_11, gr_11_0, gr_11_1, gr_11_2, io_15, gr_15_0, gr_15_1, gi_15_2, pf_15_2, gi_15_3, pf_15_3, gi_15_4, pf_15_4, gi_15_5, pf_15_5, io_18, gr_18_0, gr_18_1, gi_18_2, pf_18_2, io_21, gr_21_0, gr_21_1, gr_21_2, gr_21_3, gi_21_4, pf_21_4, gi_21_5, pf_21_5, gi_21_6, pf_21_6, gi_21_7, pf_21_7, io_34, gr_34_0, gi_34_1, pf_34_1, io_36, gi_36_0, pf_36_0, gi_36_1, pf_36_1, gr_36_2, gr_36_3, gr_36_4, gi_36_5, pf_36_5, gi_36_6, pf_36_6, gi_36_7, pf_36_7, gr_36_8, gr_36_9, gr_36_10, gr_36_11, gi_36_12, pf_36_12, gi_36_13, pf_36_13, gi_36_14, pf_36_14, gr_36_15, gr_36_16, gi_36_17, pf_36_17, gr_36_18, gr_36_19, gr_36_20, gr_36_21, gr_36_22, gi_36_23, pf_36_23, gr_36_24, gr_36_25, gi_36_26, pf_36_26, gr_36_27, gr_36_28, gr_36_29, gr_36_30, gi_36_31, pf_36_31, gr_36_32, gr_36_33, gi_36_34, pf_36_34, gi_36_35, pf_36_35, gr_36_36, al_3, al_4, al_5, al_6, al_7, al_8, al_9, al_10, al_12, al_13, al_14, al_16, al_17, al_19, al_20, al_22, al_23, al_24, al_26, al_27, al_28, al_29, al_30, al_31, al_32, al_33, al_35, al_37, al_38, al_39, al_40, al_41, al_42, al_43, al_44, al_45, al_46, al_47, al_48, al_49, al_50, al_51, al_52, al_53, al_54, al_55, al_56, al_57, al_58, al_59, ↓reduceIte, Option.bind_some, cI_some, cL_some, cV_some, rz_0, rz_1, ht, ht2, if_neg h10, (arr _).2.2.1, (arr2 _).2.2.1, a6, if_neg hne, ho2.2, if_true, m_fails, uI_uI]
    | some p =>
      obtain ⟨n2, t2⟩ := p
      obtain ⟨b1, b2, b3, b4, b5, b6, b7⟩ := ho2
      have hne2 : ¬ nI t2 = -9 := by rw [n_m9 (by omega)]; exact id
      have rch := fun J => c_reaches (fu := fu) (I := J) r.2.1 hq a3 i n
      have rch2 := fun J => c_reaches (fu := fu) (I := J) r.2.1 hq2 b3 j n
      by_cases htt : nI t = nI t2
      rotate_left
      · refine OP.fl (v := -10 - 2) (x := 2) r ?_ ?_
        · simp -implicitDefEqProofs only [u_X7_copy, M_X7_copy, c_isSheet, io_1, gr_1_0, gr_1_1, gr_1_2, gr_1_3, gr_1_4, gr_1_5, gi_1_6, pf_1_6, gi_1_7, pf_1_7, io_2, gr_2_0, gr_2_1, gr_2_2, gr_2_3, gr_2_4, gr_2_5, gr_2_6, gr_2_7, gi_2_8, pf_2_8, gi_2_9, pf_2_9, gi_2_10, pf_2_10, gi_2_11, pf_2_11, gi_2_12, pf_2_12, gi_2_13, pf_2_13, gi_2_14, pf_2_14, io_11, gr_11_0, gr_11_1, gr_11_2, io_15, gr_15_0, gr_15_1, gi_15_2, pf_15_2, gi_15_3, pf_15_3, gi_15_4, pf_15_4, gi_15_5, pf_15_5, io_18, gr_18_0, gr_18_1, gi_18_2, pf_18_2, io_21, gr_21_0, gr_21_1, gr_21_2, gr_21_3, gi_21_4, pf_21_4, gi_21_5, pf_21_5, gi_21_6, pf_21_6, gi_21_7, pf_21_7, io_34, gr_34_0, gi_34_1, pf_34_1, io_36, gi_36_0, pf_36_0, gi_36_1, pf_36_1, gr_36_2, gr_36_3, gr_36_4, gi_36_5, pf_36_5, gi_36_6, pf_36_6, gi_36_7, pf_36_7, gr_36_8, gr_36_9, gr_36_10, gr_36_11, gi_36_12, pf_36_12, gi_36_13, pf_36_13, gi_36_14, pf_36_14, gr_36_15, gr_36_16, gi_36_17, pf_36_17, gr_36_18, gr_36_19, gr_36_20, gr_36_21, gr_36_22, gi_36_23, pf_36_23, gr_36_24, gr_36_25, gi_36_26, pf_36_26, gr_36_27, gr_36_28, gr_36_29, gr_36_30, gi_36_31, pf_36_31, gr_36_32, gr_36_33, gi_36_34, pf_36_34, gi_36_35, pf_36_35, gr_36_36, al_3, al_4, al_5, al_6, al_7, al_8, al_9, al_10, al_12, al_13, al_14, al_16, al_17, al_19, al_20, al_22, al_23, al_24, al_26, al_27, al_28, al_29, al_30, al_31, al_32, al_33, al_35, al_37, al_38, al_39, al_40, al_41, al_42, al_43, al_44, al_45, al_46, al_47, al_48, al_49, al_50, al_51, al_52, al_53, al_54, al_55, al_56, al_57, al_58, al_59, ↓reduceIte, Option.bind_some, cI_some, cL_some, cV_some, rz_0, rz_1, ht, ht2, if_neg h10, cth, cth2, bI_0, ne_eq, reduceCtorEq, not_true_eq_false, not_false_eq_true, if_false, (arr _).2.1, (arr2 _).2.1, a5, b5, if_neg htt, c_failBy, uI_uI]
        · simp -implicitDefEqProofs only [u_X8_copy, M_X8_copy, m_isSheet, io_1, gr_1_0, gr_1_1, gr_1_2, gr_1_3, gr_1_4, gr_1_5, gi_1_6, pf_1_6, gi_1_7, pf_1_7, io_2, gr_2_0, gr_2_1, gr_2_2, gr_2_3, gr_2_4, gr_2_5, gr_2_6, gr_2_7, gi_2_8, pf_2_8, gi_2_9, pf_2_9, gi_2_10, pf_2_10, gi_2_11, pf_2_11, gi_2_12, pf_2_12, gi_2_13, pf_2_13, gi_2_14, pf_2_14, io_11, gr_11_0, gr_11_1, gr_11_2, io_15, gr_15_0, gr_15_1, gi_15_2, pf_15_2, gi_15_3, pf_15_3, gi_15_4, pf_15_4, gi_15_5, pf_15_5, io_18, gr_18_0, gr_18_1, gi_18_2, pf_18_2, io_21, gr_21_0, gr_21_1, gr_21_2, gr_21_3, gi_21_4, pf_21_4, gi_21_5, pf_21_5, gi_21_6, pf_21_6, gi_21_7, pf_21_7, io_34, gr_34_0, gi_34_1, pf_34_1, io_36, gi_36_0, pf_36_0, gi_36_1, pf_36_1, gr_36_2, gr_36_3, gr_36_4, gi_36_5, pf_36_5, gi_36_6, pf_36_6, gi_36_7, pf_36_7, gr_36_8, gr_36_9, gr_36_10, gr_36_11, gi_36_12, pf_36_12, gi_36_13, pf_36_13, gi_36_14, pf_36_14, gr_36_15, gr_36_16, gi_36_17, pf_36_17, gr_36_18, gr_36_19, gr_36_20, gr_36_21, gr_36_22, gi_36_23, pf_36_23, gr_36_24, gr_36_25, gi_36_26, pf_36_26, gr_36_27, gr_36_28, gr_36_29, gr_36_30, gi_36_31, pf_36_31, gr_36_32, gr_36_33, gi_36_34, pf_36_34, gi_36_35, pf_36_35, gr_36_36, al_3, al_4, al_5, al_6, al_7, al_8, al_9, al_10, al_12, al_13, al_14, al_16, al_17, al_19, al_20, al_22, al_23, al_24, al_26, al_27, al_28, al_29, al_30, al_31, al_32, al_33, al_35, al_37, al_38, al_39, al_40, al_41, al_42, al_43, al_44, al_45, al_46, al_47, al_48, al_49, al_50, al_51, al_52, al_53, al_54, al_55, al_56, al_57, al_58, al_59, ↓reduceIte, Option.bind_some, cI_some, cL_some, cV_some, rz_0, rz_1, ht, ht2, if_neg h10, (arr _).2.2.1, (arr2 _).2.2.1, a6, b6, if_neg hne, if_neg hne2, if_neg htt, m_fails, uI_uI]
      by_cases bad : n < 0 ∨ ¬ (¬ (i < 0) ∧ ¬ (nI n1 < i) ∧ ¬ (nI n1 - i < n)) ∨ ¬ (¬ (j < 0) ∧ ¬ (nI n2 < j) ∧ ¬ (nI n2 - j < n))
      · refine OP.fl (v := -10 - 3) (x := 3) r ?_ ?_
        · simp -implicitDefEqProofs only [u_X7_copy, M_X7_copy, c_isSheet, io_1, gr_1_0, gr_1_1, gr_1_2, gr_1_3, gr_1_4, gr_1_5, gi_1_6, pf_1_6, gi_1_7, pf_1_7, io_2, gr_2_0, gr_2_1, gr_2_2, gr_2_3, gr_2_4, gr_2_5, gr_2_6, gr_2_7, gi_2_8, pf_2_8, gi_2_9, pf_2_9, gi_2_10, pf_2_10, gi_2_11, pf_2_11, gi_2_12, pf_2_12, gi_2_13, pf_2_13, gi_2_14, pf_2_14, io_11, gr_11_0, gr_11_1, gr_11_2, io_15, gr_15_0, gr_15_1, gi_15_2, pf_15_2, gi_15_3, pf_15_3, gi_15_4, pf_15_4, gi_15_5, pf_15_5, io_18, gr_18_0, gr_18_1, gi_18_2, pf_18_2, io_21, gr_21_0, gr_21_1, gr_21_2, gr_21_3, gi_21_4, pf_21_4, gi_21_5, pf_21_5, gi_21_6, pf_21_6, gi_21_7, pf_21_7, io_34, gr_34_0, gi_34_1, pf_34_1, io_36, gi_36_0, pf_36_0, gi_36_1, pf_36_1, gr_36_2, gr_36_3, gr_36_4, gi_36_5, pf_36_5, gi_36_6, pf_36_6, gi_36_7, pf_36_7, gr_36_8, gr_36_9, gr_36_10, gr_36_11, gi_36_12, pf_36_12, gi_36_13, pf_36_13, gi_36_14, pf_36_14, gr_36_15, gr_36_16, gi_36_17, pf_36_17, gr_36_18, gr_36_19, gr_36_20, gr_36_21, gr_36_22, gi_36_23, pf_36_23, gr_36_24, gr_36_25, gi_36_26, pf_36_26, gr_36_27, gr_36_28, gr_36_29, gr_36_30, gi_36_31, pf_36_31, gr_36_32, gr_36_33, gi_36_34, pf_36_34, gi_36_35, pf_36_35, gr_36_36, al_3, al_4, al_5, al_6, al_7, al_8, al_9, al_10, al_12, al_13, al_14, al_16, al_17, al_19, al_20, al_22, al_23, al_24, al_26, al_27, al_28, al_29, al_30, al_31, al_32, al_33, al_35, al_37, al_38, al_39, al_40, al_41, al_42, al_43, al_44, al_45, al_46, al_47, al_48, al_49, al_50, al_51, al_52, al_53, al_54, al_55, al_56, al_57, al_58, al_59, ↓reduceIte, Option.bind_some, cI_some, cL_some, cV_some, rz_0, rz_1, ht, ht2, if_neg h10, cth, cth2, bI_0, ne_eq, reduceCtorEq, not_true_eq_false, not_false_eq_true, if_false, (arr _).2.1, (arr2 _).2.1, a5, b5, if_pos htt, rch, rch2, c_failBy, uI_uI]
          by_cases z1 : n < 0
          · rw [if_pos z1]
          · rw [if_neg z1]
            by_cases z2 : (¬ (i < 0) ∧ ¬ (nI n1 < i) ∧ ¬ (nI n1 - i < n))
            · rw [if_neg (fun w => w z2)]
              by_cases z3 : (¬ (j < 0) ∧ ¬ (nI n2 < j) ∧ ¬ (nI n2 - j < n))
              · exact absurd bad (fun w => w.elim z1 (fun w => w.elim (fun w => w z2) (fun w => w z3)))
              · rw [if_pos z3]
            · rw [if_pos z2]
        · have f0 : ∀ w, (F_X8_copy fu fu).1 36 (nI q) i (nI q2) j n 0 w = cI (U_X8_fails fu [.ref 36, .int (3 : Int32)] w) fun x2 w1 => some (some (.int x2), w1) := fun w => by
            rw [show F_X8_copy fu fu = F_X8_copy fu (N + 1) by rw [← hN], F_X8_copy]
            dsimp only
            rw [if_pos (show (0 : Int32) = 0 from rfl)]
          have f1 : ∀ J, ¬ (¬ (nI n1 - i < n) ∧ ¬ (nI n2 - j < n)) → (F_X8_copy fu fu).1 36 (nI q) i (nI q2) j n 1 (enc A J) = cI (U_X8_fails fu [.ref 36, .int (3 : Int32)] (enc A J)) fun x2 w1 => some (some (.int x2), w1) := fun J hh => by
            rw [show F_X8_copy fu fu = F_X8_copy fu (N + 1) by rw [← hN], F_X8_copy]
            simp -implicitDefEqProofs only [if_neg h10, gr_36_3, Option.bind_some, (arr J).2.2.2, (arr2 J).2.2.2, a4, b4]
            by_cases z1 : nI n1 - i < n
            · rw [if_pos z1]
            · rw [if_neg z1]
              by_cases z2 : nI n2 - j < n
              · rw [if_pos z2]
              · exact absurd ⟨z1, z2⟩ hh
          simp -implicitDefEqProofs only [u_X8_copy, M_X8_copy, m_isSheet, io_1, gr_1_0, gr_1_1, gr_1_2, gr_1_3, gr_1_4, gr_1_5, gi_1_6, pf_1_6, gi_1_7, pf_1_7, io_2, gr_2_0, gr_2_1, gr_2_2, gr_2_3, gr_2_4, gr_2_5, gr_2_6, gr_2_7, gi_2_8, pf_2_8, gi_2_9, pf_2_9, gi_2_10, pf_2_10, gi_2_11, pf_2_11, gi_2_12, pf_2_12, gi_2_13, pf_2_13, gi_2_14, pf_2_14, io_11, gr_11_0, gr_11_1, gr_11_2, io_15, gr_15_0, gr_15_1, gi_15_2, pf_15_2, gi_15_3, pf_15_3, gi_15_4, pf_15_4, gi_15_5, pf_15_5, io_18, gr_18_0, gr_18_1, gi_18_2, pf_18_2, io_21, gr_21_0, gr_21_1, gr_21_2, gr_21_3, gi_21_4, pf_21_4, gi_21_5, pf_21_5, gi_21_6, pf_21_6, gi_21_7, pf_21_7, io_34, gr_34_0, gi_34_1, pf_34_1, io_36, gi_36_0, pf_36_0, gi_36_1, pf_36_1, gr_36_2, gr_36_3, gr_36_4, gi_36_5, pf_36_5, gi_36_6, pf_36_6, gi_36_7, pf_36_7, gr_36_8, gr_36_9, gr_36_10, gr_36_11, gi_36_12, pf_36_12, gi_36_13, pf_36_13, gi_36_14, pf_36_14, gr_36_15, gr_36_16, gi_36_17, pf_36_17, gr_36_18, gr_36_19, gr_36_20, gr_36_21, gr_36_22, gi_36_23, pf_36_23, gr_36_24, gr_36_25, gi_36_26, pf_36_26, gr_36_27, gr_36_28, gr_36_29, gr_36_30, gi_36_31, pf_36_31, gr_36_32, gr_36_33, gi_36_34, pf_36_34, gi_36_35, pf_36_35, gr_36_36, al_3, al_4, al_5, al_6, al_7, al_8, al_9, al_10, al_12, al_13, al_14, al_16, al_17, al_19, al_20, al_22, al_23, al_24, al_26, al_27, al_28, al_29, al_30, al_31, al_32, al_33, al_35, al_37, al_38, al_39, al_40, al_41, al_42, al_43, al_44, al_45, al_46, al_47, al_48, al_49, al_50, al_51, al_52, al_53, al_54, al_55, al_56, al_57, al_58, al_59, ↓reduceIte, Option.bind_some, cI_some, cL_some, cV_some, rz_0, rz_1, ht, ht2, if_neg h10, (arr _).2.2.1, (arr2 _).2.2.1, (arr _).2.2.2, (arr2 _).2.2.2, a6, b6, a4, b4, if_neg hne, if_neg hne2, if_pos htt, f0, m_fails, uI_uI]
          by_cases z1 : i < 0
          · rw [if_pos z1]
          · rw [if_neg z1]
            by_cases z2 : j < 0
            · rw [if_pos z2]
            · rw [if_neg z2]
              by_cases z3 : n < 0
              · rw [if_pos z3]
              · rw [if_neg z3]
                by_cases z4 : nI n1 < i
                · rw [if_pos z4]
                · rw [if_neg z4]
                  by_cases z5 : nI n2 < j
                  · rw [if_pos z5]
                  · rw [if_neg z5, f1 _ (fun w => bad.elim z3 (fun b => b.elim (fun b => b ⟨z1, z4, w.1⟩) (fun b => b ⟨z2, z5, w.2⟩)))]
                    simp -implicitDefEqProofs only [m_fails, cI_some, uI_uI]
      have g1 : ¬ (n < 0) := fun z => bad (Or.inl z)
      have g2 : ¬ (i < 0) ∧ ¬ (nI n1 < i) ∧ ¬ (nI n1 - i < n) := Classical.byContradiction fun z => bad (Or.inr (Or.inl z))
      have g3 : ¬ (j < 0) ∧ ¬ (nI n2 < j) ∧ ¬ (nI n2 - j < n) := Classical.byContradiction fun z => bad (Or.inr (Or.inr z))
      obtain ⟨kk, hkk, rfl⟩ := nI_of g1
      obtain ⟨i0, hi0, rfl⟩ := nI_of g2.1
      obtain ⟨j0, hj0, rfl⟩ := nI_of g3.1
      have l1 := g2.2.1
      have l2 := g3.2.1
      rw [n_lt (by omega) hi0] at l1
      rw [n_lt (by omega) hj0] at l2
      have l3 := g2.2.2
      have l4 := g3.2.2
      rw [n_sub60 n1 (by omega) i0 (by omega) (by omega), n_lt (by omega) hkk] at l3
      rw [n_sub60 n2 (by omega) j0 (by omega) (by omega), n_lt (by omega) hkk] at l4
      have hL14 : (A 14).length = 240 := r.len rfl
      have hL39 : (A 39).length = 240 := r.len rfl
      have cc := copy_14 (A := A) (I := uI I 1 7 0) hL14 (a := 60 * q + i0) (b := 60 * q2 + j0) (n := kk) (by omega) (by omega)
      have B39 : uA A 14 (cpy (A 14) (A 14) (60 * q + i0) (60 * q2 + j0) kk) 39 = A 39 := uA_n _ _ _ (by decide)
      have loop : ∃ ys, (F_X8_copy fu N).2.1 36 (nI q) (nI i0) (nI q2) (nI j0) (nI kk) (if i0 < j0 then 1 else 0) 0 (enc (uA A 14 (cpy (A 14) (A 14) (60 * q + i0) (60 * q2 + j0) kk)) (uI (uI I 1 7 0) 36 0 0)) = some (some (.int (nI kk)), enc (uA (uA A 14 (cpy (A 14) (A 14) (60 * q + i0) (60 * q2 + j0) kk)) 39 ys) (uI (uI I 1 7 0) 36 0 0)) ∧ ys.length = 240 ∧ ∀ p, rd ys p = if 60 * q2 + j0 ≤ p ∧ p < 60 * q2 + j0 + kk then rd (A 39) (60 * q + i0 + (p - (60 * q2 + j0))) else rd (A 39) p := by
        by_cases hij : i0 < j0
        · have := m_copyA (fu := fu) (A := uA A 14 (cpy (A 14) (A 14) (60 * q + i0) (60 * q2 + j0) kk)) (I := uI (uI I 1 7 0) 36 0 0) (n_60 q i0).2 (n_60 q2 j0).2 (X := A 39) (kk := kk) (by omega) (by omega) (by
            by_cases z : q = q2
            · subst z; omega
            · omega) kk 0 (A 39) N (by omega) (by omega) hL39 (fun p => by rw [if_neg (by omega)])
          rw [if_pos hij]
          have e : uA (uA A 14 (cpy (A 14) (A 14) (60 * q + i0) (60 * q2 + j0) kk)) 39 (A 39) = uA A 14 (cpy (A 14) (A 14) (60 * q + i0) (60 * q2 + j0) kk) := by
            have := uA_self (uA A 14 (cpy (A 14) (A 14) (60 * q + i0) (60 * q2 + j0) kk)) 39
            rw [B39] at this
            exact this
          rw [e] at this
          exact this
        · have := m_copyB (fu := fu) (A := uA A 14 (cpy (A 14) (A 14) (60 * q + i0) (60 * q2 + j0) kk)) (I := uI (uI I 1 7 0) 36 0 0) (n_60 q i0).2 (n_60 q2 j0).2 (X := A 39) (kk := kk) (by omega) (by omega) (by
            by_cases z : q = q2
            · subst z; omega
            · omega) kk 0 (A 39) N (by omega) (by omega) hL39 (fun p => by rw [if_neg (by omega)])
          rw [if_neg hij]
          have e : uA (uA A 14 (cpy (A 14) (A 14) (60 * q + i0) (60 * q2 + j0) kk)) 39 (A 39) = uA A 14 (cpy (A 14) (A 14) (60 * q + i0) (60 * q2 + j0) kk) := by
            have := uA_self (uA A 14 (cpy (A 14) (A 14) (60 * q + i0) (60 * q2 + j0) kk)) 39
            rw [B39] at this
            exact this
          rw [e] at this
          exact this
      obtain ⟨ys, k1, k2, k3⟩ := loop
      have hcl : (cpy (A 14) (A 14) (60 * q + i0) (60 * q2 + j0) kk).length = (A 14).length := cpy_len (by omega) (by omega)
      have arr1 := fun J => ai_I (uA A 14 (cpy (A 14) (A 14) (60 * q + i0) (60 * q2 + j0) kk)) J (r.2.1.set hcl) hq
      have arr3 := fun J => ai_I (uA A 14 (cpy (A 14) (A 14) (60 * q + i0) (60 * q2 + j0) kk)) J (r.2.1.set hcl) hq2
      have e37 : uA A 14 (cpy (A 14) (A 14) (60 * q + i0) (60 * q2 + j0) kk) 37 = A 37 := uA_n _ _ _ (by decide)
      have e38 : uA A 14 (cpy (A 14) (A 14) (60 * q + i0) (60 * q2 + j0) kk) 38 = A 38 := uA_n _ _ _ (by decide)
      have d37 := fun J => (arr1 J).2.2.1
      have d38 := fun J => (arr1 J).2.2.2
      have d37' := fun J => (arr3 J).2.2.1
      have d38' := fun J => (arr3 J).2.2.2
      rw [e37, a6] at d37
      rw [e37, b6] at d37'
      rw [e38, a4] at d38
      rw [e38, b4] at d38'
      refine ⟨nI kk, uA A 14 (cpy (A 14) (A 14) (60 * q + i0) (60 * q2 + j0) kk), uI I 1 7 0, uA (uA A 14 (cpy (A 14) (A 14) (60 * q + i0) (60 * q2 + j0) kk)) 39 ys, uI (uI I 1 7 0) 36 0 0, σ, ?_, ?_, ?_, ?_, fun _ => rfl, ?_⟩
      · simp -implicitDefEqProofs only [u_X7_copy, M_X7_copy, c_isSheet, io_1, gr_1_0, gr_1_1, gr_1_2, gr_1_3, gr_1_4, gr_1_5, gi_1_6, pf_1_6, gi_1_7, pf_1_7, io_2, gr_2_0, gr_2_1, gr_2_2, gr_2_3, gr_2_4, gr_2_5, gr_2_6, gr_2_7, gi_2_8, pf_2_8, gi_2_9, pf_2_9, gi_2_10, pf_2_10, gi_2_11, pf_2_11, gi_2_12, pf_2_12, gi_2_13, pf_2_13, gi_2_14, pf_2_14, io_11, gr_11_0, gr_11_1, gr_11_2, io_15, gr_15_0, gr_15_1, gi_15_2, pf_15_2, gi_15_3, pf_15_3, gi_15_4, pf_15_4, gi_15_5, pf_15_5, io_18, gr_18_0, gr_18_1, gi_18_2, pf_18_2, io_21, gr_21_0, gr_21_1, gr_21_2, gr_21_3, gi_21_4, pf_21_4, gi_21_5, pf_21_5, gi_21_6, pf_21_6, gi_21_7, pf_21_7, io_34, gr_34_0, gi_34_1, pf_34_1, io_36, gi_36_0, pf_36_0, gi_36_1, pf_36_1, gr_36_2, gr_36_3, gr_36_4, gi_36_5, pf_36_5, gi_36_6, pf_36_6, gi_36_7, pf_36_7, gr_36_8, gr_36_9, gr_36_10, gr_36_11, gi_36_12, pf_36_12, gi_36_13, pf_36_13, gi_36_14, pf_36_14, gr_36_15, gr_36_16, gi_36_17, pf_36_17, gr_36_18, gr_36_19, gr_36_20, gr_36_21, gr_36_22, gi_36_23, pf_36_23, gr_36_24, gr_36_25, gi_36_26, pf_36_26, gr_36_27, gr_36_28, gr_36_29, gr_36_30, gi_36_31, pf_36_31, gr_36_32, gr_36_33, gi_36_34, pf_36_34, gi_36_35, pf_36_35, gr_36_36, al_3, al_4, al_5, al_6, al_7, al_8, al_9, al_10, al_12, al_13, al_14, al_16, al_17, al_19, al_20, al_22, al_23, al_24, al_26, al_27, al_28, al_29, al_30, al_31, al_32, al_33, al_35, al_37, al_38, al_39, al_40, al_41, al_42, al_43, al_44, al_45, al_46, al_47, al_48, al_49, al_50, al_51, al_52, al_53, al_54, al_55, al_56, al_57, al_58, al_59, ↓reduceIte, Option.bind_some, cI_some, cL_some, cV_some, rz_0, rz_1, ht, ht2, if_neg h10, cth, cth2, bI_0, ne_eq, reduceCtorEq, not_true_eq_false, not_false_eq_true, if_false, (arr _).2.1, (arr2 _).2.1, a5, b5, if_pos htt, rch, rch2, u_X4_move, M_X4_move, (n_60 q i0).1, (n_60 q2 j0).1, cc, if_neg g1]
        rw [if_neg (fun w => w g2), if_neg (fun w => w g3)]
      · exact uA_n _ _ _ (by decide)
      · have f1 : (F_X8_copy fu fu).1 36 (nI q) (nI i0) (nI q2) (nI j0) (nI kk) 1 (enc (uA A 14 (cpy (A 14) (A 14) (60 * q + i0) (60 * q2 + j0) kk)) (uI (uI I 1 7 0) 36 0 0)) = some (some (.int (nI kk)), enc (uA (uA A 14 (cpy (A 14) (A 14) (60 * q + i0) (60 * q2 + j0) kk)) 39 ys) (uI (uI I 1 7 0) 36 0 0)) := by
          rw [show F_X8_copy fu fu = F_X8_copy fu (N + 1) by rw [← hN], F_X8_copy]
          simp -implicitDefEqProofs only [if_neg h10, gr_36_3, Option.bind_some, d38, d38', if_neg g2.2.2, if_neg g3.2.2, n_lt hi0 hj0]
          by_cases hij : i0 < j0
          · rw [if_pos hij] at k1 ⊢
            exact k1
          · rw [if_neg hij] at k1 ⊢
            exact k1
        simp -implicitDefEqProofs only [u_X8_copy, M_X8_copy, m_isSheet, io_1, gr_1_0, gr_1_1, gr_1_2, gr_1_3, gr_1_4, gr_1_5, gi_1_6, pf_1_6, gi_1_7, pf_1_7, io_2, gr_2_0, gr_2_1, gr_2_2, gr_2_3, gr_2_4, gr_2_5, gr_2_6, gr_2_7, gi_2_8, pf_2_8, gi_2_9, pf_2_9, gi_2_10, pf_2_10, gi_2_11, pf_2_11, gi_2_12, pf_2_12, gi_2_13, pf_2_13, gi_2_14, pf_2_14, io_11, gr_11_0, gr_11_1, gr_11_2, io_15, gr_15_0, gr_15_1, gi_15_2, pf_15_2, gi_15_3, pf_15_3, gi_15_4, pf_15_4, gi_15_5, pf_15_5, io_18, gr_18_0, gr_18_1, gi_18_2, pf_18_2, io_21, gr_21_0, gr_21_1, gr_21_2, gr_21_3, gi_21_4, pf_21_4, gi_21_5, pf_21_5, gi_21_6, pf_21_6, gi_21_7, pf_21_7, io_34, gr_34_0, gi_34_1, pf_34_1, io_36, gi_36_0, pf_36_0, gi_36_1, pf_36_1, gr_36_2, gr_36_3, gr_36_4, gi_36_5, pf_36_5, gi_36_6, pf_36_6, gi_36_7, pf_36_7, gr_36_8, gr_36_9, gr_36_10, gr_36_11, gi_36_12, pf_36_12, gi_36_13, pf_36_13, gi_36_14, pf_36_14, gr_36_15, gr_36_16, gi_36_17, pf_36_17, gr_36_18, gr_36_19, gr_36_20, gr_36_21, gr_36_22, gi_36_23, pf_36_23, gr_36_24, gr_36_25, gi_36_26, pf_36_26, gr_36_27, gr_36_28, gr_36_29, gr_36_30, gi_36_31, pf_36_31, gr_36_32, gr_36_33, gi_36_34, pf_36_34, gi_36_35, pf_36_35, gr_36_36, al_3, al_4, al_5, al_6, al_7, al_8, al_9, al_10, al_12, al_13, al_14, al_16, al_17, al_19, al_20, al_22, al_23, al_24, al_26, al_27, al_28, al_29, al_30, al_31, al_32, al_33, al_35, al_37, al_38, al_39, al_40, al_41, al_42, al_43, al_44, al_45, al_46, al_47, al_48, al_49, al_50, al_51, al_52, al_53, al_54, al_55, al_56, al_57, al_58, al_59, ↓reduceIte, Option.bind_some, cI_some, cL_some, cV_some, rz_0, rz_1, ht, ht2, if_neg h10, d37, d37', d38, d38', if_neg hne, if_neg hne2, if_pos htt, if_neg g1, if_neg g2.1, if_neg g3.1, if_neg g2.2.1, if_neg g3.2.1, f1]
      · rw [uA_n _ _ _ (by decide), uA_n _ _ _ (by decide)]
      · refine r.she (fun k a b c d e f => by rw [uA_n _ _ _ f, uA_n _ _ _ c]) (fun k => ?_) (fun a b h1 h2 => ?_) (RS.of ?_ ?_ fun p hp => ?_)
        · by_cases z1 : k = 39
          · rw [z1, uA_s, k2, hL39]
          · rw [uA_n _ _ _ z1]
            by_cases z2 : k = 14
            · rw [z2, uA_s, hcl]
            · rw [uA_n _ _ _ z2]
        · unfold uI
          rw [if_neg (fun w => h2 ⟨w.1, Or.inl w.2⟩), if_neg (fun w => h1 ⟨w.1, Or.inr w.2⟩)]
        · exact r.rs.1
        · rfl
        · by_cases zp : p = q2
          · subst zp
            refine ⟨some (n2, t2), b1, b2, ?_, ?_, ?_, ?_, fun s hs => ?_⟩
            · rw [uA_n _ _ _ (by decide), uA_n _ _ _ (by decide)]; exact b3
            · rw [uA_n _ _ _ (by decide), uA_n _ _ _ (by decide)]; exact b4
            · rw [uA_n _ _ _ (by decide), uA_n _ _ _ (by decide)]; exact b5
            · rw [uA_n _ _ _ (by decide), uA_n _ _ _ (by decide)]; exact b6
            · rw [uA_s, uA_n _ _ _ (by decide), uA_s, k3, cpy_rd (by omega) (by omega)]
              by_cases zi : 60 * p + j0 ≤ 60 * p + s ∧ 60 * p + s < 60 * p + j0 + kk
              · rw [if_pos zi, if_pos zi, Nat.add_assoc]
                exact a7 _ (by omega)
              · rw [if_neg zi, if_neg zi]; exact b7 s hs
          · obtain ⟨o2, ho2⟩ := r.rs.o hp
            refine ⟨o2, ho2.oth zp (fun i _ => by rw [uA_n _ _ _ (by decide), uA_n _ _ _ (by decide)]) (fun i _ => by rw [uA_n _ _ _ (by decide), uA_n _ _ _ (by decide)]) (fun i _ => by rw [uA_n _ _ _ (by decide), uA_n _ _ _ (by decide)]) (fun i _ => by rw [uA_n _ _ _ (by decide), uA_n _ _ _ (by decide)]) (fun i hi => by rw [uA_n _ _ _ (by decide), uA_s, cpy_rd (by omega) (by omega), if_neg (by omega)]) (fun i hi => by rw [uA_s, k3, if_neg (by omega)])⟩
end Q4
