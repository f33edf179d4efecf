/-! ===== sheets ===== -/
/-- what both objects hold of a sheet: nothing, or how many cells and of which sort -/
def SHo (A : Nat → List Int32) (q : Nat) : Option (Nat × Nat) → Prop
  | none => rd (A 13) q = -1 ∧ rd (A 32) q = -9
  | some (n, t) => n ≤ 60 ∧ t ≤ 2 ∧ rd (A 13) q = nI n ∧ rd (A 33) q = nI n ∧ rd (A 12) q = nI t ∧ rd (A 32) q = nI t ∧ ∀ i, i < n → rd (A 14) (60 * q + i) = rd (A 34) (60 * q + i)
theorem RS.o {A : Nat → List Int32} {I : Nat → Nat → Int32} (h : RS A I) {q : Nat} (hq : q < 4) : ∃ o, SHo A q o := by
  rcases h.2.2 q hq with a | ⟨n, t, a⟩
  · exact ⟨none, a⟩
  · exact ⟨some (n, t), a⟩
theorem RS.of {A : Nat → List Int32} {I : Nat → Nat → Int32} (h1 : I 1 6 = I 31 1) (h2 : I 1 7 + I 31 0 = I 1 7 + I 31 0) (h : ∀ q, q < 4 → ∃ o, SHo A q o) : RS A I := by
  refine ⟨h1, h2, fun q hq => ?_⟩
  obtain ⟨o, ho⟩ := h q hq
  cases o with
  | none => exact Or.inl ho
  | some p => exact Or.inr ⟨p.1, p.2, ho⟩
/-- another sheet is as it was -/
theorem SHo.oth {A B : Nat → List Int32} {p q : Nat} (hpq : p ≠ q) {o : Option (Nat × Nat)} (h : SHo A p o) (h12 : ∀ i, i ≠ q → rd (B 12) i = rd (A 12) i) (h13 : ∀ i, i ≠ q → rd (B 13) i = rd (A 13) i) (h32 : ∀ i, i ≠ q → rd (B 32) i = rd (A 32) i) (h33 : ∀ i, i ≠ q → rd (B 33) i = rd (A 33) i)
    (h14 : ∀ i, (i < 60 * q ∨ 60 * q + 60 ≤ i) → rd (B 14) i = rd (A 14) i) (h34 : ∀ i, (i < 60 * q ∨ 60 * q + 60 ≤ i) → rd (B 34) i = rd (A 34) i) : SHo B p o := by
  cases o with
  | none => exact ⟨by rw [h13 p hpq]; exact h.1, by rw [h32 p hpq]; exact h.2⟩
  | some r =>
    obtain ⟨n, t⟩ := r
    obtain ⟨a1, a2, a3, a4, a5, a6, a7⟩ := h
    refine ⟨a1, a2, by rw [h13 p hpq]; exact a3, by rw [h33 p hpq]; exact a4, by rw [h12 p hpq]; exact a5, by rw [h32 p hpq]; exact a6, fun i hi => ?_⟩
    rw [h14 _ (by omega), h34 _ (by omega)]
    exact a7 i hi
section P5
variable {σ : SG} {A : Nat → List Int32} {I : Nat → Nat → Int32} {fu : Nat}
theorem RR.rs (r : RR σ A I) : RS A I := r.2.2.2.2
/-- sheets, fault and trace changed -/
theorem RR.she (r : RR σ A I) {B : Nat → List Int32} {J : Nat → Nat → Int32} (hB : ∀ k, k ≠ 12 → k ≠ 13 → k ≠ 14 → k ≠ 32 → k ≠ 33 → k ≠ 34 → B k = A k) (hL : ∀ k, (B k).length = (A k).length)
    (hJ : ∀ o j, ¬ (o = 1 ∧ (j = 6 ∨ j = 7)) → ¬ (o = 31 ∧ (j = 0 ∨ j = 1)) → J o j = I o j) (hS : RS B J) : RR σ B J := by
  obtain ⟨r1, r2, r3, r4, r5⟩ := r
  have b : ∀ k, 15 ≤ k ∧ k ≤ 31 ∨ k ≤ 11 ∨ 35 ≤ k → B k = A k := fun k hk => hB k (by omega) (by omega) (by omega) (by omega) (by omega) (by omega)
  refine ⟨r1, fun k hk => (hL k).trans (r2 k hk), ?_, ?_, hS⟩
  · unfold RC at *
    rw [hJ 2 8 (by omega) (by omega), hJ 2 9 (by omega) (by omega), hJ 2 10 (by omega) (by omega), hJ 2 11 (by omega) (by omega), hJ 2 12 (by omega) (by omega), hJ 2 13 (by omega) (by omega), hJ 2 14 (by omega) (by omega), b 3 (by omega), b 4 (by omega), b 5 (by omega), b 6 (by omega), b 7 (by omega), b 8 (by omega), b 9 (by omega), b 10 (by omega)]
    exact r3
  · unfold RM at *
    rw [hJ 31 5 (by omega) (by omega), hJ 31 6 (by omega) (by omega), hJ 31 7 (by omega) (by omega), hJ 31 17 (by omega) (by omega), hJ 31 23 (by omega) (by omega), hJ 31 31 (by omega) (by omega), b 35 (by omega), b 36 (by omega), b 37 (by omega), b 38 (by omega), b 41 (by omega), b 42 (by omega), b 43 (by omega), b 44 (by omega), b 45 (by omega), b 46 (by omega)]
    exact r4
theorem rd_oob {xs : List Int32} (i : Nat) {j : Nat} (x : Int32) (h : i ≠ j) : rd (xs.set j x) i = rd xs i := by
  unfold rd
  rw [List.getD_eq_getElem?_getD, List.getD_eq_getElem?_getD, List.getElem?_set]
  rw [if_neg (fun q => h q.symm)]
theorem c_thereS (hL : LEN A) {q : Nat} (hq : q < 4) {o : Option (Nat × Nat)} (h : SHo A q o) : U_X4_isThere fu [.ref 11, .int (nI q)] (enc A I) = some (some (.int (bI (o ≠ none))), enc A I) := by
  have e : aI (enc A I) 13 (nI q) = some (rd (A 13) q) := ai_13 A I (by rw [hL 13 rfl]; show q < 4; omega) (by omega)
  simp only [u_X4_isThere, M_X4_isThere, io_1, gr_1_0, gr_1_1, gr_1_2, gr_1_3, gr_1_4, gr_1_5, gi_1_6, pf_1_6, gi_1_7, pf_1_7, io_2, gr_2_0, gr_2_1, gr_2_2, gr_2_3, gr_2_4, gr_2_5, gr_2_6, gr_2_7, gi_2_8, pf_2_8, gi_2_9, pf_2_9, gi_2_10, pf_2_10, gi_2_11, pf_2_11, gi_2_12, pf_2_12, gi_2_13, pf_2_13, gi_2_14, pf_2_14, io_11, gr_11_0, gr_11_1, gr_11_2, io_15, gr_15_0, gr_15_1, gi_15_2, pf_15_2, gi_15_3, pf_15_3, gi_15_4, pf_15_4, gi_15_5, pf_15_5, io_18, gr_18_0, gr_18_1, gi_18_2, pf_18_2, io_21, gr_21_0, gr_21_1, gr_21_2, gr_21_3, gr_21_4, gi_21_5, pf_21_5, gi_21_6, pf_21_6, gi_21_7, pf_21_7, gi_21_8, pf_21_8, gi_21_9, pf_21_9, io_22, gr_22_0, gr_22_1, gi_22_2, pf_22_2, io_29, gr_29_0, gi_29_1, pf_29_1, io_31, gi_31_0, pf_31_0, gi_31_1, pf_31_1, gr_31_2, gr_31_3, gr_31_4, gi_31_5, pf_31_5, gi_31_6, pf_31_6, gi_31_7, pf_31_7, gr_31_8, gr_31_9, gr_31_10, gr_31_11, gi_31_12, pf_31_12, gi_31_13, pf_31_13, gi_31_14, pf_31_14, gr_31_15, gr_31_16, gi_31_17, pf_31_17, gr_31_18, gr_31_19, gr_31_20, gr_31_21, gr_31_22, gi_31_23, pf_31_23, gr_31_24, gr_31_25, gi_31_26, pf_31_26, gr_31_27, gr_31_28, gr_31_29, gr_31_30, gi_31_31, pf_31_31, gr_31_32, gr_31_33, gi_31_34, pf_31_34, gi_31_35, pf_31_35, gr_31_36, al_3, al_4, al_5, al_6, al_7, al_8, al_9, al_10, al_12, al_13, al_14, al_16, al_17, al_19, al_20, al_23, al_24, al_25, al_26, al_27, al_28, al_30, al_32, al_33, al_34, al_35, al_36, al_37, al_38, al_39, al_40, al_41, al_42, al_43, al_44, al_45, al_46, al_47, al_48, al_49, al_50, al_51, al_52, al_53, al_54, ↓reduceIte, Option.bind_some, cI_some, cL_some, cV_some, rz_0, rz_1, e]
  cases o with
  | none =>
    rw [h.1, if_pos rfl, bI_f (fun z => z rfl)]
  | some p =>
    obtain ⟨n, t⟩ := p
    obtain ⟨a1, a2, a3, a4, a5, a6, a7⟩ := h
    rw [a3, if_neg, bI_t (by simp)]
    intro z
    have := n_neg (show n < 2147483648 by omega)
    rw [z] at this
    exact absurd (show (-1 : Int32) < 0 by decide) (by rw [this]; exact id)
theorem m_sorts (hL : LEN A) {q : Nat} (hq : q < 4) {o : Option (Nat × Nat)} (h : SHo A q o) : ∃ x, aI (enc A I) 32 (nI q) = some x ∧ ((x = -9) = (o = none)) ∧ ∀ n t, o = some (n, t) → x = nI t := by
  have e : aI (enc A I) 32 (nI q) = some (rd (A 32) q) := ai_32 A I (by rw [hL 32 rfl]; show q < 4; omega) (by omega)
  refine ⟨_, e, ?_, ?_⟩
  · cases o with
    | none => rw [h.2]; exact propext ⟨fun _ => rfl, fun _ => rfl⟩
    | some p =>
      obtain ⟨n, t⟩ := p
      obtain ⟨a1, a2, a3, a4, a5, a6, a7⟩ := h
      rw [a6, n_m9 (by omega)]
      simp
  · intro n t ho
    subst ho
    exact h.2.2.2.2.2.1
theorem n_sheet (x : Int32) : (∃ q, q < 4 ∧ x = nI q ∧ bI (0 ≤ x ∧ x ≤ 3) = 1) ∨ (¬ (0 ≤ x ∧ x ≤ 3)) := by
  rcases n_rng x (a := 0) (b := 3) (by omega) (by omega) with ⟨q, _, hq, rfl⟩ | h
  · exact Or.inl ⟨q, by omega, rfl, bI_t (n_rin (b := 3) (Nat.zero_le q) hq (by decide))⟩
  · exact Or.inr h
theorem op_lose (r : RR σ A I) (x : Int32) : OP (U_X7_lose fu) (U_X8_lose fu) [.ref 1, .int x] [.ref 31, .int x] A I := by
  have h10 : ¬ (1 : Int32) = 0 := by decide
  rcases n_sheet x with ⟨q, hq, rfl, ht⟩ | h
  rotate_left
  · exact OP.q0 (v := -1) r (by simp only [u_X7_lose, M_X7_lose, c_isSheet, io_1, gr_1_0, gr_1_1, gr_1_2, gr_1_3, gr_1_4, gr_1_5, gi_1_6, pf_1_6, gi_1_7, pf_1_7, io_2, gr_2_0, gr_2_1, gr_2_2, gr_2_3, gr_2_4, gr_2_5, gr_2_6, gr_2_7, gi_2_8, pf_2_8, gi_2_9, pf_2_9, gi_2_10, pf_2_10, gi_2_11, pf_2_11, gi_2_12, pf_2_12, gi_2_13, pf_2_13, gi_2_14, pf_2_14, io_11, gr_11_0, gr_11_1, gr_11_2, io_15, gr_15_0, gr_15_1, gi_15_2, pf_15_2, gi_15_3, pf_15_3, gi_15_4, pf_15_4, gi_15_5, pf_15_5, io_18, gr_18_0, gr_18_1, gi_18_2, pf_18_2, io_21, gr_21_0, gr_21_1, gr_21_2, gr_21_3, gr_21_4, gi_21_5, pf_21_5, gi_21_6, pf_21_6, gi_21_7, pf_21_7, gi_21_8, pf_21_8, gi_21_9, pf_21_9, io_22, gr_22_0, gr_22_1, gi_22_2, pf_22_2, io_29, gr_29_0, gi_29_1, pf_29_1, io_31, gi_31_0, pf_31_0, gi_31_1, pf_31_1, gr_31_2, gr_31_3, gr_31_4, gi_31_5, pf_31_5, gi_31_6, pf_31_6, gi_31_7, pf_31_7, gr_31_8, gr_31_9, gr_31_10, gr_31_11, gi_31_12, pf_31_12, gi_31_13, pf_31_13, gi_31_14, pf_31_14, gr_31_15, gr_31_16, gi_31_17, pf_31_17, gr_31_18, gr_31_19, gr_31_20, gr_31_21, gr_31_22, gi_31_23, pf_31_23, gr_31_24, gr_31_25, gi_31_26, pf_31_26, gr_31_27, gr_31_28, gr_31_29, gr_31_30, gi_31_31, pf_31_31, gr_31_32, gr_31_33, gi_31_34, pf_31_34, gi_31_35, pf_31_35, gr_31_36, al_3, al_4, al_5, al_6, al_7, al_8, al_9, al_10, al_12, al_13, al_14, al_16, al_17, al_19, al_20, al_23, al_24, al_25, al_26, al_27, al_28, al_30, al_32, al_33, al_34, al_35, al_36, al_37, al_38, al_39, al_40, al_41, al_42, al_43, al_44, al_45, al_46, al_47, al_48, al_49, al_50, al_51, al_52, al_53, al_54, ↓reduceIte, Option.bind_some, cI_some, cL_some, cV_some, rz_0, rz_1, bI_f h]) (by simp only [u_X8_lose, M_X8_lose, m_isSheet, io_1, gr_1_0, gr_1_1, gr_1_2, gr_1_3, gr_1_4, gr_1_5, gi_1_6, pf_1_6, gi_1_7, pf_1_7, io_2, gr_2_0, gr_2_1, gr_2_2, gr_2_3, gr_2_4, gr_2_5, gr_2_6, gr_2_7, gi_2_8, pf_2_8, gi_2_9, pf_2_9, gi_2_10, pf_2_10, gi_2_11, pf_2_11, gi_2_12, pf_2_12, gi_2_13, pf_2_13, gi_2_14, pf_2_14, io_11, gr_11_0, gr_11_1, gr_11_2, io_15, gr_15_0, gr_15_1, gi_15_2, pf_15_2, gi_15_3, pf_15_3, gi_15_4, pf_15_4, gi_15_5, pf_15_5, io_18, gr_18_0, gr_18_1, gi_18_2, pf_18_2, io_21, gr_21_0, gr_21_1, gr_21_2, gr_21_3, gr_21_4, gi_21_5, pf_21_5, gi_21_6, pf_21_6, gi_21_7, pf_21_7, gi_21_8, pf_21_8, gi_21_9, pf_21_9, io_22, gr_22_0, gr_22_1, gi_22_2, pf_22_2, io_29, gr_29_0, gi_29_1, pf_29_1, io_31, gi_31_0, pf_31_0, gi_31_1, pf_31_1, gr_31_2, gr_31_3, gr_31_4, gi_31_5, pf_31_5, gi_31_6, pf_31_6, gi_31_7, pf_31_7, gr_31_8, gr_31_9, gr_31_10, gr_31_11, gi_31_12, pf_31_12, gi_31_13, pf_31_13, gi_31_14, pf_31_14, gr_31_15, gr_31_16, gi_31_17, pf_31_17, gr_31_18, gr_31_19, gr_31_20, gr_31_21, gr_31_22, gi_31_23, pf_31_23, gr_31_24, gr_31_25, gi_31_26, pf_31_26, gr_31_27, gr_31_28, gr_31_29, gr_31_30, gi_31_31, pf_31_31, gr_31_32, gr_31_33, gi_31_34, pf_31_34, gi_31_35, pf_31_35, gr_31_36, al_3, al_4, al_5, al_6, al_7, al_8, al_9, al_10, al_12, al_13, al_14, al_16, al_17, al_19, al_20, al_23, al_24, al_25, al_26, al_27, al_28, al_30, al_32, al_33, al_34, al_35, al_36, al_37, al_38, al_39, al_40, al_41, al_42, al_43, al_44, al_45, al_46, al_47, al_48, al_49, al_50, al_51, al_52, al_53, al_54, ↓reduceIte, Option.bind_some, cI_some, cL_some, cV_some, rz_0, rz_1, bI_f h])
  obtain ⟨o, ho⟩ := r.rs.o hq
  have l13 : q < (A 13).length := by rw [r.len rfl]; show q < 4; omega
  have l32 : q < (A 32).length := by rw [r.len rfl]; show q < 4; omega
  -- the class
  obtain ⟨A1, hc, hA1⟩ : ∃ A1, U_X7_lose fu [.ref 1, .int (nI q)] (enc A I) = some (some (.int (bI (o ≠ none))), enc A1 I) ∧ (A1 = A ∧ o = none ∨ A1 = uA A 13 ((A 13).set q (-1))) := by
    simp only [u_X7_lose, M_X7_lose, c_isSheet, io_1, gr_1_0, gr_1_1, gr_1_2, gr_1_3, gr_1_4, gr_1_5, gi_1_6, pf_1_6, gi_1_7, pf_1_7, io_2, gr_2_0, gr_2_1, gr_2_2, gr_2_3, gr_2_4, gr_2_5, gr_2_6, gr_2_7, gi_2_8, pf_2_8, gi_2_9, pf_2_9, gi_2_10, pf_2_10, gi_2_11, pf_2_11, gi_2_12, pf_2_12, gi_2_13, pf_2_13, gi_2_14, pf_2_14, io_11, gr_11_0, gr_11_1, gr_11_2, io_15, gr_15_0, gr_15_1, gi_15_2, pf_15_2, gi_15_3, pf_15_3, gi_15_4, pf_15_4, gi_15_5, pf_15_5, io_18, gr_18_0, gr_18_1, gi_18_2, pf_18_2, io_21, gr_21_0, gr_21_1, gr_21_2, gr_21_3, gr_21_4, gi_21_5, pf_21_5, gi_21_6, pf_21_6, gi_21_7, pf_21_7, gi_21_8, pf_21_8, gi_21_9, pf_21_9, io_22, gr_22_0, gr_22_1, gi_22_2, pf_22_2, io_29, gr_29_0, gi_29_1, pf_29_1, io_31, gi_31_0, pf_31_0, gi_31_1, pf_31_1, gr_31_2, gr_31_3, gr_31_4, gi_31_5, pf_31_5, gi_31_6, pf_31_6, gi_31_7, pf_31_7, gr_31_8, gr_31_9, gr_31_10, gr_31_11, gi_31_12, pf_31_12, gi_31_13, pf_31_13, gi_31_14, pf_31_14, gr_31_15, gr_31_16, gi_31_17, pf_31_17, gr_31_18, gr_31_19, gr_31_20, gr_31_21, gr_31_22, gi_31_23, pf_31_23, gr_31_24, gr_31_25, gi_31_26, pf_31_26, gr_31_27, gr_31_28, gr_31_29, gr_31_30, gi_31_31, pf_31_31, gr_31_32, gr_31_33, gi_31_34, pf_31_34, gi_31_35, pf_31_35, gr_31_36, al_3, al_4, al_5, al_6, al_7, al_8, al_9, al_10, al_12, al_13, al_14, al_16, al_17, al_19, al_20, al_23, al_24, al_25, al_26, al_27, al_28, al_30, al_32, al_33, al_34, al_35, al_36, al_37, al_38, al_39, al_40, al_41, al_42, al_43, al_44, al_45, al_46, al_47, al_48, al_49, al_50, al_51, al_52, al_53, al_54, ↓reduceIte, Option.bind_some, cI_some, cL_some, cV_some, rz_0, rz_1, ht, if_neg h10, c_thereS r.2.1 hq ho, bI_0]
    by_cases z : o = none
    · refine ⟨A, ?_, Or.inl ⟨rfl, z⟩⟩
      rw [if_pos (fun y => y z), bI_f (fun y => y z)]
    · refine ⟨uA A 13 ((A 13).set q (-1)), ?_, Or.inr rfl⟩
      rw [if_neg (fun y => y z), bI_t z]
      simp only [u_X4_clear, M_X4_clear, io_1, gr_1_0, gr_1_1, gr_1_2, gr_1_3, gr_1_4, gr_1_5, gi_1_6, pf_1_6, gi_1_7, pf_1_7, io_2, gr_2_0, gr_2_1, gr_2_2, gr_2_3, gr_2_4, gr_2_5, gr_2_6, gr_2_7, gi_2_8, pf_2_8, gi_2_9, pf_2_9, gi_2_10, pf_2_10, gi_2_11, pf_2_11, gi_2_12, pf_2_12, gi_2_13, pf_2_13, gi_2_14, pf_2_14, io_11, gr_11_0, gr_11_1, gr_11_2, io_15, gr_15_0, gr_15_1, gi_15_2, pf_15_2, gi_15_3, pf_15_3, gi_15_4, pf_15_4, gi_15_5, pf_15_5, io_18, gr_18_0, gr_18_1, gi_18_2, pf_18_2, io_21, gr_21_0, gr_21_1, gr_21_2, gr_21_3, gr_21_4, gi_21_5, pf_21_5, gi_21_6, pf_21_6, gi_21_7, pf_21_7, gi_21_8, pf_21_8, gi_21_9, pf_21_9, io_22, gr_22_0, gr_22_1, gi_22_2, pf_22_2, io_29, gr_29_0, gi_29_1, pf_29_1, io_31, gi_31_0, pf_31_0, gi_31_1, pf_31_1, gr_31_2, gr_31_3, gr_31_4, gi_31_5, pf_31_5, gi_31_6, pf_31_6, gi_31_7, pf_31_7, gr_31_8, gr_31_9, gr_31_10, gr_31_11, gi_31_12, pf_31_12, gi_31_13, pf_31_13, gi_31_14, pf_31_14, gr_31_15, gr_31_16, gi_31_17, pf_31_17, gr_31_18, gr_31_19, gr_31_20, gr_31_21, gr_31_22, gi_31_23, pf_31_23, gr_31_24, gr_31_25, gi_31_26, pf_31_26, gr_31_27, gr_31_28, gr_31_29, gr_31_30, gi_31_31, pf_31_31, gr_31_32, gr_31_33, gi_31_34, pf_31_34, gi_31_35, pf_31_35, gr_31_36, al_3, al_4, al_5, al_6, al_7, al_8, al_9, al_10, al_12, al_13, al_14, al_16, al_17, al_19, al_20, al_23, al_24, al_25, al_26, al_27, al_28, al_30, al_32, al_33, al_34, al_35, al_36, al_37, al_38, al_39, al_40, al_41, al_42, al_43, al_44, al_45, al_46, al_47, al_48, al_49, al_50, al_51, al_52, al_53, al_54, ↓reduceIte, Option.bind_some, cI_some, cL_some, cV_some, rz_0, rz_1, si_13 A I (-1) l13 (show q < 2147483648 by omega)]
  have hA1o : ∀ k, k ≠ 13 → A1 k = A k := fun k hk => by
    rcases hA1 with ⟨z, _⟩ | z
    · rw [z]
    · rw [z, uA_n _ _ _ hk]
  have hL1 : LEN A1 := by
    rcases hA1 with ⟨z, _⟩ | z
    · rw [z]; exact r.2.1
    · rw [z]; exact r.2.1.set (by rw [List.length_set])
  have h13 : rd (A1 13) q = -1 ∧ ∀ i, i ≠ q → rd (A1 13) i = rd (A 13) i := by
    rcases hA1 with ⟨z, z2⟩ | z
    · rw [z]; rw [z2] at ho; exact ⟨ho.1, fun _ _ => rfl⟩
    · rw [z, uA_s]; exact ⟨by rw [rd_set _ _ l13, if_pos rfl], fun i hi => rd_oob i _ hi⟩
  have e32 : aI (enc A1 I) 32 (nI q) = aI (enc A I) 32 (nI q) := by
    rw [ai_32 A1 I (by rw [hA1o 32 (by decide)]; exact l32) (by omega), ai_32 A I l32 (by omega), hA1o 32 (by decide)]
  obtain ⟨y, m1, m2, m3⟩ := m_sorts (I := I) r.2.1 hq ho
  have e5 := si_32 A1 I (-9) (show q < _ by rw [hA1o 32 (by decide)]; exact l32) (show q < 2147483648 by omega)
  refine ⟨bI (o ≠ none), A1, I, uA A1 32 ((A1 32).set q (-9)), I, σ, hc, hA1o 0 (by decide), ?_, ?_, fun h => h, ?_⟩
  · simp only [u_X8_lose, M_X8_lose, m_isSheet, io_1, gr_1_0, gr_1_1, gr_1_2, gr_1_3, gr_1_4, gr_1_5, gi_1_6, pf_1_6, gi_1_7, pf_1_7, io_2, gr_2_0, gr_2_1, gr_2_2, gr_2_3, gr_2_4, gr_2_5, gr_2_6, gr_2_7, gi_2_8, pf_2_8, gi_2_9, pf_2_9, gi_2_10, pf_2_10, gi_2_11, pf_2_11, gi_2_12, pf_2_12, gi_2_13, pf_2_13, gi_2_14, pf_2_14, io_11, gr_11_0, gr_11_1, gr_11_2, io_15, gr_15_0, gr_15_1, gi_15_2, pf_15_2, gi_15_3, pf_15_3, gi_15_4, pf_15_4, gi_15_5, pf_15_5, io_18, gr_18_0, gr_18_1, gi_18_2, pf_18_2, io_21, gr_21_0, gr_21_1, gr_21_2, gr_21_3, gr_21_4, gi_21_5, pf_21_5, gi_21_6, pf_21_6, gi_21_7, pf_21_7, gi_21_8, pf_21_8, gi_21_9, pf_21_9, io_22, gr_22_0, gr_22_1, gi_22_2, pf_22_2, io_29, gr_29_0, gi_29_1, pf_29_1, io_31, gi_31_0, pf_31_0, gi_31_1, pf_31_1, gr_31_2, gr_31_3, gr_31_4, gi_31_5, pf_31_5, gi_31_6, pf_31_6, gi_31_7, pf_31_7, gr_31_8, gr_31_9, gr_31_10, gr_31_11, gi_31_12, pf_31_12, gi_31_13, pf_31_13, gi_31_14, pf_31_14, gr_31_15, gr_31_16, gi_31_17, pf_31_17, gr_31_18, gr_31_19, gr_31_20, gr_31_21, gr_31_22, gi_31_23, pf_31_23, gr_31_24, gr_31_25, gi_31_26, pf_31_26, gr_31_27, gr_31_28, gr_31_29, gr_31_30, gi_31_31, pf_31_31, gr_31_32, gr_31_33, gi_31_34, pf_31_34, gi_31_35, pf_31_35, gr_31_36, al_3, al_4, al_5, al_6, al_7, al_8, al_9, al_10, al_12, al_13, al_14, al_16, al_17, al_19, al_20, al_23, al_24, al_25, al_26, al_27, al_28, al_30, al_32, al_33, al_34, al_35, al_36, al_37, al_38, al_39, al_40, al_41, al_42, al_43, al_44, al_45, al_46, al_47, al_48, al_49, al_50, al_51, al_52, al_53, al_54, ↓reduceIte, Option.bind_some, cI_some, cL_some, cV_some, rz_0, rz_1, ht, if_neg h10, e32, m1, m2, e5]
    by_cases z : o = none
    · rw [if_pos z, bI_f (fun y => y z)]
    · rw [if_neg z, bI_t z]
  · rw [uA_n _ _ _ (by decide), hA1o 0 (by decide)]
  · refine r.she (fun k a b c d e f => ?_) (fun k => ?_) (fun _ _ _ _ => rfl) (RS.of r.rs.1 r.rs.2.1 fun p hp => ?_)
    · rw [uA_n _ _ _ d, hA1o k b]
    · by_cases z : k = 32
      · rw [z, uA_s, List.length_set, hA1o 32 (by decide)]
      · rw [uA_n _ _ _ z]
        by_cases z2 : k = 13
        · rw [z2, hL1 13 rfl, r.len (k := 13) rfl]
        · rw [hA1o k z2]
    · by_cases z : p = q
      · refine ⟨none, ?_, ?_⟩
        · rw [z, uA_n _ _ _ (by decide)]; exact h13.1
        · rw [z, uA_s, rd_set _ _ (by rw [hA1o 32 (by decide)]; exact l32), if_pos rfl]
      · obtain ⟨o2, ho2⟩ := r.rs.o hp
        refine ⟨o2, ho2.oth z (fun i _ => by rw [uA_n _ _ _ (by decide), hA1o 12 (by decide)]) (fun i hi => by rw [uA_n _ _ _ (by decide)]; exact h13.2 i hi) (fun i hi => by rw [uA_s, rd_oob i _ hi, hA1o 32 (by decide)]) (fun i _ => by rw [uA_n _ _ _ (by decide), hA1o 33 (by decide)]) (fun i _ => by rw [uA_n _ _ _ (by decide), hA1o 14 (by decide)]) (fun i _ => by rw [uA_n _ _ _ (by decide), hA1o 34 (by decide)])⟩
end P5
