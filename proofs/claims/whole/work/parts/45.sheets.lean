/-! ===== sheets ===== -/
/-- what both objects hold of a sheet: nothing, or how many cells and of which sort -/
def SHo (A : Nat → List Int32) (q : Nat) : Option (Nat × Nat) → Prop
  | none => rd (A 13) q = -1 ∧ rd (A 37) q = -9
  | some (n, t) => n ≤ 60 ∧ t ≤ 2 ∧ rd (A 13) q = nI n ∧ rd (A 38) q = nI n ∧ rd (A 12) q = nI t ∧ rd (A 37) q = nI t ∧ ∀ i, i < n → rd (A 14) (60 * q + i) = rd (A 39) (60 * q + i)
theorem RS.o {A : Nat → List Int32} {I : Nat → Nat → Int32} (h : RS A I) {q : Nat} (hq : q < 4) : ∃ o, SHo A q o := by
  rcases h.2.2 q hq with a | ⟨n, t, a⟩
  · exact ⟨none, a⟩
  · exact ⟨some (n, t), a⟩
theorem RS.of {A : Nat → List Int32} {I : Nat → Nat → Int32} (h1 : I 1 6 = I 36 1) (h2 : I 1 7 + I 36 0 = I 1 7 + I 36 0) (h : ∀ q, q < 4 → ∃ o, SHo A q o) : RS A I := by
  refine ⟨h1, h2, fun q hq => ?_⟩
  obtain ⟨o, ho⟩ := h q hq
  cases o with
  | none => exact Or.inl ho
  | some p => exact Or.inr ⟨p.1, p.2, ho⟩
/-- another sheet is as it was -/
theorem SHo.oth {A B : Nat → List Int32} {p q : Nat} (hpq : p ≠ q) {o : Option (Nat × Nat)} (h : SHo A p o) (h12 : ∀ i, i ≠ q → rd (B 12) i = rd (A 12) i) (h13 : ∀ i, i ≠ q → rd (B 13) i = rd (A 13) i) (h37 : ∀ i, i ≠ q → rd (B 37) i = rd (A 37) i) (h38 : ∀ i, i ≠ q → rd (B 38) i = rd (A 38) i)
    (h14 : ∀ i, (i < 60 * q ∨ 60 * q + 60 ≤ i) → rd (B 14) i = rd (A 14) i) (h39 : ∀ i, (i < 60 * q ∨ 60 * q + 60 ≤ i) → rd (B 39) i = rd (A 39) i) : SHo B p o := by
  cases o with
  | none => exact ⟨by rw [h13 p hpq]; exact h.1, by rw [h37 p hpq]; exact h.2⟩
  | some r =>
    obtain ⟨n, t⟩ := r
    obtain ⟨a1, a2, a3, a4, a5, a6, a7⟩ := h
    refine ⟨a1, a2, by rw [h13 p hpq]; exact a3, by rw [h38 p hpq]; exact a4, by rw [h12 p hpq]; exact a5, by rw [h37 p hpq]; exact a6, fun i hi => ?_⟩
    rw [h14 _ (by omega), h39 _ (by omega)]
    exact a7 i hi
section P5
variable {σ : SG} {A : Nat → List Int32} {I : Nat → Nat → Int32} {fu : Nat}
theorem RR.rs (r : RR σ A I) : RS A I := r.2.2.2.2
/-- sheets, fault and trace changed -/
theorem RR.she (r : RR σ A I) {B : Nat → List Int32} {J : Nat → Nat → Int32} (hB : ∀ k, k ≠ 12 → k ≠ 13 → k ≠ 14 → k ≠ 37 → k ≠ 38 → k ≠ 39 → B k = A k) (hL : ∀ k, (B k).length = (A k).length)
    (hJ : ∀ o j, ¬ (o = 1 ∧ (j = 6 ∨ j = 7)) → ¬ (o = 36 ∧ (j = 0 ∨ j = 1)) → J o j = I o j) (hS : RS B J) : RR σ B J := by
  obtain ⟨r1, r2, r3, r4, r5⟩ := r
  have b : ∀ k, 15 ≤ k ∧ k ≤ 36 ∨ k ≤ 11 ∨ 40 ≤ k → B k = A k := fun k hk => hB k (by omega) (by omega) (by omega) (by omega) (by omega) (by omega)
  refine ⟨r1, fun k hk => (hL k).trans (r2 k hk), ?_, ?_, hS⟩
  · unfold RC at *
    rw [hJ 2 8 (by omega) (by omega), hJ 2 9 (by omega) (by omega), hJ 2 10 (by omega) (by omega), hJ 2 11 (by omega) (by omega), hJ 2 12 (by omega) (by omega), hJ 2 13 (by omega) (by omega), hJ 2 14 (by omega) (by omega), b 3 (by omega), b 4 (by omega), b 5 (by omega), b 6 (by omega), b 7 (by omega), b 8 (by omega), b 9 (by omega), b 10 (by omega)]
    exact r3
  · unfold RM at *
    rw [hJ 36 5 (by omega) (by omega), hJ 36 6 (by omega) (by omega), hJ 36 7 (by omega) (by omega), hJ 36 17 (by omega) (by omega), hJ 36 23 (by omega) (by omega), hJ 36 31 (by omega) (by omega), b 40 (by omega), b 41 (by omega), b 42 (by omega), b 43 (by omega), b 46 (by omega), b 47 (by omega), b 48 (by omega), b 49 (by omega), b 50 (by omega), b 51 (by omega)]
    exact r4
theorem rd_oob {xs : List Int32} (i : Nat) {j : Nat} (x : Int32) (h : i ≠ j) : rd (xs.set j x) i = rd xs i := by
  unfold rd
  rw [List.getD_eq_getElem?_getD, List.getD_eq_getElem?_getD, List.getElem?_set]
  rw [if_neg (fun q => h q.symm)]
theorem c_thereS (hL : LEN A) {q : Nat} (hq : q < 4) {o : Option (Nat × Nat)} (h : SHo A q o) : U_X4_isThere fu [.ref 11, .int (nI q)] (enc A I) = some (some (.int (bI (o ≠ none))), enc A I) := by
  have e : aI (enc A I) 13 (nI q) = some (rd (A 13) q) := ai_13 A I (by rw [hL 13 rfl]; show q < 4; omega) (by omega)
  simp only [u_X4_isThere, M_X4_isThere, io_1, gr_1_0, gr_1_1, gr_1_2, gr_1_3, gr_1_4, gr_1_5, gi_1_6, pf_1_6, gi_1_7, pf_1_7, io_2, gr_2_0, gr_2_1, gr_2_2, gr_2_3, gr_2_4, gr_2_5, gr_2_6, gr_2_7, gi_2_8, pf_2_8, gi_2_9, pf_2_9, gi_2_10, pf_2_10, gi_2_11, pf_2_11, gi_2_12, pf_2_12, gi_2_13, pf_2_13, gi_2_14, pf_2_14, io_11, gr_11_0, gr_11_1, gr_11_2, io_15, gr_15_0, gr_15_1, gi_15_2, pf_15_2, gi_15_3, pf_15_3, gi_15_4, pf_15_4, gi_15_5, pf_15_5, io_18, gr_18_0, gr_18_1, gi_18_2, pf_18_2, io_21, gr_21_0, gr_21_1, gr_21_2, gr_21_3, gi_21_4, pf_21_4, gi_21_5, pf_21_5, gi_21_6, pf_21_6, gi_21_7, pf_21_7, io_34, gr_34_0, gi_34_1, pf_34_1, io_36, gi_36_0, pf_36_0, gi_36_1, pf_36_1, gr_36_2, gr_36_3, gr_36_4, gi_36_5, pf_36_5, gi_36_6, pf_36_6, gi_36_7, pf_36_7, gr_36_8, gr_36_9, gr_36_10, gr_36_11, gi_36_12, pf_36_12, gi_36_13, pf_36_13, gi_36_14, pf_36_14, gr_36_15, gr_36_16, gi_36_17, pf_36_17, gr_36_18, gr_36_19, gr_36_20, gr_36_21, gr_36_22, gi_36_23, pf_36_23, gr_36_24, gr_36_25, gi_36_26, pf_36_26, gr_36_27, gr_36_28, gr_36_29, gr_36_30, gi_36_31, pf_36_31, gr_36_32, gr_36_33, gi_36_34, pf_36_34, gi_36_35, pf_36_35, gr_36_36, al_3, al_4, al_5, al_6, al_7, al_8, al_9, al_10, al_12, al_13, al_14, al_16, al_17, al_19, al_20, al_22, al_23, al_24, al_26, al_27, al_28, al_29, al_30, al_31, al_32, al_33, al_35, al_37, al_38, al_39, al_40, al_41, al_42, al_43, al_44, al_45, al_46, al_47, al_48, al_49, al_50, al_51, al_52, al_53, al_54, al_55, al_56, al_57, al_58, al_59, ↓reduceIte, Option.bind_some, cI_some, cL_some, cV_some, rz_0, rz_1, e]
  cases o with
  | none =>
    rw [h.1, if_pos rfl, bI_f (fun z => z rfl)]
  | some p =>
    obtain ⟨n, t⟩ := p
    obtain ⟨a1, a2, a3, a4, a5, a6, a7⟩ := h
    rw [a3, if_neg, bI_t (by simp)]
    intro z
    have := n_neg (show n < 2147483648 by omega)
    rw [z] at this
    exact absurd (show (-1 : Int32) < 0 by decide) (by rw [this]; exact id)
theorem m_sorts (hL : LEN A) {q : Nat} (hq : q < 4) {o : Option (Nat × Nat)} (h : SHo A q o) : ∃ x, aI (enc A I) 37 (nI q) = some x ∧ ((x = -9) = (o = none)) ∧ ∀ n t, o = some (n, t) → x = nI t := by
  have e : aI (enc A I) 37 (nI q) = some (rd (A 37) q) := ai_37 A I (by rw [hL 37 rfl]; show q < 4; omega) (by omega)
  refine ⟨_, e, ?_, ?_⟩
  · cases o with
    | none => rw [h.2]; exact propext ⟨fun _ => rfl, fun _ => rfl⟩
    | some p =>
      obtain ⟨n, t⟩ := p
      obtain ⟨a1, a2, a3, a4, a5, a6, a7⟩ := h
      rw [a6, n_m9 (by omega)]
      simp
  · intro n t ho
    subst ho
    exact h.2.2.2.2.2.1
theorem n_sheet (x : Int32) : (∃ q, q < 4 ∧ x = nI q ∧ bI (0 ≤ x ∧ x ≤ 3) = 1) ∨ (¬ (0 ≤ x ∧ x ≤ 3)) := by
  rcases n_rng x (a := 0) (b := 3) (by omega) (by omega) with ⟨q, _, hq, rfl⟩ | h
  · exact Or.inl ⟨q, by omega, rfl, bI_t (n_rin (b := 3) (Nat.zero_le q) hq (by decide))⟩
  · exact Or.inr h
theorem op_lose (r : RR σ A I) (x : Int32) : OP (U_X7_lose fu) (U_X8_lose fu) [.ref 1, .int x] [.ref 36, .int x] A I := by
  have h10 : ¬ (1 : Int32) = 0 := by decide
  rcases n_sheet x with ⟨q, hq, rfl, ht⟩ | h
  rotate_left
  · exact OP.q0 (v := -1) r (by simp only [u_X7_lose, M_X7_lose, c_isSheet, io_1, gr_1_0, gr_1_1, gr_1_2, gr_1_3, gr_1_4, gr_1_5, gi_1_6, pf_1_6, gi_1_7, pf_1_7, io_2, gr_2_0, gr_2_1, gr_2_2, gr_2_3, gr_2_4, gr_2_5, gr_2_6, gr_2_7, gi_2_8, pf_2_8, gi_2_9, pf_2_9, gi_2_10, pf_2_10, gi_2_11, pf_2_11, gi_2_12, pf_2_12, gi_2_13, pf_2_13, gi_2_14, pf_2_14, io_11, gr_11_0, gr_11_1, gr_11_2, io_15, gr_15_0, gr_15_1, gi_15_2, pf_15_2, gi_15_3, pf_15_3, gi_15_4, pf_15_4, gi_15_5, pf_15_5, io_18, gr_18_0, gr_18_1, gi_18_2, pf_18_2, io_21, gr_21_0, gr_21_1, gr_21_2, gr_21_3, gi_21_4, pf_21_4, gi_21_5, pf_21_5, gi_21_6, pf_21_6, gi_21_7, pf_21_7, io_34, gr_34_0, gi_34_1, pf_34_1, io_36, gi_36_0, pf_36_0, gi_36_1, pf_36_1, gr_36_2, gr_36_3, gr_36_4, gi_36_5, pf_36_5, gi_36_6, pf_36_6, gi_36_7, pf_36_7, gr_36_8, gr_36_9, gr_36_10, gr_36_11, gi_36_12, pf_36_12, gi_36_13, pf_36_13, gi_36_14, pf_36_14, gr_36_15, gr_36_16, gi_36_17, pf_36_17, gr_36_18, gr_36_19, gr_36_20, gr_36_21, gr_36_22, gi_36_23, pf_36_23, gr_36_24, gr_36_25, gi_36_26, pf_36_26, gr_36_27, gr_36_28, gr_36_29, gr_36_30, gi_36_31, pf_36_31, gr_36_32, gr_36_33, gi_36_34, pf_36_34, gi_36_35, pf_36_35, gr_36_36, al_3, al_4, al_5, al_6, al_7, al_8, al_9, al_10, al_12, al_13, al_14, al_16, al_17, al_19, al_20, al_22, al_23, al_24, al_26, al_27, al_28, al_29, al_30, al_31, al_32, al_33, al_35, al_37, al_38, al_39, al_40, al_41, al_42, al_43, al_44, al_45, al_46, al_47, al_48, al_49, al_50, al_51, al_52, al_53, al_54, al_55, al_56, al_57, al_58, al_59, ↓reduceIte, Option.bind_some, cI_some, cL_some, cV_some, rz_0, rz_1, bI_f h]) (by simp only [u_X8_lose, M_X8_lose, m_isSheet, io_1, gr_1_0, gr_1_1, gr_1_2, gr_1_3, gr_1_4, gr_1_5, gi_1_6, pf_1_6, gi_1_7, pf_1_7, io_2, gr_2_0, gr_2_1, gr_2_2, gr_2_3, gr_2_4, gr_2_5, gr_2_6, gr_2_7, gi_2_8, pf_2_8, gi_2_9, pf_2_9, gi_2_10, pf_2_10, gi_2_11, pf_2_11, gi_2_12, pf_2_12, gi_2_13, pf_2_13, gi_2_14, pf_2_14, io_11, gr_11_0, gr_11_1, gr_11_2, io_15, gr_15_0, gr_15_1, gi_15_2, pf_15_2, gi_15_3, pf_15_3, gi_15_4, pf_15_4, gi_15_5, pf_15_5, io_18, gr_18_0, gr_18_1, gi_18_2, pf_18_2, io_21, gr_21_0, gr_21_1, gr_21_2, gr_21_3, gi_21_4, pf_21_4, gi_21_5, pf_21_5, gi_21_6, pf_21_6, gi_21_7, pf_21_7, io_34, gr_34_0, gi_34_1, pf_34_1, io_36, gi_36_0, pf_36_0, gi_36_1, pf_36_1, gr_36_2, gr_36_3, gr_36_4, gi_36_5, pf_36_5, gi_36_6, pf_36_6, gi_36_7, pf_36_7, gr_36_8, gr_36_9, gr_36_10, gr_36_11, gi_36_12, pf_36_12, gi_36_13, pf_36_13, gi_36_14, pf_36_14, gr_36_15, gr_36_16, gi_36_17, pf_36_17, gr_36_18, gr_36_19, gr_36_20, gr_36_21, gr_36_22, gi_36_23, pf_36_23, gr_36_24, gr_36_25, gi_36_26, pf_36_26, gr_36_27, gr_36_28, gr_36_29, gr_36_30, gi_36_31, pf_36_31, gr_36_32, gr_36_33, gi_36_34, pf_36_34, gi_36_35, pf_36_35, gr_36_36, al_3, al_4, al_5, al_6, al_7, al_8, al_9, al_10, al_12, al_13, al_14, al_16, al_17, al_19, al_20, al_22, al_23, al_24, al_26, al_27, al_28, al_29, al_30, al_31, al_32, al_33, al_35, al_37, al_38, al_39, al_40, al_41, al_42, al_43, al_44, al_45, al_46, al_47, al_48, al_49, al_50, al_51, al_52, al_53, al_54, al_55, al_56, al_57, al_58, al_59, ↓reduceIte, Option.bind_some, cI_some, cL_some, cV_some, rz_0, rz_1, bI_f h])
  obtain ⟨o, ho⟩ := r.rs.o hq
  have l13 : q < (A 13).length := by rw [r.len rfl]; show q < 4; omega
  have l37 : q < (A 37).length := by rw [r.len rfl]; show q < 4; omega
  -- the class
  obtain ⟨A1, hc, hA1⟩ : ∃ A1, U_X7_lose fu [.ref 1, .int (nI q)] (enc A I) = some (some (.int (bI (o ≠ none))), enc A1 I) ∧ (A1 = A ∧ o = none ∨ A1 = uA A 13 ((A 13).set q (-1))) := by
    simp only [u_X7_lose, M_X7_lose, c_isSheet, io_1, gr_1_0, gr_1_1, gr_1_2, gr_1_3, gr_1_4, gr_1_5, gi_1_6, pf_1_6, gi_1_7, pf_1_7, io_2, gr_2_0, gr_2_1, gr_2_2, gr_2_3, gr_2_4, gr_2_5, gr_2_6, gr_2_7, gi_2_8, pf_2_8, gi_2_9, pf_2_9, gi_2_10, pf_2_10, gi_2_11, pf_2_11, gi_2_12, pf_2_12, gi_2_13, pf_2_13, gi_2_14, pf_2_14, io_11, gr_11_0, gr_11_1, gr_11_2, io_15, gr_15_0, gr_15_1, gi_15_2, pf_15_2, gi_15_3, pf_15_3, gi_15_4, pf_15_4, gi_15_5, pf_15_5, io_18, gr_18_0, gr_18_1, gi_18_2, pf_18_2, io_21, gr_21_0, gr_21_1, gr_21_2, gr_21_3, gi_21_4, pf_21_4, gi_21_5, pf_21_5, gi_21_6, pf_21_6, gi_21_7, pf_21_7, io_34, gr_34_0, gi_34_1, pf_34_1, io_36, gi_36_0, pf_36_0, gi_36_1, pf_36_1, gr_36_2, gr_36_3, gr_36_4, gi_36_5, pf_36_5, gi_36_6, pf_36_6, gi_36_7, pf_36_7, gr_36_8, gr_36_9, gr_36_10, gr_36_11, gi_36_12, pf_36_12, gi_36_13, pf_36_13, gi_36_14, pf_36_14, gr_36_15, gr_36_16, gi_36_17, pf_36_17, gr_36_18, gr_36_19, gr_36_20, gr_36_21, gr_36_22, gi_36_23, pf_36_23, gr_36_24, gr_36_25, gi_36_26, pf_36_26, gr_36_27, gr_36_28, gr_36_29, gr_36_30, gi_36_31, pf_36_31, gr_36_32, gr_36_33, gi_36_34, pf_36_34, gi_36_35, pf_36_35, gr_36_36, al_3, al_4, al_5, al_6, al_7, al_8, al_9, al_10, al_12, al_13, al_14, al_16, al_17, al_19, al_20, al_22, al_23, al_24, al_26, al_27, al_28, al_29, al_30, al_31, al_32, al_33, al_35, al_37, al_38, al_39, al_40, al_41, al_42, al_43, al_44, al_45, al_46, al_47, al_48, al_49, al_50, al_51, al_52, al_53, al_54, al_55, al_56, al_57, al_58, al_59, ↓reduceIte, Option.bind_some, cI_some, cL_some, cV_some, rz_0, rz_1, ht, if_neg h10, c_thereS r.2.1 hq ho, bI_0]
    by_cases z : o = none
    · refine ⟨A, ?_, Or.inl ⟨rfl, z⟩⟩
      rw [if_pos (fun y => y z), bI_f (fun y => y z)]
    · refine ⟨uA A 13 ((A 13).set q (-1)), ?_, Or.inr rfl⟩
      rw [if_neg (fun y => y z), bI_t z]
      simp only [u_X4_clear, M_X4_clear, io_1, gr_1_0, gr_1_1, gr_1_2, gr_1_3, gr_1_4, gr_1_5, gi_1_6, pf_1_6, gi_1_7, pf_1_7, io_2, gr_2_0, gr_2_1, gr_2_2, gr_2_3, gr_2_4, gr_2_5, gr_2_6, gr_2_7, gi_2_8, pf_2_8, gi_2_9, pf_2_9, gi_2_10, pf_2_10, gi_2_11, pf_2_11, gi_2_12, pf_2_12, gi_2_13, pf_2_13, gi_2_14, pf_2_14, io_11, gr_11_0, gr_11_1, gr_11_2, io_15, gr_15_0, gr_15_1, gi_15_2, pf_15_2, gi_15_3, pf_15_3, gi_15_4, pf_15_4, gi_15_5, pf_15_5, io_18, gr_18_0, gr_18_1, gi_18_2, pf_18_2, io_21, gr_21_0, gr_21_1, gr_21_2, gr_21_3, gi_21_4, pf_21_4, gi_21_5, pf_21_5, gi_21_6, pf_21_6, gi_21_7, pf_21_7, io_34, gr_34_0, gi_34_1, pf_34_1, io_36, gi_36_0, pf_36_0, gi_36_1, pf_36_1, gr_36_2, gr_36_3, gr_36_4, gi_36_5, pf_36_5, gi_36_6, pf_36_6, gi_36_7, pf_36_7, gr_36_8, gr_36_9, gr_36_10, gr_36_11, gi_36_12, pf_36_12, gi_36_13, pf_36_13, gi_36_14, pf_36_14, gr_36_15, gr_36_16, gi_36_17, pf_36_17, gr_36_18, gr_36_19, gr_36_20, gr_36_21, gr_36_22, gi_36_23, pf_36_23, gr_36_24, gr_36_25, gi_36_26, pf_36_26, gr_36_27, gr_36_28, gr_36_29, gr_36_30, gi_36_31, pf_36_31, gr_36_32, gr_36_33, gi_36_34, pf_36_34, gi_36_35, pf_36_35, gr_36_36, al_3, al_4, al_5, al_6, al_7, al_8, al_9, al_10, al_12, al_13, al_14, al_16, al_17, al_19, al_20, al_22, al_23, al_24, al_26, al_27, al_28, al_29, al_30, al_31, al_32, al_33, al_35, al_37, al_38, al_39, al_40, al_41, al_42, al_43, al_44, al_45, al_46, al_47, al_48, al_49, al_50, al_51, al_52, al_53, al_54, al_55, al_56, al_57, al_58, al_59, ↓reduceIte, Option.bind_some, cI_some, cL_some, cV_some, rz_0, rz_1, si_13 A I (-1) l13 (show q < 2147483648 by omega)]
  have hA1o : ∀ k, k ≠ 13 → A1 k = A k := fun k hk => by
    rcases hA1 with ⟨z, _⟩ | z
    · rw [z]
    · rw [z, uA_n _ _ _ hk]
  have hL1 : LEN A1 := by
    rcases hA1 with ⟨z, _⟩ | z
    · rw [z]; exact r.2.1
    · rw [z]; exact r.2.1.set (by rw [List.length_set])
  have h13 : rd (A1 13) q = -1 ∧ ∀ i, i ≠ q → rd (A1 13) i = rd (A 13) i := by
    rcases hA1 with ⟨z, z2⟩ | z
    · rw [z]; rw [z2] at ho; exact ⟨ho.1, fun _ _ => rfl⟩
    · rw [z, uA_s]; exact ⟨by rw [rd_set _ _ l13, if_pos rfl], fun i hi => rd_oob i _ hi⟩
  have e37 : aI (enc A1 I) 37 (nI q) = aI (enc A I) 37 (nI q) := by
    rw [ai_37 A1 I (by rw [hA1o 37 (by decide)]; exact l37) (by omega), ai_37 A I l37 (by omega), hA1o 37 (by decide)]
  obtain ⟨y, m1, m2, m3⟩ := m_sorts (I := I) r.2.1 hq ho
  have e5 := si_37 A1 I (-9) (show q < _ by rw [hA1o 37 (by decide)]; exact l37) (show q < 2147483648 by omega)
  refine ⟨bI (o ≠ none), A1, I, uA A1 37 ((A1 37).set q (-9)), I, σ, hc, hA1o 0 (by decide), ?_, ?_, fun h => h, ?_⟩
  · simp only [u_X8_lose, M_X8_lose, m_isSheet, io_1, gr_1_0, gr_1_1, gr_1_2, gr_1_3, gr_1_4, gr_1_5, gi_1_6, pf_1_6, gi_1_7, pf_1_7, io_2, gr_2_0, gr_2_1, gr_2_2, gr_2_3, gr_2_4, gr_2_5, gr_2_6, gr_2_7, gi_2_8, pf_2_8, gi_2_9, pf_2_9, gi_2_10, pf_2_10, gi_2_11, pf_2_11, gi_2_12, pf_2_12, gi_2_13, pf_2_13, gi_2_14, pf_2_14, io_11, gr_11_0, gr_11_1, gr_11_2, io_15, gr_15_0, gr_15_1, gi_15_2, pf_15_2, gi_15_3, pf_15_3, gi_15_4, pf_15_4, gi_15_5, pf_15_5, io_18, gr_18_0, gr_18_1, gi_18_2, pf_18_2, io_21, gr_21_0, gr_21_1, gr_21_2, gr_21_3, gi_21_4, pf_21_4, gi_21_5, pf_21_5, gi_21_6, pf_21_6, gi_21_7, pf_21_7, io_34, gr_34_0, gi_34_1, pf_34_1, io_36, gi_36_0, pf_36_0, gi_36_1, pf_36_1, gr_36_2, gr_36_3, gr_36_4, gi_36_5, pf_36_5, gi_36_6, pf_36_6, gi_36_7, pf_36_7, gr_36_8, gr_36_9, gr_36_10, gr_36_11, gi_36_12, pf_36_12, gi_36_13, pf_36_13, gi_36_14, pf_36_14, gr_36_15, gr_36_16, gi_36_17, pf_36_17, gr_36_18, gr_36_19, gr_36_20, gr_36_21, gr_36_22, gi_36_23, pf_36_23, gr_36_24, gr_36_25, gi_36_26, pf_36_26, gr_36_27, gr_36_28, gr_36_29, gr_36_30, gi_36_31, pf_36_31, gr_36_32, gr_36_33, gi_36_34, pf_36_34, gi_36_35, pf_36_35, gr_36_36, al_3, al_4, al_5, al_6, al_7, al_8, al_9, al_10, al_12, al_13, al_14, al_16, al_17, al_19, al_20, al_22, al_23, al_24, al_26, al_27, al_28, al_29, al_30, al_31, al_32, al_33, al_35, al_37, al_38, al_39, al_40, al_41, al_42, al_43, al_44, al_45, al_46, al_47, al_48, al_49, al_50, al_51, al_52, al_53, al_54, al_55, al_56, al_57, al_58, al_59, ↓reduceIte, Option.bind_some, cI_some, cL_some, cV_some, rz_0, rz_1, ht, if_neg h10, e37, m1, m2, e5]
    by_cases z : o = none
    · rw [if_pos z, bI_f (fun y => y z)]
    · rw [if_neg z, bI_t z]
  · rw [uA_n _ _ _ (by decide), hA1o 0 (by decide)]
  · refine r.she (fun k a b c d e f => ?_) (fun k => ?_) (fun _ _ _ _ => rfl) (RS.of r.rs.1 r.rs.2.1 fun p hp => ?_)
    · rw [uA_n _ _ _ d, hA1o k b]
    · by_cases z : k = 37
      · rw [z, uA_s, List.length_set, hA1o 37 (by decide)]
      · rw [uA_n _ _ _ z]
        by_cases z2 : k = 13
        · rw [z2, hL1 13 rfl, r.len (k := 13) rfl]
        · rw [hA1o k z2]
    · by_cases z : p = q
      · refine ⟨none, ?_, ?_⟩
        · rw [z, uA_n _ _ _ (by decide)]; exact h13.1
        · rw [z, uA_s, rd_set _ _ (by rw [hA1o 37 (by decide)]; exact l37), if_pos rfl]
      · obtain ⟨o2, ho2⟩ := r.rs.o hp
        refine ⟨o2, ho2.oth z (fun i _ => by rw [uA_n _ _ _ (by decide), hA1o 12 (by decide)]) (fun i hi => by rw [uA_n _ _ _ (by decide)]; exact h13.2 i hi) (fun i hi => by rw [uA_s, rd_oob i _ hi, hA1o 37 (by decide)]) (fun i _ => by rw [uA_n _ _ _ (by decide), hA1o 38 (by decide)]) (fun i _ => by rw [uA_n _ _ _ (by decide), hA1o 14 (by decide)]) (fun i _ => by rw [uA_n _ _ _ (by decide), hA1o 39 (by decide)])⟩
end P5
