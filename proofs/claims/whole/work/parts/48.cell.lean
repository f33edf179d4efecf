section P8
variable {σ : SG} {A : Nat → List Int32} {I : Nat → Nat → Int32} {fu : Nat}
/-- two calls of a long answer alike, and the state goes on -/
def OPL (F G : Orc) (as bs : List Value) (A : Nat → List Int32) (I : Nat → Nat → Int32) : Prop :=
  ∃ (v : Int64) (A1 : Nat → List Int32) (I1 : Nat → Nat → Int32) (A2 : Nat → List Int32) (I2 : Nat → Nat → Int32) (σ' : SG),
    F as (enc A I) = some (some (.long v), enc A1 I1) ∧ A1 0 = A 0 ∧ G bs (enc A1 I1) = some (some (.long v), enc A2 I2) ∧ A2 0 = A 0 ∧ (I 1 7 = I 36 0 → I2 1 7 = I2 36 0) ∧ RR σ' A2 I2
theorem RR.flt (r : RR σ A I) (x : Int32) : RR σ A (uI (uI I 1 7 x) 36 0 x) := by
  refine r.she (fun _ _ _ _ _ _ _ => rfl) (fun _ => rfl) (fun a b h1 h2 => ?_) (RS.of r.rs.1 rfl fun q hq => r.rs.o hq)
  unfold uI
  rw [if_neg (fun w => h2 ⟨w.1, Or.inl w.2⟩), if_neg (fun w => h1 ⟨w.1, Or.inr w.2⟩)]
theorem OPL.fl {F G : Orc} {as bs : List Value} {v : Int64} {x : Int32} (r : RR σ A I) (h1 : F as (enc A I) = some (some (.long v), enc A (uI I 1 7 x)))
    (h2 : G bs (enc A (uI I 1 7 x)) = some (some (.long v), enc A (uI (uI I 1 7 x) 36 0 x))) : OPL F G as bs A I :=
  ⟨v, A, uI I 1 7 x, A, uI (uI I 1 7 x) 36 0 x, σ, h1, rfl, h2, rfl, fun _ => rfl, r.flt x⟩
/-- the fault that one comes to who takes n cells from i on as a row of a sort; 0: none -/
def fvI (o : Option (Nat × Nat)) (y i n : Int32) : Int32 := match o with
  | none => 1
  | some (n0, t0) => if nI t0 = y then (if n < 0 then 4 else if i < 0 then 3 else if nI n0 < i then 3 else if nI n0 - i < n then 3 else 0) else 2
theorem c_fault (hL : LEN A) {q : Nat} (hq : q < 4) {o : Option (Nat × Nat)} (h : SHo A q o) (y i n : Int32) : U_X4_faultOfCells fu [.ref 11, .int (nI q), .int y, .int i, .int n] (enc A I) = some (some (.int (fvI o y i n)), enc A I) := by
  have arr := ai_I A I hL hq
  simp only [u_X4_faultOfCells, M_X4_faultOfCells, io_1, gr_1_0, gr_1_1, gr_1_2, gr_1_3, gr_1_4, gr_1_5, gi_1_6, pf_1_6, gi_1_7, pf_1_7, io_2, gr_2_0, gr_2_1, gr_2_2, gr_2_3, gr_2_4, gr_2_5, gr_2_6, gr_2_7, gi_2_8, pf_2_8, gi_2_9, pf_2_9, gi_2_10, pf_2_10, gi_2_11, pf_2_11, gi_2_12, pf_2_12, gi_2_13, pf_2_13, gi_2_14, pf_2_14, io_11, gr_11_0, gr_11_1, gr_11_2, io_15, gr_15_0, gr_15_1, gi_15_2, pf_15_2, gi_15_3, pf_15_3, gi_15_4, pf_15_4, gi_15_5, pf_15_5, io_18, gr_18_0, gr_18_1, gi_18_2, pf_18_2, io_21, gr_21_0, gr_21_1, gr_21_2, gr_21_3, gi_21_4, pf_21_4, gi_21_5, pf_21_5, gi_21_6, pf_21_6, gi_21_7, pf_21_7, io_34, gr_34_0, gi_34_1, pf_34_1, io_36, gi_36_0, pf_36_0, gi_36_1, pf_36_1, gr_36_2, gr_36_3, gr_36_4, gi_36_5, pf_36_5, gi_36_6, pf_36_6, gi_36_7, pf_36_7, gr_36_8, gr_36_9, gr_36_10, gr_36_11, gi_36_12, pf_36_12, gi_36_13, pf_36_13, gi_36_14, pf_36_14, gr_36_15, gr_36_16, gi_36_17, pf_36_17, gr_36_18, gr_36_19, gr_36_20, gr_36_21, gr_36_22, gi_36_23, pf_36_23, gr_36_24, gr_36_25, gi_36_26, pf_36_26, gr_36_27, gr_36_28, gr_36_29, gr_36_30, gi_36_31, pf_36_31, gr_36_32, gr_36_33, gi_36_34, pf_36_34, gi_36_35, pf_36_35, gr_36_36, al_3, al_4, al_5, al_6, al_7, al_8, al_9, al_10, al_12, al_13, al_14, al_16, al_17, al_19, al_20, al_22, al_23, al_24, al_26, al_27, al_28, al_29, al_30, al_31, al_32, al_33, al_35, al_37, al_38, al_39, al_40, al_41, al_42, al_43, al_44, al_45, al_46, al_47, al_48, al_49, al_50, al_51, al_52, al_53, al_54, al_55, al_56, al_57, al_58, al_59, ↓reduceIte, Option.bind_some, cI_some, cL_some, cV_some, rz_0, rz_1, c_thereS hL hq h, bI_0]
  cases o with
  | none => rw [if_pos (fun z => z rfl)]; rfl
  | some p =>
    obtain ⟨n0, t0⟩ := p
    obtain ⟨a1, a2, a3, a4, a5, a6, a7⟩ := h
    rw [if_neg (fun z => z (by simp)), arr.2.1, Option.bind_some, a5, fvI]
    by_cases h1 : nI t0 = y
    · rw [if_pos h1, if_pos h1]
      by_cases h2 : n < 0
      · rw [if_pos h2, if_pos h2]
      · rw [if_neg h2, if_neg h2]
        simp only [u_X4_reaches, M_X4_reaches, io_1, gr_1_0, gr_1_1, gr_1_2, gr_1_3, gr_1_4, gr_1_5, gi_1_6, pf_1_6, gi_1_7, pf_1_7, io_2, gr_2_0, gr_2_1, gr_2_2, gr_2_3, gr_2_4, gr_2_5, gr_2_6, gr_2_7, gi_2_8, pf_2_8, gi_2_9, pf_2_9, gi_2_10, pf_2_10, gi_2_11, pf_2_11, gi_2_12, pf_2_12, gi_2_13, pf_2_13, gi_2_14, pf_2_14, io_11, gr_11_0, gr_11_1, gr_11_2, io_15, gr_15_0, gr_15_1, gi_15_2, pf_15_2, gi_15_3, pf_15_3, gi_15_4, pf_15_4, gi_15_5, pf_15_5, io_18, gr_18_0, gr_18_1, gi_18_2, pf_18_2, io_21, gr_21_0, gr_21_1, gr_21_2, gr_21_3, gi_21_4, pf_21_4, gi_21_5, pf_21_5, gi_21_6, pf_21_6, gi_21_7, pf_21_7, io_34, gr_34_0, gi_34_1, pf_34_1, io_36, gi_36_0, pf_36_0, gi_36_1, pf_36_1, gr_36_2, gr_36_3, gr_36_4, gi_36_5, pf_36_5, gi_36_6, pf_36_6, gi_36_7, pf_36_7, gr_36_8, gr_36_9, gr_36_10, gr_36_11, gi_36_12, pf_36_12, gi_36_13, pf_36_13, gi_36_14, pf_36_14, gr_36_15, gr_36_16, gi_36_17, pf_36_17, gr_36_18, gr_36_19, gr_36_20, gr_36_21, gr_36_22, gi_36_23, pf_36_23, gr_36_24, gr_36_25, gi_36_26, pf_36_26, gr_36_27, gr_36_28, gr_36_29, gr_36_30, gi_36_31, pf_36_31, gr_36_32, gr_36_33, gi_36_34, pf_36_34, gi_36_35, pf_36_35, gr_36_36, al_3, al_4, al_5, al_6, al_7, al_8, al_9, al_10, al_12, al_13, al_14, al_16, al_17, al_19, al_20, al_22, al_23, al_24, al_26, al_27, al_28, al_29, al_30, al_31, al_32, al_33, al_35, al_37, al_38, al_39, al_40, al_41, al_42, al_43, al_44, al_45, al_46, al_47, al_48, al_49, al_50, al_51, al_52, al_53, al_54, al_55, al_56, al_57, al_58, al_59, ↓reduceIte, Option.bind_some, cI_some, cL_some, cV_some, rz_0, rz_1, arr.1, a3]
        by_cases h3 : i < 0
        · rw [if_pos h3, if_pos h3]; rfl
        · rw [if_neg h3, if_neg h3]
          by_cases h4 : nI n0 < i
          · rw [if_pos h4, if_pos h4]; rfl
          · rw [if_neg h4, if_neg h4]
            by_cases h5 : nI n0 - i < n
            · rw [if_pos h5, if_pos h5]; rfl
            · rw [if_neg h5, if_neg h5]; rfl
    · rw [if_neg h1, if_neg h1]
theorem m_against (hf : 1000 ≤ fu) (hL : LEN A) {q : Nat} (hq : q < 4) {o : Option (Nat × Nat)} (h : SHo A q o) (y i n : Int32) : U_X8_against fu [.ref 36, .int (nI q), .int y, .int i, .int n] (enc A I) = some (some (.int (fvI o y i n)), enc A I) := by
  have arr := ai_I A I hL hq
  obtain ⟨k, hfu⟩ : ∃ k, fu = k + 1 := ⟨fu - 1, by omega⟩
  have body : ∀ o, SHo A q o → (∀ n0 t0, o = some (n0, t0) → nI t0 = y) → F_X8_against fu fu 36 (nI q) i n (enc A I) = some (some (.int (fvI o y i n)), enc A I) := by
    intro o h hy
    rw [show F_X8_against fu fu = F_X8_against fu (k + 1) by rw [← hfu]]
    simp only [F_X8_against, io_1, gr_1_0, gr_1_1, gr_1_2, gr_1_3, gr_1_4, gr_1_5, gi_1_6, pf_1_6, gi_1_7, pf_1_7, io_2, gr_2_0, gr_2_1, gr_2_2, gr_2_3, gr_2_4, gr_2_5, gr_2_6, gr_2_7, gi_2_8, pf_2_8, gi_2_9, pf_2_9, gi_2_10, pf_2_10, gi_2_11, pf_2_11, gi_2_12, pf_2_12, gi_2_13, pf_2_13, gi_2_14, pf_2_14, io_11, gr_11_0, gr_11_1, gr_11_2, io_15, gr_15_0, gr_15_1, gi_15_2, pf_15_2, gi_15_3, pf_15_3, gi_15_4, pf_15_4, gi_15_5, pf_15_5, io_18, gr_18_0, gr_18_1, gi_18_2, pf_18_2, io_21, gr_21_0, gr_21_1, gr_21_2, gr_21_3, gi_21_4, pf_21_4, gi_21_5, pf_21_5, gi_21_6, pf_21_6, gi_21_7, pf_21_7, io_34, gr_34_0, gi_34_1, pf_34_1, io_36, gi_36_0, pf_36_0, gi_36_1, pf_36_1, gr_36_2, gr_36_3, gr_36_4, gi_36_5, pf_36_5, gi_36_6, pf_36_6, gi_36_7, pf_36_7, gr_36_8, gr_36_9, gr_36_10, gr_36_11, gi_36_12, pf_36_12, gi_36_13, pf_36_13, gi_36_14, pf_36_14, gr_36_15, gr_36_16, gi_36_17, pf_36_17, gr_36_18, gr_36_19, gr_36_20, gr_36_21, gr_36_22, gi_36_23, pf_36_23, gr_36_24, gr_36_25, gi_36_26, pf_36_26, gr_36_27, gr_36_28, gr_36_29, gr_36_30, gi_36_31, pf_36_31, gr_36_32, gr_36_33, gi_36_34, pf_36_34, gi_36_35, pf_36_35, gr_36_36, al_3, al_4, al_5, al_6, al_7, al_8, al_9, al_10, al_12, al_13, al_14, al_16, al_17, al_19, al_20, al_22, al_23, al_24, al_26, al_27, al_28, al_29, al_30, al_31, al_32, al_33, al_35, al_37, al_38, al_39, al_40, al_41, al_42, al_43, al_44, al_45, al_46, al_47, al_48, al_49, al_50, al_51, al_52, al_53, al_54, al_55, al_56, al_57, al_58, al_59, ↓reduceIte, Option.bind_some, cI_some, cL_some, cV_some, rz_0, rz_1, arr.2.2.1, arr.2.2.2]
    cases o with
    | none => rw [if_pos h.2]; rfl
    | some p =>
      obtain ⟨n0, t0⟩ := p
      obtain ⟨a1, a2, a3, a4, a5, a6, a7⟩ := h
      have hne : ¬ nI t0 = -9 := by rw [n_m9 (by omega)]; exact id
      rw [a6, if_neg hne, a4, fvI, if_pos (hy n0 t0 rfl)]
      by_cases h2 : n < 0
      · rw [if_pos h2, if_pos h2]
      · rw [if_neg h2, if_neg h2]
        by_cases h3 : i < 0
        · rw [if_pos h3, if_pos h3]
        · rw [if_neg h3, if_neg h3]
          by_cases h4 : nI n0 < i
          · rw [if_pos h4, if_pos h4]
          · rw [if_neg h4, if_neg h4]
            by_cases h5 : nI n0 - i < n
            · rw [if_pos h5, if_pos h5]
            · rw [if_neg h5, if_neg h5]
  simp only [u_X8_against, M_X8_against, io_1, gr_1_0, gr_1_1, gr_1_2, gr_1_3, gr_1_4, gr_1_5, gi_1_6, pf_1_6, gi_1_7, pf_1_7, io_2, gr_2_0, gr_2_1, gr_2_2, gr_2_3, gr_2_4, gr_2_5, gr_2_6, gr_2_7, gi_2_8, pf_2_8, gi_2_9, pf_2_9, gi_2_10, pf_2_10, gi_2_11, pf_2_11, gi_2_12, pf_2_12, gi_2_13, pf_2_13, gi_2_14, pf_2_14, io_11, gr_11_0, gr_11_1, gr_11_2, io_15, gr_15_0, gr_15_1, gi_15_2, pf_15_2, gi_15_3, pf_15_3, gi_15_4, pf_15_4, gi_15_5, pf_15_5, io_18, gr_18_0, gr_18_1, gi_18_2, pf_18_2, io_21, gr_21_0, gr_21_1, gr_21_2, gr_21_3, gi_21_4, pf_21_4, gi_21_5, pf_21_5, gi_21_6, pf_21_6, gi_21_7, pf_21_7, io_34, gr_34_0, gi_34_1, pf_34_1, io_36, gi_36_0, pf_36_0, gi_36_1, pf_36_1, gr_36_2, gr_36_3, gr_36_4, gi_36_5, pf_36_5, gi_36_6, pf_36_6, gi_36_7, pf_36_7, gr_36_8, gr_36_9, gr_36_10, gr_36_11, gi_36_12, pf_36_12, gi_36_13, pf_36_13, gi_36_14, pf_36_14, gr_36_15, gr_36_16, gi_36_17, pf_36_17, gr_36_18, gr_36_19, gr_36_20, gr_36_21, gr_36_22, gi_36_23, pf_36_23, gr_36_24, gr_36_25, gi_36_26, pf_36_26, gr_36_27, gr_36_28, gr_36_29, gr_36_30, gi_36_31, pf_36_31, gr_36_32, gr_36_33, gi_36_34, pf_36_34, gi_36_35, pf_36_35, gr_36_36, al_3, al_4, al_5, al_6, al_7, al_8, al_9, al_10, al_12, al_13, al_14, al_16, al_17, al_19, al_20, al_22, al_23, al_24, al_26, al_27, al_28, al_29, al_30, al_31, al_32, al_33, al_35, al_37, al_38, al_39, al_40, al_41, al_42, al_43, al_44, al_45, al_46, al_47, al_48, al_49, al_50, al_51, al_52, al_53, al_54, al_55, al_56, al_57, al_58, al_59, ↓reduceIte, Option.bind_some, cI_some, cL_some, cV_some, rz_0, rz_1, arr.2.2.1]
  cases o with
  | none =>
    rw [if_pos h.2]
    exact body none h (fun _ _ z => by cases z)
  | some p =>
    obtain ⟨n0, t0⟩ := p
    have hs := h
    obtain ⟨a1, a2, a3, a4, a5, a6, a7⟩ := h
    have hne : ¬ nI t0 = -9 := by rw [n_m9 (by omega)]; exact id
    rw [a6, if_neg hne]
    by_cases h1 : nI t0 = y
    · rw [if_pos h1]
      exact body (some (n0, t0)) hs (fun a b z => by cases z; exact h1)
    · rw [if_neg h1, fvI, if_neg h1]
theorem n_sub60 : ∀ a, a < 61 → ∀ b, b < 61 → b ≤ a → nI a - nI b = nI (a - b) := by decide +kernel
theorem fv_0 {q : Nat} {o : Option (Nat × Nat)} (h : SHo A q o) {y i n : Int32} (hz : fvI o y i n = 0) : ∃ n0 t0 i0 k, o = some (n0, t0) ∧ y = nI t0 ∧ i = nI i0 ∧ n = nI k ∧ i0 + k ≤ n0 ∧ n0 ≤ 60 := by
  cases o with
  | none => exact absurd hz (by show ¬ (1 : Int32) = 0; decide)
  | some p =>
    obtain ⟨n0, t0⟩ := p
    have hn0 : n0 ≤ 60 := h.1
    rw [fvI] at hz
    by_cases h1 : nI t0 = y
    · rw [if_pos h1] at hz
      by_cases h2 : n < 0
      · rw [if_pos h2] at hz; exact absurd hz (by decide)
      · rw [if_neg h2] at hz
        by_cases h3 : i < 0
        · rw [if_pos h3] at hz; exact absurd hz (by decide)
        · rw [if_neg h3] at hz
          by_cases h4 : nI n0 < i
          · rw [if_pos h4] at hz; exact absurd hz (by decide)
          · rw [if_neg h4] at hz
            by_cases h5 : nI n0 - i < n
            · rw [if_pos h5] at hz; exact absurd hz (by decide)
            · obtain ⟨i0, hi0, rfl⟩ := nI_of h3
              obtain ⟨k, hk, rfl⟩ := nI_of h2
              rw [n_lt (by omega) hi0] at h4
              rw [n_sub60 n0 (by omega) i0 (by omega) (by omega), n_lt (by omega) hk] at h5
              exact ⟨n0, t0, i0, k, rfl, h1.symm, rfl, rfl, by omega, hn0⟩
    · rw [if_neg h1] at hz; exact absurd hz (by decide)
/-- the class's refusal of cells, where sheet and sort are such -/
theorem c_refuse (hL : LEN A) {q t : Nat} (hq : q < 4) (ht : t ≤ 2) {o : Option (Nat × Nat)} (h : SHo A q o) (i n : Int32) : U_X7_refusalOfCells fu [.ref 1, .int (nI q), .int (nI t), .int i, .int n] (enc A I) = if fvI o (nI t) i n = 0 then some (some (.int 0), enc A I) else some (some (.int (-10 - fvI o (nI t) i n)), enc A (uI I 1 7 (fvI o (nI t) i n))) := by
  have h10 : ¬ (1 : Int32) = 0 := by decide
  have h1 : bI (0 ≤ nI q ∧ nI q ≤ 3) = 1 := bI_t (n_rin (b := 3) (Nat.zero_le q) (by omega) (by decide))
  have h2 : bI (0 ≤ nI t ∧ nI t ≤ 2) = 1 := bI_t (n_rin (b := 2) (Nat.zero_le t) ht (by decide))
  simp only [u_X7_refusalOfCells, M_X7_refusalOfCells, c_isSheet, c_isSort, io_1, gr_1_0, gr_1_1, gr_1_2, gr_1_3, gr_1_4, gr_1_5, gi_1_6, pf_1_6, gi_1_7, pf_1_7, io_2, gr_2_0, gr_2_1, gr_2_2, gr_2_3, gr_2_4, gr_2_5, gr_2_6, gr_2_7, gi_2_8, pf_2_8, gi_2_9, pf_2_9, gi_2_10, pf_2_10, gi_2_11, pf_2_11, gi_2_12, pf_2_12, gi_2_13, pf_2_13, gi_2_14, pf_2_14, io_11, gr_11_0, gr_11_1, gr_11_2, io_15, gr_15_0, gr_15_1, gi_15_2, pf_15_2, gi_15_3, pf_15_3, gi_15_4, pf_15_4, gi_15_5, pf_15_5, io_18, gr_18_0, gr_18_1, gi_18_2, pf_18_2, io_21, gr_21_0, gr_21_1, gr_21_2, gr_21_3, gi_21_4, pf_21_4, gi_21_5, pf_21_5, gi_21_6, pf_21_6, gi_21_7, pf_21_7, io_34, gr_34_0, gi_34_1, pf_34_1, io_36, gi_36_0, pf_36_0, gi_36_1, pf_36_1, gr_36_2, gr_36_3, gr_36_4, gi_36_5, pf_36_5, gi_36_6, pf_36_6, gi_36_7, pf_36_7, gr_36_8, gr_36_9, gr_36_10, gr_36_11, gi_36_12, pf_36_12, gi_36_13, pf_36_13, gi_36_14, pf_36_14, gr_36_15, gr_36_16, gi_36_17, pf_36_17, gr_36_18, gr_36_19, gr_36_20, gr_36_21, gr_36_22, gi_36_23, pf_36_23, gr_36_24, gr_36_25, gi_36_26, pf_36_26, gr_36_27, gr_36_28, gr_36_29, gr_36_30, gi_36_31, pf_36_31, gr_36_32, gr_36_33, gi_36_34, pf_36_34, gi_36_35, pf_36_35, gr_36_36, al_3, al_4, al_5, al_6, al_7, al_8, al_9, al_10, al_12, al_13, al_14, al_16, al_17, al_19, al_20, al_22, al_23, al_24, al_26, al_27, al_28, al_29, al_30, al_31, al_32, al_33, al_35, al_37, al_38, al_39, al_40, al_41, al_42, al_43, al_44, al_45, al_46, al_47, al_48, al_49, al_50, al_51, al_52, al_53, al_54, al_55, al_56, al_57, al_58, al_59, ↓reduceIte, Option.bind_some, cI_some, cL_some, cV_some, rz_0, rz_1, h1, h2, if_neg h10, c_fault hL hq h, c_failBy]
end P8
