/-! ===== sheets, the class's half ===== -/
section P9
variable {σ : SG} {A : Nat → List Int32} {I : Nat → Nat → Int32} {fu : Nat}
/-- what is held of a sheet: nothing, or how many cells and of which sort -/
def SHo (A : Nat → List Int32) (q : Nat) : Option (Nat × Nat) → Prop
  | none => rd (A 13) q = -1
  | some (n, t) => n ≤ 60 ∧ t ≤ 2 ∧ rd (A 13) q = nI n ∧ rd (A 12) q = nI t
theorem SHo.rs {A : Nat → List Int32} (h : ∀ q, q < 4 → ∃ o, SHo A q o) : RS A := fun q hq => by
  obtain ⟨o, ho⟩ := h q hq
  cases o with
  | none => exact Or.inl ho
  | some p => exact Or.inr ⟨p.1, p.2, ho⟩
theorem RS.o {A : Nat → List Int32} (h : RS A) {q : Nat} (hq : q < 4) : ∃ o, SHo A q o := by
  rcases h q hq with a | ⟨n, t, a⟩
  · exact ⟨none, a⟩
  · exact ⟨some (n, t), a⟩
theorem RR.rs (r : RR σ A I) : RS A := r.2.2.2
/-- sheets, fault and trace changed -/
theorem RR.she (r : RR σ A I) {B : Nat → List Int32} {J : Nat → Nat → Int32} (hB : ∀ k, k ≠ 12 → k ≠ 13 → k ≠ 14 → B k = A k) (hL : ∀ k, (B k).length = (A k).length)
    (hJ : ∀ o j, ¬ (o = 1 ∧ (j = 6 ∨ j = 7)) → J o j = I o j) (hS : RS B) : RR σ B J := by
  obtain ⟨r1, r2, r3, r5⟩ := r
  have b : ∀ k, 15 ≤ k ∨ k ≤ 11 → B k = A k := fun k hk => hB k (by omega) (by omega) (by omega)
  refine ⟨r1, fun k hk => (hL k).trans (r2 k hk), ?_, hS⟩
  unfold RC at *
  rw [hJ 2 8 (by omega), hJ 2 9 (by omega), hJ 2 10 (by omega), hJ 2 11 (by omega), hJ 2 12 (by omega), hJ 2 13 (by omega), hJ 2 14 (by omega), b 3 (by omega), b 4 (by omega), b 5 (by omega), b 6 (by omega), b 7 (by omega), b 8 (by omega), b 9 (by omega), b 10 (by omega)]
  exact r3
theorem RR.f17 (r : RR σ A I) (x : Int32) : RR σ A (uI I 1 7 x) := by
  refine r.she (fun _ _ _ _ => rfl) (fun _ => rfl) (fun a b h1 => ?_) r.rs
  unfold uI
  rw [if_neg (fun w => h1 ⟨w.1, Or.inr w.2⟩)]
theorem ai_I (A : Nat → List Int32) (I : Nat → Nat → Int32) {q : Nat} (hL : LEN A) (hq : q < 4) : aI (enc A I) 13 (nI q) = some (rd (A 13) q) ∧ aI (enc A I) 12 (nI q) = some (rd (A 12) q) :=
  ⟨ai_13 A I (by rw [hL 13 rfl]; exact hq) (by omega), ai_12 A I (by rw [hL 12 rfl]; exact hq) (by omega)⟩
theorem c_thereS (hL : LEN A) {q : Nat} (hq : q < 4) {o : Option (Nat × Nat)} (h : SHo A q o) : U_X4_isThere fu [.ref 11, .int (nI q)] (enc A I) = some (some (.int (bI (o ≠ none))), enc A I) := by
  have e : aI (enc A I) 13 (nI q) = some (rd (A 13) q) := ai_13 A I (by rw [hL 13 rfl]; show q < 4; omega) (by omega)
  simp only [u_X4_isThere, M_X4_isThere, io_1, gr_1_0, gr_1_1, gr_1_2, gr_1_3, gr_1_4, gr_1_5, gi_1_6, pf_1_6, gi_1_7, pf_1_7, io_2, gr_2_0, gr_2_1, gr_2_2, gr_2_3, gr_2_4, gr_2_5, gr_2_6, gr_2_7, gi_2_8, pf_2_8, gi_2_9, pf_2_9, gi_2_10, pf_2_10, gi_2_11, pf_2_11, gi_2_12, pf_2_12, gi_2_13, pf_2_13, gi_2_14, pf_2_14, io_11, gr_11_0, gr_11_1, gr_11_2, io_15, gr_15_0, gr_15_1, gi_15_2, pf_15_2, gi_15_3, pf_15_3, gi_15_4, pf_15_4, gi_15_5, pf_15_5, io_18, gr_18_0, gr_18_1, gi_18_2, pf_18_2, io_21, gr_21_0, gr_21_1, gr_21_2, gr_21_3, gi_21_4, pf_21_4, gi_21_5, pf_21_5, gi_21_6, pf_21_6, gi_21_7, pf_21_7, io_34, gr_34_0, gi_34_1, pf_34_1, al_3, al_4, al_5, al_6, al_7, al_8, al_9, al_10, al_12, al_13, al_14, al_16, al_17, al_19, al_20, al_22, al_23, al_24, al_26, al_27, al_28, al_29, al_30, al_31, al_32, al_33, al_35, ↓reduceIte, Option.bind_some, cI_some, cL_some, cV_some, rz_0, rz_1, e]
  cases o with
  | none =>
    rw [show rd (A 13) q = -1 from h, if_pos rfl, bI_f (fun z => z rfl)]
  | some p =>
    obtain ⟨n, t⟩ := p
    obtain ⟨a1, a2, a3, a5⟩ := h
    rw [a3, if_neg, bI_t (by simp)]
    intro z
    have := n_neg (show n < 2147483648 by omega)
    rw [z] at this
    exact absurd (show (-1 : Int32) < 0 by decide) (by rw [this]; exact id)
theorem c_fault (hL : LEN A) {q : Nat} (hq : q < 4) {o : Option (Nat × Nat)} (h : SHo A q o) (y i n : Int32) : U_X4_faultOfCells fu [.ref 11, .int (nI q), .int y, .int i, .int n] (enc A I) = some (some (.int (fvI o y i n)), enc A I) := by
  have arr := ai_I A I hL hq
  simp only [u_X4_faultOfCells, M_X4_faultOfCells, io_1, gr_1_0, gr_1_1, gr_1_2, gr_1_3, gr_1_4, gr_1_5, gi_1_6, pf_1_6, gi_1_7, pf_1_7, io_2, gr_2_0, gr_2_1, gr_2_2, gr_2_3, gr_2_4, gr_2_5, gr_2_6, gr_2_7, gi_2_8, pf_2_8, gi_2_9, pf_2_9, gi_2_10, pf_2_10, gi_2_11, pf_2_11, gi_2_12, pf_2_12, gi_2_13, pf_2_13, gi_2_14, pf_2_14, io_11, gr_11_0, gr_11_1, gr_11_2, io_15, gr_15_0, gr_15_1, gi_15_2, pf_15_2, gi_15_3, pf_15_3, gi_15_4, pf_15_4, gi_15_5, pf_15_5, io_18, gr_18_0, gr_18_1, gi_18_2, pf_18_2, io_21, gr_21_0, gr_21_1, gr_21_2, gr_21_3, gi_21_4, pf_21_4, gi_21_5, pf_21_5, gi_21_6, pf_21_6, gi_21_7, pf_21_7, io_34, gr_34_0, gi_34_1, pf_34_1, al_3, al_4, al_5, al_6, al_7, al_8, al_9, al_10, al_12, al_13, al_14, al_16, al_17, al_19, al_20, al_22, al_23, al_24, al_26, al_27, al_28, al_29, al_30, al_31, al_32, al_33, al_35, ↓reduceIte, Option.bind_some, cI_some, cL_some, cV_some, rz_0, rz_1, c_thereS hL hq h, bI_0]
  cases o with
  | none => rw [if_pos (fun z => z rfl)]; rfl
  | some p =>
    obtain ⟨n0, t0⟩ := p
    obtain ⟨a1, a2, a3, a5⟩ := h
    rw [if_neg (fun z => z (by simp)), arr.2, Option.bind_some, a5, fvI]
    by_cases h1 : nI t0 = y
    · rw [if_pos h1, if_pos h1]
      by_cases h2 : n < 0
      · rw [if_pos h2, if_pos h2]
      · rw [if_neg h2, if_neg h2]
        simp only [u_X4_reaches, M_X4_reaches, io_1, gr_1_0, gr_1_1, gr_1_2, gr_1_3, gr_1_4, gr_1_5, gi_1_6, pf_1_6, gi_1_7, pf_1_7, io_2, gr_2_0, gr_2_1, gr_2_2, gr_2_3, gr_2_4, gr_2_5, gr_2_6, gr_2_7, gi_2_8, pf_2_8, gi_2_9, pf_2_9, gi_2_10, pf_2_10, gi_2_11, pf_2_11, gi_2_12, pf_2_12, gi_2_13, pf_2_13, gi_2_14, pf_2_14, io_11, gr_11_0, gr_11_1, gr_11_2, io_15, gr_15_0, gr_15_1, gi_15_2, pf_15_2, gi_15_3, pf_15_3, gi_15_4, pf_15_4, gi_15_5, pf_15_5, io_18, gr_18_0, gr_18_1, gi_18_2, pf_18_2, io_21, gr_21_0, gr_21_1, gr_21_2, gr_21_3, gi_21_4, pf_21_4, gi_21_5, pf_21_5, gi_21_6, pf_21_6, gi_21_7, pf_21_7, io_34, gr_34_0, gi_34_1, pf_34_1, al_3, al_4, al_5, al_6, al_7, al_8, al_9, al_10, al_12, al_13, al_14, al_16, al_17, al_19, al_20, al_22, al_23, al_24, al_26, al_27, al_28, al_29, al_30, al_31, al_32, al_33, al_35, ↓reduceIte, Option.bind_some, cI_some, cL_some, cV_some, rz_0, rz_1, arr.1, a3]
        by_cases h3 : i < 0
        · rw [if_pos h3, if_pos h3]; rfl
        · rw [if_neg h3, if_neg h3]
          by_cases h4 : nI n0 < i
          · rw [if_pos h4, if_pos h4]; rfl
          · rw [if_neg h4, if_neg h4]
            by_cases h5 : nI n0 - i < n
            · rw [if_pos h5, if_pos h5]; rfl
            · rw [if_neg h5, if_neg h5]; rfl
    · rw [if_neg h1, if_neg h1]
theorem c_refuse (hL : LEN A) {q t : Nat} (hq : q < 4) (ht : t ≤ 2) {o : Option (Nat × Nat)} (h : SHo A q o) (i n : Int32) : U_X7_refusalOfCells fu [.ref 1, .int (nI q), .int (nI t), .int i, .int n] (enc A I) = if fvI o (nI t) i n = 0 then some (some (.int 0), enc A I) else some (some (.int (-10 - fvI o (nI t) i n)), enc A (uI I 1 7 (fvI o (nI t) i n))) := by
  have h10 : ¬ (1 : Int32) = 0 := by decide
  have h1 : bI (0 ≤ nI q ∧ nI q ≤ 3) = 1 := bI_t (n_rin (b := 3) (Nat.zero_le q) (by omega) (by decide))
  have h2 : bI (0 ≤ nI t ∧ nI t ≤ 2) = 1 := bI_t (n_rin (b := 2) (Nat.zero_le t) ht (by decide))
  simp only [u_X7_refusalOfCells, M_X7_refusalOfCells, c_isSheet, c_isSort, io_1, gr_1_0, gr_1_1, gr_1_2, gr_1_3, gr_1_4, gr_1_5, gi_1_6, pf_1_6, gi_1_7, pf_1_7, io_2, gr_2_0, gr_2_1, gr_2_2, gr_2_3, gr_2_4, gr_2_5, gr_2_6, gr_2_7, gi_2_8, pf_2_8, gi_2_9, pf_2_9, gi_2_10, pf_2_10, gi_2_11, pf_2_11, gi_2_12, pf_2_12, gi_2_13, pf_2_13, gi_2_14, pf_2_14, io_11, gr_11_0, gr_11_1, gr_11_2, io_15, gr_15_0, gr_15_1, gi_15_2, pf_15_2, gi_15_3, pf_15_3, gi_15_4, pf_15_4, gi_15_5, pf_15_5, io_18, gr_18_0, gr_18_1, gi_18_2, pf_18_2, io_21, gr_21_0, gr_21_1, gr_21_2, gr_21_3, gi_21_4, pf_21_4, gi_21_5, pf_21_5, gi_21_6, pf_21_6, gi_21_7, pf_21_7, io_34, gr_34_0, gi_34_1, pf_34_1, al_3, al_4, al_5, al_6, al_7, al_8, al_9, al_10, al_12, al_13, al_14, al_16, al_17, al_19, al_20, al_22, al_23, al_24, al_26, al_27, al_28, al_29, al_30, al_31, al_32, al_33, al_35, ↓reduceIte, Option.bind_some, cI_some, cL_some, cV_some, rz_0, rz_1, h1, h2, if_neg h10, c_fault hL hq h, c_failBy]
/-- cells that lie within are no fault -/
theorem fvI_in {n0 t0 i n : Nat} (hn0 : n0 ≤ 60) (h : i + n ≤ n0) : fvI (some (n0, t0)) (nI t0) (nI i) (nI n) = 0 := by
  show (if nI t0 = nI t0 then (if nI n < 0 then 4 else if nI i < 0 then 3 else if nI n0 < nI i then 3 else if nI n0 - nI i < nI n then 3 else 0) else (2 : Int32)) = 0
  simp only [if_true, n_neg (show n < 2147483648 by omega), n_neg (show i < 2147483648 by omega), if_false, n_lt (show n0 < 2147483648 by omega) (show i < 2147483648 by omega), n_sub60 n0 (by omega) i (by omega) (by omega), n_lt (show n0 - i < 2147483648 by omega) (show n < 2147483648 by omega)]
  rw [if_neg (by omega), if_neg (by omega)]
theorem k_sheet (hf : 1000 ≤ fu) (r : RR σ A I) {q t n : Nat} (hq : q < 4) (ht2 : t ≤ 2) (hn : n ≤ 60) :
    ∃ A1, U_X7_sheet fu [.ref 1, .int (nI q), .int (nI t), .int (nI n)] (enc A I) = some (some (.int 1), enc A1 (uI I 1 7 0)) ∧ RR σ A1 (uI I 1 7 0) ∧ A1 12 = (A 12).set q (nI t) ∧ A1 13 = (A 13).set q (nI n) ∧ (∀ k, k ≠ 12 → k ≠ 13 → k ≠ 14 → A1 k = A k) ∧ ∀ i, (i < 60 * q ∨ 60 * q + 60 ≤ i) → rd (A1 14) i = rd (A 14) i := by
  have h10 : ¬ (1 : Int32) = 0 := by decide
  have ht : bI (0 ≤ nI q ∧ nI q ≤ 3) = 1 := bI_t (n_rin (b := 3) (Nat.zero_le q) (by omega) (by decide))
  have htt : bI (0 ≤ nI t ∧ nI t ≤ 2) = 1 := bI_t (n_rin (b := 2) (Nat.zero_le t) ht2 (by decide))
  have hbig : ¬ (60 : Int32) < nI n := by
    rw [show (60 : Int32) = nI 60 from rfl, n_lt (by decide) (by omega)]; omega
  have hneg : ¬ nI n < 0 := by rw [n_neg (by omega)]; exact id
  have l12 : q < (A 12).length := by rw [r.len rfl]; exact hq
  have l13 : q < (A 13).length := by rw [r.len rfl]; exact hq
  have l14 : (A 14).length = 240 := r.len rfl
  have s12 := si_12 A (uI I 1 7 0) (nI t) l12 (show q < 2147483648 by omega)
  have s13 := si_13 (uA A 12 ((A 12).set q (nI t))) (uI I 1 7 0) (nI n) (show q < _ by rw [uA_n _ _ _ (by decide)]; exact l13) (show q < 2147483648 by omega)
  rw [uA_n A 12 _ (show (13 : Nat) ≠ 12 by decide)] at s13
  have f14 := c_fill14 (fu := fu) (A := uA (uA A 12 ((A 12).set q (nI t))) 13 ((A 13).set q (nI n))) (I := uI I 1 7 0) hf (by rw [uA_n _ _ _ (by decide), uA_n _ _ _ (by decide)]; exact l14) (show 60 * q + n ≤ 240 by omega)
  rw [uA_n _ 13 _ (show (14 : Nat) ≠ 13 by decide), uA_n _ 12 _ (show (14 : Nat) ≠ 12 by decide)] at f14
  have eq1 : nI q * 60 = nI (60 * q) := by rw [show (60 : Int32) = nI 60 from rfl, pk_mul, Nat.mul_comm]
  have e12 : uA (uA (uA A 12 ((A 12).set q (nI t))) 13 ((A 13).set q (nI n))) 14 (zed (A 14) (60 * q) n) 12 = (A 12).set q (nI t) := by rw [uA_n _ _ _ (by decide), uA_n _ _ _ (by decide), uA_s]
  have e13 : uA (uA (uA A 12 ((A 12).set q (nI t))) 13 ((A 13).set q (nI n))) 14 (zed (A 14) (60 * q) n) 13 = (A 13).set q (nI n) := by rw [uA_n _ _ _ (by decide), uA_s]
  have eo : ∀ k, k ≠ 12 → k ≠ 13 → k ≠ 14 → uA (uA (uA A 12 ((A 12).set q (nI t))) 13 ((A 13).set q (nI n))) 14 (zed (A 14) (60 * q) n) k = A k := fun k a b c => by rw [uA_n _ _ _ c, uA_n _ _ _ b, uA_n _ _ _ a]
  refine ⟨uA (uA (uA A 12 ((A 12).set q (nI t))) 13 ((A 13).set q (nI n))) 14 (zed (A 14) (60 * q) n), ?_, ?_, e12, e13, eo, fun i hi => ?_⟩
  · simp -implicitDefEqProofs only [u_X7_sheet, M_X7_sheet, c_isSheet, c_isSort, io_1, gr_1_0, gr_1_1, gr_1_2, gr_1_3, gr_1_4, gr_1_5, gi_1_6, pf_1_6, gi_1_7, pf_1_7, io_2, gr_2_0, gr_2_1, gr_2_2, gr_2_3, gr_2_4, gr_2_5, gr_2_6, gr_2_7, gi_2_8, pf_2_8, gi_2_9, pf_2_9, gi_2_10, pf_2_10, gi_2_11, pf_2_11, gi_2_12, pf_2_12, gi_2_13, pf_2_13, gi_2_14, pf_2_14, io_11, gr_11_0, gr_11_1, gr_11_2, io_15, gr_15_0, gr_15_1, gi_15_2, pf_15_2, gi_15_3, pf_15_3, gi_15_4, pf_15_4, gi_15_5, pf_15_5, io_18, gr_18_0, gr_18_1, gi_18_2, pf_18_2, io_21, gr_21_0, gr_21_1, gr_21_2, gr_21_3, gi_21_4, pf_21_4, gi_21_5, pf_21_5, gi_21_6, pf_21_6, gi_21_7, pf_21_7, io_34, gr_34_0, gi_34_1, pf_34_1, al_3, al_4, al_5, al_6, al_7, al_8, al_9, al_10, al_12, al_13, al_14, al_16, al_17, al_19, al_20, al_22, al_23, al_24, al_26, al_27, al_28, al_29, al_30, al_31, al_32, al_33, al_35, ↓reduceIte, Option.bind_some, cI_some, cL_some, cV_some, rz_0, rz_1, ht, htt, if_neg h10, if_neg hbig, if_neg hneg, u_X4_renew, M_X4_renew, s12, s13, eq1, nI_add, f14]
  · refine r.she eo (fun k => ?_) (fun a b h1 => ?_) (SHo.rs fun p hp => ?_)
    · by_cases z1 : k = 14
      · rw [z1, uA_s, zed_l]
      · rw [uA_n _ _ _ z1]
        by_cases z2 : k = 13
        · rw [z2, uA_s, List.length_set]
        · rw [uA_n _ _ _ z2]
          by_cases z3 : k = 12
          · rw [z3, uA_s, List.length_set]
          · rw [uA_n _ _ _ z3]
    · unfold uI
      rw [if_neg (fun w => h1 ⟨w.1, Or.inr w.2⟩)]
    · by_cases zp : p = q
      · refine ⟨some (n, t), hn, ht2, ?_, ?_⟩
        · rw [e13, rd_set _ _ l13, if_pos zp]
        · rw [e12, rd_set _ _ l12, if_pos zp]
      · obtain ⟨o2, ho2⟩ := r.rs.o hp
        refine ⟨o2, ?_⟩
        cases o2 with
        | none => show rd _ p = -1; rw [e13, rd_set _ _ l13, if_neg zp]; exact ho2
        | some w =>
          obtain ⟨n2, t2⟩ := w
          obtain ⟨b1, b2, b3, b4⟩ := ho2
          refine ⟨b1, b2, ?_, ?_⟩
          · rw [e13, rd_set _ _ l13, if_neg zp]; exact b3
          · rw [e12, rd_set _ _ l12, if_neg zp]; exact b4
  · rw [uA_s]
    exact zed_out _ _ _ i (by omega)
theorem k_put (r : RR σ A I) {q n t j : Nat} (hq : q < 4) (ho : SHo A q (some (n, t))) (hj : j < n) (z : Int32) :
    U_X7_put fu [.ref 1, .int (nI q), .int (nI j), .int z] (enc A I) = some (some (.int 1), enc (uA A 14 ((A 14).set (60 * q + j) (cutI t z))) (uI I 1 7 0)) ∧ RR σ (uA A 14 ((A 14).set (60 * q + j) (cutI t z))) (uI I 1 7 0) := by
  have h10 : ¬ (1 : Int32) = 0 := by decide
  have ht : bI (0 ≤ nI q ∧ nI q ≤ 3) = 1 := bI_t (n_rin (b := 3) (Nat.zero_le q) (by omega) (by decide))
  have cth := fun J => c_thereS (fu := fu) (I := J) r.2.1 hq ho
  have arr := fun J => ai_I A J r.2.1 hq
  obtain ⟨a1, a2, a3, a5⟩ := ho
  obtain ⟨n', rfl⟩ : ∃ n', n = n' + 1 := ⟨n - 1, by omega⟩
  have w12 := n_rin (j := j) (a := 0) (b := n') (Nat.zero_le j) (by omega) (by omega)
  have hw : bI (0 ≤ nI j ∧ nI j ≤ nI (n' + 1) - 1) = 1 := bI_t (by rw [n_sub1]; exact w12)
  have l14 : 60 * q + j < (A 14).length := by rw [r.len rfl]; show 60 * q + j < 240; omega
  have s14 := si_14 A (uI I 1 7 0) (cutI t z) l14 (show 60 * q + j < 2147483648 by omega)
  refine ⟨?_, ?_⟩
  · simp only [u_X7_put, M_X7_put, c_isSheet, io_1, gr_1_0, gr_1_1, gr_1_2, gr_1_3, gr_1_4, gr_1_5, gi_1_6, pf_1_6, gi_1_7, pf_1_7, io_2, gr_2_0, gr_2_1, gr_2_2, gr_2_3, gr_2_4, gr_2_5, gr_2_6, gr_2_7, gi_2_8, pf_2_8, gi_2_9, pf_2_9, gi_2_10, pf_2_10, gi_2_11, pf_2_11, gi_2_12, pf_2_12, gi_2_13, pf_2_13, gi_2_14, pf_2_14, io_11, gr_11_0, gr_11_1, gr_11_2, io_15, gr_15_0, gr_15_1, gi_15_2, pf_15_2, gi_15_3, pf_15_3, gi_15_4, pf_15_4, gi_15_5, pf_15_5, io_18, gr_18_0, gr_18_1, gi_18_2, pf_18_2, io_21, gr_21_0, gr_21_1, gr_21_2, gr_21_3, gi_21_4, pf_21_4, gi_21_5, pf_21_5, gi_21_6, pf_21_6, gi_21_7, pf_21_7, io_34, gr_34_0, gi_34_1, pf_34_1, al_3, al_4, al_5, al_6, al_7, al_8, al_9, al_10, al_12, al_13, al_14, al_16, al_17, al_19, al_20, al_22, al_23, al_24, al_26, al_27, al_28, al_29, al_30, al_31, al_32, al_33, al_35, ↓reduceIte, Option.bind_some, cI_some, cL_some, cV_some, rz_0, rz_1, ht, if_neg h10, cth, bI_0, ne_eq, reduceCtorEq, not_false_eq_true, not_true_eq_false, if_false, (arr _).1, a3, c_within, hw, u_X4_write, M_X4_write, (arr _).2, a5, c_cut _ a2, (n_60 q j).1, s14]
    rw [if_neg (fun y => y (by rw [n_sub1]; exact w12))]
  · refine r.she (fun k a b c => uA_n _ _ _ c) (fun k => ?_) (fun a b h1 => ?_) (SHo.rs fun p hp => ?_)
    · by_cases z1 : k = 14
      · rw [z1, uA_s, List.length_set]
      · rw [uA_n _ _ _ z1]
    · unfold uI
      rw [if_neg (fun w => h1 ⟨w.1, Or.inr w.2⟩)]
    · obtain ⟨o2, ho2⟩ := r.rs.o hp
      refine ⟨o2, ?_⟩
      cases o2 with
      | none => show rd _ p = -1; rw [uA_n _ _ _ (by decide)]; exact ho2
      | some w =>
        obtain ⟨n2, t2⟩ := w
        obtain ⟨b1, b2, b3, b4⟩ := ho2
        refine ⟨b1, b2, ?_, ?_⟩
        · rw [uA_n _ _ _ (by decide)]; exact b3
        · rw [uA_n _ _ _ (by decide)]; exact b4
end P9
